/-! ===== one canon's years alone; ways to seat all ===== -/
/-- a row as far as one canon's taking needs it -/
def zVw (N t : zR) (c : Int) : Prop := (-1 ≤ t c ∧ t c < N 33) ∧ (∀ i, 0 ≤ i → i < 20 → 0 ≤ t (5 + i) ∧ t (5 + i) ≤ 99) ∧ (∀ s, 0 ≤ s → s < 7 → 0 ≤ t (25 + s) ∧ t (25 + s) ≤ 40)
theorem zVr.w {N t : zR} (h : zVr N t) {c : Int} (hc : 0 ≤ c ∧ c < 5) : zVw N t c := ⟨h.1 c hc.1 hc.2, h.2.1, h.2.2.1⟩
theorem zVw.tk {N t : zR} {c : Int} (hs : zVs N) (h : zVw N t c) {s : Int} (hc : 0 ≤ c ∧ c < 5) (hs0 : 0 ≤ s ∧ s < 7) : 0 ≤ t (5 + 4 * c + N (41 + s)) ∧ t (5 + 4 * c + N (41 + s)) ≤ 99 := by
  have h1 := (hs.s hs0.1 hs0.2).2
  have := h.2.1 (4 * c + N (41 + s)) (by omega) (by omega)
  rwa [show 5 + (4 * c + N (41 + s)) = 5 + 4 * c + N (41 + s) by omega] at this
theorem zVw.tk2 {N t : zR} {c : Int} (h : zVw N t c) {k : Int} (hc : 0 ≤ c ∧ c < 5) (hk : 0 ≤ k ∧ k < 4) : 0 ≤ t (5 + 4 * c + k) ∧ t (5 + 4 * c + k) ≤ 99 := by
  have := h.2.1 (4 * c + k) (by omega) (by omega)
  rwa [show 5 + (4 * c + k) = 5 + 4 * c + k by omega] at this
theorem ztk_bw {N t : zR} {c : Int} (hs : zVs N) (h : zVw N t c) {s : Int} (hc : 0 ≤ c ∧ c < 5) (hs0 : 0 ≤ s ∧ s < 7) : 0 ≤ ztk N t c s ∧ ztk N t c s ≤ 101 := by
  have h1 := zVw.tk hs h hc hs0
  have h2 := h.2.2 s hs0.1 hs0.2
  have h3 := zgv_b (k := N (34 + s)) (y := t 32) h2 h1
  exact zac_b (by omega)
theorem zVw_congr {N N' t : zR} {c : Int} (h : ∀ i, 33 ≤ i → N' i = N i) (hv : zVw N t c) : zVw N' t c := by
  unfold zVw; rw [h 33 (by omega)]; exact hv
theorem z1t_lo {N t : zR} {c : Int} (hs : zVs N) (h : zVw N t c) (hc : 0 ≤ c ∧ c < 5) {j : Int} (hj : j < 5 + 4 * c ∨ 9 + 4 * c ≤ j) : z1t N t c j = t j := by
  unfold z1t
  by_cases h1 : t c = -1
  · rw [if_pos h1]
  · rw [if_neg h1]
    have h2 := h.1
    have h3 := (hs.s (s := t c) (by omega) (by have := hs.1; omega)).2
    exact zup_ne _ _ (by omega)
theorem z1w_lo {N t : zR} {c : Int} (h : zVw N t c) {j : Int} (hj : j < 25 ∨ 25 + N 33 ≤ j ∨ j ≠ 25 + t c) : z1w N t c j = t j := by
  unfold z1w
  by_cases h1 : t c = -1
  · rw [if_pos h1]
  · rw [if_neg h1]
    have h2 := h.1
    exact zup_ne _ _ (by omega)
theorem z1t_Vw {N t : zR} {c : Int} (hs : zVs N) (h : zVw N t c) (hc : 0 ≤ c ∧ c < 5) : zVw N (z1t N t c) c := by
  have o : ∀ j, j < 5 + 4 * c ∨ 9 + 4 * c ≤ j → z1t N t c j = t j := fun j hj => z1t_lo hs h hc hj
  refine ⟨by rw [o c (by omega)]; exact h.1, fun i h0 h1 => ?_, fun s h0 h1 => by rw [o _ (by omega)]; exact h.2.2 s h0 h1⟩
  by_cases h3 : t c = -1
  · rw [show z1t N t c = t from if_pos h3]; exact h.2.1 i h0 h1
  · have h2 := h.1
    have hN := hs.1
    have h4 := ztk_bw hs h hc (s := t c) (by omega)
    have h5 := zVw.tk hs h hc (s := t c) (by omega)
    rw [show z1t N t c = zup t (5 + 4 * c + N (41 + t c)) (min (t (5 + 4 * c + N (41 + t c)) + ztk N t c (t c)) 99) from if_neg h3]
    by_cases hi : 5 + i = 5 + 4 * c + N (41 + t c)
    · rw [hi, zup_same]; omega
    · rw [zup_ne _ _ hi]; exact h.2.1 i h0 h1
theorem z1w_Vw {N t : zR} {c : Int} (hs : zVs N) (h : zVw N t c) (hc : 0 ≤ c ∧ c < 5) : zVw N (z1w N t c) c := by
  have o : ∀ j, j < 25 → z1w N t c j = t j := fun j hj => z1w_lo h (Or.inl hj)
  refine ⟨by rw [o c (by omega)]; exact h.1, fun i h0 h1 => by rw [o _ (by omega)]; exact h.2.1 i h0 h1, fun s h0 h1 => ?_⟩
  by_cases h3 : t c = -1
  · rw [show z1w N t c = t from if_pos h3]; exact h.2.2 s h0 h1
  · have h2 := h.1
    have hN := hs.1
    have h4 := zww_b hs (t c) hc
    have h5 := h.2.2 (t c) (by omega) (by omega)
    rw [show z1w N t c = zup t (25 + t c) (max (t (25 + t c) - zww N c (t c)) 0) from if_neg h3]
    by_cases hi : 25 + s = 25 + t c
    · rw [hi, zup_same]; omega
    · rw [zup_ne _ _ hi]; exact h.2.2 s h0 h1
theorem zVw_32 {N t : zR} {c : Int} (hc : 0 ≤ c ∧ c < 5) (h : zVw N t c) (x : Int) : zVw N (zup t 32 x) c := by
  have o : ∀ j, j < 32 → zup t 32 x j = t j := fun j hj => zup_ne _ _ (by omega)
  exact ⟨by rw [o c (by omega)]; exact h.1, fun i h0 h1 => by rw [o _ (by omega)]; exact h.2.1 i h0 h1, fun s h0 h1 => by rw [o _ (by omega)]; exact h.2.2 s h0 h1⟩
/-- a year of one alone -/
def za1 (N : zR) (c : Int) (t : zR) : zR := zup (zps N t c) 32 (zps N t c 32 + 1)
def zan (N : zR) (c : Int) : Nat → zR → zR
  | 0, t => t
  | n + 1, t => za1 N c (zan N c n t)
theorem zan_s (N : zR) (c : Int) (t : zR) {n : Int} (h : 0 ≤ n) : zan N c (n + 1).toNat t = za1 N c (zan N c n.toNat t) := by
  have e : (n + 1).toNat = n.toNat + 1 := by omega
  rw [e, zan]
theorem zps_Vw {N t : zR} {c : Int} (hs : zVs N) (h : zVw N t c) (hc : 0 ≤ c ∧ c < 5) : zVw N (zps N t c) c := z1w_Vw hs (z1t_Vw hs h hc) hc
theorem za1_Vw {N t : zR} {c : Int} (hs : zVs N) (h : zVw N t c) (hc : 0 ≤ c ∧ c < 5) : zVw N (za1 N c t) c := zVw_32 hc (zps_Vw hs h hc) _
theorem zan_Vw {N t : zR} {c : Int} (hs : zVs N) (h : zVw N t c) (hc : 0 ≤ c ∧ c < 5) : ∀ n, zVw N (zan N c n t) c
  | 0 => h
  | n + 1 => za1_Vw hs (zan_Vw hs h hc n) hc
theorem zps_lo {N t : zR} {c : Int} (hs : zVs N) (h : zVw N t c) (hc : 0 ≤ c ∧ c < 5) {j : Int} (hj : j < 5 ∨ 32 ≤ j) : zps N t c j = t j := by
  have hN := hs.1
  unfold zps
  rw [z1w_lo (z1t_Vw hs h hc) (by omega), z1t_lo hs h hc (by omega)]
theorem zan_32 {N t : zR} {c : Int} (hs : zVs N) (h : zVw N t c) (hc : 0 ≤ c ∧ c < 5) : ∀ n : Nat, zan N c n t 32 = t 32 + n
  | 0 => by simp [zan]
  | n + 1 => by
    rw [zan, za1, zup_same, zps_lo hs (zan_Vw hs h hc n) hc (by omega), zan_32 hs h hc n]; omega
theorem zan_hi {N t : zR} {c : Int} (hs : zVs N) (h : zVw N t c) (hc : 0 ≤ c ∧ c < 5) {j : Int} (hj : j < 5 ∨ 33 ≤ j) : ∀ n : Nat, zan N c n t j = t j
  | 0 => rfl
  | n + 1 => by rw [zan, za1, zup_ne _ _ (by omega), zps_lo hs (zan_Vw hs h hc n) hc (by omega), zan_hi hs h hc hj n]
/-- rows that agree on what one canon's years need -/
theorem z1t_agw {N t t' : zR} {c : Int} (hs : zVs N) (hv : zVw N t c) (h : zag t t') (hc : 0 ≤ c ∧ c < 5) : zag (z1t N t c) (z1t N t' c) := by
  have e := h c hc.1 (by omega)
  have b := hv.1
  have bN := hs.1
  unfold z1t
  by_cases h1 : t c = -1
  · rw [if_pos h1, if_pos (e ▸ h1)]; exact h
  · have g := hs.s (s := t c) (by omega) (by omega)
    rw [if_neg h1, if_neg (e ▸ h1), ← e, ← ztk_ag hs h hc ⟨by omega, by omega⟩, ← h (5 + 4 * c + N (41 + t c)) (by omega) (by omega)]
    exact zup_ag h _ _
theorem z1w_agw {N t t' : zR} {c : Int} (hs : zVs N) (hv : zVw N t c) (h : zag t t') (hc : 0 ≤ c ∧ c < 5) : zag (z1w N t c) (z1w N t' c) := by
  have e := h c hc.1 (by omega)
  have b := hv.1
  have bN := hs.1
  unfold z1w
  by_cases h1 : t c = -1
  · rw [if_pos h1, if_pos (e ▸ h1)]; exact h
  · rw [if_neg h1, if_neg (e ▸ h1), ← e, ← h (25 + t c) (by omega) (by omega)]
    exact zup_ag h _ _
theorem zps_ag {N t t' : zR} {c : Int} (hs : zVs N) (hv : zVw N t c) (h : zag t t') (hc : 0 ≤ c ∧ c < 5) : zag (zps N t c) (zps N t' c) := z1w_agw hs (z1t_Vw hs hv hc) (z1t_agw hs hv h hc) hc
theorem za1_ag {N t t' : zR} {c : Int} (hs : zVs N) (hv : zVw N t c) (h : zag t t') (hc : 0 ≤ c ∧ c < 5) : zag (za1 N c t) (za1 N c t') := by
  have h2 := zps_ag hs hv h hc
  unfold za1
  rw [h2 32 (by omega) (by omega)]
  exact zup_ag h2 _ _
theorem zan_ag {N t t' : zR} {c : Int} (hs : zVs N) (hv : zVw N t c) (h : zag t t') (hc : 0 ≤ c ∧ c < 5) : ∀ n, zag (zan N c n t) (zan N c n t')
  | 0 => h
  | n + 1 => za1_ag hs (zan_Vw hs hv hc n) (zan_ag hs hv h hc n) hc
/-- whether wish j is c's and is so behind n years on s -/
def zfj (N : zR) (c s : Int) (n : Nat) (j : Int) : Int := if N (60 + 3 * j) = c ∧ N (60 + 3 * j + 2) ≤ zan N c n (zup N c s) (5 + 4 * c + N (60 + 3 * j + 1)) then 1 else 0
/-- how many wishes of c are so behind n years on s -/
def zfu (N : zR) (n : Nat) (c s : Int) : Int := zct (zfj N c s n) (N 59).toNat
theorem zfu_b (N : zR) (hN : 0 ≤ N 59 ∧ N 59 ≤ 6) (n : Nat) (c s : Int) : 0 ≤ zfu N n c s ∧ zfu N n c s ≤ 6 := by
  have := zct_b (f := zfj N c s n) (N 59).toNat (fun k _ _ => by unfold zfj; omega)
  unfold zfu; omega
/-- ways to seat, the last canon's seat first, each seat one more than its number (0: none) -/
def zbp (S : Nat) (pre : List Nat) : Nat → Nat → Option Nat
  | 0, _ => none
  | f + 1, x => if S < x + 1 then none else if pre.contains (x + 1) then zbp S pre f (x + 1) else some (x + 1)
def znx (S : Nat) : Nat → List Nat → Option (List Nat)
  | _, [] => none
  | k, x :: pre => match zbp S pre 8 x with
    | some w => some (List.replicate k 0 ++ w :: pre)
    | none => znx S (k + 1) pre
def zvs (S : Nat) : Nat → List Nat → List (List Nat)
  | 0, _ => []
  | f + 1, l => l :: (match znx S 0 l with
    | some l' => zvs S f l'
    | none => [])
def zdf (S : Nat) : Nat → List Nat → List (List Nat)
  | 0, pre => [pre]
  | n + 1, pre => (List.range (S + 1)).flatMap (fun v => if v = 0 ∨ pre.contains v = false then zdf S n (v :: pre) else [])
set_option maxRecDepth 1000000 in
theorem zvs_ok : ∀ n, n < 6 → ∀ S, S < 8 → zvs S 10000 (List.replicate n 0) = zdf S n [] ∧ (zdf S n []).length < 10000 := by decide +kernel
