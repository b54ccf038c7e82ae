section ZG
variable {l : Launch} {d : Nat} {M : zMth} {pc : Nat} {L : List (Option Value)} {st : List Value} {σ : zMem} {Q : Option Value → zMem → Prop}
theorem zw_gti (pc' : Nat) (jI : Int) {idx ci j a N : Nat} (hd : decode M.2.2.1 pc = .ok (.getfield idx, 3)) (hp : pc + 3 = pc') (hf : zfl M.1 idx ci j) (hc : ci < 100) (ht : zft ci j = 0) (hj : (j : Int) = jI) (hy : zly a = some (ci, N)) (kk : zw l d M pc' L (.int (zI (σ a jI)) :: st) σ Q) : zw l d M pc L (.ref a :: st) σ Q := by
  subst hj; exact zw_geti pc' hd hp hf hc ht hy kk
theorem zw_gtl (pc' : Nat) (jI : Int) {idx ci j a N : Nat} (hd : decode M.2.2.1 pc = .ok (.getfield idx, 3)) (hp : pc + 3 = pc') (hf : zfl M.1 idx ci j) (hc : ci < 100) (ht : zft ci j = 1) (hj : (j : Int) = jI) (hy : zly a = some (ci, N)) (kk : zw l d M pc' L (.long (zL (σ a jI)) :: st) σ Q) : zw l d M pc L (.ref a :: st) σ Q := by
  subst hj; exact zw_getl pc' hd hp hf hc ht hy kk
theorem zw_pti (pc' : Nat) (jI : Int) {idx ci j a N : Nat} {x : Int} (hd : decode M.2.2.1 pc = .ok (.putfield idx, 3)) (hp : pc + 3 = pc') (hf : zfp M.1 idx ci j .int) (hc : ci < 100) (ht : zft ci j = 0) (hj : (j : Int) = jI) (hy : zly a = some (ci, N)) (kk : zw l d M pc' L st (zwr σ a jI x) Q) : zw l d M pc L (.int (zI x) :: .ref a :: st) σ Q := by
  subst hj; exact zw_puti pc' hd hp hf hc ht hy kk
theorem zw_ptz (pc' : Nat) (jI : Int) {idx ci j a N : Nat} {x : Int} (hd : decode M.2.2.1 pc = .ok (.putfield idx, 3)) (hp : pc + 3 = pc') (hf : zfp M.1 idx ci j .boolean) (hc : ci < 100) (ht : zft ci j = 0) (hj : (j : Int) = jI) (hy : zly a = some (ci, N)) (hx : x = 0 ∨ x = 1) (kk : zw l d M pc' L st (zwr σ a jI x) Q) : zw l d M pc L (.int (zI x) :: .ref a :: st) σ Q := by
  subst hj; exact zw_putz pc' hd hp hf hc ht hy hx kk
theorem zw_ptl (pc' : Nat) (jI : Int) {idx ci j a N : Nat} {x : Int} (hd : decode M.2.2.1 pc = .ok (.putfield idx, 3)) (hp : pc + 3 = pc') (hf : zfp M.1 idx ci j .long) (hc : ci < 100) (ht : zft ci j = 1) (hj : (j : Int) = jI) (hy : zly a = some (ci, N)) (kk : zw l d M pc' L st (zwr σ a jI x) Q) : zw l d M pc L (.long (zL x) :: .ref a :: st) σ Q := by
  subst hj; exact zw_putl pc' hd hp hf hc ht hy kk
end ZG
/-- fewer locals known -/
def zmask : List Bool → List (Option Value) → List (Option Value)
  | true :: m, o :: L => o :: zmask m L
  | false :: m, _ :: L => none :: zmask m L
  | _, _ => []
theorem zmask_spec : ∀ (m : List Bool) (L : List (Option Value)) (i : Nat) (v : Value), (zmask m L)[i]? = some (some v) → L[i]? = some (some v)
  | true :: m, o :: L, 0, v, h => by simpa [zmask] using h
  | true :: m, o :: L, i + 1, v, h => by
    have := zmask_spec m L i v (by simpa [zmask] using h)
    simpa using this
  | false :: m, o :: L, 0, v, h => by simp [zmask] at h
  | false :: m, o :: L, i + 1, v, h => by
    have := zmask_spec m L i v (by simpa [zmask] using h)
    simpa using this
  | [], L, i, v, h => by simp [zmask] at h
  | true :: m, [], i, v, h => by simp [zmask] at h
  | false :: m, [], i, v, h => by simp [zmask] at h
theorem zw_loc {l : Launch} {d : Nat} {M : zMth} {pc : Nat} {L L' : List (Option Value)} {st : List Value} {σ : zMem} {Q : Option Value → zMem → Prop} (m : List Bool) (hm : zmask m L = L') (kk : zw l d M pc L' st σ Q) : zw l d M pc L st σ Q := by
  subst hm
  intro G p e R s mm args below meth c cells slots Z hC H locs ls hP hS hl
  exact kk G p e R s mm args below meth c cells slots Z hC H locs ls hP hS ⟨hl.1, hl.2.1, fun i v h => hl.2.2 i v (zmask_spec m L i v h)⟩
theorem zw_iadd0 {l : Launch} {d : Nat} {M : zMth} {pc : Nat} {L : List (Option Value)} {st : List Value} {σ : zMem} {Q : Option Value → zMem → Prop} (pc' : Nat) {b : Int} (hd : decode M.2.2.1 pc = .ok (.iadd, 1)) (hp : pc + 1 = pc') (kk : zw l d M pc' L (.int (zI b) :: st) σ Q) : zw l d M pc L (.int (zI b) :: .int (zI 0) :: st) σ Q :=
  zw_iadd pc' hd hp (by rw [Int.zero_add]; exact kk)
/-! ===== rows of numbers: years, by one canon and by all ===== -/
abbrev zR := Int → Int
/-- what canon c would take on seat s: chapter N, row t -/
def ztk (N t : zR) (c s : Int) : Int := zac (N (49 + c)) (zgv (N (34 + s)) (t (25 + s)) (t (5 + 4 * c + N (41 + s))) (t 32)) (t (5 + 4 * c + N (41 + s)))
def z1t (N t : zR) (c : Int) : zR := if t c = -1 then t else zup t (5 + 4 * c + N (41 + t c)) (min (t (5 + 4 * c + N (41 + t c)) + ztk N t c (t c)) 99)
def zww (N : zR) (c s : Int) : Int := zwn (N (34 + s)) (zhv (N (49 + c)) (N (54 + c)))
def z1w (N t : zR) (c : Int) : zR := if t c = -1 then t else zup t (25 + t c) (max (t (25 + t c) - zww N c (t c)) 0)
def zfd (f : zR → Int → zR) : Nat → zR → zR
  | 0, t => t
  | n + 1, t => f (zfd f n t) n
def zyA (N t : zR) : zR := zfd (z1w N) (N 48).toNat (zfd (z1t N) (N 48).toNat t)
/-- a year of all -/
def zyr (N t : zR) : zR := zup (zyA N t) 32 (zyA N t 32 + 1)
/-- a year of one, but for its number -/
def zps (N t : zR) (c : Int) : zR := z1w N (z1t N t c) c
def zpB (N t : zR) : zR := zfd (zps N) (N 48).toNat t
def zpa (N t : zR) : zR := zup (zpB N t) 32 (zpB N t 32 + 1)
/-- a chapter's standing numbers -/
def zVs (N : zR) : Prop := (0 ≤ N 33 ∧ N 33 ≤ 7) ∧ (0 ≤ N 48 ∧ N 48 ≤ 5) ∧ (∀ s, 0 ≤ s → s < 7 → (0 ≤ N (34 + s) ∧ N (34 + s) ≤ 5) ∧ 0 ≤ N (41 + s) ∧ N (41 + s) ≤ 3) ∧ (∀ c, 0 ≤ c → c < 5 → (0 ≤ N (49 + c) ∧ N (49 + c) ≤ 5) ∧ 0 ≤ N (54 + c) ∧ N (54 + c) ≤ 9)
/-- a row: who sits where (no two on one), what is taken, depths -/
def zVr (N t : zR) : Prop := (∀ c, 0 ≤ c → c < 5 → -1 ≤ t c ∧ t c < N 33) ∧ (∀ i, 0 ≤ i → i < 20 → 0 ≤ t (5 + i) ∧ t (5 + i) ≤ 99) ∧ (∀ s, 0 ≤ s → s < 7 → 0 ≤ t (25 + s) ∧ t (25 + s) ≤ 40) ∧ (∀ c c', 0 ≤ c → c < 5 → 0 ≤ c' → c' < 5 → c ≠ c' → t c = t c' → t c = -1) ∧ (∀ c, N 48 ≤ c → 0 ≤ c → c < 5 → t c = -1 ∧ ∀ k, 0 ≤ k → k < 4 → t (5 + 4 * c + k) = 0)
theorem zwa_same (σ : zMem) (r : Nat) (f : zR) : zwa σ r f r = f := if_pos rfl
theorem zwa_ne (σ : zMem) {r b : Nat} (f : zR) (h : b ≠ r) : zwa σ r f b = σ b := if_neg h
theorem zwa_twice (σ : zMem) (r : Nat) (f g : zR) : zwa (zwa σ r f) r g = zwa σ r g := by
  funext b
  by_cases h : b = r
  · subst h; simp [zwa]
  · simp [zwa, h]
theorem zwa_id (σ : zMem) (r : Nat) : zwa σ r (σ r) = σ := by
  funext b
  by_cases h : b = r
  · subst h; simp [zwa]
  · simp [zwa, h]
theorem zwa_comm (σ : zMem) {r b : Nat} (f g : zR) (h : b ≠ r) : zwa (zwa σ r f) b g = zwa (zwa σ b g) r f := by
  funext x
  by_cases h1 : x = b
  · subst h1; simp [zwa, h]
  · by_cases h2 : x = r
    · subst h2; simp [zwa, h1]
    · simp [zwa, h1, h2]
theorem zup_same (f : zR) (i x : Int) : zup f i x i = x := if_pos rfl
theorem zup_ne (f : zR) {i j : Int} (x : Int) (h : j ≠ i) : zup f i x j = f j := if_neg h
theorem zup_comm (f : zR) {i j : Int} (x y : Int) (h : i ≠ j) : zup (zup f i x) j y = zup (zup f j y) i x := by
  funext k
  unfold zup
  by_cases h1 : k = j
  · have : k ≠ i := by omega
    simp [h1, Ne.symm h]
  · simp [h1]
theorem zac_b {k g h : Int} (hg : 0 ≤ g ∧ g ≤ 100) : 0 ≤ zac k g h ∧ zac k g h ≤ 101 := by
  simp only [zac]; omega
theorem zgv_b {k d h y : Int} (hd : 0 ≤ d ∧ d ≤ 40) (hh : 0 ≤ h ∧ h ≤ 99) : 0 ≤ zgv k d h y ∧ zgv k d h y ≤ 29 := by
  simp only [zgv]; omega
theorem zhv_b {k w : Int} (hw : 0 ≤ w ∧ w ≤ 9) : 0 ≤ zhv k w ∧ zhv k w ≤ 18 := by
  simp only [zhv]; omega
theorem zwn_b {k w : Int} (hw : 0 ≤ w ∧ w ≤ 18) : 0 ≤ zwn k w ∧ zwn k w ≤ 7 := by
  simp only [zwn]; omega
section ZV
variable {N t : zR}
theorem zVs.s (h : zVs N) {s : Int} (h0 : 0 ≤ s) (h1 : s < 7) : (0 ≤ N (34 + s) ∧ N (34 + s) ≤ 5) ∧ 0 ≤ N (41 + s) ∧ N (41 + s) ≤ 3 := h.2.2.1 s h0 h1
theorem zVs.c (h : zVs N) {c : Int} (h0 : 0 ≤ c) (h1 : c < 5) : (0 ≤ N (49 + c) ∧ N (49 + c) ≤ 5) ∧ 0 ≤ N (54 + c) ∧ N (54 + c) ≤ 9 := h.2.2.2 c h0 h1
theorem zVr.tk (hs : zVs N) (h : zVr N t) {c s : Int} (hc : 0 ≤ c ∧ c < 5) (hs0 : 0 ≤ s ∧ s < 7) : 0 ≤ t (5 + 4 * c + N (41 + s)) ∧ t (5 + 4 * c + N (41 + s)) ≤ 99 := by
  have h1 := (hs.s hs0.1 hs0.2).2
  have := h.2.1 (4 * c + N (41 + s)) (by omega) (by omega)
  rwa [show 5 + (4 * c + N (41 + s)) = 5 + 4 * c + N (41 + s) by omega] at this
theorem zVr.tk2 (h : zVr N t) {c k : Int} (hc : 0 ≤ c ∧ c < 5) (hk : 0 ≤ k ∧ k < 4) : 0 ≤ t (5 + 4 * c + k) ∧ t (5 + 4 * c + k) ≤ 99 := by
  have := h.2.1 (4 * c + k) (by omega) (by omega)
  rwa [show 5 + (4 * c + k) = 5 + 4 * c + k by omega] at this
theorem ztk_b (hs : zVs N) (h : zVr N t) {c s : Int} (hc : 0 ≤ c ∧ c < 5) (hs0 : 0 ≤ s ∧ s < 7) : 0 ≤ ztk N t c s ∧ ztk N t c s ≤ 101 := by
  have h1 := zVr.tk hs h hc hs0
  have h2 := h.2.2.1 s hs0.1 hs0.2
  have h3 := zgv_b (k := N (34 + s)) (y := t 32) h2 h1
  exact zac_b (by omega)
theorem zww_b (hs : zVs N) {c : Int} (s : Int) (hc : 0 ≤ c ∧ c < 5) : 0 ≤ zww N c s ∧ zww N c s ≤ 7 := zwn_b (zhv_b (hs.c hc.1 hc.2).2)
theorem ztk_congr {N' : zR} (h : ∀ i, 33 ≤ i → N' i = N i) {t : zR} {c s : Int} (hc : 0 ≤ c) (hs : 0 ≤ s) : ztk N' t c s = ztk N t c s := by
  unfold ztk
  rw [h (49 + c) (by omega), h (34 + s) (by omega), h (41 + s) (by omega)]
theorem zww_congr {N' : zR} (h : ∀ i, 33 ≤ i → N' i = N i) {c s : Int} (hc : 0 ≤ c) (hs : 0 ≤ s) : zww N' c s = zww N c s := by
  unfold zww
  rw [h (49 + c) (by omega), h (34 + s) (by omega), h (54 + c) (by omega)]
theorem z1t_congr {N' : zR} (h : ∀ i, 33 ≤ i → N' i = N i) {t : zR} {c : Int} (hc : 0 ≤ c) (ht : -1 ≤ t c) : z1t N' t c = z1t N t c := by
  unfold z1t
  by_cases h1 : t c = -1
  · rw [if_pos h1, if_pos h1]
  · rw [if_neg h1, if_neg h1, h (41 + t c) (by omega), ztk_congr h hc (by omega)]
theorem z1w_congr {N' : zR} (h : ∀ i, 33 ≤ i → N' i = N i) {t : zR} {c : Int} (hc : 0 ≤ c) (ht : -1 ≤ t c) : z1w N' t c = z1w N t c := by
  unfold z1w
  by_cases h1 : t c = -1
  · rw [if_pos h1, if_pos h1]
  · rw [if_neg h1, if_neg h1, zww_congr h hc (by omega)]
/-- a canon's taking changes no place but his own -/
theorem z1t_out (hs : zVs N) (h : zVr N t) {c : Int} (hc : 0 ≤ c ∧ c < 5) {j : Int} (hj : j < 5 + 4 * c ∨ 9 + 4 * c ≤ j) : z1t N t c j = t j := by
  unfold z1t
  by_cases h1 : t c = -1
  · rw [if_pos h1]
  · rw [if_neg h1]
    have h2 := h.1 c hc.1 hc.2
    have h3 := (hs.s (s := t c) (by omega) (by have := hs.1; omega)).2
    exact zup_ne _ _ (by omega)
theorem z1w_out (h : zVr N t) {c : Int} (hc : 0 ≤ c ∧ c < 5) {j : Int} (hj : j < 25 ∨ 25 + N 33 ≤ j ∨ j ≠ 25 + t c) : z1w N t c j = t j := by
  unfold z1w
  by_cases h1 : t c = -1
  · rw [if_pos h1]
  · rw [if_neg h1]
    have h2 := h.1 c hc.1 hc.2
    exact zup_ne _ _ (by omega)
theorem z1t_V (hs : zVs N) (h : zVr N t) {c : Int} (hc : 0 ≤ c ∧ c < 5) : zVr N (z1t N t c) := by
  by_cases h1 : t c = -1
  · have : z1t N t c = t := if_pos h1
    rw [this]; exact h
  · have h2 := h.1 c hc.1 hc.2
    have hN := hs.1
    have h3 := (hs.s (s := t c) (by omega) (by omega)).2
    have h4 := ztk_b hs h hc (s := t c) (by omega)
    have h5 := zVr.tk hs h hc (s := t c) (by omega)
    have e : z1t N t c = zup t (5 + 4 * c + N (41 + t c)) (min (t (5 + 4 * c + N (41 + t c)) + ztk N t c (t c)) 99) := if_neg h1
    have o : ∀ j, j < 5 + 4 * c ∨ 9 + 4 * c ≤ j → z1t N t c j = t j := fun j hj => z1t_out hs h hc hj
    refine ⟨fun a h0 h1 => ?_, fun i h0 h1 => ?_, fun s h0 h1 => ?_, fun a b ha ha1 hb hb1 hne he => ?_, fun a ha ha0 ha1 => ?_⟩
    · rw [o a (by omega)]; exact h.1 a h0 h1
    · rw [e]
      by_cases hi : 5 + i = 5 + 4 * c + N (41 + t c)
      · rw [hi, zup_same]; omega
      · rw [zup_ne _ _ hi]; exact h.2.1 i h0 h1
    · rw [o (25 + s) (by omega)]; exact h.2.2.1 s h0 h1
    · rw [o a (by omega), o b (by omega)] at he
      rw [o a (by omega)]
      exact h.2.2.2.1 a b ha ha1 hb hb1 hne he
    · have hac : a ≠ c := fun q => h1 (by rw [← q]; exact (h.2.2.2.2 a ha ha0 ha1).1)
      rw [o a (by omega)]
      refine ⟨(h.2.2.2.2 a ha ha0 ha1).1, fun k hk hk1 => ?_⟩
      rw [o _ (by omega)]
      exact (h.2.2.2.2 a ha ha0 ha1).2 k hk hk1
theorem z1w_V (hs : zVs N) (h : zVr N t) {c : Int} (hc : 0 ≤ c ∧ c < 5) : zVr N (z1w N t c) := by
  by_cases h1 : t c = -1
  · have : z1w N t c = t := if_pos h1
    rw [this]; exact h
  · have h2 := h.1 c hc.1 hc.2
    have hN := hs.1
    have h4 := zww_b hs (t c) hc
    have h5 := h.2.2.1 (t c) (by omega) (by omega)
    have e : z1w N t c = zup t (25 + t c) (max (t (25 + t c) - zww N c (t c)) 0) := if_neg h1
    have o : ∀ j, j < 25 → z1w N t c j = t j := fun j hj => z1w_out h hc (Or.inl hj)
    refine ⟨fun a h0 h1 => ?_, fun i h0 h1 => ?_, fun s h0 h1 => ?_, fun a b ha ha1 hb hb1 hne he => ?_, fun a ha ha0 ha1 => ?_⟩
    · rw [o a (by omega)]; exact h.1 a h0 h1
    · rw [o (5 + i) (by omega)]; exact h.2.1 i h0 h1
    · rw [e]
      by_cases hi : 25 + s = 25 + t c
      · rw [hi, zup_same]; omega
      · rw [zup_ne _ _ hi]; exact h.2.2.1 s h0 h1
    · rw [o a (by omega), o b (by omega)] at he
      rw [o a (by omega)]
      exact h.2.2.2.1 a b ha ha1 hb hb1 hne he
    · rw [o a (by omega)]
      refine ⟨(h.2.2.2.2 a ha ha0 ha1).1, fun k hk hk1 => ?_⟩
      rw [o _ (by omega)]
      exact (h.2.2.2.2 a ha ha0 ha1).2 k hk hk1
end ZV
/-- a fold keeps what each step keeps -/
theorem zfd_ind {f : zR → Int → zR} {P : zR → Prop} {n : Nat} (hf : ∀ t (c : Int), 0 ≤ c → c < n → P t → P (f t c)) : ∀ k : Nat, k ≤ n → ∀ t, P t → P (zfd f k t)
  | 0, _, _, h => h
  | k + 1, hk, t, h => hf _ _ (by omega) (by omega) (zfd_ind hf k (by omega) t h)
theorem zft_V {N t : zR} (hs : zVs N) (h : zVr N t) (k : Nat) (hk : k ≤ 5) : zVr N (zfd (z1t N) k t) := zfd_ind (n := 5) (P := zVr N) (fun _ _ h0 h1 hP => z1t_V hs hP ⟨h0, by omega⟩) k hk t h
theorem zfw_V {N t : zR} (hs : zVs N) (h : zVr N t) (k : Nat) (hk : k ≤ 5) : zVr N (zfd (z1w N) k t) := zfd_ind (n := 5) (P := zVr N) (fun _ _ h0 h1 hP => z1w_V hs hP ⟨h0, by omega⟩) k hk t h
theorem zft_hi {N t : zR} (hs : zVs N) (h : zVr N t) {j : Int} (hj : 25 ≤ j ∨ j < 5) : ∀ (k : Nat), k ≤ 5 → zfd (z1t N) k t j = t j
  | 0, _ => rfl
  | k + 1, hk => by
    show z1t N (zfd (z1t N) k t) k j = t j
    rw [z1t_out hs (zft_V hs h k (by omega)) (by omega) (by omega)]
    exact zft_hi hs h hj k (by omega)
theorem zfw_hi {N t : zR} (hs : zVs N) (h : zVr N t) {j : Int} (hj : 32 ≤ j ∨ j < 25) : ∀ (k : Nat), k ≤ 5 → zfd (z1w N) k t j = t j
  | 0, _ => rfl
  | k + 1, hk => by
    have := hs.1
    show z1w N (zfd (z1w N) k t) k j = t j
    rw [z1w_out (zfw_V hs h k (by omega)) (by omega) (by omega)]
    exact zfw_hi hs h hj k (by omega)
theorem zyr_hi {N t : zR} (hs : zVs N) (h : zVr N t) {j : Int} (hj : 33 ≤ j ∨ j < 5) : zyr N t j = t j := by
  have := hs.2.1
  unfold zyr zyA
  rw [zup_ne _ _ (by omega), zfw_hi hs (zft_V hs h _ (by omega)) (by omega) _ (by omega), zft_hi hs h (by omega) _ (by omega)]
theorem zyr_32 {N t : zR} (hs : zVs N) (h : zVr N t) : zyr N t 32 = t 32 + 1 := by
  have := hs.2.1
  unfold zyr zyA
  rw [zup_same, zfw_hi hs (zft_V hs h _ (by omega)) (by omega) _ (by omega), zft_hi hs h (by omega) _ (by omega)]
theorem zVr_32 {N t : zR} (h : zVr N t) (x : Int) : zVr N (zup t 32 x) := by
  have o : ∀ j, j < 32 → zup t 32 x j = t j := fun j hj => zup_ne _ _ (by omega)
  refine ⟨fun a h0 h1 => ?_, fun i h0 h1 => ?_, fun s h0 h1 => ?_, fun a b ha ha1 hb hb1 hne he => ?_, fun a ha ha0 ha1 => ?_⟩
  · rw [o a (by omega)]; exact h.1 a h0 h1
  · rw [o _ (by omega)]; exact h.2.1 i h0 h1
  · rw [o _ (by omega)]; exact h.2.2.1 s h0 h1
  · rw [o a (by omega), o b (by omega)] at he
    rw [o a (by omega)]
    exact h.2.2.2.1 a b ha ha1 hb hb1 hne he
  · rw [o a (by omega)]
    refine ⟨(h.2.2.2.2 a ha ha0 ha1).1, fun k hk hk1 => ?_⟩
    rw [o _ (by omega)]
    exact (h.2.2.2.2 a ha ha0 ha1).2 k hk hk1
theorem zyr_V {N t : zR} (hs : zVs N) (h : zVr N t) : zVr N (zyr N t) := zVr_32 (zfw_V hs (zft_V hs h _ (by have := hs.2.1; omega)) _ (by have := hs.2.1; omega)) _
