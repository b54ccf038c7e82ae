/-- the trait of which most is taken, of like ones the least -/
def zbs (t : zR) (c : Int) : Nat → Int
  | 0 => 0
  | n + 1 => if t (5 + 4 * c + zbs t c n) < t (5 + 4 * c + ((n : Int) + 1)) then (n : Int) + 1 else zbs t c n
def zdo (t : zR) (c : Int) : Int := if t (5 + 4 * c + zbs t c 3) < 10 then -1 else zbs t c 3
theorem zbs_b (t : zR) (c : Int) : ∀ n : Nat, 0 ≤ zbs t c n ∧ zbs t c n ≤ n
  | 0 => ⟨Int.le_refl _, Int.le_refl _⟩
  | n + 1 => by
    have := zbs_b t c n
    unfold zbs
    omega
theorem zbs_s (t : zR) (c : Int) {k : Int} (h : 1 ≤ k) : zbs t c (k + 1 - 1).toNat = if t (5 + 4 * c + zbs t c (k - 1).toNat) < t (5 + 4 * c + k) then k else zbs t c (k - 1).toNat := by
  have e : (k + 1 - 1).toNat = (k - 1).toNat + 1 := by omega
  have e2 : (((k - 1).toNat : Nat) : Int) + 1 = k := by omega
  rw [e, zbs, e2]
def zwd (t : zR) : Nat → Int
  | 0 => 0
  | n + 1 => zwd t n + (if zdo t n = -1 then 0 else 1)
theorem zwd_b (t : zR) : ∀ n : Nat, 0 ≤ zwd t n ∧ zwd t n ≤ n
  | 0 => ⟨Int.le_refl _, Int.le_refl _⟩
  | n + 1 => by
    have := zwd_b t n
    unfold zwd
    omega
theorem zwd_s (t : zR) {c : Int} (h : 0 ≤ c) : zwd t (c + 1).toNat = zwd t c.toNat + (if zdo t c = -1 then 0 else 1) := by
  have e : (c + 1).toNat = c.toNat + 1 := by omega
  have e2 : ((c.toNat : Nat) : Int) = c := by omega
  rw [e, zwd, e2]
/-- who sits on s, looking from the last canon on -/
def zwf (t : zR) (s : Int) : Nat → Int
  | 0 => -1
  | n + 1 => if t (4 - (n : Int)) = s then 4 - (n : Int) else zwf t s n
def zwo (t : zR) (s : Int) : Int := zwf t s 5
theorem zwf_s (t : zR) (s : Int) {k : Int} (h : 0 ≤ k) : zwf t s (k + 1).toNat = if t (4 - k) = s then 4 - k else zwf t s k.toNat := by
  have e : (k + 1).toNat = k.toNat + 1 := by omega
  have e2 : ((k.toNat : Nat) : Int) = k := by omega
  rw [e, zwf, e2]
theorem zwf_spec (t : zR) (s : Int) : ∀ n : Nat, (zwf t s n = -1 ∧ ∀ j : Int, 5 - n ≤ j → j < 5 → t j ≠ s) ∨ (5 - n ≤ zwf t s n ∧ zwf t s n < 5 ∧ t (zwf t s n) = s ∧ ∀ j : Int, 5 - n ≤ j → j < zwf t s n → t j ≠ s)
  | 0 => Or.inl ⟨rfl, fun j h1 h2 => by omega⟩
  | n + 1 => by
    unfold zwf
    by_cases h : t (4 - (n : Int)) = s
    · rw [if_pos h]
      exact Or.inr ⟨by omega, by omega, h, fun j h1 h2 => by omega⟩
    · rw [if_neg h]
      have key : ∀ j : Int, 5 - ((n + 1 : Nat) : Int) ≤ j → 5 - (n : Int) ≤ j ∨ j = 4 - (n : Int) := fun j hj => by omega
      rcases zwf_spec t s n with ⟨h1, h2⟩ | ⟨h1, h2, h3, h4⟩
      · exact Or.inl ⟨h1, fun j a b => (key j a).elim (fun q => h2 j q b) (fun q => by rw [q]; exact h)⟩
      · exact Or.inr ⟨by omega, h2, h3, fun j a b => (key j a).elim (fun q => h4 j q b) (fun q => by rw [q]; exact h)⟩
theorem zwo_spec (t : zR) (s : Int) : (zwo t s = -1 ∧ ∀ j : Int, 0 ≤ j → j < 5 → t j ≠ s) ∨ (0 ≤ zwo t s ∧ zwo t s < 5 ∧ t (zwo t s) = s ∧ ∀ j : Int, 0 ≤ j → j < zwo t s → t j ≠ s) := zwf_spec t s 5
theorem zwo_none {t : zR} {s : Int} (h : ∀ j : Int, 0 ≤ j → j < 5 → t j ≠ s) : zwo t s = -1 := by
  rcases zwo_spec t s with h1 | h1
  · exact h1.1
  · exact absurd h1.2.2.1 (h _ h1.1 h1.2.1)
theorem zwo_first {t : zR} {s c : Int} (h0 : 0 ≤ c) (h1 : c < 5) (hc : t c = s) (h : ∀ j : Int, 0 ≤ j → j < c → t j ≠ s) : zwo t s = c := by
  rcases zwo_spec t s with h2 | h2
  · exact absurd hc (h2.2 c h0 h1)
  · rcases Int.lt_trichotomy (zwo t s) c with q | q | q
    · exact absurd h2.2.2.1 (h _ h2.1 q)
    · exact q
    · exact absurd hc (h2.2.2.2 c h0 q)
def zfz (g : zR) (k : Int) : zR := fun x => if 0 ≤ x ∧ x < k then 0 else g x
theorem zfz_s (g : zR) {k : Int} (h : 0 ≤ k) : zup (zfz g k) k 0 = zfz g (k + 1) := by
  funext x; unfold zup zfz; split <;> split <;> first | rfl | omega | (split <;> first | rfl | omega)
def zfn (g : zR) (k : Int) : zR := fun x => if 0 ≤ x ∧ x < k then -1 else g x
theorem zfn_s (g : zR) {k : Int} (h : 0 ≤ k) : zup (zfn g k) k (-1) = zfn g (k + 1) := by
  funext x; unfold zup zfn; split <;> split <;> first | rfl | omega | (split <;> first | rfl | omega)
theorem zem_eq (g : zR) : zfn (zfz g 399) 5 = zem g := by
  funext x; unfold zfn zfz zem; split <;> first | rfl | omega | (split <;> first | rfl | omega)
/-- the eight rows that may be undone, one step down -/
def zsf (N : zR) (k : Int) : zR := fun x => if 135 ≤ x ∧ x < 135 + k then N (x + 33) else N x
theorem zsf_s (N : zR) {k : Int} (h : 0 ≤ k) : zup (zsf N k) (135 + k) (N (135 + k + 33)) = zsf N (k + 1) := by
  funext x; unfold zup zsf
  by_cases h1 : x = 135 + k
  · subst h1; rw [if_pos rfl, if_pos (by omega)]
  · rw [if_neg h1]
    by_cases h2 : 135 ≤ x ∧ x < 135 + k
    · rw [if_pos h2, if_pos (by omega)]
    · rw [if_neg h2, if_neg (by omega)]
def zr1 (N : zR) : zR := if N 134 = 8 then zup (zsf N 231) 134 (N 134 - 1) else N
def zrem (N : zR) : zR := zup (zcy (zr1 N) (zr1 N) 0 (135 + 33 * zr1 N 134) 33) 134 (zr1 N 134 + 1)
theorem lp2_X6_empties {l : Launch} {d : Nat} {σ : zMem} {r n : Nat} (hr : zly r = some (100, n)) (hn : 399 ≤ n) {g : zR} : ∀ (m : Nat) (c : Int), c + m = 5 → 0 ≤ c → zw l d mX6_empties 21 [some (.ref r), some (.int (zI c))] [] (zwa σ r (zfn g c)) (zRv (zwa σ r (zfn g 5))) := by
  intro m
  induction m with
  | zero =>
    intro c hk hk0
    refine zw_iload_n 22 dX6_empties_21 rfl rfl ?_
    refine zw_iconst 23 dX6_empties_22 rfl ?_
    refine zw_icmp_ge 38 26 dX6_empties_23 (by decide) rfl (by omega) (by omega) (fun h23 => ?_) (fun h23 => ?_)
    · refine zw_vret dX6_empties_38 rfl ?_
      obtain rfl : c = 5 := by omega
      exact ⟨rfl, rfl⟩
    · exfalso; omega
  | succ m ih =>
    intro c hk hk0
    refine zw_iload_n 22 dX6_empties_21 rfl rfl ?_
    refine zw_iconst 23 dX6_empties_22 rfl ?_
    refine zw_icmp_ge 38 26 dX6_empties_23 (by decide) rfl (by omega) (by omega) (fun h23 => ?_) (fun h23 => ?_)
    · refine zw_vret dX6_empties_38 rfl ?_
      exfalso; omega
    · refine zw_aload_n 27 dX6_empties_26 rfl rfl ?_
      refine zw_iconst 28 dX6_empties_27 rfl ?_
      refine zw_iload_n 29 dX6_empties_28 rfl rfl ?_
      refine zw_iadd0 30 dX6_empties_29 rfl ?_
      refine zw_iconst 31 dX6_empties_30 rfl ?_
      refine zw_iast 32 dX6_empties_31 rfl hr (by omega) ?_
      rw [zwr_wa, zfn_s _ hk0]
      refine zw_iinc 35 dX6_empties_32 rfl (by decide) rfl ?_
      refine zw_goto 21 dX6_empties_35 (by decide) ?_
      refine zw_loc [true, true] rfl ?_
      exact ih (c + 1) (by omega) (by omega)
theorem lp1_X6_empties {l : Launch} {d : Nat} {σ : zMem} {r n : Nat} (hr : zly r = some (100, n)) (hn : 399 ≤ n) : ∀ (m : Nat) (c : Int), c + m = 399 → 0 ≤ c → zw l d mX6_empties 2 [some (.ref r), some (.int (zI c))] [] (zwa σ r (zfz (σ r) c)) (zRv (zwa σ r (zem (σ r)))) := by
  intro m
  induction m with
  | zero =>
    intro c hk hk0
    refine zw_iload_n 3 dX6_empties_2 rfl rfl ?_
    refine zw_sipush 6 dX6_empties_3 rfl (by decide) ?_
    refine zw_icmp_ge 19 9 dX6_empties_6 (by decide) rfl (by omega) (by omega) (fun h6 => ?_) (fun h6 => ?_)
    · refine zw_iconst 20 dX6_empties_19 rfl ?_
      refine zw_istore_n 21 dX6_empties_20 rfl (by decide) ?_
      obtain rfl : c = 399 := by omega
      have h := lp2_X6_empties (l := l) (d := d) (σ := σ) hr hn (g := zfz (σ r) 399) 5 0 (by omega) (by omega)
      rw [zem_eq, show zfn (zfz (σ r) 399) 0 = zfz (σ r) 399 from by funext x; exact if_neg (by omega)] at h
      exact h
    · exfalso; omega
  | succ m ih =>
    intro c hk hk0
    refine zw_iload_n 3 dX6_empties_2 rfl rfl ?_
    refine zw_sipush 6 dX6_empties_3 rfl (by decide) ?_
    refine zw_icmp_ge 19 9 dX6_empties_6 (by decide) rfl (by omega) (by omega) (fun h6 => ?_) (fun h6 => ?_)
    · refine zw_iconst 20 dX6_empties_19 rfl ?_
      refine zw_istore_n 21 dX6_empties_20 rfl (by decide) ?_
      obtain rfl : c = 399 := by omega
      have h := lp2_X6_empties (l := l) (d := d) (σ := σ) hr hn (g := zfz (σ r) 399) 5 0 (by omega) (by omega)
      rw [zem_eq, show zfn (zfz (σ r) 399) 0 = zfz (σ r) 399 from by funext x; exact if_neg (by omega)] at h
      exact h
    · refine zw_aload_n 10 dX6_empties_9 rfl rfl ?_
      refine zw_iload_n 11 dX6_empties_10 rfl rfl ?_
      refine zw_iconst 12 dX6_empties_11 rfl ?_
      refine zw_iast 13 dX6_empties_12 rfl hr (by omega) ?_
      rw [zwr_wa, zfz_s _ hk0]
      refine zw_iinc 16 dX6_empties_13 rfl (by decide) rfl ?_
      refine zw_goto 2 dX6_empties_16 (by decide) ?_
      refine zw_loc [true, true] rfl ?_
      exact ih (c + 1) (by omega) (by omega)
theorem sp_X6_empties {l : Launch} {d : Nat} {σ : zMem} {r n : Nat} (hr : zly r = some (100, n)) (hn : 399 ≤ n) : zSp l d mX6_empties [.ref r] σ (zRv (zwa σ r (zem (σ r)))) := by
  refine zSp_of oX6_empties (Nat.le_of_ble_eq_true rfl) ?_
  show zw l d mX6_empties 0 [some (.ref r), none] [] σ _
  refine zw_iconst 1 dX6_empties_0 rfl ?_
  refine zw_istore_n 2 dX6_empties_1 rfl (by decide) ?_
  have h := lp1_X6_empties (l := l) (d := d) (σ := σ) hr hn 399 0 (by omega) (by omega)
  rw [show zfz (σ r) 0 = σ r from by funext x; exact if_neg (by omega), zwa_id] at h
  exact h
theorem sp_X6_takesOn {l : Launch} {d : Nat} {σ : zMem} (hd : 2 ≤ d) {r n : Nat} (hr : zly r = some (100, n)) (hn : 33 ≤ n) (hs : zVs (σ 218)) (hv : zVr (σ 218) (σ r)) (hy : 0 ≤ σ r 32 ∧ σ r 32 < 5000) {c s : Int} (hc : 0 ≤ c ∧ c < 5) (hs0 : 0 ≤ s ∧ s < 7) : zSp l d mX6_takesOn [.ref 217, .ref r, .int (zI c), .int (zI s)] σ (zRi (ztk (σ 218) (σ r) c s) σ) := by
  refine zSp_of oX6_takesOn (Nat.le_of_ble_eq_true rfl) ?_
  show zw l d mX6_takesOn 0 [some (.ref 217), some (.ref r), some (.int (zI c)), some (.int (zI s)), none] [] σ _
  have g1 := hs.s hs0.1 hs0.2
  have g2 := hs.c hc.1 hc.2
  have g3 := zVr.tk hs hv hc hs0
  have g4 := hv.2.2.1 s hs0.1 hs0.2
  have g5 := zgv_b (k := σ 218 (34 + s)) (y := σ r 32) g4 g3
  refine zw_aload_n 1 dX6_takesOn_0 rfl rfl ?_
  refine zw_iconst 2 dX6_takesOn_1 rfl ?_
  refine zw_iconst 3 dX6_takesOn_2 rfl ?_
  refine zw_iload_n 4 dX6_takesOn_3 rfl rfl ?_
  refine zw_imul 5 dX6_takesOn_4 rfl ?_
  refine zw_iadd 6 dX6_takesOn_5 rfl ?_
  refine zw_aload_n 7 dX6_takesOn_6 rfl rfl ?_
  refine zw_getr 10 (218) (o := 1) dX6_takesOn_7 rfl fX6_7 (by decide) rfl rfl ly217 ?_
  refine zw_bipush 12 dX6_takesOn_10 rfl (by decide) ?_
  refine zw_iload_n 13 dX6_takesOn_12 rfl rfl ?_
  refine zw_iadd 14 dX6_takesOn_13 rfl ?_
  refine zw_iald 15 dX6_takesOn_14 rfl ly218 (by omega) ?_
  refine zw_iadd 16 dX6_takesOn_15 rfl ?_
  refine zw_iald 17 dX6_takesOn_16 rfl hr (by omega) ?_
  refine zw_istore 19 dX6_takesOn_17 rfl (by decide) ?_
  refine zw_aload_n 20 dX6_takesOn_19 rfl rfl ?_
  refine zw_getr 23 (218) (o := 1) dX6_takesOn_20 rfl fX6_7 (by decide) rfl rfl ly217 ?_
  refine zw_bipush 25 dX6_takesOn_23 rfl (by decide) ?_
  refine zw_iload_n 26 dX6_takesOn_25 rfl rfl ?_
  refine zw_iadd 27 dX6_takesOn_26 rfl ?_
  refine zw_iald 28 dX6_takesOn_27 rfl ly218 (by omega) ?_
  refine zw_aload_n 29 dX6_takesOn_28 rfl rfl ?_
  refine zw_getr 32 (218) (o := 1) dX6_takesOn_29 rfl fX6_7 (by decide) rfl rfl ly217 ?_
  refine zw_bipush 34 dX6_takesOn_32 rfl (by decide) ?_
  refine zw_iload_n 35 dX6_takesOn_34 rfl rfl ?_
  refine zw_iadd 36 dX6_takesOn_35 rfl ?_
  refine zw_iald 37 dX6_takesOn_36 rfl ly218 (by omega) ?_
  refine zw_aload_n 38 dX6_takesOn_37 rfl rfl ?_
  refine zw_bipush 40 dX6_takesOn_38 rfl (by decide) ?_
  refine zw_iload_n 41 dX6_takesOn_40 rfl rfl ?_
  refine zw_iadd 42 dX6_takesOn_41 rfl ?_
  refine zw_iald 43 dX6_takesOn_42 rfl hr (by omega) ?_
  refine zw_iload 45 dX6_takesOn_43 rfl rfl ?_
  refine zw_aload_n 46 dX6_takesOn_45 rfl rfl ?_
  refine zw_bipush 48 dX6_takesOn_46 rfl (by decide) ?_
  refine zw_iald 49 dX6_takesOn_48 rfl hr (by omega) ?_
  refine zw_callS 52 _ _ dX6_takesOn_49 rfl kX6_56 qX6_gives (sp_X6_gives (d := d - 1) (by omega) (by omega) (by omega) (by omega) (by omega)) (by omega) rfl rfl (Nat.le_of_ble_eq_true rfl) (fun r σ' hq => ?_)
  obtain ⟨rfl, rfl⟩ := hq
  refine zw_iload 54 dX6_takesOn_52 rfl rfl ?_
  refine zw_callS 57 _ _ dX6_takesOn_54 rfl kX6_60 qX6_takesOf (sp_X6_takesOf (d := d - 1) (by omega) (by omega) (by omega)) (by omega) rfl rfl (Nat.le_of_ble_eq_true rfl) (fun r σ' hq => ?_)
  obtain ⟨rfl, rfl⟩ := hq
  refine zw_iret dX6_takesOn_57 rfl ?_
  exact ⟨rfl, rfl⟩
theorem sp_X6_oneTakes {l : Launch} {d : Nat} {σ : zMem} (hd : 3 ≤ d) {r n : Nat} (hr : zly r = some (100, n)) (hn : 33 ≤ n) (hs : zVs (σ 218)) (hv : zVr (σ 218) (σ r)) (hy : 0 ≤ σ r 32 ∧ σ r 32 < 5000) {c : Int} (hc : 0 ≤ c ∧ c < 5) : zSp l d mX6_oneTakes [.ref 217, .ref r, .int (zI c)] σ (zRv (zwa σ r (z1t (σ 218) (σ r) c))) := by
  refine zSp_of oX6_oneTakes (Nat.le_of_ble_eq_true rfl) ?_
  show zw l d mX6_oneTakes 0 [some (.ref 217), some (.ref r), some (.int (zI c)), none, none, none] [] σ _
  have g0 := hv.1 c hc.1 hc.2
  have gN := hs.1
  refine zw_aload_n 1 dX6_oneTakes_0 rfl rfl ?_
  refine zw_iconst 2 dX6_oneTakes_1 rfl ?_
  refine zw_iload_n 3 dX6_oneTakes_2 rfl rfl ?_
  refine zw_iadd0 4 dX6_oneTakes_3 rfl ?_
  refine zw_iald 5 dX6_oneTakes_4 rfl hr (by omega) ?_
  refine zw_istore_n 6 dX6_oneTakes_5 rfl (by decide) ?_
  refine zw_iload_n 7 dX6_oneTakes_6 rfl rfl ?_
  refine zw_iconst 8 dX6_oneTakes_7 rfl ?_
  refine zw_icmp_eq 60 11 dX6_oneTakes_8 (by decide) rfl (by omega) (by omega) (fun h8 => ?_) (fun h8 => ?_)
  · refine zw_vret dX6_oneTakes_60 rfl ?_
    exact ⟨rfl, by first | rw [show z1t (σ 218) (σ r) c = σ r from if_pos h8, zwa_id] | (rw [show z1t (σ 218) (σ r) c = zup _ _ _ from if_neg h8, Int.min_eq_left h49]; rfl) | (rw [show z1t (σ 218) (σ r) c = zup _ _ _ from if_neg h8, Int.min_eq_right (Int.le_of_lt h49)]; rfl)⟩
  · have g1 := hs.s (s := σ r c) (by omega) (by omega)
    have g3 := zVr.tk hs hv hc (s := σ r c) (by omega)
    have g6 := ztk_b hs hv hc (s := σ r c) (by omega)
    refine zw_iconst 12 dX6_oneTakes_11 rfl ?_
    refine zw_iconst 13 dX6_oneTakes_12 rfl ?_
    refine zw_iload_n 14 dX6_oneTakes_13 rfl rfl ?_
    refine zw_imul 15 dX6_oneTakes_14 rfl ?_
    refine zw_iadd 16 dX6_oneTakes_15 rfl ?_
    refine zw_aload_n 17 dX6_oneTakes_16 rfl rfl ?_
    refine zw_getr 20 (218) (o := 1) dX6_oneTakes_17 rfl fX6_7 (by decide) rfl rfl ly217 ?_
    refine zw_bipush 22 dX6_oneTakes_20 rfl (by decide) ?_
    refine zw_iload_n 23 dX6_oneTakes_22 rfl rfl ?_
    refine zw_iadd 24 dX6_oneTakes_23 rfl ?_
    refine zw_iald 25 dX6_oneTakes_24 rfl ly218 (by omega) ?_
    refine zw_iadd 26 dX6_oneTakes_25 rfl ?_
    refine zw_istore 28 dX6_oneTakes_26 rfl (by decide) ?_
    refine zw_aload_n 29 dX6_oneTakes_28 rfl rfl ?_
    refine zw_iload 31 dX6_oneTakes_29 rfl rfl ?_
    refine zw_iald 32 dX6_oneTakes_31 rfl hr (by omega) ?_
    refine zw_aload_n 33 dX6_oneTakes_32 rfl rfl ?_
    refine zw_aload_n 34 dX6_oneTakes_33 rfl rfl ?_
    refine zw_iload_n 35 dX6_oneTakes_34 rfl rfl ?_
    refine zw_iload_n 36 dX6_oneTakes_35 rfl rfl ?_
    refine zw_callV 39 _ _ dX6_oneTakes_36 rfl kX6_64 qX6_takesOn ly217 ⟨_, rfl, rfl⟩ (by decide) (sp_X6_takesOn (d := d - 1) (by omega) hr hn hs hv hy hc (by omega)) (by omega) rfl rfl (Nat.le_of_ble_eq_true rfl) (fun r σ' hq => ?_)
    obtain ⟨rfl, rfl⟩ := hq
    refine zw_iadd 40 dX6_oneTakes_39 rfl ?_
    refine zw_istore 42 dX6_oneTakes_40 rfl (by decide) ?_
    refine zw_aload_n 43 dX6_oneTakes_42 rfl rfl ?_
    refine zw_iload 45 dX6_oneTakes_43 rfl rfl ?_
    refine zw_iload 47 dX6_oneTakes_45 rfl rfl ?_
    refine zw_bipush 49 dX6_oneTakes_47 rfl (by decide) ?_
    refine zw_icmp_le 57 52 dX6_oneTakes_49 (by decide) rfl (by omega) (by omega) (fun h49 => ?_) (fun h49 => ?_)
    · refine zw_iload 59 dX6_oneTakes_57 rfl rfl ?_
      refine zw_iast 60 dX6_oneTakes_59 rfl hr (by omega) ?_
      refine zw_vret dX6_oneTakes_60 rfl ?_
      exact ⟨rfl, by first | rw [show z1t (σ 218) (σ r) c = σ r from if_pos h8, zwa_id] | (rw [show z1t (σ 218) (σ r) c = zup _ _ _ from if_neg h8, Int.min_eq_left h49]; rfl) | (rw [show z1t (σ 218) (σ r) c = zup _ _ _ from if_neg h8, Int.min_eq_right (Int.le_of_lt h49)]; rfl)⟩
    · refine zw_bipush 54 dX6_oneTakes_52 rfl (by decide) ?_
      refine zw_goto 59 dX6_oneTakes_54 (by decide) ?_
      refine zw_iast 60 dX6_oneTakes_59 rfl hr (by omega) ?_
      refine zw_vret dX6_oneTakes_60 rfl ?_
      exact ⟨rfl, by first | rw [show z1t (σ 218) (σ r) c = σ r from if_pos h8, zwa_id] | (rw [show z1t (σ 218) (σ r) c = zup _ _ _ from if_neg h8, Int.min_eq_left h49]; rfl) | (rw [show z1t (σ 218) (σ r) c = zup _ _ _ from if_neg h8, Int.min_eq_right (Int.le_of_lt h49)]; rfl)⟩
