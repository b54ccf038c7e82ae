theorem zsh_ok : ∀ a : Nat, a < 64 → ∀ i : Nat, i < 6 → zI (a : Int) >>> (zI (i : Int) &&& 31) = zI ((a / 2 ^ i : Nat) : Int) := by decide +kernel
theorem zsh1_ok : ∀ i : Nat, i < 7 → zI 1 <<< (zI (i : Int) &&& 31) = zI ((2 ^ i : Nat) : Int) := by decide +kernel
theorem zand1_ok : ∀ a : Nat, a < 128 → zI (a : Int) &&& zI 1 = zI ((a % 2 : Nat) : Int) := by decide +kernel
/-- a bit of a set -/
def zbt (a i : Int) : Int := a / 2 ^ i.toNat % 2
theorem zsh_int {a i : Int} (ha : 0 ≤ a ∧ a < 64) (hi : 0 ≤ i ∧ i < 6) : zI a >>> (zI i &&& 31) = zI (a / 2 ^ i.toNat) := by
  obtain ⟨x, rfl⟩ := Int.eq_ofNat_of_zero_le ha.1
  obtain ⟨y, rfl⟩ := Int.eq_ofNat_of_zero_le hi.1
  rw [zsh_ok x (by omega) y (by omega)]
  simp
theorem zand_int {a : Int} (ha : 0 ≤ a ∧ a < 128) : zI a &&& zI 1 = zI (a % 2) := by
  obtain ⟨x, rfl⟩ := Int.eq_ofNat_of_zero_le ha.1
  rw [zand1_ok x (by omega)]
  simp
theorem zsh_b {a i : Int} (ha : 0 ≤ a ∧ a < 64) : 0 ≤ a / 2 ^ i.toNat ∧ a / 2 ^ i.toNat < 64 := by
  have h2 : (0 : Int) < 2 ^ i.toNat := Int.pow_pos (by decide)
  constructor
  · exact Int.ediv_nonneg ha.1 (by omega)
  · exact Int.lt_of_le_of_lt (Int.ediv_le_self _ ha.1) ha.2
/-- places j .. j + n - 1 of g taken from f, from i on -/
def zcy (f g : zR) (i j n : Int) : zR := fun x => if j ≤ x ∧ x < j + n then f (i + (x - j)) else g x
def zem (g : zR) : zR := fun x => if 0 ≤ x ∧ x < 5 then -1 else if 0 ≤ x ∧ x < 399 then 0 else g x
theorem zwr_wa (σ : zMem) (r : Nat) (f : zR) (i x : Int) : zwr (zwa σ r f) r i x = zwa σ r (zup f i x) := by
  unfold zwr; rw [zwa_same, zwa_twice]
theorem zcy_0 (f g : zR) (i j : Int) : zcy f g i j 0 = g := by
  funext x; exact if_neg (by omega)
theorem zcy_s (f g : zR) (i j n : Int) (h : 0 ≤ n) : zup (zcy f g i j n) (j + n) (f (i + n)) = zcy f g i j (n + 1) := by
  funext x
  unfold zup zcy
  by_cases h1 : x = j + n
  · subst h1; rw [if_pos rfl, if_pos (by omega)]; congr 1; omega
  · rw [if_neg h1]
    by_cases h2 : j ≤ x ∧ x < j + n
    · rw [if_pos h2, if_pos (by omega)]
    · rw [if_neg h2, if_neg (by omega)]
theorem sp_X6_in {l : Launch} {d : Nat} {σ : zMem} {v a b : Int} (hv : -9223372036854775808 ≤ v ∧ v < 9223372036854775808) (ha : -9223372036854775808 ≤ a ∧ a < 9223372036854775808) (hb : -9223372036854775808 ≤ b ∧ b < 9223372036854775808) : zSp l d mX6_in [.long (zL v), .long (zL a), .long (zL b)] σ (zRi (if a ≤ v ∧ v ≤ b then 1 else 0) σ) := by
  refine zSp_of oX6_in (Nat.le_of_ble_eq_true rfl) ?_
  show zw l d mX6_in 0 [some (.long (zL v)), none, some (.long (zL a)), none, some (.long (zL b)), none] [] σ _
  have z1 := zcmp_spec v a
  have z2 := zcmp_spec v b
  refine zw_lload_n 1 dX6_in_0 rfl rfl ?_
  refine zw_lload_n 2 dX6_in_1 rfl rfl ?_
  refine zw_lcmp 3 dX6_in_2 rfl (by omega) (by omega) ?_
  refine zw_if_lt 17 6 dX6_in_3 (by decide) rfl (by omega) (fun h3 => ?_) (fun h3 => ?_)
  · refine zw_iconst 18 dX6_in_17 rfl ?_
    refine zw_zret dX6_in_18 rfl (by omega) ?_
    exact zRi_of (by omega)
  · refine zw_lload_n 7 dX6_in_6 rfl rfl ?_
    refine zw_lload 9 dX6_in_7 rfl rfl ?_
    refine zw_lcmp 10 dX6_in_9 rfl (by omega) (by omega) ?_
    refine zw_if_gt 17 13 dX6_in_10 (by decide) rfl (by omega) (fun h10 => ?_) (fun h10 => ?_)
    · refine zw_iconst 18 dX6_in_17 rfl ?_
      refine zw_zret dX6_in_18 rfl (by omega) ?_
      exact zRi_of (by omega)
    · refine zw_iconst 14 dX6_in_13 rfl ?_
      refine zw_goto 18 dX6_in_14 (by decide) ?_
      refine zw_zret dX6_in_18 rfl (by omega) ?_
      exact zRi_of (by omega)
theorem sp_X6_has {l : Launch} {d : Nat} {σ : zMem} {a i : Int} (ha : 0 ≤ a ∧ a < 64) (hi : 0 ≤ i ∧ i < 6) : zSp l d mX6_has [.int (zI a), .int (zI i)] σ (zRi (if zbt a i = 1 then 1 else 0) σ) := by
  refine zSp_of oX6_has (Nat.le_of_ble_eq_true rfl) ?_
  show zw l d mX6_has 0 [some (.int (zI a)), some (.int (zI i))] [] σ _
  have z1 := zsh_b (a := a) (i := i) ha
  refine zw_iload_n 1 dX6_has_0 rfl rfl ?_
  refine zw_iload_n 2 dX6_has_1 rfl rfl ?_
  refine zw_ishr 3 _ dX6_has_2 rfl (zsh_int ha hi) ?_
  refine zw_iconst 4 dX6_has_3 rfl ?_
  refine zw_iand 5 _ dX6_has_4 rfl (zand_int (by omega)) ?_
  refine zw_iconst 6 dX6_has_5 rfl ?_
  refine zw_icmp_ne 13 9 dX6_has_6 (by decide) rfl (by omega) (by omega) (fun h6 => ?_) (fun h6 => ?_)
  · refine zw_iconst 14 dX6_has_13 rfl ?_
    refine zw_zret dX6_has_14 rfl (by omega) ?_
    exact zRi_of (by simp only [zbt]; omega)
  · refine zw_iconst 10 dX6_has_9 rfl ?_
    refine zw_goto 14 dX6_has_10 (by decide) ?_
    refine zw_zret dX6_has_14 rfl (by omega) ?_
    exact zRi_of (by simp only [zbt]; omega)
theorem lp_X6_copies {l : Launch} {d : Nat} {σ : zMem} {r0 r1 n0 n1 : Nat} {i j n : Int} (h0 : zly r0 = some (100, n0)) (h1 : zly r1 = some (100, n1)) (hi : 0 ≤ i ∧ i + n ≤ n0) (hj : 0 ≤ j ∧ j + n ≤ n1) (hn : 0 ≤ n) (hdis : r0 ≠ r1 ∨ i + n ≤ j ∨ j + n ≤ i) (hb0 : n0 < 1000) (hb1 : n1 < 1000) : ∀ (m : Nat) (k : Int), k + m = n → 0 ≤ k → zw l d mX6_copies 3 [some (.ref r0), some (.int (zI i)), some (.ref r1), some (.int (zI j)), some (.int (zI n)), some (.int (zI k))] [] (zwa σ r1 (zcy (σ r0) (σ r1) i j k)) (zRv (zwa σ r1 (zcy (σ r0) (σ r1) i j n))) := by
  intro m
  induction m with
  | zero =>
    intro k hk hk0
    refine zw_iload 5 dX6_copies_3 rfl rfl ?_
    refine zw_iload 7 dX6_copies_5 rfl rfl ?_
    refine zw_icmp_ge 28 10 dX6_copies_7 (by decide) rfl (by omega) (by omega) (fun h7 => ?_) (fun h7 => ?_)
    · refine zw_vret dX6_copies_28 rfl ?_
      obtain rfl : k = n := by omega
      exact ⟨rfl, rfl⟩
    · exfalso; omega
  | succ m ih =>
    intro k hk hk0
    refine zw_iload 5 dX6_copies_3 rfl rfl ?_
    refine zw_iload 7 dX6_copies_5 rfl rfl ?_
    refine zw_icmp_ge 28 10 dX6_copies_7 (by decide) rfl (by omega) (by omega) (fun h7 => ?_) (fun h7 => ?_)
    · refine zw_vret dX6_copies_28 rfl ?_
      exfalso; omega
    · refine zw_aload_n 11 dX6_copies_10 rfl rfl ?_
      refine zw_iload_n 12 dX6_copies_11 rfl rfl ?_
      refine zw_iload 14 dX6_copies_12 rfl rfl ?_
      refine zw_iadd 15 dX6_copies_14 rfl ?_
      refine zw_aload_n 16 dX6_copies_15 rfl rfl ?_
      refine zw_iload_n 17 dX6_copies_16 rfl rfl ?_
      refine zw_iload 19 dX6_copies_17 rfl rfl ?_
      refine zw_iadd 20 dX6_copies_19 rfl ?_
      refine zw_iald 21 dX6_copies_20 rfl h0 (by omega) ?_
      refine zw_iast 22 dX6_copies_21 rfl h1 (by omega) ?_
      have e1 : zwa σ r1 (zcy (σ r0) (σ r1) i j k) r0 (i + k) = σ r0 (i + k) := by
        by_cases hr : r0 = r1
        · subst hr; rw [zwa_same]; exact if_neg (by omega)
        · rw [zwa_ne _ _ hr]
      rw [e1, zwr_wa, zcy_s _ _ _ _ _ hk0]
      refine zw_iinc 25 dX6_copies_22 rfl (by decide) rfl ?_
      refine zw_goto 3 dX6_copies_25 (by decide) ?_
      refine zw_loc [true, true, true, true, true, true] rfl ?_
      exact ih (k + 1) (by omega) (by omega)
theorem sp_X6_copies {l : Launch} {d : Nat} {σ : zMem} {r0 r1 n0 n1 : Nat} {i j n : Int} (h0 : zly r0 = some (100, n0)) (h1 : zly r1 = some (100, n1)) (hi : 0 ≤ i ∧ i + n ≤ n0) (hj : 0 ≤ j ∧ j + n ≤ n1) (hn : 0 ≤ n) (hdis : r0 ≠ r1 ∨ i + n ≤ j ∨ j + n ≤ i) (hb0 : n0 < 1000) (hb1 : n1 < 1000) : zSp l d mX6_copies [.ref r0, .int (zI i), .ref r1, .int (zI j), .int (zI n)] σ (zRv (zwa σ r1 (zcy (σ r0) (σ r1) i j n))) := by
  refine zSp_of oX6_copies (Nat.le_of_ble_eq_true rfl) ?_
  show zw l d mX6_copies 0 [some (.ref r0), some (.int (zI i)), some (.ref r1), some (.int (zI j)), some (.int (zI n)), none] [] σ _
  refine zw_iconst 1 dX6_copies_0 rfl ?_
  refine zw_istore 3 dX6_copies_1 rfl (by decide) ?_
  have h := lp_X6_copies (l := l) (d := d) (σ := σ) h0 h1 hi hj hn hdis hb0 hb1 n.toNat 0 (by omega) (by omega)
  rw [zcy_0, zwa_id] at h
  exact h
theorem sp_X6_refused {l : Launch} {d : Nat} {σ : zMem} {w a : Int} (hw : 0 ≤ w ∧ w < 3) : zSp l d mX6_refused [.ref 217, .int (zI w), .int (zI a)] σ (zRi a (zwr σ 224 w (σ 224 w + 1))) := by
  refine zSp_of oX6_refused (Nat.le_of_ble_eq_true rfl) ?_
  show zw l d mX6_refused 0 [some (.ref 217), some (.int (zI w)), some (.int (zI a))] [] σ _
  refine zw_aload_n 1 dX6_refused_0 rfl rfl ?_
  refine zw_getr 4 (224) (o := 7) dX6_refused_1 rfl fX6_33 (by decide) rfl rfl ly217 ?_
  refine zw_iload_n 5 dX6_refused_4 rfl rfl ?_
  refine zw_dup2_11 6 dX6_refused_5 rfl rfl rfl ?_
  refine zw_iald 7 dX6_refused_6 rfl ly224 (by omega) ?_
  refine zw_iconst 8 dX6_refused_7 rfl ?_
  refine zw_iadd 9 dX6_refused_8 rfl ?_
  refine zw_iast 10 dX6_refused_9 rfl ly224 (by omega) ?_
  refine zw_iload_n 11 dX6_refused_10 rfl rfl ?_
  refine zw_iret dX6_refused_11 rfl ?_
  exact ⟨rfl, rfl⟩
theorem sp_X6_bad {l : Launch} {d : Nat} {σ : zMem} (hd : 1 ≤ d) : zSp l d mX6_bad [.ref 217] σ (zRi (-2) (zwr σ 224 0 (σ 224 0 + 1))) := by
  refine zSp_of oX6_bad (Nat.le_of_ble_eq_true rfl) ?_
  show zw l d mX6_bad 0 [some (.ref 217)] [] σ _
  refine zw_aload_n 1 dX6_bad_0 rfl rfl ?_
  refine zw_iconst 2 dX6_bad_1 rfl ?_
  refine zw_bipush 4 dX6_bad_2 rfl (by decide) ?_
  refine zw_callV 7 _ _ dX6_bad_4 rfl kX6_52 qX6_refused ly217 ⟨_, rfl, rfl⟩ (by decide) (sp_X6_refused (d := d - 1) (by omega)) (by omega) rfl rfl (Nat.le_of_ble_eq_true rfl) (fun r σ' hq => ?_)
  obtain ⟨rfl, rfl⟩ := hq
  refine zw_iret dX6_bad_7 rfl ?_
  exact ⟨rfl, rfl⟩
theorem sp_X6_badTen {l : Launch} {d : Nat} {σ : zMem} (hd : 1 ≤ d) : zSp l d mX6_badTen [.ref 217] σ (zRi (-10) (zwr σ 224 0 (σ 224 0 + 1))) := by
  refine zSp_of oX6_badTen (Nat.le_of_ble_eq_true rfl) ?_
  show zw l d mX6_badTen 0 [some (.ref 217)] [] σ _
  refine zw_aload_n 1 dX6_badTen_0 rfl rfl ?_
  refine zw_iconst 2 dX6_badTen_1 rfl ?_
  refine zw_bipush 4 dX6_badTen_2 rfl (by decide) ?_
  refine zw_callV 7 _ _ dX6_badTen_4 rfl kX6_52 qX6_refused ly217 ⟨_, rfl, rfl⟩ (by decide) (sp_X6_refused (d := d - 1) (by omega)) (by omega) rfl rfl (Nat.le_of_ble_eq_true rfl) (fun r σ' hq => ?_)
  obtain ⟨rfl, rfl⟩ := hq
  refine zw_iret dX6_badTen_7 rfl ?_
  exact ⟨rfl, rfl⟩
