theorem lp_X2_whoSit {l : Launch} {d : Nat} {σ : zMem} {a : Nat} (ha : zly a = some (2, 4)) {t : zR} (hc : zSc σ a t) (hb : ∀ c, 0 ≤ c → c < 5 → -1 ≤ t c ∧ t c < 1000)  : ∀ (m : Nat) (c : Int) (n : Int), c + m = 5 → 0 ≤ c → n = zbi (zwsf t) c.toNat → zw l d mX2_whoSit 4 [some (.ref a), some (.int (zI n)), some (.int (zI c))] [] σ (zRi (zbi (zwsf t) 5) σ) := by
  intro m
  induction m with
  | zero =>
    intro c n hk hk0 hn
    have b1 := zbi_b (f := zwsf t) c.toNat (fun k _ _ => zwsf_b _ _)
    rw [← hn] at b1
    refine zw_iload_n 5 dX2_whoSit_4 rfl rfl ?_
    refine zw_iconst 6 dX2_whoSit_5 rfl ?_
    refine zw_icmp_ge 35 9 dX2_whoSit_6 (by decide) rfl (by omega) (by omega) (fun h6 => ?_) (fun h6 => ?_)
    · refine zw_iload_n 36 dX2_whoSit_35 rfl rfl ?_
      refine zw_iret dX2_whoSit_36 rfl ?_
      exact zRi_of (by rw [hn, show c = 5 by omega]; rfl)
    · exfalso; omega
  | succ m ih =>
    intro c n hk hk0 hn
    have b1 := zbi_b (f := zwsf t) c.toNat (fun k _ _ => zwsf_b _ _)
    rw [← hn] at b1
    refine zw_iload_n 5 dX2_whoSit_4 rfl rfl ?_
    refine zw_iconst 6 dX2_whoSit_5 rfl ?_
    refine zw_icmp_ge 35 9 dX2_whoSit_6 (by decide) rfl (by omega) (by omega) (fun h6 => ?_) (fun h6 => ?_)
    · refine zw_iload_n 36 dX2_whoSit_35 rfl rfl ?_
      refine zw_iret dX2_whoSit_36 rfl ?_
      exfalso; omega
    · have g3 := z2k (k := c) (by omega)
      have g4 := hb c (by omega) (by omega)
      have g5 := hc.1 c (by omega) (by omega)
      refine zw_iload_n 10 dX2_whoSit_9 rfl rfl ?_
      refine zw_aload_n 11 dX2_whoSit_10 rfl rfl ?_
      refine zw_getr 14 (a + 1) (o := 1) dX2_whoSit_11 rfl fX2_9 (by decide) rfl rfl ha ?_
      refine zw_iload_n 15 dX2_whoSit_14 rfl rfl ?_
      refine zw_iald 16 dX2_whoSit_15 rfl (zl_sub ha 2 1 rfl rfl) (by omega) ?_
      rw [g5]
      refine zw_iconst 17 dX2_whoSit_16 rfl ?_
      refine zw_icmp_ne 24 20 dX2_whoSit_17 (by decide) rfl (by omega) (by omega) (fun h17 => ?_) (fun h17 => ?_)
      · refine zw_iconst 25 dX2_whoSit_24 rfl ?_
        refine zw_iload_n 26 dX2_whoSit_25 rfl rfl ?_
        refine zw_ishl 27 _ dX2_whoSit_26 rfl (zshl_int (by omega)) ?_
        refine zw_ior 28 _ dX2_whoSit_27 rfl (zor_int (k := c) (by omega) b1 (by omega)) ?_
        refine zw_istore_n 29 dX2_whoSit_28 rfl (by decide) ?_
        refine zw_iinc 32 dX2_whoSit_29 rfl (by decide) rfl ?_
        refine zw_goto 4 dX2_whoSit_32 (by decide) ?_
        refine zw_loc [true, true, true] rfl ?_
        exact ih (c + 1) _ (by omega) (by omega) (by rw [zbi_s2 _ hk0 (zwsf_b _ _), ← hn, zwsf]; omega)
      · refine zw_iconst 21 dX2_whoSit_20 rfl ?_
        refine zw_goto 27 dX2_whoSit_21 (by decide) ?_
        refine zw_ior 28 _ dX2_whoSit_27 rfl (zor_int (k := c) (by omega) b1 (by omega)) ?_
        refine zw_istore_n 29 dX2_whoSit_28 rfl (by decide) ?_
        refine zw_iinc 32 dX2_whoSit_29 rfl (by decide) rfl ?_
        refine zw_goto 4 dX2_whoSit_32 (by decide) ?_
        refine zw_loc [true, true, true] rfl ?_
        exact ih (c + 1) _ (by omega) (by omega) (by rw [zbi_s2 _ hk0 (zwsf_b _ _), ← hn, zwsf]; omega)
theorem sp_X2_whoSit {l : Launch} {d : Nat} {σ : zMem} {a : Nat} (ha : zly a = some (2, 4)) {t : zR} (hc : zSc σ a t) (hb : ∀ c, 0 ≤ c → c < 5 → -1 ≤ t c ∧ t c < 1000)  : zSp l d mX2_whoSit [.ref a] σ (zRi (zbi (zwsf t) 5) σ) := by
  refine zSp_of oX2_whoSit (Nat.le_of_ble_eq_true rfl) ?_
  show zw l d mX2_whoSit 0 [some (.ref a), none, none] [] σ _
  refine zw_iconst 1 dX2_whoSit_0 rfl ?_
  refine zw_istore_n 2 dX2_whoSit_1 rfl (by decide) ?_
  refine zw_iconst 3 dX2_whoSit_2 rfl ?_
  refine zw_istore_n 4 dX2_whoSit_3 rfl (by decide) ?_
  exact lp_X2_whoSit ha hc hb 5 0 0 (by omega) (by omega) rfl
