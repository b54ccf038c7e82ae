theorem zSc_sw {σ : zMem} {a : Nat} {t : zR} (hc : zSc σ a t) {x y : Int} (hx : 0 ≤ x ∧ x < 5) (hy : 0 ≤ y ∧ y < 5) : zSc (zwa σ (a + 1) (zup (zup (σ (a + 1)) x (t y)) y (t x))) a (zup (zup t x (t y)) y (t x)) := by
  refine ⟨fun c h0 h1 => ?_, fun i h0 h1 => ?_, fun s h0 h1 => ?_, ?_⟩
  · rw [zwa_same]; unfold zup
    split
    · rfl
    · split
      · rfl
      · exact hc.1 c h0 h1
  · rw [zwa_ne _ _ (by omega), zup_ne _ _ (by omega), zup_ne _ _ (by omega)]; exact hc.2.1 i h0 h1
  · rw [zwa_ne _ _ (by omega), zup_ne _ _ (by omega), zup_ne _ _ (by omega)]; exact hc.2.2.1 s h0 h1
  · rw [zwa_ne _ _ (by omega), zup_ne _ _ (by omega), zup_ne _ _ (by omega)]; exact hc.2.2.2
theorem sp_X2_exchange {l : Launch} {d : Nat} {σ : zMem} {a : Nat} (ha : zly a = some (2, 4)) {t : zR} (hc : zSc σ a t) {x y : Int} (hx : 0 ≤ x ∧ x < 5) (hy : 0 ≤ y ∧ y < 5) (hxy : x ≠ y)  : zSp l d mX2_exchange [.ref a, .int (zI x), .int (zI y)] σ (zRv (zwa σ (a + 1) (zup (zup (σ (a + 1)) x (t y)) y (t x)))) := by
  refine zSp_of oX2_exchange (Nat.le_of_ble_eq_true rfl) ?_
  show zw l d mX2_exchange 0 [some (.ref a), some (.int (zI x)), some (.int (zI y)), none] [] σ _
  refine zw_aload_n 1 dX2_exchange_0 rfl rfl ?_
  refine zw_getr 4 (a + 1) (o := 1) dX2_exchange_1 rfl fX2_9 (by decide) rfl rfl ha ?_
  refine zw_iload_n 5 dX2_exchange_4 rfl rfl ?_
  refine zw_iald 6 dX2_exchange_5 rfl (zl_sub ha 2 1 rfl rfl) (by omega) ?_
  rw [hc.1 x (by omega) (by omega)]
  refine zw_istore_n 7 dX2_exchange_6 rfl (by decide) ?_
  refine zw_aload_n 8 dX2_exchange_7 rfl rfl ?_
  refine zw_getr 11 (a + 1) (o := 1) dX2_exchange_8 rfl fX2_9 (by decide) rfl rfl ha ?_
  refine zw_iload_n 12 dX2_exchange_11 rfl rfl ?_
  refine zw_aload_n 13 dX2_exchange_12 rfl rfl ?_
  refine zw_getr 16 (a + 1) (o := 1) dX2_exchange_13 rfl fX2_9 (by decide) rfl rfl ha ?_
  refine zw_iload_n 17 dX2_exchange_16 rfl rfl ?_
  refine zw_iald 18 dX2_exchange_17 rfl (zl_sub ha 2 1 rfl rfl) (by omega) ?_
  rw [hc.1 y (by omega) (by omega)]
  refine zw_iast 19 dX2_exchange_18 rfl (zl_sub ha 2 1 rfl rfl) (by omega) ?_
  rw [zwr]
  refine zw_aload_n 20 dX2_exchange_19 rfl rfl ?_
  refine zw_getr 23 (a + 1) (o := 1) dX2_exchange_20 rfl fX2_9 (by decide) rfl rfl ha ?_
  refine zw_iload_n 24 dX2_exchange_23 rfl rfl ?_
  refine zw_iload_n 25 dX2_exchange_24 rfl rfl ?_
  refine zw_iast 26 dX2_exchange_25 rfl (zl_sub ha 2 1 rfl rfl) (by omega) ?_
  rw [zwr_wa]
  refine zw_vret dX2_exchange_26 rfl ?_
  exact ⟨rfl, rfl⟩
