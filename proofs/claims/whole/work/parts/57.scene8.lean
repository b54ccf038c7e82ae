theorem sp_X2_become {l : Launch} {d : Nat} {σ : zMem} (hd : 1 ≤ d) {a b : Nat} (ha : zly a = some (2, 4)) (hb : zly b = some (2, 4)) (hab : a + 4 ≤ b ∨ b + 4 ≤ a) {t : zR} (hc : zSc σ b t)  : zSp l d mX2_become [.ref a, .ref b] σ (fun v σ1 => v = none ∧ zSc σ1 a t ∧ ∀ r, ¬ (a ≤ r ∧ r ≤ a + 3) → σ1 r = σ r) := by
  refine zSp_of oX2_become (Nat.le_of_ble_eq_true rfl) ?_
  show zw l d mX2_become 0 [some (.ref a), some (.ref b)] [] σ _
  refine zw_aload_n 1 dX2_become_0 rfl rfl ?_
  refine zw_aload_n 2 dX2_become_1 rfl rfl ?_
  refine zw_gti 5 0 dX2_become_2 rfl fX2_27 (by decide) rfl rfl hb ?_
  refine zw_pti 8 0 dX2_become_5 rfl pX2_27 (by decide) rfl rfl ha ?_
  refine zw_aload_n 9 dX2_become_8 rfl rfl ?_
  refine zw_getr 12 (b + 1) (o := 1) dX2_become_9 rfl fX2_9 (by decide) rfl rfl hb ?_
  refine zw_iconst 13 dX2_become_12 rfl ?_
  refine zw_aload_n 14 dX2_become_13 rfl rfl ?_
  refine zw_getr 17 (a + 1) (o := 1) dX2_become_14 rfl fX2_9 (by decide) rfl rfl ha ?_
  refine zw_iconst 18 dX2_become_17 rfl ?_
  refine zw_iconst 19 dX2_become_18 rfl ?_
  refine zw_copy 22 dX2_become_19 rfl kX2_31 (zl_sub hb 2 1 rfl rfl) (zl_sub ha 2 1 rfl rfl) (by omega) rfl (by omega) ?_
  refine zw_aload_n 23 dX2_become_22 rfl rfl ?_
  refine zw_getr 26 (b + 2) (o := 2) dX2_become_23 rfl fX2_15 (by decide) rfl rfl hb ?_
  refine zw_iconst 27 dX2_become_26 rfl ?_
  refine zw_aload_n 28 dX2_become_27 rfl rfl ?_
  refine zw_getr 31 (a + 2) (o := 2) dX2_become_28 rfl fX2_15 (by decide) rfl rfl ha ?_
  refine zw_iconst 32 dX2_become_31 rfl ?_
  refine zw_bipush 34 dX2_become_32 rfl (by decide) ?_
  refine zw_copy 37 dX2_become_34 rfl kX2_31 (zl_sub hb 2 2 rfl rfl) (zl_sub ha 2 2 rfl rfl) (by omega) rfl (by omega) ?_
  refine zw_aload_n 38 dX2_become_37 rfl rfl ?_
  refine zw_getr 41 (b + 3) (o := 3) dX2_become_38 rfl fX2_18 (by decide) rfl rfl hb ?_
  refine zw_iconst 42 dX2_become_41 rfl ?_
  refine zw_aload_n 43 dX2_become_42 rfl rfl ?_
  refine zw_getr 46 (a + 3) (o := 3) dX2_become_43 rfl fX2_18 (by decide) rfl rfl ha ?_
  refine zw_iconst 47 dX2_become_46 rfl ?_
  refine zw_bipush 49 dX2_become_47 rfl (by decide) ?_
  refine zw_copy 52 dX2_become_49 rfl kX2_31 (zl_sub hb 2 3 rfl rfl) (zl_sub ha 2 3 rfl rfl) (by omega) rfl (by omega) ?_
  refine zw_vret dX2_become_52 rfl ?_
  refine ⟨rfl, ⟨fun c h0 h1 => ?_, fun i h0 h1 => ?_, fun s h0 h1 => ?_, ?_⟩, fun r hr => ?_⟩
  · simp (disch := omega) only [zwr, zwa_same, zwa_ne]; unfold zcp; rw [if_pos (by omega)]; exact hc.1 c h0 h1
  · simp (disch := omega) only [zwr, zwa_same, zwa_ne]; unfold zcp; rw [if_pos (by omega)]; exact hc.2.1 i h0 h1
  · simp (disch := omega) only [zwr, zwa_same, zwa_ne]; unfold zcp; rw [if_pos (by omega)]; exact hc.2.2.1 s h0 h1
  · simp (disch := omega) only [zwr, zwa_same, zwa_ne, zup_same]; exact hc.2.2.2
  · simp (disch := omega) only [zwr, zwa_ne]
