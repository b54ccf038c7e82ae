/-- a table of rows at b, w wide: as the row N tells from m on -/
def zRo (σ : zMem) (b : Nat) (w m : Int) (N : zR) : Prop := σ b 0 = w ∧ σ b 1 = N m ∧ ∀ i j, 0 ≤ i → i < N m → 0 ≤ j → j < w → σ (b + 1) (5 * i + j) = N (m + 1 + w * i + j)
theorem zRo_fr {σ σ' : zMem} {b : Nat} {w m : Int} {N : zR} (h : σ' b = σ b) (h1 : σ' (b + 1) = σ (b + 1)) (hR : zRo σ b w m N) : zRo σ' b w m N := by
  unfold zRo; rw [h, h1]; exact hR
theorem sp_X1_at {l : Launch} {d : Nat} {σ : zMem} {b : Nat} (hb : zly b = some (1, 3)) {i j : Int} (hi : 0 ≤ i ∧ i < 6) (hj : 0 ≤ j ∧ j < 5)  : zSp l d mX1_at [.ref b, .int (zI i), .int (zI j)] σ (zRi (σ (b + 1) (5 * i + j)) σ) := by
  refine zSp_of oX1_at (Nat.le_of_ble_eq_true rfl) ?_
  show zw l d mX1_at 0 [some (.ref b), some (.int (zI i)), some (.int (zI j))] [] σ _
  refine zw_aload_n 1 dX1_at_0 rfl rfl ?_
  refine zw_getr 4 (b + 1) (o := 1) dX1_at_1 rfl fX1_11 (by decide) rfl rfl hb ?_
  refine zw_iload_n 5 dX1_at_4 rfl rfl ?_
  refine zw_iconst 6 dX1_at_5 rfl ?_
  refine zw_imul 7 dX1_at_6 rfl ?_
  refine zw_iload_n 8 dX1_at_7 rfl rfl ?_
  refine zw_iadd 9 dX1_at_8 rfl ?_
  refine zw_iald 10 dX1_at_9 rfl (zl_sub hb 1 1 rfl rfl) (by omega) ?_
  refine zw_iret dX1_at_10 rfl ?_
  exact ⟨by rw [show i * 5 + j = 5 * i + j by omega], rfl⟩
theorem sp_X1_become {l : Launch} {d : Nat} {σ : zMem} (hd : 1 ≤ d) {a b : Nat} (ha : zly a = some (1, 3)) (hb : zly b = some (1, 3)) (hab : a + 2 ≤ b ∨ b + 2 ≤ a)  : zSp l d mX1_become [.ref a, .ref b] σ (zRv (zwa (zwr σ a 1 (σ b 1)) (a + 1) (zcp (σ (b + 1)) (σ (a + 1)) 30))) := by
  refine zSp_of oX1_become (Nat.le_of_ble_eq_true rfl) ?_
  show zw l d mX1_become 0 [some (.ref a), some (.ref b)] [] σ _
  refine zw_aload_n 1 dX1_become_0 rfl rfl ?_
  refine zw_aload_n 2 dX1_become_1 rfl rfl ?_
  refine zw_gti 5 1 dX1_become_2 rfl fX1_19 (by decide) rfl rfl hb ?_
  refine zw_pti 8 1 dX1_become_5 rfl pX1_19 (by decide) rfl rfl ha ?_
  refine zw_aload_n 9 dX1_become_8 rfl rfl ?_
  refine zw_getr 12 (b + 1) (o := 1) dX1_become_9 rfl fX1_11 (by decide) rfl rfl hb ?_
  refine zw_iconst 13 dX1_become_12 rfl ?_
  refine zw_aload_n 14 dX1_become_13 rfl rfl ?_
  refine zw_getr 17 (a + 1) (o := 1) dX1_become_14 rfl fX1_11 (by decide) rfl rfl ha ?_
  refine zw_iconst 18 dX1_become_17 rfl ?_
  refine zw_bipush 20 dX1_become_18 rfl (by decide) ?_
  refine zw_copy 23 dX1_become_20 rfl kX1_22 (zl_sub hb 1 1 rfl rfl) (zl_sub ha 1 1 rfl rfl) (by omega) rfl (by omega) ?_
  refine zw_vret dX1_become_23 rfl ?_
  refine ⟨rfl, ?_⟩
  simp (disch := omega) only [zwr, zwa_ne]
theorem zRo_become {σ : zMem} {a b : Nat} {w m : Int} {N : zR} (hab : a + 2 ≤ b ∨ b + 2 ≤ a) (hw : σ a 0 = w) (hm : N m ≤ 6) (hw5 : w ≤ 5) (hR : zRo σ b w m N) : zRo (zwa (zwr σ a 1 (σ b 1)) (a + 1) (zcp (σ (b + 1)) (σ (a + 1)) 30)) a w m N := by
  refine ⟨?_, ?_, fun i j h0 h1 h2 h3 => ?_⟩
  · simp (disch := omega) only [zwr, zwa_same, zwa_ne, zup_ne]; exact hw
  · simp (disch := omega) only [zwr, zwa_same, zwa_ne, zup_same]; exact hR.2.1
  · rw [zwa_same]; unfold zcp; rw [if_pos (by omega)]; exact hR.2.2 i j h0 h1 h2 h3
theorem sp_X1_add {l : Launch} {d : Nat} {σ : zMem} {b : Nat} (hb : zly b = some (1, 3)) {v1 v2 v3 v4 v5 : Int} (hk : 0 ≤ σ b 1 ∧ σ b 1 < 6)  : zSp l d mX1_add [.ref b, .int (zI v1), .int (zI v2), .int (zI v3), .int (zI v4), .int (zI v5)] σ (zRv (zwr (zwa σ (b + 1) (zup (zup (zup (zup (zup (σ (b + 1)) (5 * σ b 1) v1) (5 * σ b 1 + 1) v2) (5 * σ b 1 + 2) v3) (5 * σ b 1 + 3) v4) (5 * σ b 1 + 4) v5)) b 1 (σ b 1 + 1))) := by
  refine zSp_of oX1_add (Nat.le_of_ble_eq_true rfl) ?_
  show zw l d mX1_add 0 [some (.ref b), some (.int (zI v1)), some (.int (zI v2)), some (.int (zI v3)), some (.int (zI v4)), some (.int (zI v5)), none] [] σ _
  refine zw_aload_n 1 dX1_add_0 rfl rfl ?_
  refine zw_gti 4 1 dX1_add_1 rfl fX1_19 (by decide) rfl rfl hb ?_
  refine zw_iconst 5 dX1_add_4 rfl ?_
  refine zw_imul 6 dX1_add_5 rfl ?_
  rw [show σ b 1 * 5 = 5 * σ b 1 by omega]
  refine zw_istore 8 dX1_add_6 rfl (by decide) ?_
  refine zw_aload_n 9 dX1_add_8 rfl rfl ?_
  refine zw_getr 12 (b + 1) (o := 1) dX1_add_9 rfl fX1_11 (by decide) rfl rfl hb ?_
  refine zw_iload 14 dX1_add_12 rfl rfl ?_
  refine zw_iload_n 15 dX1_add_14 rfl rfl ?_
  refine zw_iast 16 dX1_add_15 rfl (zl_sub hb 1 1 rfl rfl) (by omega) ?_
  rw [zwr]
  refine zw_aload_n 17 dX1_add_16 rfl rfl ?_
  refine zw_getr 20 (b + 1) (o := 1) dX1_add_17 rfl fX1_11 (by decide) rfl rfl hb ?_
  refine zw_iload 22 dX1_add_20 rfl rfl ?_
  refine zw_iconst 23 dX1_add_22 rfl ?_
  refine zw_iadd 24 dX1_add_23 rfl ?_
  refine zw_iload_n 25 dX1_add_24 rfl rfl ?_
  refine zw_iast 26 dX1_add_25 rfl (zl_sub hb 1 1 rfl rfl) (by omega) ?_
  rw [zwr_wa]
  refine zw_aload_n 27 dX1_add_26 rfl rfl ?_
  refine zw_getr 30 (b + 1) (o := 1) dX1_add_27 rfl fX1_11 (by decide) rfl rfl hb ?_
  refine zw_iload 32 dX1_add_30 rfl rfl ?_
  refine zw_iconst 33 dX1_add_32 rfl ?_
  refine zw_iadd 34 dX1_add_33 rfl ?_
  refine zw_iload_n 35 dX1_add_34 rfl rfl ?_
  refine zw_iast 36 dX1_add_35 rfl (zl_sub hb 1 1 rfl rfl) (by omega) ?_
  rw [zwr_wa]
  refine zw_aload_n 37 dX1_add_36 rfl rfl ?_
  refine zw_getr 40 (b + 1) (o := 1) dX1_add_37 rfl fX1_11 (by decide) rfl rfl hb ?_
  refine zw_iload 42 dX1_add_40 rfl rfl ?_
  refine zw_iconst 43 dX1_add_42 rfl ?_
  refine zw_iadd 44 dX1_add_43 rfl ?_
  refine zw_iload 46 dX1_add_44 rfl rfl ?_
  refine zw_iast 47 dX1_add_46 rfl (zl_sub hb 1 1 rfl rfl) (by omega) ?_
  rw [zwr_wa]
  refine zw_aload_n 48 dX1_add_47 rfl rfl ?_
  refine zw_getr 51 (b + 1) (o := 1) dX1_add_48 rfl fX1_11 (by decide) rfl rfl hb ?_
  refine zw_iload 53 dX1_add_51 rfl rfl ?_
  refine zw_iconst 54 dX1_add_53 rfl ?_
  refine zw_iadd 55 dX1_add_54 rfl ?_
  refine zw_iload 57 dX1_add_55 rfl rfl ?_
  refine zw_iast 58 dX1_add_57 rfl (zl_sub hb 1 1 rfl rfl) (by omega) ?_
  rw [zwr_wa]
  refine zw_aload_n 59 dX1_add_58 rfl rfl ?_
  refine zw_dup 60 dX1_add_59 rfl rfl ?_
  refine zw_gti 63 1 dX1_add_60 rfl fX1_19 (by decide) rfl rfl hb ?_
  rw [zwa_ne _ _ (by omega)]
  refine zw_iconst 64 dX1_add_63 rfl ?_
  refine zw_iadd 65 dX1_add_64 rfl ?_
  refine zw_pti 68 1 dX1_add_65 rfl pX1_19 (by decide) rfl rfl hb ?_
  refine zw_vret dX1_add_68 rfl ?_
  exact ⟨rfl, rfl⟩
theorem lp_X1_mix_3_i {l : Launch} {d : Nat} {σ : zMem} (hd : 1 ≤ d) {b : Nat} (hb : zly b = some (1, 3)) {m : Int} {N : zR} (hR : zRo σ b 3 m N) (hN : 0 ≤ N m ∧ N m ≤ 6) (hB : ∀ x, 0 ≤ x → x < 3 * N m → -2147483648 ≤ N (m + 1 + x) ∧ N (m + 1 + x) < 2147483648) {h : Int} {i : Int} (hi : 0 ≤ i ∧ i < N m) (kk : zw l d mX1_mix 5 [some (.ref b), some (.long (zL h)), none, some (.long (zL ((zdg N (m + 1) (3 * (i + 1)).toNat h)))), none, some (.int (zI (i + 1))), none] [] σ (zRl (zdg N (m + 1) (3 * N m).toNat h) σ)) : ∀ (mm : Nat) (j : Int), j + mm = 3 → 0 ≤ j → zw l d mX1_mix 17 [some (.ref b), some (.long (zL h)), none, some (.long (zL ((zdg N (m + 1) (3 * i + j).toNat h)))), none, some (.int (zI i)), some (.int (zI j))] [] σ (zRl (zdg N (m + 1) (3 * N m).toNat h) σ) := by
  intro mm
  induction mm with
  | zero =>
    intro j hk hk0
    obtain rfl : j = 3 := by omega
    have hw := hR.1
    rw [show 3 * i + 3 = 3 * (i + 1) by omega]
    refine zw_iload 19 dX1_mix_17 rfl rfl ?_
    refine zw_aload_n 20 dX1_mix_19 rfl rfl ?_
    refine zw_gti 23 0 dX1_mix_20 rfl fX1_15 (by decide) rfl rfl hb ?_
    rw [hw]
    refine zw_icmp_ge 48 26 dX1_mix_23 (by decide) rfl (by omega) (by omega) (fun h23 => ?_) (fun h23 => ?_)
    · refine zw_iinc 51 dX1_mix_48 rfl (by decide) rfl ?_
      refine zw_goto 5 dX1_mix_51 (by decide) ?_
      refine zw_loc [true, true, false, true, false, true, false] rfl ?_
      exact kk
    · exfalso; omega
  | succ mm ih =>
    intro j hk hk0
    have hw := hR.1
    have hv := hR.2.2 i j hi.1 hi.2 hk0 (by omega)
    have hb2 := hB (3 * i + j) (by omega) (by omega)
    rw [show m + 1 + (3 * i + j) = m + 1 + 3 * i + j by omega] at hb2
    have ih2 := ih (j + 1) (by omega) (by omega)
    rw [show 3 * i + (j + 1) = (3 * i + j) + 1 by omega, zdg_s _ _ _ (by omega), show m + 1 + (3 * i + j) = m + 1 + 3 * i + j by omega] at ih2
    refine zw_iload 19 dX1_mix_17 rfl rfl ?_
    refine zw_aload_n 20 dX1_mix_19 rfl rfl ?_
    refine zw_gti 23 0 dX1_mix_20 rfl fX1_15 (by decide) rfl rfl hb ?_
    rw [hw]
    refine zw_icmp_ge 48 26 dX1_mix_23 (by decide) rfl (by omega) (by omega) (fun h23 => ?_) (fun h23 => ?_)
    · exfalso; omega
    · refine zw_ldc2 29 (31) dX1_mix_26 rfl cX1_28 ?_
      refine zw_lload_n 30 dX1_mix_29 rfl rfl ?_
      refine zw_lmul 31 dX1_mix_30 rfl ?_
      refine zw_aload_n 32 dX1_mix_31 rfl rfl ?_
      refine zw_iload 34 dX1_mix_32 rfl rfl ?_
      refine zw_iload 36 dX1_mix_34 rfl rfl ?_
      refine zw_callV 39 _ _ dX1_mix_36 rfl kX1_30 qX1_at hb ⟨_, rfl, rfl⟩ (by decide) (sp_X1_at (d := d - 1) hb (i := i) (j := j) (by omega) (by omega)) (by omega) rfl rfl (Nat.le_of_ble_eq_true rfl) (fun r σ' hq => ?_)
      obtain ⟨rfl, rfl⟩ := hq
      rw [hv]
      refine zw_i2l 40 dX1_mix_39 rfl (by omega) ?_
      refine zw_ladd 41 dX1_mix_40 rfl ?_
      refine zw_lstore_n 42 dX1_mix_41 rfl (by decide) ?_
      refine zw_iinc 45 dX1_mix_42 rfl (by decide) rfl ?_
      refine zw_goto 17 dX1_mix_45 (by decide) ?_
      refine zw_loc [true, true, false, true, false, true, true] rfl ?_
      exact ih2
theorem lp_X1_mix_3_o {l : Launch} {d : Nat} {σ : zMem} (hd : 1 ≤ d) {b : Nat} (hb : zly b = some (1, 3)) {m : Int} {N : zR} (hR : zRo σ b 3 m N) (hN : 0 ≤ N m ∧ N m ≤ 6) (hB : ∀ x, 0 ≤ x → x < 3 * N m → -2147483648 ≤ N (m + 1 + x) ∧ N (m + 1 + x) < 2147483648) {h : Int} : ∀ (mm : Nat) (i : Int), i + mm = N m → 0 ≤ i → zw l d mX1_mix 5 [some (.ref b), some (.long (zL h)), none, some (.long (zL ((zdg N (m + 1) (3 * i).toNat h)))), none, some (.int (zI i)), none] [] σ (zRl (zdg N (m + 1) (3 * N m).toNat h) σ) := by
  intro mm
  induction mm with
  | zero =>
    intro i hk hk0
    obtain rfl : i = N m := by omega
    have hw := hR.2.1
    refine zw_iload 7 dX1_mix_5 rfl rfl ?_
    refine zw_aload_n 8 dX1_mix_7 rfl rfl ?_
    refine zw_gti 11 1 dX1_mix_8 rfl fX1_19 (by decide) rfl rfl hb ?_
    rw [hw]
    refine zw_icmp_ge 54 14 dX1_mix_11 (by decide) rfl (by omega) (by omega) (fun h11 => ?_) (fun h11 => ?_)
    · refine zw_lload_n 55 dX1_mix_54 rfl rfl ?_
      refine zw_lret dX1_mix_55 rfl ?_
      exact ⟨rfl, rfl⟩
    · exfalso; omega
  | succ mm ih =>
    intro i hk hk0
    have hw := hR.2.1
    have h2 := lp_X1_mix_3_i hd hb hR hN hB (h := h) (i := i) (by omega) (ih (i + 1) (by omega) (by omega)) 3 0 (by omega) (by omega)
    rw [Int.add_zero] at h2
    refine zw_iload 7 dX1_mix_5 rfl rfl ?_
    refine zw_aload_n 8 dX1_mix_7 rfl rfl ?_
    refine zw_gti 11 1 dX1_mix_8 rfl fX1_19 (by decide) rfl rfl hb ?_
    rw [hw]
    refine zw_icmp_ge 54 14 dX1_mix_11 (by decide) rfl (by omega) (by omega) (fun h11 => ?_) (fun h11 => ?_)
    · exfalso; omega
    · refine zw_iconst 15 dX1_mix_14 rfl ?_
      refine zw_istore 17 dX1_mix_15 rfl (by decide) ?_
      exact h2
theorem sp_X1_mix_3 {l : Launch} {d : Nat} {σ : zMem} (hd : 1 ≤ d) {b : Nat} (hb : zly b = some (1, 3)) {m : Int} {N : zR} (hR : zRo σ b 3 m N) (hN : 0 ≤ N m ∧ N m ≤ 6) (hB : ∀ x, 0 ≤ x → x < 3 * N m → -2147483648 ≤ N (m + 1 + x) ∧ N (m + 1 + x) < 2147483648) {h : Int}  : zSp l d mX1_mix [.ref b, .long (zL h)] σ (zRl (zdg N (m + 1) (3 * N m).toNat h) σ) := by
  refine zSp_of oX1_mix (Nat.le_of_ble_eq_true rfl) ?_
  show zw l d mX1_mix 0 [some (.ref b), some (.long (zL h)), none, none, none, none, none] [] σ _
  have h2 := lp_X1_mix_3_o (l := l) hd hb hR hN hB (h := h) (N m).toNat 0 (by omega) (by omega)
  rw [show (3 * (0 : Int)).toNat = 0 from rfl] at h2
  refine zw_lload_n 1 dX1_mix_0 rfl rfl ?_
  refine zw_lstore_n 2 dX1_mix_1 rfl (by decide) ?_
  refine zw_iconst 3 dX1_mix_2 rfl ?_
  refine zw_istore 5 dX1_mix_3 rfl (by decide) ?_
  exact h2
theorem lp_X1_mix_4_i {l : Launch} {d : Nat} {σ : zMem} (hd : 1 ≤ d) {b : Nat} (hb : zly b = some (1, 3)) {m : Int} {N : zR} (hR : zRo σ b 4 m N) (hN : 0 ≤ N m ∧ N m ≤ 6) (hB : ∀ x, 0 ≤ x → x < 4 * N m → -2147483648 ≤ N (m + 1 + x) ∧ N (m + 1 + x) < 2147483648) {h : Int} {i : Int} (hi : 0 ≤ i ∧ i < N m) (kk : zw l d mX1_mix 5 [some (.ref b), some (.long (zL h)), none, some (.long (zL ((zdg N (m + 1) (4 * (i + 1)).toNat h)))), none, some (.int (zI (i + 1))), none] [] σ (zRl (zdg N (m + 1) (4 * N m).toNat h) σ)) : ∀ (mm : Nat) (j : Int), j + mm = 4 → 0 ≤ j → zw l d mX1_mix 17 [some (.ref b), some (.long (zL h)), none, some (.long (zL ((zdg N (m + 1) (4 * i + j).toNat h)))), none, some (.int (zI i)), some (.int (zI j))] [] σ (zRl (zdg N (m + 1) (4 * N m).toNat h) σ) := by
  intro mm
  induction mm with
  | zero =>
    intro j hk hk0
    obtain rfl : j = 4 := by omega
    have hw := hR.1
    rw [show 4 * i + 4 = 4 * (i + 1) by omega]
    refine zw_iload 19 dX1_mix_17 rfl rfl ?_
    refine zw_aload_n 20 dX1_mix_19 rfl rfl ?_
    refine zw_gti 23 0 dX1_mix_20 rfl fX1_15 (by decide) rfl rfl hb ?_
    rw [hw]
    refine zw_icmp_ge 48 26 dX1_mix_23 (by decide) rfl (by omega) (by omega) (fun h23 => ?_) (fun h23 => ?_)
    · refine zw_iinc 51 dX1_mix_48 rfl (by decide) rfl ?_
      refine zw_goto 5 dX1_mix_51 (by decide) ?_
      refine zw_loc [true, true, false, true, false, true, false] rfl ?_
      exact kk
    · exfalso; omega
  | succ mm ih =>
    intro j hk hk0
    have hw := hR.1
    have hv := hR.2.2 i j hi.1 hi.2 hk0 (by omega)
    have hb2 := hB (4 * i + j) (by omega) (by omega)
    rw [show m + 1 + (4 * i + j) = m + 1 + 4 * i + j by omega] at hb2
    have ih2 := ih (j + 1) (by omega) (by omega)
    rw [show 4 * i + (j + 1) = (4 * i + j) + 1 by omega, zdg_s _ _ _ (by omega), show m + 1 + (4 * i + j) = m + 1 + 4 * i + j by omega] at ih2
    refine zw_iload 19 dX1_mix_17 rfl rfl ?_
    refine zw_aload_n 20 dX1_mix_19 rfl rfl ?_
    refine zw_gti 23 0 dX1_mix_20 rfl fX1_15 (by decide) rfl rfl hb ?_
    rw [hw]
    refine zw_icmp_ge 48 26 dX1_mix_23 (by decide) rfl (by omega) (by omega) (fun h23 => ?_) (fun h23 => ?_)
    · exfalso; omega
    · refine zw_ldc2 29 (31) dX1_mix_26 rfl cX1_28 ?_
      refine zw_lload_n 30 dX1_mix_29 rfl rfl ?_
      refine zw_lmul 31 dX1_mix_30 rfl ?_
      refine zw_aload_n 32 dX1_mix_31 rfl rfl ?_
      refine zw_iload 34 dX1_mix_32 rfl rfl ?_
      refine zw_iload 36 dX1_mix_34 rfl rfl ?_
      refine zw_callV 39 _ _ dX1_mix_36 rfl kX1_30 qX1_at hb ⟨_, rfl, rfl⟩ (by decide) (sp_X1_at (d := d - 1) hb (i := i) (j := j) (by omega) (by omega)) (by omega) rfl rfl (Nat.le_of_ble_eq_true rfl) (fun r σ' hq => ?_)
      obtain ⟨rfl, rfl⟩ := hq
      rw [hv]
      refine zw_i2l 40 dX1_mix_39 rfl (by omega) ?_
      refine zw_ladd 41 dX1_mix_40 rfl ?_
      refine zw_lstore_n 42 dX1_mix_41 rfl (by decide) ?_
      refine zw_iinc 45 dX1_mix_42 rfl (by decide) rfl ?_
      refine zw_goto 17 dX1_mix_45 (by decide) ?_
      refine zw_loc [true, true, false, true, false, true, true] rfl ?_
      exact ih2
theorem lp_X1_mix_4_o {l : Launch} {d : Nat} {σ : zMem} (hd : 1 ≤ d) {b : Nat} (hb : zly b = some (1, 3)) {m : Int} {N : zR} (hR : zRo σ b 4 m N) (hN : 0 ≤ N m ∧ N m ≤ 6) (hB : ∀ x, 0 ≤ x → x < 4 * N m → -2147483648 ≤ N (m + 1 + x) ∧ N (m + 1 + x) < 2147483648) {h : Int} : ∀ (mm : Nat) (i : Int), i + mm = N m → 0 ≤ i → zw l d mX1_mix 5 [some (.ref b), some (.long (zL h)), none, some (.long (zL ((zdg N (m + 1) (4 * i).toNat h)))), none, some (.int (zI i)), none] [] σ (zRl (zdg N (m + 1) (4 * N m).toNat h) σ) := by
  intro mm
  induction mm with
  | zero =>
    intro i hk hk0
    obtain rfl : i = N m := by omega
    have hw := hR.2.1
    refine zw_iload 7 dX1_mix_5 rfl rfl ?_
    refine zw_aload_n 8 dX1_mix_7 rfl rfl ?_
    refine zw_gti 11 1 dX1_mix_8 rfl fX1_19 (by decide) rfl rfl hb ?_
    rw [hw]
    refine zw_icmp_ge 54 14 dX1_mix_11 (by decide) rfl (by omega) (by omega) (fun h11 => ?_) (fun h11 => ?_)
    · refine zw_lload_n 55 dX1_mix_54 rfl rfl ?_
      refine zw_lret dX1_mix_55 rfl ?_
      exact ⟨rfl, rfl⟩
    · exfalso; omega
  | succ mm ih =>
    intro i hk hk0
    have hw := hR.2.1
    have h2 := lp_X1_mix_4_i hd hb hR hN hB (h := h) (i := i) (by omega) (ih (i + 1) (by omega) (by omega)) 4 0 (by omega) (by omega)
    rw [Int.add_zero] at h2
    refine zw_iload 7 dX1_mix_5 rfl rfl ?_
    refine zw_aload_n 8 dX1_mix_7 rfl rfl ?_
    refine zw_gti 11 1 dX1_mix_8 rfl fX1_19 (by decide) rfl rfl hb ?_
    rw [hw]
    refine zw_icmp_ge 54 14 dX1_mix_11 (by decide) rfl (by omega) (by omega) (fun h11 => ?_) (fun h11 => ?_)
    · exfalso; omega
    · refine zw_iconst 15 dX1_mix_14 rfl ?_
      refine zw_istore 17 dX1_mix_15 rfl (by decide) ?_
      exact h2
theorem sp_X1_mix_4 {l : Launch} {d : Nat} {σ : zMem} (hd : 1 ≤ d) {b : Nat} (hb : zly b = some (1, 3)) {m : Int} {N : zR} (hR : zRo σ b 4 m N) (hN : 0 ≤ N m ∧ N m ≤ 6) (hB : ∀ x, 0 ≤ x → x < 4 * N m → -2147483648 ≤ N (m + 1 + x) ∧ N (m + 1 + x) < 2147483648) {h : Int}  : zSp l d mX1_mix [.ref b, .long (zL h)] σ (zRl (zdg N (m + 1) (4 * N m).toNat h) σ) := by
  refine zSp_of oX1_mix (Nat.le_of_ble_eq_true rfl) ?_
  show zw l d mX1_mix 0 [some (.ref b), some (.long (zL h)), none, none, none, none, none] [] σ _
  have h2 := lp_X1_mix_4_o (l := l) hd hb hR hN hB (h := h) (N m).toNat 0 (by omega) (by omega)
  rw [show (4 * (0 : Int)).toNat = 0 from rfl] at h2
  refine zw_lload_n 1 dX1_mix_0 rfl rfl ?_
  refine zw_lstore_n 2 dX1_mix_1 rfl (by decide) ?_
  refine zw_iconst 3 dX1_mix_2 rfl ?_
  refine zw_istore 5 dX1_mix_3 rfl (by decide) ?_
  exact h2
theorem lp_X1_mix_5_i {l : Launch} {d : Nat} {σ : zMem} (hd : 1 ≤ d) {b : Nat} (hb : zly b = some (1, 3)) {m : Int} {N : zR} (hR : zRo σ b 5 m N) (hN : 0 ≤ N m ∧ N m ≤ 6) (hB : ∀ x, 0 ≤ x → x < 5 * N m → -2147483648 ≤ N (m + 1 + x) ∧ N (m + 1 + x) < 2147483648) {h : Int} {i : Int} (hi : 0 ≤ i ∧ i < N m) (kk : zw l d mX1_mix 5 [some (.ref b), some (.long (zL h)), none, some (.long (zL ((zdg N (m + 1) (5 * (i + 1)).toNat h)))), none, some (.int (zI (i + 1))), none] [] σ (zRl (zdg N (m + 1) (5 * N m).toNat h) σ)) : ∀ (mm : Nat) (j : Int), j + mm = 5 → 0 ≤ j → zw l d mX1_mix 17 [some (.ref b), some (.long (zL h)), none, some (.long (zL ((zdg N (m + 1) (5 * i + j).toNat h)))), none, some (.int (zI i)), some (.int (zI j))] [] σ (zRl (zdg N (m + 1) (5 * N m).toNat h) σ) := by
  intro mm
  induction mm with
  | zero =>
    intro j hk hk0
    obtain rfl : j = 5 := by omega
    have hw := hR.1
    rw [show 5 * i + 5 = 5 * (i + 1) by omega]
    refine zw_iload 19 dX1_mix_17 rfl rfl ?_
    refine zw_aload_n 20 dX1_mix_19 rfl rfl ?_
    refine zw_gti 23 0 dX1_mix_20 rfl fX1_15 (by decide) rfl rfl hb ?_
    rw [hw]
    refine zw_icmp_ge 48 26 dX1_mix_23 (by decide) rfl (by omega) (by omega) (fun h23 => ?_) (fun h23 => ?_)
    · refine zw_iinc 51 dX1_mix_48 rfl (by decide) rfl ?_
      refine zw_goto 5 dX1_mix_51 (by decide) ?_
      refine zw_loc [true, true, false, true, false, true, false] rfl ?_
      exact kk
    · exfalso; omega
  | succ mm ih =>
    intro j hk hk0
    have hw := hR.1
    have hv := hR.2.2 i j hi.1 hi.2 hk0 (by omega)
    have hb2 := hB (5 * i + j) (by omega) (by omega)
    rw [show m + 1 + (5 * i + j) = m + 1 + 5 * i + j by omega] at hb2
    have ih2 := ih (j + 1) (by omega) (by omega)
    rw [show 5 * i + (j + 1) = (5 * i + j) + 1 by omega, zdg_s _ _ _ (by omega), show m + 1 + (5 * i + j) = m + 1 + 5 * i + j by omega] at ih2
    refine zw_iload 19 dX1_mix_17 rfl rfl ?_
    refine zw_aload_n 20 dX1_mix_19 rfl rfl ?_
    refine zw_gti 23 0 dX1_mix_20 rfl fX1_15 (by decide) rfl rfl hb ?_
    rw [hw]
    refine zw_icmp_ge 48 26 dX1_mix_23 (by decide) rfl (by omega) (by omega) (fun h23 => ?_) (fun h23 => ?_)
    · exfalso; omega
    · refine zw_ldc2 29 (31) dX1_mix_26 rfl cX1_28 ?_
      refine zw_lload_n 30 dX1_mix_29 rfl rfl ?_
      refine zw_lmul 31 dX1_mix_30 rfl ?_
      refine zw_aload_n 32 dX1_mix_31 rfl rfl ?_
      refine zw_iload 34 dX1_mix_32 rfl rfl ?_
      refine zw_iload 36 dX1_mix_34 rfl rfl ?_
      refine zw_callV 39 _ _ dX1_mix_36 rfl kX1_30 qX1_at hb ⟨_, rfl, rfl⟩ (by decide) (sp_X1_at (d := d - 1) hb (i := i) (j := j) (by omega) (by omega)) (by omega) rfl rfl (Nat.le_of_ble_eq_true rfl) (fun r σ' hq => ?_)
      obtain ⟨rfl, rfl⟩ := hq
      rw [hv]
      refine zw_i2l 40 dX1_mix_39 rfl (by omega) ?_
      refine zw_ladd 41 dX1_mix_40 rfl ?_
      refine zw_lstore_n 42 dX1_mix_41 rfl (by decide) ?_
      refine zw_iinc 45 dX1_mix_42 rfl (by decide) rfl ?_
      refine zw_goto 17 dX1_mix_45 (by decide) ?_
      refine zw_loc [true, true, false, true, false, true, true] rfl ?_
      exact ih2
theorem lp_X1_mix_5_o {l : Launch} {d : Nat} {σ : zMem} (hd : 1 ≤ d) {b : Nat} (hb : zly b = some (1, 3)) {m : Int} {N : zR} (hR : zRo σ b 5 m N) (hN : 0 ≤ N m ∧ N m ≤ 6) (hB : ∀ x, 0 ≤ x → x < 5 * N m → -2147483648 ≤ N (m + 1 + x) ∧ N (m + 1 + x) < 2147483648) {h : Int} : ∀ (mm : Nat) (i : Int), i + mm = N m → 0 ≤ i → zw l d mX1_mix 5 [some (.ref b), some (.long (zL h)), none, some (.long (zL ((zdg N (m + 1) (5 * i).toNat h)))), none, some (.int (zI i)), none] [] σ (zRl (zdg N (m + 1) (5 * N m).toNat h) σ) := by
  intro mm
  induction mm with
  | zero =>
    intro i hk hk0
    obtain rfl : i = N m := by omega
    have hw := hR.2.1
    refine zw_iload 7 dX1_mix_5 rfl rfl ?_
    refine zw_aload_n 8 dX1_mix_7 rfl rfl ?_
    refine zw_gti 11 1 dX1_mix_8 rfl fX1_19 (by decide) rfl rfl hb ?_
    rw [hw]
    refine zw_icmp_ge 54 14 dX1_mix_11 (by decide) rfl (by omega) (by omega) (fun h11 => ?_) (fun h11 => ?_)
    · refine zw_lload_n 55 dX1_mix_54 rfl rfl ?_
      refine zw_lret dX1_mix_55 rfl ?_
      exact ⟨rfl, rfl⟩
    · exfalso; omega
  | succ mm ih =>
    intro i hk hk0
    have hw := hR.2.1
    have h2 := lp_X1_mix_5_i hd hb hR hN hB (h := h) (i := i) (by omega) (ih (i + 1) (by omega) (by omega)) 5 0 (by omega) (by omega)
    rw [Int.add_zero] at h2
    refine zw_iload 7 dX1_mix_5 rfl rfl ?_
    refine zw_aload_n 8 dX1_mix_7 rfl rfl ?_
    refine zw_gti 11 1 dX1_mix_8 rfl fX1_19 (by decide) rfl rfl hb ?_
    rw [hw]
    refine zw_icmp_ge 54 14 dX1_mix_11 (by decide) rfl (by omega) (by omega) (fun h11 => ?_) (fun h11 => ?_)
    · exfalso; omega
    · refine zw_iconst 15 dX1_mix_14 rfl ?_
      refine zw_istore 17 dX1_mix_15 rfl (by decide) ?_
      exact h2
theorem sp_X1_mix_5 {l : Launch} {d : Nat} {σ : zMem} (hd : 1 ≤ d) {b : Nat} (hb : zly b = some (1, 3)) {m : Int} {N : zR} (hR : zRo σ b 5 m N) (hN : 0 ≤ N m ∧ N m ≤ 6) (hB : ∀ x, 0 ≤ x → x < 5 * N m → -2147483648 ≤ N (m + 1 + x) ∧ N (m + 1 + x) < 2147483648) {h : Int}  : zSp l d mX1_mix [.ref b, .long (zL h)] σ (zRl (zdg N (m + 1) (5 * N m).toNat h) σ) := by
  refine zSp_of oX1_mix (Nat.le_of_ble_eq_true rfl) ?_
  show zw l d mX1_mix 0 [some (.ref b), some (.long (zL h)), none, none, none, none, none] [] σ _
  have h2 := lp_X1_mix_5_o (l := l) hd hb hR hN hB (h := h) (N m).toNat 0 (by omega) (by omega)
  rw [show (5 * (0 : Int)).toNat = 0 from rfl] at h2
  refine zw_lload_n 1 dX1_mix_0 rfl rfl ?_
  refine zw_lstore_n 2 dX1_mix_1 rfl (by decide) ?_
  refine zw_iconst 3 dX1_mix_2 rfl ?_
  refine zw_istore 5 dX1_mix_3 rfl (by decide) ?_
  exact h2
