theorem zr1_eq (N : zR) {j : Int} (h : j < 134) : zr1 N j = N j := by
  unfold zr1
  split
  · rw [zup_ne _ _ (by omega)]; exact if_neg (by omega)
  · rfl
theorem zr1_134 (N : zR) (h : 0 ≤ N 134 ∧ N 134 ≤ 8) : zr1 N 134 = if N 134 = 8 then 7 else N 134 := by
  unfold zr1
  split
  · rename_i e; rw [zup_same, e]; rfl
  · rfl
theorem zrem_lo (N : zR) (h : 0 ≤ N 134 ∧ N 134 ≤ 8) {j : Int} (hj : j < 134) : zrem N j = N j := by
  have := zr1_134 N h
  unfold zrem
  rw [zup_ne _ _ (by omega)]
  unfold zcy
  rw [if_neg (by omega), zr1_eq N hj]
def zsw (t : zR) (a b : Int) : zR := zup (zup t a (t b)) b (t a)
/-- years, so many, but none beyond 999 -/
def zyl : Nat → zR → zR
  | 0, T => T
  | n + 1, T => zyl n (if T 32 < 999 then zyr T T else T)
theorem zyl_end : ∀ (n : Nat) (T : zR), 999 ≤ T 32 → zyl n T = T
  | 0, _, _ => rfl
  | n + 1, T, h => by rw [zyl, if_neg (by omega), zyl_end n T h]
/-- what a year of the chapter itself keeps -/
def zVT (T : zR) : Prop := zVs T ∧ zVr T T ∧ 0 ≤ T 32 ∧ T 32 ≤ 999
theorem zVT_y {T : zR} (h : zVT T) (h2 : T 32 < 999) : zVT (zyr T T) := by
  have e : ∀ i, 33 ≤ i → zyr T T i = T i := fun i hi => zyr_hi h.1 h.2.1 (Or.inl hi)
  refine ⟨zVs_congr e h.1, zVr_congr e (zyr_V h.1 h.2.1), ?_⟩
  rw [zyr_32 h.1 h.2.1]
  have := h.2.2
  omega
theorem zVT_lo {N N' : zR} (e : ∀ i, i < 134 → N' i = N i) (h : zVT N) : zVT N' := by
  obtain ⟨hs, hv, hy⟩ := h
  refine ⟨⟨by rw [e 33 (by omega)]; exact hs.1, by rw [e 48 (by omega)]; exact hs.2.1, fun s h0 h1 => ?_, fun c h0 h1 => ?_⟩, ?_, by rw [e 32 (by omega)]; exact hy⟩
  · rw [e (34 + s) (by omega), e (41 + s) (by omega)]; exact hs.2.2.1 s h0 h1
  · rw [e (49 + c) (by omega), e (54 + c) (by omega)]; exact hs.2.2.2 c h0 h1
  · have h2 : zVr N N' := zVr_ag (fun j a b => (e j (by omega)).symm) hv
    unfold zVr
    rw [e 33 (by omega), e 48 (by omega)]
    exact h2
theorem tl_X6_remember {l : Launch} {d : Nat} {σ : zMem} (hd : 2 ≤ d) (hu : 0 ≤ σ 218 134 ∧ σ 218 134 ≤ 7) : zw l d mX6_remember 63 [some (.ref 217), none] [] σ (zRv (zwa σ 218 (zup (zcy (σ 218) (σ 218) 0 (135 + 33 * σ 218 134) 33) 134 (σ 218 134 + 1)))) := by
  refine zw_aload_n 64 dX6_remember_63 rfl rfl ?_
  refine zw_getr 67 (218) (o := 1) dX6_remember_64 rfl fX6_7 (by decide) rfl rfl ly217 ?_
  refine zw_iconst 68 dX6_remember_67 rfl ?_
  refine zw_aload_n 69 dX6_remember_68 rfl rfl ?_
  refine zw_getr 72 (218) (o := 1) dX6_remember_69 rfl fX6_7 (by decide) rfl rfl ly217 ?_
  refine zw_sipush 75 dX6_remember_72 rfl (by decide) ?_
  refine zw_bipush 77 dX6_remember_75 rfl (by decide) ?_
  refine zw_aload_n 78 dX6_remember_77 rfl rfl ?_
  refine zw_getr 81 (218) (o := 1) dX6_remember_78 rfl fX6_7 (by decide) rfl rfl ly217 ?_
  refine zw_sipush 84 dX6_remember_81 rfl (by decide) ?_
  refine zw_iald 85 dX6_remember_84 rfl ly218 (by omega) ?_
  refine zw_imul 86 dX6_remember_85 rfl ?_
  refine zw_iadd 87 dX6_remember_86 rfl ?_
  refine zw_bipush 89 dX6_remember_87 rfl (by decide) ?_
  refine zw_callS 92 _ _ dX6_remember_89 rfl kX6_82 qX6_copies (sp_X6_copies (d := d - 1) ly218 ly218 (by omega) (by omega) (by omega) (Or.inr (by omega)) (by decide) (by decide)) (by omega) rfl rfl (Nat.le_of_ble_eq_true rfl) (fun r σ' hq => ?_)
  obtain ⟨rfl, rfl⟩ := hq
  refine zw_aload_n 93 dX6_remember_92 rfl rfl ?_
  refine zw_getr 96 (218) (o := 1) dX6_remember_93 rfl fX6_7 (by decide) rfl rfl ly217 ?_
  refine zw_sipush 99 dX6_remember_96 rfl (by decide) ?_
  refine zw_dup2_11 100 dX6_remember_99 rfl rfl rfl ?_
  refine zw_iald 101 dX6_remember_100 rfl ly218 (by omega) ?_
  refine zw_iconst 102 dX6_remember_101 rfl ?_
  refine zw_iadd 103 dX6_remember_102 rfl ?_
  refine zw_iast 104 dX6_remember_103 rfl ly218 (by omega) ?_
  simp only [zwr, zwa_same, zwa_twice]
  refine zw_vret dX6_remember_104 rfl ?_
  have e0 : zcy (σ 218) (σ 218) 0 (135 + 33 * σ 218 134) 33 134 = σ 218 134 := if_neg (by omega)
  rw [e0]
  exact ⟨rfl, rfl⟩
theorem lp_X6_remember {l : Launch} {d : Nat} {σ : zMem} (hd : 2 ≤ d) (hu : 0 ≤ σ 218 134 ∧ σ 218 134 ≤ 8) (h8 : σ 218 134 = 8) : ∀ (m : Nat) (k : Int), k + m = 231 → 0 ≤ k → zw l d mX6_remember 15 [some (.ref 217), some (.int (zI k))] [] (zwa σ 218 (zsf (σ 218) k)) (zRv (zwa σ 218 (zrem (σ 218)))) := by
  intro m
  induction m with
  | zero =>
    intro k hk hk0
    refine zw_iload_n 16 dX6_remember_15 rfl rfl ?_
    refine zw_sipush 19 dX6_remember_16 rfl (by decide) ?_
    refine zw_icmp_ge 51 22 dX6_remember_19 (by decide) rfl (by omega) (by omega) (fun h19 => ?_) (fun h19 => ?_)
    · refine zw_aload_n 52 dX6_remember_51 rfl rfl ?_
      refine zw_getr 55 (218) (o := 1) dX6_remember_52 rfl fX6_7 (by decide) rfl rfl ly217 ?_
      refine zw_sipush 58 dX6_remember_55 rfl (by decide) ?_
      refine zw_dup2_11 59 dX6_remember_58 rfl rfl rfl ?_
      refine zw_iald 60 dX6_remember_59 rfl ly218 (by omega) ?_
      refine zw_iconst 61 dX6_remember_60 rfl ?_
      refine zw_isub 62 dX6_remember_61 rfl ?_
      refine zw_iast 63 dX6_remember_62 rfl ly218 (by omega) ?_
      simp only [zwr, zwa_same, zwa_twice]
      obtain rfl : k = 231 := by omega
      have e2 : zsf (σ 218) 231 134 = σ 218 134 := if_neg (by omega)
      have e3 : zup (zsf (σ 218) 231) 134 (zsf (σ 218) 231 134 - 1) = zr1 (σ 218) := by
        rw [e2]; exact (if_pos h8).symm
      rw [e3]
      have e4 := zr1_134 (σ 218) hu
      rw [if_pos h8] at e4
      have h := tl_X6_remember (l := l) (d := d) (σ := zwa σ 218 (zr1 (σ 218))) hd (by rw [zwa_same]; omega)
      rw [zwa_same, zwa_twice] at h
      exact zw_loc [true, false] rfl h
    · exfalso; omega
  | succ m ih =>
    intro k hk hk0
    refine zw_iload_n 16 dX6_remember_15 rfl rfl ?_
    refine zw_sipush 19 dX6_remember_16 rfl (by decide) ?_
    refine zw_icmp_ge 51 22 dX6_remember_19 (by decide) rfl (by omega) (by omega) (fun h19 => ?_) (fun h19 => ?_)
    · refine zw_aload_n 52 dX6_remember_51 rfl rfl ?_
      refine zw_getr 55 (218) (o := 1) dX6_remember_52 rfl fX6_7 (by decide) rfl rfl ly217 ?_
      refine zw_sipush 58 dX6_remember_55 rfl (by decide) ?_
      refine zw_dup2_11 59 dX6_remember_58 rfl rfl rfl ?_
      refine zw_iald 60 dX6_remember_59 rfl ly218 (by omega) ?_
      refine zw_iconst 61 dX6_remember_60 rfl ?_
      refine zw_isub 62 dX6_remember_61 rfl ?_
      refine zw_iast 63 dX6_remember_62 rfl ly218 (by omega) ?_
      simp only [zwr, zwa_same, zwa_twice]
      obtain rfl : k = 231 := by omega
      have e2 : zsf (σ 218) 231 134 = σ 218 134 := if_neg (by omega)
      have e3 : zup (zsf (σ 218) 231) 134 (zsf (σ 218) 231 134 - 1) = zr1 (σ 218) := by
        rw [e2]; exact (if_pos h8).symm
      rw [e3]
      have e4 := zr1_134 (σ 218) hu
      rw [if_pos h8] at e4
      have h := tl_X6_remember (l := l) (d := d) (σ := zwa σ 218 (zr1 (σ 218))) hd (by rw [zwa_same]; omega)
      rw [zwa_same, zwa_twice] at h
      exact zw_loc [true, false] rfl h
    · refine zw_aload_n 23 dX6_remember_22 rfl rfl ?_
      refine zw_getr 26 (218) (o := 1) dX6_remember_23 rfl fX6_7 (by decide) rfl rfl ly217 ?_
      refine zw_sipush 29 dX6_remember_26 rfl (by decide) ?_
      refine zw_iload_n 30 dX6_remember_29 rfl rfl ?_
      refine zw_iadd 31 dX6_remember_30 rfl ?_
      refine zw_aload_n 32 dX6_remember_31 rfl rfl ?_
      refine zw_getr 35 (218) (o := 1) dX6_remember_32 rfl fX6_7 (by decide) rfl rfl ly217 ?_
      refine zw_sipush 38 dX6_remember_35 rfl (by decide) ?_
      refine zw_iload_n 39 dX6_remember_38 rfl rfl ?_
      refine zw_iadd 40 dX6_remember_39 rfl ?_
      refine zw_bipush 42 dX6_remember_40 rfl (by decide) ?_
      refine zw_iadd 43 dX6_remember_42 rfl ?_
      refine zw_iald 44 dX6_remember_43 rfl ly218 (by omega) ?_
      refine zw_iast 45 dX6_remember_44 rfl ly218 (by omega) ?_
      have e1 : zwa σ 218 (zsf (σ 218) k) 218 (135 + k + 33) = σ 218 (135 + k + 33) := by
        rw [zwa_same]; exact if_neg (by omega)
      rw [e1, zwr_wa, zsf_s _ hk0]
      refine zw_iinc 48 dX6_remember_45 rfl (by decide) rfl ?_
      refine zw_goto 15 dX6_remember_48 (by decide) ?_
      refine zw_loc [true, true] rfl ?_
      exact ih (k + 1) (by omega) (by omega)
theorem sp_X6_remember {l : Launch} {d : Nat} {σ : zMem} (hd : 2 ≤ d) (hu : 0 ≤ σ 218 134 ∧ σ 218 134 ≤ 8) : zSp l d mX6_remember [.ref 217] σ (zRv (zwa σ 218 (zrem (σ 218)))) := by
  refine zSp_of oX6_remember (Nat.le_of_ble_eq_true rfl) ?_
  show zw l d mX6_remember 0 [some (.ref 217), none] [] σ _
  refine zw_aload_n 1 dX6_remember_0 rfl rfl ?_
  refine zw_getr 4 (218) (o := 1) dX6_remember_1 rfl fX6_7 (by decide) rfl rfl ly217 ?_
  refine zw_sipush 7 dX6_remember_4 rfl (by decide) ?_
  refine zw_iald 8 dX6_remember_7 rfl ly218 (by omega) ?_
  refine zw_bipush 10 dX6_remember_8 rfl (by decide) ?_
  refine zw_icmp_ne 63 13 dX6_remember_10 (by decide) rfl (by omega) (by omega) (fun h10 => ?_) (fun h10 => ?_)
  · have e3 : zr1 (σ 218) = σ 218 := if_neg (by omega)
    have h := tl_X6_remember (l := l) (d := d) (σ := σ) hd (by omega)
    rw [show zrem (σ 218) = zup (zcy (zr1 (σ 218)) (zr1 (σ 218)) 0 (135 + 33 * zr1 (σ 218) 134) 33) 134 (zr1 (σ 218) 134 + 1) from rfl, e3]
    exact h
  · refine zw_iconst 14 dX6_remember_13 rfl ?_
    refine zw_istore_n 15 dX6_remember_14 rfl (by decide) ?_
    have h := lp_X6_remember (l := l) (d := d) (σ := σ) hd hu (by omega) 231 0 (by omega) (by omega)
    rw [show zsf (σ 218) 0 = σ 218 from by funext x; exact if_neg (by omega), zwa_id] at h
    exact h
theorem sp_X6_swaps {l : Launch} {d : Nat} {σ : zMem} {r n : Nat} (hr : zly r = some (100, n)) (hn : 33 ≤ n) {a b : Int} (ha : 0 ≤ a ∧ a < 5) (hb : 0 ≤ b ∧ b < 5) (hab : a ≠ b) : zSp l d mX6_swaps [.ref r, .int (zI a), .int (zI b)] σ (zRv (zwa σ r (zsw (σ r) a b))) := by
  refine zSp_of oX6_swaps (Nat.le_of_ble_eq_true rfl) ?_
  show zw l d mX6_swaps 0 [some (.ref r), some (.int (zI a)), some (.int (zI b)), none] [] σ _
  refine zw_aload_n 1 dX6_swaps_0 rfl rfl ?_
  refine zw_iconst 2 dX6_swaps_1 rfl ?_
  refine zw_iload_n 3 dX6_swaps_2 rfl rfl ?_
  refine zw_iadd0 4 dX6_swaps_3 rfl ?_
  refine zw_iald 5 dX6_swaps_4 rfl hr (by omega) ?_
  refine zw_istore_n 6 dX6_swaps_5 rfl (by decide) ?_
  refine zw_aload_n 7 dX6_swaps_6 rfl rfl ?_
  refine zw_iconst 8 dX6_swaps_7 rfl ?_
  refine zw_iload_n 9 dX6_swaps_8 rfl rfl ?_
  refine zw_iadd0 10 dX6_swaps_9 rfl ?_
  refine zw_aload_n 11 dX6_swaps_10 rfl rfl ?_
  refine zw_iconst 12 dX6_swaps_11 rfl ?_
  refine zw_iload_n 13 dX6_swaps_12 rfl rfl ?_
  refine zw_iadd0 14 dX6_swaps_13 rfl ?_
  refine zw_iald 15 dX6_swaps_14 rfl hr (by omega) ?_
  refine zw_iast 16 dX6_swaps_15 rfl hr (by omega) ?_
  try simp only [zwr, zwa_same, zwa_twice]
  refine zw_aload_n 17 dX6_swaps_16 rfl rfl ?_
  refine zw_iconst 18 dX6_swaps_17 rfl ?_
  refine zw_iload_n 19 dX6_swaps_18 rfl rfl ?_
  refine zw_iadd0 20 dX6_swaps_19 rfl ?_
  refine zw_iload_n 21 dX6_swaps_20 rfl rfl ?_
  refine zw_iast 22 dX6_swaps_21 rfl hr (by omega) ?_
  try simp only [zwr, zwa_same, zwa_twice]
  refine zw_vret dX6_swaps_22 rfl ?_
  exact ⟨rfl, rfl⟩
theorem sp_X6_swap {l : Launch} {d : Nat} {σ : zMem} (hd : 8 ≤ d) {a b : Int} (ha : -2147483648 ≤ a ∧ a < 2147483648) (hb : -2147483648 ≤ b ∧ b < 2147483648) (hV : zVN (σ 218))  : zSp l d mX6_swap [.ref 217, .int (zI a), .int (zI b)] σ (zA3 ((0 ≤ a ∧ a ≤ σ 218 48 - 1) ∧ (0 ≤ b ∧ b ≤ σ 218 48 - 1) ∧ a ≠ b) False σ 224 0 (-2) 2 (-4) 1 (fun σ' => zwa σ 218 (zsw (zrem (σ 218)) a b) = σ')) := by
  refine zSp_of oX6_swap (Nat.le_of_ble_eq_true rfl) ?_
  show zw l d mX6_swap 0 [some (.ref 217), some (.int (zI a)), some (.int (zI b))] [] σ _
  have hs := hV.1
  have hv := hV.2.1
  have hy := hV.2.2.1
  have gN := hs.1
  have gC := hs.2.1
  have gU := hV.2.2.2.2.2.2.1
  have hl := fun j h => zrem_lo (σ 218) gU (j := j) h
  refine zw_aload_n 1 dX6_swap_0 rfl rfl ?_
  refine zw_iload_n 2 dX6_swap_1 rfl rfl ?_
  refine zw_callV 5 _ _ dX6_swap_2 rfl kX6_194 qX6_isCanon ly217 ⟨_, rfl, rfl⟩ (by decide) (sp_X6_isCanon (d := d - 1) (by omega) (by omega) (by omega)) (by omega) rfl rfl (Nat.le_of_ble_eq_true rfl) (fun r σ' hq => ?_)
  obtain ⟨rfl, rfl⟩ := hq
  refine zw_if_eq 21 8 dX6_swap_5 (by decide) rfl (by omega) (fun h5 => ?_) (fun h5 => ?_)
  · refine zw_aload_n 22 dX6_swap_21 rfl rfl ?_
    refine zw_callV 25 _ _ dX6_swap_22 rfl kX6_100 qX6_bad ly217 ⟨_, rfl, rfl⟩ (by decide) (sp_X6_bad (d := d - 1) (by omega)) (by omega) rfl rfl (Nat.le_of_ble_eq_true rfl) (fun r σ' hq => ?_)
    obtain ⟨rfl, rfl⟩ := hq
    refine zw_iret dX6_swap_25 rfl ?_
    first | exact zA3_bad (by omega) | exact zA3_ok (by omega) (by simp) rfl (by rw [zwa_same, zwa_twice])
  · refine zw_aload_n 9 dX6_swap_8 rfl rfl ?_
    refine zw_iload_n 10 dX6_swap_9 rfl rfl ?_
    refine zw_callV 13 _ _ dX6_swap_10 rfl kX6_194 qX6_isCanon ly217 ⟨_, rfl, rfl⟩ (by decide) (sp_X6_isCanon (d := d - 1) (by omega) (by omega) (by omega)) (by omega) rfl rfl (Nat.le_of_ble_eq_true rfl) (fun r σ' hq => ?_)
    obtain ⟨rfl, rfl⟩ := hq
    refine zw_if_eq 21 16 dX6_swap_13 (by decide) rfl (by omega) (fun h13 => ?_) (fun h13 => ?_)
    · refine zw_aload_n 22 dX6_swap_21 rfl rfl ?_
      refine zw_callV 25 _ _ dX6_swap_22 rfl kX6_100 qX6_bad ly217 ⟨_, rfl, rfl⟩ (by decide) (sp_X6_bad (d := d - 1) (by omega)) (by omega) rfl rfl (Nat.le_of_ble_eq_true rfl) (fun r σ' hq => ?_)
      obtain ⟨rfl, rfl⟩ := hq
      refine zw_iret dX6_swap_25 rfl ?_
      first | exact zA3_bad (by omega) | exact zA3_ok (by omega) (by simp) rfl (by rw [zwa_same, zwa_twice])
    · refine zw_iload_n 17 dX6_swap_16 rfl rfl ?_
      refine zw_iload_n 18 dX6_swap_17 rfl rfl ?_
      refine zw_icmp_ne 26 21 dX6_swap_18 (by decide) rfl (by omega) (by omega) (fun h18 => ?_) (fun h18 => ?_)
      · refine zw_aload_n 27 dX6_swap_26 rfl rfl ?_
        refine zw_callV 30 _ _ dX6_swap_27 rfl kX6_203 qX6_remember ly217 ⟨_, rfl, rfl⟩ (by decide) (sp_X6_remember (d := d - 1) (by omega) (by omega)) (by omega) rfl rfl (Nat.le_of_ble_eq_true rfl) (fun r σ' hq => ?_)
        obtain ⟨rfl, rfl⟩ := hq
        refine zw_aload_n 31 dX6_swap_30 rfl rfl ?_
        refine zw_getr 34 (218) (o := 1) dX6_swap_31 rfl fX6_7 (by decide) rfl rfl ly217 ?_
        refine zw_iload_n 35 dX6_swap_34 rfl rfl ?_
        refine zw_iload_n 36 dX6_swap_35 rfl rfl ?_
        refine zw_callS 39 _ _ dX6_swap_36 rfl kX6_206 qX6_swaps (sp_X6_swaps (d := d - 1) ly218 (by decide) (by omega) (by omega) (by omega)) (by omega) rfl rfl (Nat.le_of_ble_eq_true rfl) (fun r σ' hq => ?_)
        obtain ⟨rfl, rfl⟩ := hq
        refine zw_iconst 40 dX6_swap_39 rfl ?_
        refine zw_iret dX6_swap_40 rfl ?_
        first | exact zA3_bad (by omega) | exact zA3_ok (by omega) (by simp) rfl (by rw [zwa_same, zwa_twice])
      · refine zw_aload_n 22 dX6_swap_21 rfl rfl ?_
        refine zw_callV 25 _ _ dX6_swap_22 rfl kX6_100 qX6_bad ly217 ⟨_, rfl, rfl⟩ (by decide) (sp_X6_bad (d := d - 1) (by omega)) (by omega) rfl rfl (Nat.le_of_ble_eq_true rfl) (fun r σ' hq => ?_)
        obtain ⟨rfl, rfl⟩ := hq
        refine zw_iret dX6_swap_25 rfl ?_
        first | exact zA3_bad (by omega) | exact zA3_ok (by omega) (by simp) rfl (by rw [zwa_same, zwa_twice])
theorem sp_X6_sits {l : Launch} {d : Nat} {σ : zMem} (hd : 8 ≤ d) {c s : Int} (hc : -2147483648 ≤ c ∧ c < 2147483648) (hs : -2147483648 ≤ s ∧ s < 2147483648) (hV : zVN (σ 218))  : zSp l d mX6_sits [.ref 217, .int (zI c), .int (zI s)] σ (zA3 ((0 ≤ c ∧ c ≤ σ 218 48 - 1) ∧ -1 ≤ s ∧ s ≤ σ 218 33 - 1) (s ≠ -1 ∧ zwo (σ 218) s ≠ -1 ∧ zwo (σ 218) s ≠ c) σ 224 0 (-10) 1 (-3) (σ 218 c) (fun σ' => zwa σ 218 (zup (zrem (σ 218)) c s) = σ')) := by
  refine zSp_of oX6_sits (Nat.le_of_ble_eq_true rfl) ?_
  show zw l d mX6_sits 0 [some (.ref 217), some (.int (zI c)), some (.int (zI s)), none, none] [] σ _
  have hs := hV.1
  have hv := hV.2.1
  have hy := hV.2.2.1
  have gN := hs.1
  have gC := hs.2.1
  have gU := hV.2.2.2.2.2.2.1
  have hl := fun j h => zrem_lo (σ 218) gU (j := j) h
  refine zw_aload_n 1 dX6_sits_0 rfl rfl ?_
  refine zw_iload_n 2 dX6_sits_1 rfl rfl ?_
  refine zw_callV 5 _ _ dX6_sits_2 rfl kX6_194 qX6_isCanon ly217 ⟨_, rfl, rfl⟩ (by decide) (sp_X6_isCanon (d := d - 1) (by omega) (by omega) (by omega)) (by omega) rfl rfl (Nat.le_of_ble_eq_true rfl) (fun r σ' hq => ?_)
  obtain ⟨rfl, rfl⟩ := hq
  refine zw_if_eq 21 8 dX6_sits_5 (by decide) rfl (by omega) (fun h5 => ?_) (fun h5 => ?_)
  · refine zw_aload_n 22 dX6_sits_21 rfl rfl ?_
    refine zw_callV 25 _ _ dX6_sits_22 rfl kX6_200 qX6_badTen ly217 ⟨_, rfl, rfl⟩ (by decide) (sp_X6_badTen (d := d - 1) (by omega)) (by omega) rfl rfl (Nat.le_of_ble_eq_true rfl) (fun r σ' hq => ?_)
    obtain ⟨rfl, rfl⟩ := hq
    refine zw_iret dX6_sits_25 rfl ?_
    first | exact zA3_bad (by omega) | exact zA3_full (by omega) (by omega) | exact zA3_ok (by omega) (by omega) (by first | (rw [zwa_same]; exact hl c (by omega)) | exact hl c (by omega)) rfl
  · refine zw_iload_n 9 dX6_sits_8 rfl rfl ?_
    refine zw_iconst 10 dX6_sits_9 rfl ?_
    refine zw_icmp_eq 26 13 dX6_sits_10 (by decide) rfl (by omega) (by omega) (fun h10 => ?_) (fun h10 => ?_)
    · refine zw_iload_n 27 dX6_sits_26 rfl rfl ?_
      refine zw_iconst 28 dX6_sits_27 rfl ?_
      refine zw_icmp_ne 35 31 dX6_sits_28 (by decide) rfl (by omega) (by omega) (fun h28 => ?_) (fun h28 => ?_)
      · refine zw_aload_n 36 dX6_sits_35 rfl rfl ?_
        refine zw_getr 39 (218) (o := 1) dX6_sits_36 rfl fX6_7 (by decide) rfl rfl ly217 ?_
        refine zw_iload_n 40 dX6_sits_39 rfl rfl ?_
        refine zw_callS 43 _ _ dX6_sits_40 rfl kX6_162 qX6_whoOn (sp_X6_whoOn (d := d - 1) ly218 (by decide) (by omega) (fun c h0 h1 => by have := hv.1 c h0 h1; omega)) (by omega) rfl rfl (Nat.le_of_ble_eq_true rfl) (fun r σ' hq => ?_)
        obtain ⟨rfl, rfl⟩ := hq
        refine zw_istore_n 44 dX6_sits_43 rfl (by decide) ?_
        have zz := zwo_spec (σ 218) s
        refine zw_iload_n 45 dX6_sits_44 rfl rfl ?_
        refine zw_iconst 46 dX6_sits_45 rfl ?_
        refine zw_icmp_eq 62 49 dX6_sits_46 (by decide) rfl (by omega) (by omega) (fun h46 => ?_) (fun h46 => ?_)
        · refine zw_aload_n 63 dX6_sits_62 rfl rfl ?_
          refine zw_callV 66 _ _ dX6_sits_63 rfl kX6_203 qX6_remember ly217 ⟨_, rfl, rfl⟩ (by decide) (sp_X6_remember (d := d - 1) (by omega) (by omega)) (by omega) rfl rfl (Nat.le_of_ble_eq_true rfl) (fun r σ' hq => ?_)
          obtain ⟨rfl, rfl⟩ := hq
          refine zw_aload_n 67 dX6_sits_66 rfl rfl ?_
          refine zw_getr 70 (218) (o := 1) dX6_sits_67 rfl fX6_7 (by decide) rfl rfl ly217 ?_
          refine zw_iconst 71 dX6_sits_70 rfl ?_
          refine zw_iload_n 72 dX6_sits_71 rfl rfl ?_
          refine zw_iadd0 73 dX6_sits_72 rfl ?_
          refine zw_iald 74 dX6_sits_73 rfl ly218 (by omega) ?_
          refine zw_istore 76 dX6_sits_74 rfl (by decide) ?_
          have zb := hv.1 c (by omega) (by omega)
          refine zw_aload_n 77 dX6_sits_76 rfl rfl ?_
          refine zw_getr 80 (218) (o := 1) dX6_sits_77 rfl fX6_7 (by decide) rfl rfl ly217 ?_
          refine zw_iconst 81 dX6_sits_80 rfl ?_
          refine zw_iload_n 82 dX6_sits_81 rfl rfl ?_
          refine zw_iadd0 83 dX6_sits_82 rfl ?_
          refine zw_iload_n 84 dX6_sits_83 rfl rfl ?_
          refine zw_iast 85 dX6_sits_84 rfl ly218 (by omega) ?_
          try simp only [zwr, zwa_same, zwa_twice]
          refine zw_iload 87 dX6_sits_85 rfl rfl ?_
          refine zw_iret dX6_sits_87 rfl ?_
          first | exact zA3_bad (by omega) | exact zA3_full (by omega) (by omega) | exact zA3_ok (by omega) (by omega) (by first | (rw [zwa_same]; exact hl c (by omega)) | exact hl c (by omega)) rfl
        · refine zw_iload_n 50 dX6_sits_49 rfl rfl ?_
          refine zw_iload_n 51 dX6_sits_50 rfl rfl ?_
          refine zw_icmp_eq 62 54 dX6_sits_51 (by decide) rfl (by omega) (by omega) (fun h51 => ?_) (fun h51 => ?_)
          · refine zw_aload_n 63 dX6_sits_62 rfl rfl ?_
            refine zw_callV 66 _ _ dX6_sits_63 rfl kX6_203 qX6_remember ly217 ⟨_, rfl, rfl⟩ (by decide) (sp_X6_remember (d := d - 1) (by omega) (by omega)) (by omega) rfl rfl (Nat.le_of_ble_eq_true rfl) (fun r σ' hq => ?_)
            obtain ⟨rfl, rfl⟩ := hq
            refine zw_aload_n 67 dX6_sits_66 rfl rfl ?_
            refine zw_getr 70 (218) (o := 1) dX6_sits_67 rfl fX6_7 (by decide) rfl rfl ly217 ?_
            refine zw_iconst 71 dX6_sits_70 rfl ?_
            refine zw_iload_n 72 dX6_sits_71 rfl rfl ?_
            refine zw_iadd0 73 dX6_sits_72 rfl ?_
            refine zw_iald 74 dX6_sits_73 rfl ly218 (by omega) ?_
            refine zw_istore 76 dX6_sits_74 rfl (by decide) ?_
            have zb := hv.1 c (by omega) (by omega)
            refine zw_aload_n 77 dX6_sits_76 rfl rfl ?_
            refine zw_getr 80 (218) (o := 1) dX6_sits_77 rfl fX6_7 (by decide) rfl rfl ly217 ?_
            refine zw_iconst 81 dX6_sits_80 rfl ?_
            refine zw_iload_n 82 dX6_sits_81 rfl rfl ?_
            refine zw_iadd0 83 dX6_sits_82 rfl ?_
            refine zw_iload_n 84 dX6_sits_83 rfl rfl ?_
            refine zw_iast 85 dX6_sits_84 rfl ly218 (by omega) ?_
            try simp only [zwr, zwa_same, zwa_twice]
            refine zw_iload 87 dX6_sits_85 rfl rfl ?_
            refine zw_iret dX6_sits_87 rfl ?_
            first | exact zA3_bad (by omega) | exact zA3_full (by omega) (by omega) | exact zA3_ok (by omega) (by omega) (by first | (rw [zwa_same]; exact hl c (by omega)) | exact hl c (by omega)) rfl
          · refine zw_aload_n 55 dX6_sits_54 rfl rfl ?_
            refine zw_iconst 56 dX6_sits_55 rfl ?_
            refine zw_bipush 58 dX6_sits_56 rfl (by decide) ?_
            refine zw_callV 61 _ _ dX6_sits_58 rfl kX6_52 qX6_refused ly217 ⟨_, rfl, rfl⟩ (by decide) (sp_X6_refused (d := d - 1) (by omega)) (by omega) rfl rfl (Nat.le_of_ble_eq_true rfl) (fun r σ' hq => ?_)
            obtain ⟨rfl, rfl⟩ := hq
            refine zw_iret dX6_sits_61 rfl ?_
            first | exact zA3_bad (by omega) | exact zA3_full (by omega) (by omega) | exact zA3_ok (by omega) (by omega) (by first | (rw [zwa_same]; exact hl c (by omega)) | exact hl c (by omega)) rfl
      · refine zw_iconst 32 dX6_sits_31 rfl ?_
        refine zw_goto 43 dX6_sits_32 (by decide) ?_
        refine zw_istore_n 44 dX6_sits_43 rfl (by decide) ?_
        have zz := zwo_spec (σ 218) s
        refine zw_iload_n 45 dX6_sits_44 rfl rfl ?_
        refine zw_iconst 46 dX6_sits_45 rfl ?_
        refine zw_icmp_eq 62 49 dX6_sits_46 (by decide) rfl (by omega) (by omega) (fun h46 => ?_) (fun h46 => ?_)
        · refine zw_aload_n 63 dX6_sits_62 rfl rfl ?_
          refine zw_callV 66 _ _ dX6_sits_63 rfl kX6_203 qX6_remember ly217 ⟨_, rfl, rfl⟩ (by decide) (sp_X6_remember (d := d - 1) (by omega) (by omega)) (by omega) rfl rfl (Nat.le_of_ble_eq_true rfl) (fun r σ' hq => ?_)
          obtain ⟨rfl, rfl⟩ := hq
          refine zw_aload_n 67 dX6_sits_66 rfl rfl ?_
          refine zw_getr 70 (218) (o := 1) dX6_sits_67 rfl fX6_7 (by decide) rfl rfl ly217 ?_
          refine zw_iconst 71 dX6_sits_70 rfl ?_
          refine zw_iload_n 72 dX6_sits_71 rfl rfl ?_
          refine zw_iadd0 73 dX6_sits_72 rfl ?_
          refine zw_iald 74 dX6_sits_73 rfl ly218 (by omega) ?_
          refine zw_istore 76 dX6_sits_74 rfl (by decide) ?_
          have zb := hv.1 c (by omega) (by omega)
          refine zw_aload_n 77 dX6_sits_76 rfl rfl ?_
          refine zw_getr 80 (218) (o := 1) dX6_sits_77 rfl fX6_7 (by decide) rfl rfl ly217 ?_
          refine zw_iconst 81 dX6_sits_80 rfl ?_
          refine zw_iload_n 82 dX6_sits_81 rfl rfl ?_
          refine zw_iadd0 83 dX6_sits_82 rfl ?_
          refine zw_iload_n 84 dX6_sits_83 rfl rfl ?_
          refine zw_iast 85 dX6_sits_84 rfl ly218 (by omega) ?_
          try simp only [zwr, zwa_same, zwa_twice]
          refine zw_iload 87 dX6_sits_85 rfl rfl ?_
          refine zw_iret dX6_sits_87 rfl ?_
          first | exact zA3_bad (by omega) | exact zA3_full (by omega) (by omega) | exact zA3_ok (by omega) (by omega) (by first | (rw [zwa_same]; exact hl c (by omega)) | exact hl c (by omega)) rfl
        · exact absurd h46 (by decide)
    · refine zw_aload_n 14 dX6_sits_13 rfl rfl ?_
      refine zw_iload_n 15 dX6_sits_14 rfl rfl ?_
      refine zw_callV 18 _ _ dX6_sits_15 rfl kX6_197 qX6_isSeat ly217 ⟨_, rfl, rfl⟩ (by decide) (sp_X6_isSeat (d := d - 1) (by omega) (by omega) (by omega)) (by omega) rfl rfl (Nat.le_of_ble_eq_true rfl) (fun r σ' hq => ?_)
      obtain ⟨rfl, rfl⟩ := hq
      refine zw_if_ne 26 21 dX6_sits_18 (by decide) rfl (by omega) (fun h18 => ?_) (fun h18 => ?_)
      · refine zw_iload_n 27 dX6_sits_26 rfl rfl ?_
        refine zw_iconst 28 dX6_sits_27 rfl ?_
        refine zw_icmp_ne 35 31 dX6_sits_28 (by decide) rfl (by omega) (by omega) (fun h28 => ?_) (fun h28 => ?_)
        · refine zw_aload_n 36 dX6_sits_35 rfl rfl ?_
          refine zw_getr 39 (218) (o := 1) dX6_sits_36 rfl fX6_7 (by decide) rfl rfl ly217 ?_
          refine zw_iload_n 40 dX6_sits_39 rfl rfl ?_
          refine zw_callS 43 _ _ dX6_sits_40 rfl kX6_162 qX6_whoOn (sp_X6_whoOn (d := d - 1) ly218 (by decide) (by omega) (fun c h0 h1 => by have := hv.1 c h0 h1; omega)) (by omega) rfl rfl (Nat.le_of_ble_eq_true rfl) (fun r σ' hq => ?_)
          obtain ⟨rfl, rfl⟩ := hq
          refine zw_istore_n 44 dX6_sits_43 rfl (by decide) ?_
          have zz := zwo_spec (σ 218) s
          refine zw_iload_n 45 dX6_sits_44 rfl rfl ?_
          refine zw_iconst 46 dX6_sits_45 rfl ?_
          refine zw_icmp_eq 62 49 dX6_sits_46 (by decide) rfl (by omega) (by omega) (fun h46 => ?_) (fun h46 => ?_)
          · refine zw_aload_n 63 dX6_sits_62 rfl rfl ?_
            refine zw_callV 66 _ _ dX6_sits_63 rfl kX6_203 qX6_remember ly217 ⟨_, rfl, rfl⟩ (by decide) (sp_X6_remember (d := d - 1) (by omega) (by omega)) (by omega) rfl rfl (Nat.le_of_ble_eq_true rfl) (fun r σ' hq => ?_)
            obtain ⟨rfl, rfl⟩ := hq
            refine zw_aload_n 67 dX6_sits_66 rfl rfl ?_
            refine zw_getr 70 (218) (o := 1) dX6_sits_67 rfl fX6_7 (by decide) rfl rfl ly217 ?_
            refine zw_iconst 71 dX6_sits_70 rfl ?_
            refine zw_iload_n 72 dX6_sits_71 rfl rfl ?_
            refine zw_iadd0 73 dX6_sits_72 rfl ?_
            refine zw_iald 74 dX6_sits_73 rfl ly218 (by omega) ?_
            refine zw_istore 76 dX6_sits_74 rfl (by decide) ?_
            have zb := hv.1 c (by omega) (by omega)
            refine zw_aload_n 77 dX6_sits_76 rfl rfl ?_
            refine zw_getr 80 (218) (o := 1) dX6_sits_77 rfl fX6_7 (by decide) rfl rfl ly217 ?_
            refine zw_iconst 81 dX6_sits_80 rfl ?_
            refine zw_iload_n 82 dX6_sits_81 rfl rfl ?_
            refine zw_iadd0 83 dX6_sits_82 rfl ?_
            refine zw_iload_n 84 dX6_sits_83 rfl rfl ?_
            refine zw_iast 85 dX6_sits_84 rfl ly218 (by omega) ?_
            try simp only [zwr, zwa_same, zwa_twice]
            refine zw_iload 87 dX6_sits_85 rfl rfl ?_
            refine zw_iret dX6_sits_87 rfl ?_
            first | exact zA3_bad (by omega) | exact zA3_full (by omega) (by omega) | exact zA3_ok (by omega) (by omega) (by first | (rw [zwa_same]; exact hl c (by omega)) | exact hl c (by omega)) rfl
          · refine zw_iload_n 50 dX6_sits_49 rfl rfl ?_
            refine zw_iload_n 51 dX6_sits_50 rfl rfl ?_
            refine zw_icmp_eq 62 54 dX6_sits_51 (by decide) rfl (by omega) (by omega) (fun h51 => ?_) (fun h51 => ?_)
            · refine zw_aload_n 63 dX6_sits_62 rfl rfl ?_
              refine zw_callV 66 _ _ dX6_sits_63 rfl kX6_203 qX6_remember ly217 ⟨_, rfl, rfl⟩ (by decide) (sp_X6_remember (d := d - 1) (by omega) (by omega)) (by omega) rfl rfl (Nat.le_of_ble_eq_true rfl) (fun r σ' hq => ?_)
              obtain ⟨rfl, rfl⟩ := hq
              refine zw_aload_n 67 dX6_sits_66 rfl rfl ?_
              refine zw_getr 70 (218) (o := 1) dX6_sits_67 rfl fX6_7 (by decide) rfl rfl ly217 ?_
              refine zw_iconst 71 dX6_sits_70 rfl ?_
              refine zw_iload_n 72 dX6_sits_71 rfl rfl ?_
              refine zw_iadd0 73 dX6_sits_72 rfl ?_
              refine zw_iald 74 dX6_sits_73 rfl ly218 (by omega) ?_
              refine zw_istore 76 dX6_sits_74 rfl (by decide) ?_
              have zb := hv.1 c (by omega) (by omega)
              refine zw_aload_n 77 dX6_sits_76 rfl rfl ?_
              refine zw_getr 80 (218) (o := 1) dX6_sits_77 rfl fX6_7 (by decide) rfl rfl ly217 ?_
              refine zw_iconst 81 dX6_sits_80 rfl ?_
              refine zw_iload_n 82 dX6_sits_81 rfl rfl ?_
              refine zw_iadd0 83 dX6_sits_82 rfl ?_
              refine zw_iload_n 84 dX6_sits_83 rfl rfl ?_
              refine zw_iast 85 dX6_sits_84 rfl ly218 (by omega) ?_
              try simp only [zwr, zwa_same, zwa_twice]
              refine zw_iload 87 dX6_sits_85 rfl rfl ?_
              refine zw_iret dX6_sits_87 rfl ?_
              first | exact zA3_bad (by omega) | exact zA3_full (by omega) (by omega) | exact zA3_ok (by omega) (by omega) (by first | (rw [zwa_same]; exact hl c (by omega)) | exact hl c (by omega)) rfl
            · refine zw_aload_n 55 dX6_sits_54 rfl rfl ?_
              refine zw_iconst 56 dX6_sits_55 rfl ?_
              refine zw_bipush 58 dX6_sits_56 rfl (by decide) ?_
              refine zw_callV 61 _ _ dX6_sits_58 rfl kX6_52 qX6_refused ly217 ⟨_, rfl, rfl⟩ (by decide) (sp_X6_refused (d := d - 1) (by omega)) (by omega) rfl rfl (Nat.le_of_ble_eq_true rfl) (fun r σ' hq => ?_)
              obtain ⟨rfl, rfl⟩ := hq
              refine zw_iret dX6_sits_61 rfl ?_
              first | exact zA3_bad (by omega) | exact zA3_full (by omega) (by omega) | exact zA3_ok (by omega) (by omega) (by first | (rw [zwa_same]; exact hl c (by omega)) | exact hl c (by omega)) rfl
        · refine zw_iconst 32 dX6_sits_31 rfl ?_
          refine zw_goto 43 dX6_sits_32 (by decide) ?_
          refine zw_istore_n 44 dX6_sits_43 rfl (by decide) ?_
          have zz := zwo_spec (σ 218) s
          refine zw_iload_n 45 dX6_sits_44 rfl rfl ?_
          refine zw_iconst 46 dX6_sits_45 rfl ?_
          refine zw_icmp_eq 62 49 dX6_sits_46 (by decide) rfl (by omega) (by omega) (fun h46 => ?_) (fun h46 => ?_)
          · refine zw_aload_n 63 dX6_sits_62 rfl rfl ?_
            refine zw_callV 66 _ _ dX6_sits_63 rfl kX6_203 qX6_remember ly217 ⟨_, rfl, rfl⟩ (by decide) (sp_X6_remember (d := d - 1) (by omega) (by omega)) (by omega) rfl rfl (Nat.le_of_ble_eq_true rfl) (fun r σ' hq => ?_)
            obtain ⟨rfl, rfl⟩ := hq
            refine zw_aload_n 67 dX6_sits_66 rfl rfl ?_
            refine zw_getr 70 (218) (o := 1) dX6_sits_67 rfl fX6_7 (by decide) rfl rfl ly217 ?_
            refine zw_iconst 71 dX6_sits_70 rfl ?_
            refine zw_iload_n 72 dX6_sits_71 rfl rfl ?_
            refine zw_iadd0 73 dX6_sits_72 rfl ?_
            refine zw_iald 74 dX6_sits_73 rfl ly218 (by omega) ?_
            refine zw_istore 76 dX6_sits_74 rfl (by decide) ?_
            have zb := hv.1 c (by omega) (by omega)
            refine zw_aload_n 77 dX6_sits_76 rfl rfl ?_
            refine zw_getr 80 (218) (o := 1) dX6_sits_77 rfl fX6_7 (by decide) rfl rfl ly217 ?_
            refine zw_iconst 81 dX6_sits_80 rfl ?_
            refine zw_iload_n 82 dX6_sits_81 rfl rfl ?_
            refine zw_iadd0 83 dX6_sits_82 rfl ?_
            refine zw_iload_n 84 dX6_sits_83 rfl rfl ?_
            refine zw_iast 85 dX6_sits_84 rfl ly218 (by omega) ?_
            try simp only [zwr, zwa_same, zwa_twice]
            refine zw_iload 87 dX6_sits_85 rfl rfl ?_
            refine zw_iret dX6_sits_87 rfl ?_
            first | exact zA3_bad (by omega) | exact zA3_full (by omega) (by omega) | exact zA3_ok (by omega) (by omega) (by first | (rw [zwa_same]; exact hl c (by omega)) | exact hl c (by omega)) rfl
          · exact absurd h46 (by decide)
      · refine zw_aload_n 22 dX6_sits_21 rfl rfl ?_
        refine zw_callV 25 _ _ dX6_sits_22 rfl kX6_200 qX6_badTen ly217 ⟨_, rfl, rfl⟩ (by decide) (sp_X6_badTen (d := d - 1) (by omega)) (by omega) rfl rfl (Nat.le_of_ble_eq_true rfl) (fun r σ' hq => ?_)
        obtain ⟨rfl, rfl⟩ := hq
        refine zw_iret dX6_sits_25 rfl ?_
        first | exact zA3_bad (by omega) | exact zA3_full (by omega) (by omega) | exact zA3_ok (by omega) (by omega) (by first | (rw [zwa_same]; exact hl c (by omega)) | exact hl c (by omega)) rfl
theorem lp_X6_year {l : Launch} {d : Nat} {σ : zMem} (hd : 7 ≤ d) {n : Int} {R : zR} (hn : 1 ≤ n ∧ n ≤ 30) : ∀ (m : Nat) (k : Int) (σc : zMem) (T : zR), k + m = n → 0 ≤ k → σc = zwa σ 218 T → zVT T → zyl (n - k).toNat T = R → zw l d mX6_year 23 [some (.ref 217), some (.int (zI n)), some (.int (zI k))] [] σc (fun a σ' => a = some (.int (zI (zwd R (R 48).toNat))) ∧ zwa σ 218 R = σ') := by
  intro m
  induction m with
  | zero =>
    intro k σc T hk hk0 hσ hT hz
    have hs := hT.1
    have hv := hT.2.1
    have hy := hT.2.2
    have a1 : σc 218 = T := by rw [hσ, zwa_same]
    rw [← a1] at hs hv hy
    refine zw_iload_n 24 dX6_year_23 rfl rfl ?_
    refine zw_iload_n 25 dX6_year_24 rfl rfl ?_
    refine zw_icmp_ge 55 28 dX6_year_25 (by decide) rfl (by omega) (by omega) (fun h25 => ?_) (fun h25 => ?_)
    · refine zw_aload_n 56 dX6_year_55 rfl rfl ?_
      refine zw_aload_n 57 dX6_year_56 rfl rfl ?_
      refine zw_getr 60 (218) (o := 1) dX6_year_57 rfl fX6_7 (by decide) rfl rfl ly217 ?_
      refine zw_callV 63 _ _ dX6_year_60 rfl kX6_212 qX6_whoDo ly217 ⟨_, rfl, rfl⟩ (by decide) (sp_X6_whoDo (d := d - 1) (by omega) ly218 (by decide) hs.2.1 (fun i h0 h1 => hv.2.1 i h0 h1)) (by omega) rfl rfl (Nat.le_of_ble_eq_true rfl) (fun r σ' hq => ?_)
      obtain ⟨rfl, rfl⟩ := hq
      refine zw_iret dX6_year_63 rfl ?_
      obtain ⟨rfl, -⟩ : T = R ∧ True := ⟨by rw [← hz]; first | exact (zyl_end _ _ (by rw [← a1]; omega)).symm | (rw [show (n - k).toNat = 0 by omega]; rfl), trivial⟩
      exact ⟨by rw [a1], hσ.symm⟩
    · refine zw_aload_n 29 dX6_year_28 rfl rfl ?_
      refine zw_getr 32 (218) (o := 1) dX6_year_29 rfl fX6_7 (by decide) rfl rfl ly217 ?_
      refine zw_bipush 34 dX6_year_32 rfl (by decide) ?_
      refine zw_iald 35 dX6_year_34 rfl ly218 (by omega) ?_
      refine zw_sipush 38 dX6_year_35 rfl (by decide) ?_
      refine zw_icmp_ge 55 41 dX6_year_38 (by decide) rfl (by omega) (by omega) (fun h38 => ?_) (fun h38 => ?_)
      · refine zw_aload_n 56 dX6_year_55 rfl rfl ?_
        refine zw_aload_n 57 dX6_year_56 rfl rfl ?_
        refine zw_getr 60 (218) (o := 1) dX6_year_57 rfl fX6_7 (by decide) rfl rfl ly217 ?_
        refine zw_callV 63 _ _ dX6_year_60 rfl kX6_212 qX6_whoDo ly217 ⟨_, rfl, rfl⟩ (by decide) (sp_X6_whoDo (d := d - 1) (by omega) ly218 (by decide) hs.2.1 (fun i h0 h1 => hv.2.1 i h0 h1)) (by omega) rfl rfl (Nat.le_of_ble_eq_true rfl) (fun r σ' hq => ?_)
        obtain ⟨rfl, rfl⟩ := hq
        refine zw_iret dX6_year_63 rfl ?_
        obtain ⟨rfl, -⟩ : T = R ∧ True := ⟨by rw [← hz]; first | exact (zyl_end _ _ (by rw [← a1]; omega)).symm | (rw [show (n - k).toNat = 0 by omega]; rfl), trivial⟩
        exact ⟨by rw [a1], hσ.symm⟩
      · exfalso; omega
  | succ m ih =>
    intro k σc T hk hk0 hσ hT hz
    have hs := hT.1
    have hv := hT.2.1
    have hy := hT.2.2
    have a1 : σc 218 = T := by rw [hσ, zwa_same]
    rw [← a1] at hs hv hy
    refine zw_iload_n 24 dX6_year_23 rfl rfl ?_
    refine zw_iload_n 25 dX6_year_24 rfl rfl ?_
    refine zw_icmp_ge 55 28 dX6_year_25 (by decide) rfl (by omega) (by omega) (fun h25 => ?_) (fun h25 => ?_)
    · refine zw_aload_n 56 dX6_year_55 rfl rfl ?_
      refine zw_aload_n 57 dX6_year_56 rfl rfl ?_
      refine zw_getr 60 (218) (o := 1) dX6_year_57 rfl fX6_7 (by decide) rfl rfl ly217 ?_
      refine zw_callV 63 _ _ dX6_year_60 rfl kX6_212 qX6_whoDo ly217 ⟨_, rfl, rfl⟩ (by decide) (sp_X6_whoDo (d := d - 1) (by omega) ly218 (by decide) hs.2.1 (fun i h0 h1 => hv.2.1 i h0 h1)) (by omega) rfl rfl (Nat.le_of_ble_eq_true rfl) (fun r σ' hq => ?_)
      obtain ⟨rfl, rfl⟩ := hq
      refine zw_iret dX6_year_63 rfl ?_
      obtain rfl : T = R := by
        rw [← hz]
        first
          | exact (zyl_end _ _ (by rw [← a1]; omega)).symm
          | (rw [show (n - k).toNat = 0 by omega]; rfl)
      exact ⟨by rw [a1], hσ.symm⟩
    · refine zw_aload_n 29 dX6_year_28 rfl rfl ?_
      refine zw_getr 32 (218) (o := 1) dX6_year_29 rfl fX6_7 (by decide) rfl rfl ly217 ?_
      refine zw_bipush 34 dX6_year_32 rfl (by decide) ?_
      refine zw_iald 35 dX6_year_34 rfl ly218 (by omega) ?_
      refine zw_sipush 38 dX6_year_35 rfl (by decide) ?_
      refine zw_icmp_ge 55 41 dX6_year_38 (by decide) rfl (by omega) (by omega) (fun h38 => ?_) (fun h38 => ?_)
      · refine zw_aload_n 56 dX6_year_55 rfl rfl ?_
        refine zw_aload_n 57 dX6_year_56 rfl rfl ?_
        refine zw_getr 60 (218) (o := 1) dX6_year_57 rfl fX6_7 (by decide) rfl rfl ly217 ?_
        refine zw_callV 63 _ _ dX6_year_60 rfl kX6_212 qX6_whoDo ly217 ⟨_, rfl, rfl⟩ (by decide) (sp_X6_whoDo (d := d - 1) (by omega) ly218 (by decide) hs.2.1 (fun i h0 h1 => hv.2.1 i h0 h1)) (by omega) rfl rfl (Nat.le_of_ble_eq_true rfl) (fun r σ' hq => ?_)
        obtain ⟨rfl, rfl⟩ := hq
        refine zw_iret dX6_year_63 rfl ?_
        obtain rfl : T = R := by
          rw [← hz]
          first
            | exact (zyl_end _ _ (by rw [← a1]; omega)).symm
            | (rw [show (n - k).toNat = 0 by omega]; rfl)
        exact ⟨by rw [a1], hσ.symm⟩
      · refine zw_aload_n 42 dX6_year_41 rfl rfl ?_
        refine zw_aload_n 43 dX6_year_42 rfl rfl ?_
        refine zw_getr 46 (218) (o := 1) dX6_year_43 rfl fX6_7 (by decide) rfl rfl ly217 ?_
        refine zw_callV 49 _ _ dX6_year_46 rfl kX6_168 qX6_yearGoes ly217 ⟨_, rfl, rfl⟩ (by decide) (sp_X6_yearGoes (d := d - 1) (by omega) ly218 (by decide) hs hv (by omega)) (by omega) rfl rfl (Nat.le_of_ble_eq_true rfl) (fun r σ' hq => ?_)
        obtain ⟨rfl, rfl⟩ := hq
        refine zw_iinc 52 dX6_year_49 rfl (by decide) rfl ?_
        refine zw_goto 23 dX6_year_52 (by decide) ?_
        refine zw_loc [true, true, true] rfl ?_
        refine ih (k + 1) _ (zyr (σc 218) (σc 218)) (by omega) (by omega) (by rw [hσ, zwa_twice]) (by rw [a1]; exact zVT_y hT (by rw [← a1]; omega)) ?_
        rw [← hz, show (n - k).toNat = (n - (k + 1)).toNat + 1 by omega, zyl, if_pos (by rw [← a1]; omega), a1]
theorem sp_X6_year {l : Launch} {d : Nat} {σ : zMem} (hd : 8 ≤ d) {n : Int} (hn : -2147483648 ≤ n ∧ n < 2147483648) (hV : zVN (σ 218))  : zSp l d mX6_year [.ref 217, .int (zI n)] σ (zA3 (1 ≤ n ∧ n ≤ 30) False σ 224 0 (-2) 2 (-4) (zwd (zyl n.toNat (zrem (σ 218))) ((zyl n.toNat (zrem (σ 218))) 48).toNat) (fun σ' => zwa σ 218 (zyl n.toNat (zrem (σ 218))) = σ')) := by
  refine zSp_of oX6_year (Nat.le_of_ble_eq_true rfl) ?_
  show zw l d mX6_year 0 [some (.ref 217), some (.int (zI n)), none] [] σ _
  have hs := hV.1
  have hv := hV.2.1
  have hy := hV.2.2.1
  have gN := hs.1
  have gC := hs.2.1
  have gU := hV.2.2.2.2.2.2.1
  have hl := fun j h => zrem_lo (σ 218) gU (j := j) h
  have gT : zVT (zrem (σ 218)) := zVT_lo hl ⟨hs, hv, hy⟩
  refine zw_iload_n 1 dX6_year_0 rfl rfl ?_
  refine zw_i2l 2 dX6_year_1 rfl (by omega) ?_
  refine zw_lconst 3 1 dX6_year_2 rfl (by decide) ?_
  refine zw_ldc2 6 (30) dX6_year_3 rfl cX6_210 ?_
  refine zw_callS 9 _ _ dX6_year_6 rfl kX6_86 qX6_in (sp_X6_in (d := d - 1) (by omega) (by omega) (by omega)) (by omega) rfl rfl (Nat.le_of_ble_eq_true rfl) (fun r σ' hq => ?_)
  obtain ⟨rfl, rfl⟩ := hq
  refine zw_if_ne 17 12 dX6_year_9 (by decide) rfl (by omega) (fun h9 => ?_) (fun h9 => ?_)
  · refine zw_aload_n 18 dX6_year_17 rfl rfl ?_
    refine zw_callV 21 _ _ dX6_year_18 rfl kX6_203 qX6_remember ly217 ⟨_, rfl, rfl⟩ (by decide) (sp_X6_remember (d := d - 1) (by omega) (by omega)) (by omega) rfl rfl (Nat.le_of_ble_eq_true rfl) (fun r σ' hq => ?_)
    obtain ⟨rfl, rfl⟩ := hq
    refine zw_iconst 22 dX6_year_21 rfl ?_
    refine zw_istore_n 23 dX6_year_22 rfl (by decide) ?_
    refine zw_mono (lp_X6_year (l := l) (d := d) (σ := σ) (R := zyl n.toNat (zrem (σ 218))) (by omega) (by omega) n.toNat 0 _ (zrem (σ 218)) (by omega) (by omega) rfl gT (by rw [show (n - 0).toNat = n.toNat by omega])) ?_
    rintro a σ' ⟨rfl, h2⟩
    exact zA3_ok (by omega) (by simp) rfl h2
  · refine zw_aload_n 13 dX6_year_12 rfl rfl ?_
    refine zw_callV 16 _ _ dX6_year_13 rfl kX6_100 qX6_bad ly217 ⟨_, rfl, rfl⟩ (by decide) (sp_X6_bad (d := d - 1) (by omega)) (by omega) rfl rfl (Nat.le_of_ble_eq_true rfl) (fun r σ' hq => ?_)
    obtain ⟨rfl, rfl⟩ := hq
    refine zw_iret dX6_year_16 rfl ?_
    first | exact zA3_bad (by omega) | skip
def zun (N : zR) : zR := zcy (zup N 134 (N 134 - 1)) (zup N 134 (N 134 - 1)) (135 + 33 * (N 134 - 1)) 0 33
theorem sp_X6_undo {l : Launch} {d : Nat} {σ : zMem} (hd : 8 ≤ d) (hV : zVN (σ 218))  : zSp l d mX6_undo [.ref 217] σ (zA3 (σ 218 134 ≠ 0) False σ 224 1 (-3) 2 (-4) (zun (σ 218) 32) (fun σ' => zwa σ 218 (zun (σ 218)) = σ')) := by
  refine zSp_of oX6_undo (Nat.le_of_ble_eq_true rfl) ?_
  show zw l d mX6_undo 0 [some (.ref 217)] [] σ _
  have hs := hV.1
  have hv := hV.2.1
  have hy := hV.2.2.1
  have gN := hs.1
  have gC := hs.2.1
  have gU := hV.2.2.2.2.2.2.1
  have hl := fun j h => zrem_lo (σ 218) gU (j := j) h
  refine zw_aload_n 1 dX6_undo_0 rfl rfl ?_
  refine zw_getr 4 (218) (o := 1) dX6_undo_1 rfl fX6_7 (by decide) rfl rfl ly217 ?_
  refine zw_sipush 7 dX6_undo_4 rfl (by decide) ?_
  refine zw_iald 8 dX6_undo_7 rfl ly218 (by omega) ?_
  refine zw_if_ne 19 11 dX6_undo_8 (by decide) rfl (by omega) (fun h8 => ?_) (fun h8 => ?_)
  · refine zw_aload_n 20 dX6_undo_19 rfl rfl ?_
    refine zw_getr 23 (218) (o := 1) dX6_undo_20 rfl fX6_7 (by decide) rfl rfl ly217 ?_
    refine zw_sipush 26 dX6_undo_23 rfl (by decide) ?_
    refine zw_dup2_11 27 dX6_undo_26 rfl rfl rfl ?_
    refine zw_iald 28 dX6_undo_27 rfl ly218 (by omega) ?_
    refine zw_iconst 29 dX6_undo_28 rfl ?_
    refine zw_isub 30 dX6_undo_29 rfl ?_
    refine zw_iast 31 dX6_undo_30 rfl ly218 (by omega) ?_
    try simp only [zwr, zwa_same, zwa_twice]
    have e9 : zup (σ 218) 134 (σ 218 134 - 1) 134 = σ 218 134 - 1 := zup_same _ _ _
    refine zw_aload_n 32 dX6_undo_31 rfl rfl ?_
    refine zw_getr 35 (218) (o := 1) dX6_undo_32 rfl fX6_7 (by decide) rfl rfl ly217 ?_
    refine zw_sipush 38 dX6_undo_35 rfl (by decide) ?_
    refine zw_bipush 40 dX6_undo_38 rfl (by decide) ?_
    refine zw_aload_n 41 dX6_undo_40 rfl rfl ?_
    refine zw_getr 44 (218) (o := 1) dX6_undo_41 rfl fX6_7 (by decide) rfl rfl ly217 ?_
    refine zw_sipush 47 dX6_undo_44 rfl (by decide) ?_
    refine zw_iald 48 dX6_undo_47 rfl ly218 (by omega) ?_
    refine zw_imul 49 dX6_undo_48 rfl ?_
    refine zw_iadd 50 dX6_undo_49 rfl ?_
    refine zw_aload_n 51 dX6_undo_50 rfl rfl ?_
    refine zw_getr 54 (218) (o := 1) dX6_undo_51 rfl fX6_7 (by decide) rfl rfl ly217 ?_
    refine zw_iconst 55 dX6_undo_54 rfl ?_
    refine zw_bipush 57 dX6_undo_55 rfl (by decide) ?_
    simp only [zwa_same, e9]
    refine zw_callS 60 _ _ dX6_undo_57 rfl kX6_82 qX6_copies (sp_X6_copies (d := d - 1) ly218 ly218 (by omega) (by omega) (by omega) (by first | exact Or.inl (by decide) | exact Or.inr (by omega)) (by decide) (by decide)) (by omega) rfl rfl (Nat.le_of_ble_eq_true rfl) (fun r σ' hq => ?_)
    obtain ⟨rfl, rfl⟩ := hq
    simp only [zwa_twice]
    refine zw_aload_n 61 dX6_undo_60 rfl rfl ?_
    refine zw_getr 64 (218) (o := 1) dX6_undo_61 rfl fX6_7 (by decide) rfl rfl ly217 ?_
    refine zw_bipush 66 dX6_undo_64 rfl (by decide) ?_
    refine zw_iald 67 dX6_undo_66 rfl ly218 (by omega) ?_
    refine zw_iret dX6_undo_67 rfl ?_
    first | exact zA3_bad (by omega) | exact zA3_ok (by omega) (by simp) (by simp only [zwa_same]; rfl) (by simp only [zwa_same]; rfl)
  · refine zw_aload_n 12 dX6_undo_11 rfl rfl ?_
    refine zw_iconst 13 dX6_undo_12 rfl ?_
    refine zw_bipush 15 dX6_undo_13 rfl (by decide) ?_
    refine zw_callV 18 _ _ dX6_undo_15 rfl kX6_52 qX6_refused ly217 ⟨_, rfl, rfl⟩ (by decide) (sp_X6_refused (d := d - 1) (by omega)) (by omega) rfl rfl (Nat.le_of_ble_eq_true rfl) (fun r σ' hq => ?_)
    obtain ⟨rfl, rfl⟩ := hq
    refine zw_iret dX6_undo_18 rfl ?_
    first | exact zA3_bad (by omega) | exact zA3_ok (by omega) (by simp) (by simp only [zwa_same]; rfl) (by simp only [zwa_same]; rfl)
theorem sp_X6_image {l : Launch} {d : Nat} {σ : zMem} (hd : 8 ≤ d) {i : Int} (hi : -2147483648 ≤ i ∧ i < 2147483648) (hV : zVN (σ 218))  : zSp l d mX6_image [.ref 217, .int (zI i)] σ (zA3 (0 ≤ i ∧ i ≤ 1) False σ 224 0 (-2) 2 (-4) 1 (fun σ' => zwr (zwa σ 221 (zcy (σ 218) (σ 221) 0 (399 * i) 399)) 222 i 1 = σ')) := by
  refine zSp_of oX6_image (Nat.le_of_ble_eq_true rfl) ?_
  show zw l d mX6_image 0 [some (.ref 217), some (.int (zI i))] [] σ _
  have hs := hV.1
  have hv := hV.2.1
  have hy := hV.2.2.1
  have gN := hs.1
  have gC := hs.2.1
  refine zw_iload_n 1 dX6_image_0 rfl rfl ?_
  refine zw_i2l 2 dX6_image_1 rfl (by omega) ?_
  refine zw_lconst 3 0 dX6_image_2 rfl (by decide) ?_
  refine zw_lconst 4 1 dX6_image_3 rfl (by decide) ?_
  refine zw_callS 7 _ _ dX6_image_4 rfl kX6_86 qX6_in (sp_X6_in (d := d - 1) (by omega) (by omega) (by omega)) (by omega) rfl rfl (Nat.le_of_ble_eq_true rfl) (fun r σ' hq => ?_)
  obtain ⟨rfl, rfl⟩ := hq
  refine zw_if_ne 15 10 dX6_image_7 (by decide) rfl (by omega) (fun h7 => ?_) (fun h7 => ?_)
  · refine zw_aload_n 16 dX6_image_15 rfl rfl ?_
    refine zw_getr 19 (218) (o := 1) dX6_image_16 rfl fX6_7 (by decide) rfl rfl ly217 ?_
    refine zw_iconst 20 dX6_image_19 rfl ?_
    refine zw_aload_n 21 dX6_image_20 rfl rfl ?_
    refine zw_getr 24 (221) (o := 4) dX6_image_21 rfl fX6_19 (by decide) rfl rfl ly217 ?_
    refine zw_sipush 27 dX6_image_24 rfl (by decide) ?_
    refine zw_iload_n 28 dX6_image_27 rfl rfl ?_
    refine zw_imul 29 dX6_image_28 rfl ?_
    refine zw_sipush 32 dX6_image_29 rfl (by decide) ?_
    refine zw_callS 35 _ _ dX6_image_32 rfl kX6_82 qX6_copies (sp_X6_copies (d := d - 1) ly218 ly221 (by omega) (by omega) (by omega) (by first | exact Or.inl (by decide) | exact Or.inr (by omega)) (by decide) (by decide)) (by omega) rfl rfl (Nat.le_of_ble_eq_true rfl) (fun r σ' hq => ?_)
    obtain ⟨rfl, rfl⟩ := hq
    refine zw_aload_n 36 dX6_image_35 rfl rfl ?_
    refine zw_getr 39 (222) (o := 5) dX6_image_36 rfl fX6_22 (by decide) rfl rfl ly217 ?_
    refine zw_iload_n 40 dX6_image_39 rfl rfl ?_
    refine zw_iconst 41 dX6_image_40 rfl ?_
    refine zw_zast 42 dX6_image_41 rfl ly222 (by omega) (Or.inr rfl) ?_
    refine zw_iconst 43 dX6_image_42 rfl ?_
    refine zw_iret dX6_image_43 rfl ?_
    first | exact zA3_bad (by omega) | exact zA3_ok (by omega) (by simp) rfl rfl
  · refine zw_aload_n 11 dX6_image_10 rfl rfl ?_
    refine zw_callV 14 _ _ dX6_image_11 rfl kX6_100 qX6_bad ly217 ⟨_, rfl, rfl⟩ (by decide) (sp_X6_bad (d := d - 1) (by omega)) (by omega) rfl rfl (Nat.le_of_ble_eq_true rfl) (fun r σ' hq => ?_)
    obtain ⟨rfl, rfl⟩ := hq
    refine zw_iret dX6_image_14 rfl ?_
    first | exact zA3_bad (by omega) | exact zA3_ok (by omega) (by simp) rfl rfl
theorem sp_X6_from {l : Launch} {d : Nat} {σ : zMem} (hd : 8 ≤ d) {i : Int} (hi : -2147483648 ≤ i ∧ i < 2147483648) (hV : zVN (σ 218)) (hk : ∀ i, 0 ≤ i → i ≤ 1 → σ 222 i = 0 ∨ σ 222 i = 1) : zSp l d mX6_from [.ref 217, .int (zI i)] σ (zA3 (0 ≤ i ∧ i ≤ 1) (σ 222 i = 0) σ 224 0 (-2) 1 (-3) 1 (fun σ' => zwa σ 218 (zcy (σ 221) (σ 218) (399 * i) 0 399) = σ')) := by
  refine zSp_of oX6_from (Nat.le_of_ble_eq_true rfl) ?_
  show zw l d mX6_from 0 [some (.ref 217), some (.int (zI i))] [] σ _
  have hs := hV.1
  have hv := hV.2.1
  have hy := hV.2.2.1
  have gN := hs.1
  have gC := hs.2.1
  refine zw_iload_n 1 dX6_from_0 rfl rfl ?_
  refine zw_i2l 2 dX6_from_1 rfl (by omega) ?_
  refine zw_lconst 3 0 dX6_from_2 rfl (by decide) ?_
  refine zw_lconst 4 1 dX6_from_3 rfl (by decide) ?_
  refine zw_callS 7 _ _ dX6_from_4 rfl kX6_86 qX6_in (sp_X6_in (d := d - 1) (by omega) (by omega) (by omega)) (by omega) rfl rfl (Nat.le_of_ble_eq_true rfl) (fun r σ' hq => ?_)
  obtain ⟨rfl, rfl⟩ := hq
  refine zw_if_ne 15 10 dX6_from_7 (by decide) rfl (by omega) (fun h7 => ?_) (fun h7 => ?_)
  · refine zw_aload_n 16 dX6_from_15 rfl rfl ?_
    refine zw_getr 19 (222) (o := 5) dX6_from_16 rfl fX6_22 (by decide) rfl rfl ly217 ?_
    refine zw_iload_n 20 dX6_from_19 rfl rfl ?_
    refine zw_zald 21 dX6_from_20 rfl ly222 (by omega) ?_
    have hk2 := hk i (by omega) (by omega)
    refine zw_if_ne 32 24 dX6_from_21 (by decide) rfl (by omega) (fun h21 => ?_) (fun h21 => ?_)
    · refine zw_aload_n 33 dX6_from_32 rfl rfl ?_
      refine zw_getr 36 (221) (o := 4) dX6_from_33 rfl fX6_19 (by decide) rfl rfl ly217 ?_
      refine zw_sipush 39 dX6_from_36 rfl (by decide) ?_
      refine zw_iload_n 40 dX6_from_39 rfl rfl ?_
      refine zw_imul 41 dX6_from_40 rfl ?_
      refine zw_aload_n 42 dX6_from_41 rfl rfl ?_
      refine zw_getr 45 (218) (o := 1) dX6_from_42 rfl fX6_7 (by decide) rfl rfl ly217 ?_
      refine zw_iconst 46 dX6_from_45 rfl ?_
      refine zw_sipush 49 dX6_from_46 rfl (by decide) ?_
      refine zw_callS 52 _ _ dX6_from_49 rfl kX6_82 qX6_copies (sp_X6_copies (d := d - 1) ly221 ly218 (by omega) (by omega) (by omega) (by first | exact Or.inl (by decide) | exact Or.inr (by omega)) (by decide) (by decide)) (by omega) rfl rfl (Nat.le_of_ble_eq_true rfl) (fun r σ' hq => ?_)
      obtain ⟨rfl, rfl⟩ := hq
      refine zw_iconst 53 dX6_from_52 rfl ?_
      refine zw_iret dX6_from_53 rfl ?_
      first | exact zA3_bad (by omega) | exact zA3_full (by omega) (by omega) | exact zA3_ok (by omega) (by omega) rfl rfl
    · refine zw_aload_n 25 dX6_from_24 rfl rfl ?_
      refine zw_iconst 26 dX6_from_25 rfl ?_
      refine zw_bipush 28 dX6_from_26 rfl (by decide) ?_
      refine zw_callV 31 _ _ dX6_from_28 rfl kX6_52 qX6_refused ly217 ⟨_, rfl, rfl⟩ (by decide) (sp_X6_refused (d := d - 1) (by omega)) (by omega) rfl rfl (Nat.le_of_ble_eq_true rfl) (fun r σ' hq => ?_)
      obtain ⟨rfl, rfl⟩ := hq
      refine zw_iret dX6_from_31 rfl ?_
      first | exact zA3_bad (by omega) | exact zA3_full (by omega) (by omega) | exact zA3_ok (by omega) (by omega) rfl rfl
  · refine zw_aload_n 11 dX6_from_10 rfl rfl ?_
    refine zw_callV 14 _ _ dX6_from_11 rfl kX6_100 qX6_bad ly217 ⟨_, rfl, rfl⟩ (by decide) (sp_X6_bad (d := d - 1) (by omega)) (by omega) rfl rfl (Nat.le_of_ble_eq_true rfl) (fun r σ' hq => ?_)
    obtain ⟨rfl, rfl⟩ := hq
    refine zw_iret dX6_from_14 rfl ?_
    first | exact zA3_bad (by omega) | exact zA3_full (by omega) (by omega) | exact zA3_ok (by omega) (by omega) rfl rfl
theorem sp_X6_part {l : Launch} {d : Nat} {σ : zMem} (hd : 8 ≤ d) {w : Int} (hw : -2147483648 ≤ w ∧ w < 2147483648) : zSp l d mX6_part [.ref 217, .int (zI w)] σ (fun a σ' => (w = 0 → a = some (.long (zL (σ 217 7))) ∧ σ = σ') ∧ (w = 1 → a = some (.long (zL (σ 217 8))) ∧ σ = σ') ∧ (w ≠ 0 → w ≠ 1 → a = some (.long (zL (-2))) ∧ zbm σ 224 0 = σ')) := by
  refine zSp_of oX6_part (Nat.le_of_ble_eq_true rfl) ?_
  show zw l d mX6_part 0 [some (.ref 217), some (.int (zI w))] [] σ _
  refine zw_iload_n 1 dX6_part_0 rfl rfl ?_
  refine zw_if_ne 11 4 dX6_part_1 (by decide) rfl (by omega) (fun h1 => ?_) (fun h1 => ?_)
  · refine zw_iload_n 12 dX6_part_11 rfl rfl ?_
    refine zw_iconst 13 dX6_part_12 rfl ?_
    refine zw_icmp_ne 23 16 dX6_part_13 (by decide) rfl (by omega) (by omega) (fun h13 => ?_) (fun h13 => ?_)
    · refine zw_aload_n 24 dX6_part_23 rfl rfl ?_
      refine zw_callV 27 _ _ dX6_part_24 rfl kX6_100 qX6_bad ly217 ⟨_, rfl, rfl⟩ (by decide) (sp_X6_bad (d := d - 1) (by omega)) (by omega) rfl rfl (Nat.le_of_ble_eq_true rfl) (fun r σ' hq => ?_)
      obtain ⟨rfl, rfl⟩ := hq
      refine zw_i2l 28 dX6_part_27 rfl (by omega) ?_
      refine zw_lret dX6_part_28 rfl ?_
      exact ⟨fun q => by first | (exfalso; omega) | exact ⟨rfl, rfl⟩, fun q => by first | (exfalso; omega) | exact ⟨rfl, rfl⟩, fun q q2 => by first | (exfalso; omega) | exact ⟨rfl, rfl⟩⟩
    · refine zw_aload_n 17 dX6_part_16 rfl rfl ?_
      refine zw_gtl 20 8 dX6_part_17 rfl fX6_29 (by decide) rfl rfl ly217 ?_
      refine zw_goto 28 dX6_part_20 (by decide) ?_
      refine zw_lret dX6_part_28 rfl ?_
      exact ⟨fun q => by first | (exfalso; omega) | exact ⟨rfl, rfl⟩, fun q => by first | (exfalso; omega) | exact ⟨rfl, rfl⟩, fun q q2 => by first | (exfalso; omega) | exact ⟨rfl, rfl⟩⟩
  · refine zw_aload_n 5 dX6_part_4 rfl rfl ?_
    refine zw_gtl 8 7 dX6_part_5 rfl fX6_278 (by decide) rfl rfl ly217 ?_
    refine zw_goto 28 dX6_part_8 (by decide) ?_
    refine zw_lret dX6_part_28 rfl ?_
    exact ⟨fun q => by first | (exfalso; omega) | exact ⟨rfl, rfl⟩, fun q => by first | (exfalso; omega) | exact ⟨rfl, rfl⟩, fun q q2 => by first | (exfalso; omega) | exact ⟨rfl, rfl⟩⟩
