def zrSit (tx : zR) (n i : Int) (r : zR) : Except Int (Int × zR) :=
  zrE tx n i 0 (r 48 - 1) (fun i1 c => zrE tx n i1 0 (r 33 - 1) (fun i2 s =>
    if zwo r s ≠ -1 ∧ zwo r s ≠ c then .error (zTb tx n i1) else .ok (i2, zup r c s)))
theorem sp_X6_readsSitting {l : Launch} {d : Nat} {σ : zMem} {g r : zR} {n : Int} (hd : 5 ≤ d) (hx : ztx (σ 223) n) (h6 : g 6 = n) (hi0 : 0 ≤ g 10 ∧ g 10 ≤ n) (hr : 0 ≤ r 48 ∧ r 48 ≤ 5) (hr2 : 0 ≤ r 33 ∧ r 33 ≤ 7) (hr3 : ∀ c, 0 ≤ c → c < 5 → -1 ≤ r c ∧ r c < 1000) : zSp l d mX6_readsSitting [.ref 217] (zM2 σ g r) (zrD σ g n (zrSit (σ 223) n (g 10) r)) := by
  refine zSp_of oX6_readsSitting (Nat.le_of_ble_eq_true rfl) ?_
  show zw l d mX6_readsSitting 0 [some (.ref 217), none, none] [] (zM2 σ g r) _
  unfold zrSit zrE
  refine zw_aload_n 1 dX6_readsSitting_0 rfl rfl ?_
  refine zw_iconst 2 dX6_readsSitting_1 rfl ?_
  refine zw_aload_n 3 dX6_readsSitting_2 rfl rfl ?_
  refine zw_getr 6 (219) (o := 2) dX6_readsSitting_3 rfl fX6_13 (by decide) rfl rfl ly217 ?_
  refine zw_bipush 8 dX6_readsSitting_6 rfl (by decide) ?_
  refine zw_iald 9 dX6_readsSitting_8 rfl ly219 (by omega) ?_
  try simp (disch := decide) only [zM2_r, zM2_g, zM2_217, zM2_219, zM2_ne]
  refine zw_iconst 10 dX6_readsSitting_9 rfl ?_
  refine zw_isub 11 dX6_readsSitting_10 rfl ?_
  refine zw_callV 14 _ _ dX6_readsSitting_11 rfl kX6_158 qX6_number ly217 ⟨_, rfl, rfl⟩ (by decide) (sn_X6_number (d := d - 1) (σ := σ) (g := g) (n := n) (lo := 0) (hi := r 48 - 1) (by omega) (by omega) (by omega) hx (by assumption) (by omega)) (by omega) rfl rfl (Nat.le_of_ble_eq_true rfl) (fun r σ' hq => ?_)
  obtain ⟨g1, rfl, rfl, ho1, h61⟩ := hq
  have nb1 := zNb_b (σ 223) n (g 10) (0) (r 48 - 1)
  have op1 := ho1.2.1
  have ob1 := ho1.2.2.1
  have oz1 := ho1.2.2.2.2.2.2
  refine zw_if_ne 19 17 dX6_readsSitting_14 (by decide) rfl (by omega) (fun h14 => ?_) (fun h14 => ?_)
  · rw [if_pos (show zNb (σ 223) n (g 10) (0) (r 48 - 1) = 1 by omega)]
    have on1 := zNb_1 (tx := σ 223) (n := n) (i := g 10) (lo := 0) (hi := r 48 - 1) (by omega)
    have ov1 := ho1.2.2.2.2.1 on1.1
    rw [← op1, ← ov1.1]
    refine zw_aload_n 20 dX6_readsSitting_19 rfl rfl ?_
    refine zw_gti 23 14 dX6_readsSitting_20 rfl fX6_129 (by decide) rfl rfl ly217 ?_
    try simp (disch := decide) only [zM2_r, zM2_g, zM2_217, zM2_219, zM2_ne]
    refine zw_istore_n 24 dX6_readsSitting_23 rfl (by decide) ?_
    refine zw_aload_n 25 dX6_readsSitting_24 rfl rfl ?_
    refine zw_iconst 26 dX6_readsSitting_25 rfl ?_
    refine zw_aload_n 27 dX6_readsSitting_26 rfl rfl ?_
    refine zw_getr 30 (219) (o := 2) dX6_readsSitting_27 rfl fX6_13 (by decide) rfl rfl ly217 ?_
    refine zw_bipush 32 dX6_readsSitting_30 rfl (by decide) ?_
    refine zw_iald 33 dX6_readsSitting_32 rfl ly219 (by omega) ?_
    try simp (disch := decide) only [zM2_r, zM2_g, zM2_217, zM2_219, zM2_ne]
    refine zw_iconst 34 dX6_readsSitting_33 rfl ?_
    refine zw_isub 35 dX6_readsSitting_34 rfl ?_
    refine zw_callV 38 _ _ dX6_readsSitting_35 rfl kX6_158 qX6_number ly217 ⟨_, rfl, rfl⟩ (by decide) (sn_X6_number (d := d - 1) (σ := σ) (g := g1) (n := n) (lo := 0) (hi := r 33 - 1) (by omega) (by omega) (by omega) hx (by assumption) (by omega)) (by omega) rfl rfl (Nat.le_of_ble_eq_true rfl) (fun r σ' hq => ?_)
    obtain ⟨g2, rfl, rfl, ho2, h62⟩ := hq
    have nb2 := zNb_b (σ 223) n (g1 10) (0) (r 33 - 1)
    have op2 := ho2.2.1
    have ob2 := ho2.2.2.1
    have oz2 := ho2.2.2.2.2.2.2
    refine zw_if_ne 43 41 dX6_readsSitting_38 (by decide) rfl (by omega) (fun h38 => ?_) (fun h38 => ?_)
    · rw [if_pos (show zNb (σ 223) n (g1 10) (0) (r 33 - 1) = 1 by omega)]
      have on2 := zNb_1 (tx := σ 223) (n := n) (i := g1 10) (lo := 0) (hi := r 33 - 1) (by omega)
      have ov2 := ho2.2.2.2.2.1 on2.1
      rw [← op2, ← ov2.1]
      refine zw_aload_n 44 dX6_readsSitting_43 rfl rfl ?_
      refine zw_getr 47 (219) (o := 2) dX6_readsSitting_44 rfl fX6_13 (by decide) rfl rfl ly217 ?_
      refine zw_aload_n 48 dX6_readsSitting_47 rfl rfl ?_
      refine zw_gti 51 14 dX6_readsSitting_48 rfl fX6_129 (by decide) rfl rfl ly217 ?_
      try simp (disch := decide) only [zM2_r, zM2_g, zM2_217, zM2_219, zM2_ne]
      refine zw_callS 54 _ _ dX6_readsSitting_51 rfl kX6_162 qX6_whoOn (sp_X6_whoOn (d := d - 1) (σ := zM2 σ g2 r) ly219 (by decide) (by omega) (by rw [zM2_219]; exact hr3)) (by omega) rfl rfl (Nat.le_of_ble_eq_true rfl) (fun r σ' hq => ?_)
      obtain ⟨rfl, rfl⟩ := hq
      rw [zM2_219]
      have wb : -1 ≤ zwo r (g2 14) ∧ zwo r (g2 14) < 5 := by rcases zwo_spec r (g2 14) with q | q <;> omega
      refine zw_istore_n 55 dX6_readsSitting_54 rfl (by decide) ?_
      refine zw_iload_n 56 dX6_readsSitting_55 rfl rfl ?_
      refine zw_iconst 57 dX6_readsSitting_56 rfl ?_
      refine zw_icmp_eq 67 60 dX6_readsSitting_57 (by decide) rfl (by omega) (by omega) (fun h57 => ?_) (fun h57 => ?_)
      · refine zw_aload_n 68 dX6_readsSitting_67 rfl rfl ?_
        refine zw_getr 71 (219) (o := 2) dX6_readsSitting_68 rfl fX6_13 (by decide) rfl rfl ly217 ?_
        refine zw_iconst 72 dX6_readsSitting_71 rfl ?_
        refine zw_iload_n 73 dX6_readsSitting_72 rfl rfl ?_
        refine zw_iadd0 74 dX6_readsSitting_73 rfl ?_
        refine zw_aload_n 75 dX6_readsSitting_74 rfl rfl ?_
        refine zw_gti 78 14 dX6_readsSitting_75 rfl fX6_129 (by decide) rfl rfl ly217 ?_
        try simp (disch := decide) only [zM2_r, zM2_g, zM2_217, zM2_219, zM2_ne]
        refine zw_iast 79 dX6_readsSitting_78 rfl ly219 (by omega) ?_
        try simp (disch := decide) only [zM2_r, zM2_g, zM2_217, zM2_219, zM2_ne]
        refine zw_iconst 80 dX6_readsSitting_79 rfl ?_
        refine zw_zret dX6_readsSitting_80 rfl (by omega) ?_
        rw [if_neg (show ¬ (zwo r (g2 14) ≠ -1 ∧ zwo r (g2 14) ≠ g1 14) by omega)]
        exact ⟨g2, _, rfl, (fun j hj => (ho2.1 j hj).trans (ho1.1 j hj)), by omega, by omega, rfl, rfl, by simp only [Int.zero_add]⟩
      · refine zw_iload_n 61 dX6_readsSitting_60 rfl rfl ?_
        refine zw_iload_n 62 dX6_readsSitting_61 rfl rfl ?_
        refine zw_icmp_eq 67 65 dX6_readsSitting_62 (by decide) rfl (by omega) (by omega) (fun h62 => ?_) (fun h62 => ?_)
        · refine zw_aload_n 68 dX6_readsSitting_67 rfl rfl ?_
          refine zw_getr 71 (219) (o := 2) dX6_readsSitting_68 rfl fX6_13 (by decide) rfl rfl ly217 ?_
          refine zw_iconst 72 dX6_readsSitting_71 rfl ?_
          refine zw_iload_n 73 dX6_readsSitting_72 rfl rfl ?_
          refine zw_iadd0 74 dX6_readsSitting_73 rfl ?_
          refine zw_aload_n 75 dX6_readsSitting_74 rfl rfl ?_
          refine zw_gti 78 14 dX6_readsSitting_75 rfl fX6_129 (by decide) rfl rfl ly217 ?_
          try simp (disch := decide) only [zM2_r, zM2_g, zM2_217, zM2_219, zM2_ne]
          refine zw_iast 79 dX6_readsSitting_78 rfl ly219 (by omega) ?_
          try simp (disch := decide) only [zM2_r, zM2_g, zM2_217, zM2_219, zM2_ne]
          refine zw_iconst 80 dX6_readsSitting_79 rfl ?_
          refine zw_zret dX6_readsSitting_80 rfl (by omega) ?_
          rw [if_neg (show ¬ (zwo r (g2 14) ≠ -1 ∧ zwo r (g2 14) ≠ g1 14) by omega)]
          exact ⟨g2, _, rfl, (fun j hj => (ho2.1 j hj).trans (ho1.1 j hj)), by omega, by omega, rfl, rfl, by simp only [Int.zero_add]⟩
        · refine zw_iconst 66 dX6_readsSitting_65 rfl ?_
          refine zw_zret dX6_readsSitting_66 rfl (by omega) ?_
          rw [if_pos (show zwo r (g2 14) ≠ -1 ∧ zwo r (g2 14) ≠ g1 14 from ⟨by omega, by omega⟩)]
          exact ⟨g2, _, rfl, (fun j hj => (ho2.1 j hj).trans (ho1.1 j hj)), by omega, by omega, rfl, ob2⟩
    · refine zw_iconst 42 dX6_readsSitting_41 rfl ?_
      refine zw_zret dX6_readsSitting_42 rfl (by omega) ?_
      rw [if_neg (show ¬ zNb (σ 223) n (g1 10) 0 (r 33 - 1) = 1 by omega)]
      exact ⟨g2, _, rfl, (fun j hj => (ho2.1 j hj).trans (ho1.1 j hj)), by omega, by omega, rfl, ob2⟩
  · refine zw_iconst 18 dX6_readsSitting_17 rfl ?_
    refine zw_zret dX6_readsSitting_18 rfl (by omega) ?_
    rw [if_neg (show ¬ zNb (σ 223) n (g 10) 0 (r 48 - 1) = 1 by omega)]
    exact ⟨g1, _, rfl, ho1.1, by omega, by omega, rfl, ob1⟩
