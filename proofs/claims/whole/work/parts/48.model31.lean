theorem sn_X6_step {l : Launch} {d : Nat} {σ : zMem} {g r : zR} {n : Int} (hd : 3 ≤ d) (hx : ztx (σ 223) n) (h6 : g 6 = n) (hi0 : 0 ≤ g 10 ∧ g 10 ≤ n) : zSp l d mX6_step [.ref 217] (zM2 σ g r) (fun a σ1 => ∃ g' : zR, a = none ∧ σ1 = zM2 σ g' r ∧ zTo (σ 223) n (g 10) g g' ∧ g' 6 = n) := by
  have e1 := zM2_217 σ g r
  have e2 : zM2 σ g r 223 = σ 223 := zM2_ne σ g r (by decide) (by decide)
  refine zSp_mono (sp_X6_step (σ := zM2 σ g r) hd (by rw [e1, e2, h6]; exact hx) (by rw [e1, h6]; exact hi0)) (fun a σ1 hq => ?_)
  obtain ⟨g', h1, h2, h3⟩ := hq
  rw [e1, e2, h6] at h3
  have h4 := zSu_o h3
  rw [zM2_a] at h2
  exact ⟨g', h1, h2, h4, (h4.1 6 (by omega)).trans h6⟩
/-- what read leaves -/
def zrF (σ : zMem) (G : zR) (res : Except Int (Int × zR)) : Option Value → zMem → Prop := fun a σ1 => ∃ g r, (∀ j, j < 10 ∨ 17 < j → g j = G j) ∧ match res with
  | .error b => a = some (.int (zI (-10 - b))) ∧ σ1 = zM2 σ g r
  | .ok (c, r') => a = some (.int (zI c)) ∧ σ1 = zwa (zM2 σ g r') 218 r' 
theorem lp_X6_read {l : Launch} {d : Nat} {σ : zMem} {G : zR} {n : Int} (hd : 10 ≤ d) (hx : ztx (σ 223) n) : ∀ (m : Nat) (i c : Int) (g0 g r : zR), zTo (σ 223) n i g0 g → g 6 = n → (∀ j, j < 10 ∨ 17 < j → g j = G j) → n - i < m → 0 ≤ c → c ≤ i → i ≤ n → zVT r → zoo (σ 218) r → zw l d mX6_read 18 [some (.ref 217), some (.int (zI c))] [] (zM2 σ g r) (zrF σ G (zrLoop (σ 223) n m i c r)) := by
  have hn := hx.1
  intro m
  induction m with
  | zero => intro i c g0 g r h1 h2 h3 h4 h5 h6 h7 h8 h9; exfalso; omega
  | succ m ih =>
    intro i c g0 g r h1 h2 h3 h4 h5 h6 h7 h8 h9
    obtain ⟨o1, o2, o3, o4, o5, o6, o7⟩ := id h1
    have kb := zTk_b (σ 223) n i
    have ib := zTe_b (σ 223) h7
    unfold zrLoop
    refine zw_aload_n 19 dX6_read_18 rfl rfl ?_
    refine zw_gti 22 12 dX6_read_19 rfl fX6_132 (by decide) rfl rfl ly217 ?_
    try simp (disch := decide) only [zM2_r, zM2_g, zM2_217, zM2_219, zM2_ne]
    refine zw_if_ne 29 25 dX6_read_22 (by decide) rfl (by omega) (fun h22 => ?_) (fun h22 => ?_)
    · rw [if_neg (show ¬ (zTk (σ 223) n i = 0 ∧ c ≠ 0) by omega)]
      refine zw_aload_n 30 dX6_read_29 rfl rfl ?_
      refine zw_iload_n 31 dX6_read_30 rfl rfl ?_
      refine zw_callV 34 _ _ dX6_read_31 rfl kX6_191 qX6_readsItem ly217 ⟨_, rfl, rfl⟩ (by decide) (sp_X6_readsItem (d := d - 1) (σ := σ) (g0 := g0) (g := g) (r := r) (n := n) (i := i) (c := c) (by omega) (by omega) hx h2 h1 h8 h9) (by omega) rfl rfl (Nat.le_of_ble_eq_true rfl) (fun r σ' hq => ?_)
      obtain ⟨v, rfl, hv, hD⟩ := zrD_v hq
      obtain ⟨g9, r9, rfl, u1, u2, u3, u4⟩ := hD
      refine zw_if_ne 45 37 dX6_read_34 (by decide) rfl (by omega) (fun h34 => ?_) (fun h34 => ?_)
      · obtain rfl : v = 1 := (by omega)
        cases hres : zrItem (σ 223) n i c r with
        | error b => rw [hres] at u4; exact absurd u4.1 (by decide)
        | ok q =>
        obtain ⟨j, r7⟩ := q
        rw [hres] at u4
        obtain ⟨-, u5, rfl⟩ := u4
        have uV := zrItem_V hres h8 h9
        have um := zrItem_m h7 hres
        refine zw_aload_n 46 dX6_read_45 rfl rfl ?_
        refine zw_callV 49 _ _ dX6_read_46 rfl kX6_155 qX6_step ly217 ⟨_, rfl, rfl⟩ (by decide) (sn_X6_step (d := d - 1) (σ := σ) (g := g9) (r := r9) (n := n) (by omega) hx ((u1 6 (by omega)).trans h2) u2) (by omega) rfl rfl (Nat.le_of_ble_eq_true rfl) (fun r σ' hq => ?_)
        obtain ⟨g1, rfl, rfl, p1, p2⟩ := hq
        have p3 := p1.2.2.2.2.2.2
        have p4 := p1.2.2.2.1
        have p5 := p1.2.2.1
        have p6 := p1.2.1
        have kb1 := zTk_b (σ 223) n (g9 10)
        refine zw_aload_n 50 dX6_read_49 rfl rfl ?_
        refine zw_gti 53 12 dX6_read_50 rfl fX6_132 (by decide) rfl rfl ly217 ?_
        try simp (disch := decide) only [zM2_r, zM2_g, zM2_217, zM2_219, zM2_ne]
        refine zw_iconst 54 dX6_read_53 rfl ?_
        refine zw_icmp_eq 65 57 dX6_read_54 (by decide) rfl (by omega) (by omega) (fun h54 => ?_) (fun h54 => ?_)
        · refine zw_iinc 68 dX6_read_65 rfl (by decide) rfl ?_
          refine zw_aload_n 69 dX6_read_68 rfl rfl ?_
          refine zw_callV 72 _ _ dX6_read_69 rfl kX6_155 qX6_step ly217 ⟨_, rfl, rfl⟩ (by decide) (sn_X6_step (d := d - 1) (σ := σ) (g := g1) (r := r9) (n := n) (by omega) hx p2 (by omega)) (by omega) rfl rfl (Nat.le_of_ble_eq_true rfl) (fun r σ' hq => ?_)
          obtain ⟨g2, rfl, rfl, p7, p8⟩ := hq
          refine zw_goto 18 dX6_read_72 (by decide) ?_
          refine zw_loc [true, true] rfl ?_
          show zw l d mX6_read 18 _ _ _ (zrF σ G (if zTk (σ 223) n j = 3 then zrLoop (σ 223) n m (zTe (σ 223) n j) (c + 1) r9 else .error (zTb (σ 223) n j)))
          have t3 := zTk_3 (tx := σ 223) (n := n) (i := g9 10) (by omega) (by omega)
          rw [← u5, if_pos (show zTk (σ 223) n (g9 10) = 3 by omega)]
          rw [p6] at p7
          exact ih _ (c + 1) g1 g2 r9 p7 p8 (fun j hj => (p7.1 j hj).trans ((p1.1 j hj).trans ((u1 j hj).trans (h3 j hj)))) (by omega) (by omega) (by omega) (by omega) uV.1 uV.2
        · refine zw_bipush 59 dX6_read_57 rfl (by decide) ?_
          refine zw_aload_n 60 dX6_read_59 rfl rfl ?_
          refine zw_gti 63 11 dX6_read_60 rfl fX6_123 (by decide) rfl rfl ly217 ?_
          try simp (disch := decide) only [zM2_r, zM2_g, zM2_217, zM2_219, zM2_ne]
          refine zw_isub 64 dX6_read_63 rfl ?_
          refine zw_iret dX6_read_64 rfl ?_
          show zrF σ G (if zTk (σ 223) n j = 3 then zrLoop (σ 223) n m (zTe (σ 223) n j) (c + 1) r9 else .error (zTb (σ 223) n j)) _ _
          rw [← u5, if_neg (show ¬ zTk (σ 223) n (g9 10) = 3 by omega)]
          exact ⟨g1, r9, fun j hj => (p1.1 j hj).trans ((u1 j hj).trans (h3 j hj)), by rw [p5], rfl⟩
      · obtain rfl : v = 0 := (by omega)
        cases hres : zrItem (σ 223) n i c r with
        | ok q => rw [hres] at u4; exact absurd u4.1 (by decide)
        | error b =>
        rw [hres] at u4
        refine zw_bipush 39 dX6_read_37 rfl (by decide) ?_
        refine zw_aload_n 40 dX6_read_39 rfl rfl ?_
        refine zw_gti 43 11 dX6_read_40 rfl fX6_123 (by decide) rfl rfl ly217 ?_
        try simp (disch := decide) only [zM2_r, zM2_g, zM2_217, zM2_219, zM2_ne]
        refine zw_isub 44 dX6_read_43 rfl ?_
        refine zw_iret dX6_read_44 rfl ?_
        exact ⟨g9, r9, fun j hj => (u1 j hj).trans (h3 j hj), by rw [u4.2], rfl⟩
    · refine zw_iload_n 26 dX6_read_25 rfl rfl ?_
      refine zw_if_ne 75 29 dX6_read_26 (by decide) rfl (by omega) (fun h26 => ?_) (fun h26 => ?_)
      · refine zw_aload_n 76 dX6_read_75 rfl rfl ?_
        refine zw_getr 79 (219) (o := 2) dX6_read_76 rfl fX6_13 (by decide) rfl rfl ly217 ?_
        refine zw_iconst 80 dX6_read_79 rfl ?_
        refine zw_aload_n 81 dX6_read_80 rfl rfl ?_
        refine zw_getr 84 (218) (o := 1) dX6_read_81 rfl fX6_7 (by decide) rfl rfl ly217 ?_
        refine zw_iconst 85 dX6_read_84 rfl ?_
        refine zw_sipush 88 dX6_read_85 rfl (by decide) ?_
        refine zw_callS 91 _ _ dX6_read_88 rfl kX6_82 qX6_copies (sp_X6_copies (d := d - 1) (σ := zM2 σ g r) ly219 ly218 (by omega) (by omega) (by omega) (Or.inl (by decide)) (by decide) (by decide)) (by omega) rfl rfl (Nat.le_of_ble_eq_true rfl) (fun r σ' hq => ?_)
        obtain ⟨rfl, rfl⟩ := hq
        rw [zM2_219, zM2_ne σ g r (by decide) (by decide), zcy_oo (fun x hx => (h9 x hx).symm)]
        refine zw_iload_n 92 dX6_read_91 rfl rfl ?_
        refine zw_iret dX6_read_92 rfl ?_
        rw [if_pos (show zTk (σ 223) n i = 0 ∧ c ≠ 0 from ⟨by omega, by omega⟩)]
        exact ⟨g, r, h3, rfl, rfl⟩
      · rw [if_neg (show ¬ (zTk (σ 223) n i = 0 ∧ c ≠ 0) by omega)]
        refine zw_aload_n 30 dX6_read_29 rfl rfl ?_
        refine zw_iload_n 31 dX6_read_30 rfl rfl ?_
        refine zw_callV 34 _ _ dX6_read_31 rfl kX6_191 qX6_readsItem ly217 ⟨_, rfl, rfl⟩ (by decide) (sp_X6_readsItem (d := d - 1) (σ := σ) (g0 := g0) (g := g) (r := r) (n := n) (i := i) (c := c) (by omega) (by omega) hx h2 h1 h8 h9) (by omega) rfl rfl (Nat.le_of_ble_eq_true rfl) (fun r σ' hq => ?_)
        obtain ⟨v, rfl, hv, hD⟩ := zrD_v hq
        obtain ⟨g9, r9, rfl, u1, u2, u3, u4⟩ := hD
        refine zw_if_ne 45 37 dX6_read_34 (by decide) rfl (by omega) (fun h34 => ?_) (fun h34 => ?_)
        · obtain rfl : v = 1 := (by omega)
          cases hres : zrItem (σ 223) n i c r with
          | error b => rw [hres] at u4; exact absurd u4.1 (by decide)
          | ok q =>
          obtain ⟨j, r7⟩ := q
          rw [hres] at u4
          obtain ⟨-, u5, rfl⟩ := u4
          have uV := zrItem_V hres h8 h9
          have um := zrItem_m h7 hres
          refine zw_aload_n 46 dX6_read_45 rfl rfl ?_
          refine zw_callV 49 _ _ dX6_read_46 rfl kX6_155 qX6_step ly217 ⟨_, rfl, rfl⟩ (by decide) (sn_X6_step (d := d - 1) (σ := σ) (g := g9) (r := r9) (n := n) (by omega) hx ((u1 6 (by omega)).trans h2) u2) (by omega) rfl rfl (Nat.le_of_ble_eq_true rfl) (fun r σ' hq => ?_)
          obtain ⟨g1, rfl, rfl, p1, p2⟩ := hq
          have p3 := p1.2.2.2.2.2.2
          have p4 := p1.2.2.2.1
          have p5 := p1.2.2.1
          have p6 := p1.2.1
          have kb1 := zTk_b (σ 223) n (g9 10)
          refine zw_aload_n 50 dX6_read_49 rfl rfl ?_
          refine zw_gti 53 12 dX6_read_50 rfl fX6_132 (by decide) rfl rfl ly217 ?_
          try simp (disch := decide) only [zM2_r, zM2_g, zM2_217, zM2_219, zM2_ne]
          refine zw_iconst 54 dX6_read_53 rfl ?_
          refine zw_icmp_eq 65 57 dX6_read_54 (by decide) rfl (by omega) (by omega) (fun h54 => ?_) (fun h54 => ?_)
          · refine zw_iinc 68 dX6_read_65 rfl (by decide) rfl ?_
            refine zw_aload_n 69 dX6_read_68 rfl rfl ?_
            refine zw_callV 72 _ _ dX6_read_69 rfl kX6_155 qX6_step ly217 ⟨_, rfl, rfl⟩ (by decide) (sn_X6_step (d := d - 1) (σ := σ) (g := g1) (r := r9) (n := n) (by omega) hx p2 (by omega)) (by omega) rfl rfl (Nat.le_of_ble_eq_true rfl) (fun r σ' hq => ?_)
            obtain ⟨g2, rfl, rfl, p7, p8⟩ := hq
            refine zw_goto 18 dX6_read_72 (by decide) ?_
            refine zw_loc [true, true] rfl ?_
            show zw l d mX6_read 18 _ _ _ (zrF σ G (if zTk (σ 223) n j = 3 then zrLoop (σ 223) n m (zTe (σ 223) n j) (c + 1) r9 else .error (zTb (σ 223) n j)))
            have t3 := zTk_3 (tx := σ 223) (n := n) (i := g9 10) (by omega) (by omega)
            rw [← u5, if_pos (show zTk (σ 223) n (g9 10) = 3 by omega)]
            rw [p6] at p7
            exact ih _ (c + 1) g1 g2 r9 p7 p8 (fun j hj => (p7.1 j hj).trans ((p1.1 j hj).trans ((u1 j hj).trans (h3 j hj)))) (by omega) (by omega) (by omega) (by omega) uV.1 uV.2
          · refine zw_bipush 59 dX6_read_57 rfl (by decide) ?_
            refine zw_aload_n 60 dX6_read_59 rfl rfl ?_
            refine zw_gti 63 11 dX6_read_60 rfl fX6_123 (by decide) rfl rfl ly217 ?_
            try simp (disch := decide) only [zM2_r, zM2_g, zM2_217, zM2_219, zM2_ne]
            refine zw_isub 64 dX6_read_63 rfl ?_
            refine zw_iret dX6_read_64 rfl ?_
            show zrF σ G (if zTk (σ 223) n j = 3 then zrLoop (σ 223) n m (zTe (σ 223) n j) (c + 1) r9 else .error (zTb (σ 223) n j)) _ _
            rw [← u5, if_neg (show ¬ zTk (σ 223) n (g9 10) = 3 by omega)]
            exact ⟨g1, r9, fun j hj => (p1.1 j hj).trans ((u1 j hj).trans (h3 j hj)), by rw [p5], rfl⟩
        · obtain rfl : v = 0 := (by omega)
          cases hres : zrItem (σ 223) n i c r with
          | ok q => rw [hres] at u4; exact absurd u4.1 (by decide)
          | error b =>
          rw [hres] at u4
          refine zw_bipush 39 dX6_read_37 rfl (by decide) ?_
          refine zw_aload_n 40 dX6_read_39 rfl rfl ?_
          refine zw_gti 43 11 dX6_read_40 rfl fX6_123 (by decide) rfl rfl ly217 ?_
          try simp (disch := decide) only [zM2_r, zM2_g, zM2_217, zM2_219, zM2_ne]
          refine zw_isub 44 dX6_read_43 rfl ?_
          refine zw_iret dX6_read_44 rfl ?_
          exact ⟨g9, r9, fun j hj => (u1 j hj).trans (h3 j hj), by rw [u4.2], rfl⟩
