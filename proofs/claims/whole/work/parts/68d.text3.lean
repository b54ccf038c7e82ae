theorem tc_seat {l : Launch} {d : Nat} {σ : zMem} (hd : 6 ≤ d) {tx : zR} {n : Int} (hx : ztx tx n) (h7 : zt7 σ tx n) {r : zR} (hC : zCb σ 51 r) (hs : zVs r) (hr : ∀ c, 0 ≤ c → c < 5 → -1 ≤ r c ∧ r c < 1000) {g f : zR} (h1 : g 1 = n) (hb : 0 ≤ g 2 ∧ g 2 ≤ g 3 ∧ g 3 ≤ n) {c o : Int} (ho : (o = 1 ∧ c = 0) ∨ (o = 0 ∧ c ≠ 0)) (hw : g 6 = 1) : zw l d mX4_takeItem 81 [some (.ref 106), some (.ref 51), some (.int (zI o))] [] (zM4 σ g f) (zcQ σ n (zcSeat tx n (g 3) (g 2) r)) := by
  have hn := hx.1
  have c33 := hC.1.1
  have c48 := hC.1.2.1
  have hs33 := hs.1
  have hs48 := hs.2.1
  have e51 : ∀ g f : zR, zM4 σ g f 51 = σ 51 := fun g f => zM4_ne _ _ _ (by decide) (by decide)
  unfold zcSeat zcE zcSt
  refine zw_aload_n 82 dX4_takeItem_81 rfl rfl ?_
  refine zw_gti 85 0 dX4_takeItem_82 rfl fX4_70 (by decide) rfl rfl ly51 ?_
  rw [e51, c33]
  refine zw_bipush 87 dX4_takeItem_85 rfl (by decide) ?_
  refine zw_icmp_ge 132 90 dX4_takeItem_87 (by decide) rfl (by omega) (by omega) (fun h87 => ?_) (fun h87 => ?_)
  · first
      | (rw [if_pos (show 7 ≤ r 33 by omega)]
         refine zw_iconst 133 dX4_takeItem_132 rfl ?_
         refine zw_zret dX4_takeItem_133 rfl (by omega) ?_
         exact ⟨g, _, rfl, h1, by omega, rfl, rfl⟩)
      | (rw [if_neg (show ¬ zNb tx n (g 3) (0) (5) = 1 by omega)]
         refine zw_iconst 133 dX4_takeItem_132 rfl ?_
         refine zw_zret dX4_takeItem_133 rfl (by omega) ?_
         exact ⟨g1, _, rfl, o11, by omega, rfl, ob1⟩)
      | (rw [if_neg (show ¬ zNb tx n (g1 3) (0) (3) = 1 by omega)]
         refine zw_iconst 133 dX4_takeItem_132 rfl ?_
         refine zw_zret dX4_takeItem_133 rfl (by omega) ?_
         exact ⟨g2, _, rfl, o12, by omega, rfl, ob2⟩)
      | (rw [if_neg (show ¬ zNb tx n (g2 3) (0) (40) = 1 by omega)]
         refine zw_iconst 133 dX4_takeItem_132 rfl ?_
         refine zw_zret dX4_takeItem_133 rfl (by omega) ?_
         exact ⟨g3, _, rfl, o13, by omega, rfl, ob3⟩)
      | (rw [if_neg (show ¬ zTk tx n (g3 3) = 3 by omega)]
         refine zw_iconst 133 dX4_takeItem_132 rfl ?_
         refine zw_zret dX4_takeItem_133 rfl (by omega) ?_
         exact ⟨gs, _, rfl, s1, by omega, rfl, sb⟩)
  · rw [if_neg (show ¬ 7 ≤ r 33 by omega)]
    refine zw_aload_n 91 dX4_takeItem_90 rfl rfl ?_
    refine zw_iconst 92 dX4_takeItem_91 rfl ?_
    refine zw_iconst 93 dX4_takeItem_92 rfl ?_
    refine zw_iconst 94 dX4_takeItem_93 rfl ?_
    refine zw_callV 97 _ _ dX4_takeItem_94 rfl kX4_73 qX4_takeNumber ly106 ⟨_, rfl, rfl⟩ (by decide) (sp_X4_takeNumber (d := d - 1) (by omega) hx h7 (g := g) (f := f) (i := g 3) (by omega) rfl (by omega) (ix := 0) (lo := 0) (hi := 5) (by omega) (by omega) (by omega)) (by omega) rfl rfl (Nat.le_of_ble_eq_true rfl) (fun r σ' hq => ?_)
    obtain ⟨g1, rfl, rfl, ho1⟩ := hq
    have nb1 := zNb_b tx n (g 3) (0) (5)
    obtain ⟨of1, ob1, oe1, ok1, ov1⟩ := id ho1
    have ot1 := zTe_b tx (n := n) (i := g 3) (by omega)
    have o11 : g1 1 = n := (of1 1 (by omega)).trans (by assumption)
    have o61 : g1 6 = g 6 := of1 6 (by omega)
    refine zw_if_eq 132 100 dX4_takeItem_97 (by decide) rfl (by omega) (fun h97 => ?_) (fun h97 => ?_)
    · first
        | (rw [if_pos (show 7 ≤ r 33 by omega)]
           refine zw_iconst 133 dX4_takeItem_132 rfl ?_
           refine zw_zret dX4_takeItem_133 rfl (by omega) ?_
           exact ⟨g, _, rfl, h1, by omega, rfl, rfl⟩)
        | (rw [if_neg (show ¬ zNb tx n (g 3) (0) (5) = 1 by omega)]
           refine zw_iconst 133 dX4_takeItem_132 rfl ?_
           refine zw_zret dX4_takeItem_133 rfl (by omega) ?_
           exact ⟨g1, _, rfl, o11, by omega, rfl, ob1⟩)
        | (rw [if_neg (show ¬ zNb tx n (g1 3) (0) (3) = 1 by omega)]
           refine zw_iconst 133 dX4_takeItem_132 rfl ?_
           refine zw_zret dX4_takeItem_133 rfl (by omega) ?_
           exact ⟨g2, _, rfl, o12, by omega, rfl, ob2⟩)
        | (rw [if_neg (show ¬ zNb tx n (g2 3) (0) (40) = 1 by omega)]
           refine zw_iconst 133 dX4_takeItem_132 rfl ?_
           refine zw_zret dX4_takeItem_133 rfl (by omega) ?_
           exact ⟨g3, _, rfl, o13, by omega, rfl, ob3⟩)
        | (rw [if_neg (show ¬ zTk tx n (g3 3) = 3 by omega)]
           refine zw_iconst 133 dX4_takeItem_132 rfl ?_
           refine zw_zret dX4_takeItem_133 rfl (by omega) ?_
           exact ⟨gs, _, rfl, s1, by omega, rfl, sb⟩)
    · rw [if_pos (show zNb tx n (g 3) (0) (5) = 1 by omega)]
      have on1 := zNb_1 (tx := tx) (n := n) (i := g 3) (lo := 0) (hi := 5) (by omega)
      have oq1 := ov1 on1.1
      rw [← oe1, ← oq1.1]
      try dsimp only
      refine zw_aload_n 101 dX4_takeItem_100 rfl rfl ?_
      refine zw_iconst 102 dX4_takeItem_101 rfl ?_
      refine zw_iconst 103 dX4_takeItem_102 rfl ?_
      refine zw_iconst 104 dX4_takeItem_103 rfl ?_
      refine zw_callV 107 _ _ dX4_takeItem_104 rfl kX4_73 qX4_takeNumber ly106 ⟨_, rfl, rfl⟩ (by decide) (sp_X4_takeNumber (d := d - 1) (by omega) hx h7 (g := g1) (f := (zup f 0 (g1 5))) (i := g1 3) (by omega) rfl (by omega) (ix := 1) (lo := 0) (hi := 3) (by omega) (by omega) (by omega)) (by omega) rfl rfl (Nat.le_of_ble_eq_true rfl) (fun r σ' hq => ?_)
      obtain ⟨g2, rfl, rfl, ho2⟩ := hq
      have nb2 := zNb_b tx n (g1 3) (0) (3)
      obtain ⟨of2, ob2, oe2, ok2, ov2⟩ := id ho2
      have ot2 := zTe_b tx (n := n) (i := g1 3) (by omega)
      have o12 : g2 1 = n := (of2 1 (by omega)).trans (by assumption)
      have o62 : g2 6 = g1 6 := of2 6 (by omega)
      refine zw_if_eq 132 110 dX4_takeItem_107 (by decide) rfl (by omega) (fun h107 => ?_) (fun h107 => ?_)
      · first
          | (rw [if_pos (show 7 ≤ r 33 by omega)]
             refine zw_iconst 133 dX4_takeItem_132 rfl ?_
             refine zw_zret dX4_takeItem_133 rfl (by omega) ?_
             exact ⟨g, _, rfl, h1, by omega, rfl, rfl⟩)
          | (rw [if_neg (show ¬ zNb tx n (g 3) (0) (5) = 1 by omega)]
             refine zw_iconst 133 dX4_takeItem_132 rfl ?_
             refine zw_zret dX4_takeItem_133 rfl (by omega) ?_
             exact ⟨g1, _, rfl, o11, by omega, rfl, ob1⟩)
          | (rw [if_neg (show ¬ zNb tx n (g1 3) (0) (3) = 1 by omega)]
             refine zw_iconst 133 dX4_takeItem_132 rfl ?_
             refine zw_zret dX4_takeItem_133 rfl (by omega) ?_
             exact ⟨g2, _, rfl, o12, by omega, rfl, ob2⟩)
          | (rw [if_neg (show ¬ zNb tx n (g2 3) (0) (40) = 1 by omega)]
             refine zw_iconst 133 dX4_takeItem_132 rfl ?_
             refine zw_zret dX4_takeItem_133 rfl (by omega) ?_
             exact ⟨g3, _, rfl, o13, by omega, rfl, ob3⟩)
          | (rw [if_neg (show ¬ zTk tx n (g3 3) = 3 by omega)]
             refine zw_iconst 133 dX4_takeItem_132 rfl ?_
             refine zw_zret dX4_takeItem_133 rfl (by omega) ?_
             exact ⟨gs, _, rfl, s1, by omega, rfl, sb⟩)
      · rw [if_pos (show zNb tx n (g1 3) (0) (3) = 1 by omega)]
        have on2 := zNb_1 (tx := tx) (n := n) (i := g1 3) (lo := 0) (hi := 3) (by omega)
        have oq2 := ov2 on2.1
        rw [← oe2, ← oq2.1]
        try dsimp only
        refine zw_aload_n 111 dX4_takeItem_110 rfl rfl ?_
        refine zw_iconst 112 dX4_takeItem_111 rfl ?_
        refine zw_iconst 113 dX4_takeItem_112 rfl ?_
        refine zw_bipush 115 dX4_takeItem_113 rfl (by decide) ?_
        refine zw_callV 118 _ _ dX4_takeItem_115 rfl kX4_73 qX4_takeNumber ly106 ⟨_, rfl, rfl⟩ (by decide) (sp_X4_takeNumber (d := d - 1) (by omega) hx h7 (g := g2) (f := (zup (zup f 0 (g1 5)) 1 (g2 5))) (i := g2 3) (by omega) rfl (by omega) (ix := 2) (lo := 0) (hi := 40) (by omega) (by omega) (by omega)) (by omega) rfl rfl (Nat.le_of_ble_eq_true rfl) (fun r σ' hq => ?_)
        obtain ⟨g3, rfl, rfl, ho3⟩ := hq
        have nb3 := zNb_b tx n (g2 3) (0) (40)
        obtain ⟨of3, ob3, oe3, ok3, ov3⟩ := id ho3
        have ot3 := zTe_b tx (n := n) (i := g2 3) (by omega)
        have o13 : g3 1 = n := (of3 1 (by omega)).trans (by assumption)
        have o63 : g3 6 = g2 6 := of3 6 (by omega)
        refine zw_if_eq 132 121 dX4_takeItem_118 (by decide) rfl (by omega) (fun h118 => ?_) (fun h118 => ?_)
        · first
            | (rw [if_pos (show 7 ≤ r 33 by omega)]
               refine zw_iconst 133 dX4_takeItem_132 rfl ?_
               refine zw_zret dX4_takeItem_133 rfl (by omega) ?_
               exact ⟨g, _, rfl, h1, by omega, rfl, rfl⟩)
            | (rw [if_neg (show ¬ zNb tx n (g 3) (0) (5) = 1 by omega)]
               refine zw_iconst 133 dX4_takeItem_132 rfl ?_
               refine zw_zret dX4_takeItem_133 rfl (by omega) ?_
               exact ⟨g1, _, rfl, o11, by omega, rfl, ob1⟩)
            | (rw [if_neg (show ¬ zNb tx n (g1 3) (0) (3) = 1 by omega)]
               refine zw_iconst 133 dX4_takeItem_132 rfl ?_
               refine zw_zret dX4_takeItem_133 rfl (by omega) ?_
               exact ⟨g2, _, rfl, o12, by omega, rfl, ob2⟩)
            | (rw [if_neg (show ¬ zNb tx n (g2 3) (0) (40) = 1 by omega)]
               refine zw_iconst 133 dX4_takeItem_132 rfl ?_
               refine zw_zret dX4_takeItem_133 rfl (by omega) ?_
               exact ⟨g3, _, rfl, o13, by omega, rfl, ob3⟩)
            | (rw [if_neg (show ¬ zTk tx n (g3 3) = 3 by omega)]
               refine zw_iconst 133 dX4_takeItem_132 rfl ?_
               refine zw_zret dX4_takeItem_133 rfl (by omega) ?_
               exact ⟨gs, _, rfl, s1, by omega, rfl, sb⟩)
        · rw [if_pos (show zNb tx n (g2 3) (0) (40) = 1 by omega)]
          have on3 := zNb_1 (tx := tx) (n := n) (i := g2 3) (lo := 0) (hi := 40) (by omega)
          have oq3 := ov3 on3.1
          rw [← oe3, ← oq3.1]
          try dsimp only
          refine zw_aload_n 122 dX4_takeItem_121 rfl rfl ?_
          refine zw_callV 125 _ _ dX4_takeItem_122 rfl kX4_66 qX4_takeStop ly106 ⟨_, rfl, rfl⟩ (by decide) (sq_X4_takeStop (d := d - 1) (by omega) hx h7 (g := g3) (f := (zup (zup (zup f 0 (g1 5)) 1 (g2 5)) 2 (g3 5))) (i := g3 3) (by omega) rfl (by omega)) (by omega) rfl rfl (Nat.le_of_ble_eq_true rfl) (fun r σ' hq => ?_)
          obtain ⟨gs, rfl, rfl, hos⟩ := hq
          obtain ⟨sf, sb, se, sk, sv⟩ := id hos
          have st := zTe_b tx (n := n) (i := g3 3) (by omega)
          have s1 : gs 1 = n := (sf 1 (by omega)).trans (by assumption)
          have s6 : gs 6 = g3 6 := sf 6 (by omega)
          refine zw_if_eq 132 128 dX4_takeItem_125 (by decide) rfl (by omega) (fun h125 => ?_) (fun h125 => ?_)
          · first
              | (rw [if_pos (show 7 ≤ r 33 by omega)]
                 refine zw_iconst 133 dX4_takeItem_132 rfl ?_
                 refine zw_zret dX4_takeItem_133 rfl (by omega) ?_
                 exact ⟨g, _, rfl, h1, by omega, rfl, rfl⟩)
              | (rw [if_neg (show ¬ zNb tx n (g 3) (0) (5) = 1 by omega)]
                 refine zw_iconst 133 dX4_takeItem_132 rfl ?_
                 refine zw_zret dX4_takeItem_133 rfl (by omega) ?_
                 exact ⟨g1, _, rfl, o11, by omega, rfl, ob1⟩)
              | (rw [if_neg (show ¬ zNb tx n (g1 3) (0) (3) = 1 by omega)]
                 refine zw_iconst 133 dX4_takeItem_132 rfl ?_
                 refine zw_zret dX4_takeItem_133 rfl (by omega) ?_
                 exact ⟨g2, _, rfl, o12, by omega, rfl, ob2⟩)
              | (rw [if_neg (show ¬ zNb tx n (g2 3) (0) (40) = 1 by omega)]
                 refine zw_iconst 133 dX4_takeItem_132 rfl ?_
                 refine zw_zret dX4_takeItem_133 rfl (by omega) ?_
                 exact ⟨g3, _, rfl, o13, by omega, rfl, ob3⟩)
              | (rw [if_neg (show ¬ zTk tx n (g3 3) = 3 by omega)]
                 refine zw_iconst 133 dX4_takeItem_132 rfl ?_
                 refine zw_zret dX4_takeItem_133 rfl (by omega) ?_
                 exact ⟨gs, _, rfl, s1, by omega, rfl, sb⟩)
          · refine zw_iconst 129 dX4_takeItem_128 rfl ?_
            refine zw_goto 133 dX4_takeItem_129 (by decide) ?_
            refine zw_zret dX4_takeItem_133 rfl (by omega) ?_
            rw [if_pos (show zTk tx n (g3 3) = 3 by omega)]
            refine ⟨gs, _, rfl, s1, by omega, rfl, se, by omega, fun _ => by simp (disch := decide) only [zup_same, zup_ne], fun _ => by simp (disch := decide) only [zup_same, zup_ne], fun _ => by simp (disch := decide) only [zup_same, zup_ne]⟩
