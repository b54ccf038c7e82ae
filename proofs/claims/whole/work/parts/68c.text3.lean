theorem tc_canon {l : Launch} {d : Nat} {σ : zMem} (hd : 6 ≤ d) {tx : zR} {n : Int} (hx : ztx tx n) (h7 : zt7 σ tx n) {r : zR} (hC : zCb σ 51 r) (hs : zVs r) (hr : ∀ c, 0 ≤ c → c < 5 → -1 ≤ r c ∧ r c < 1000) {g f : zR} (h1 : g 1 = n) (hb : 0 ≤ g 2 ∧ g 2 ≤ g 3 ∧ g 3 ≤ n) {c o : Int} (ho : (o = 1 ∧ c = 0) ∨ (o = 0 ∧ c ≠ 0)) (hw : g 6 = 2) : zw l d mX4_takeItem 134 [some (.ref 106), some (.ref 51), some (.int (zI o))] [] (zM4 σ g f) (zcQ σ n (zcCanon tx n (g 3) (g 2) r)) := by
  have hn := hx.1
  have c33 := hC.1.1
  have c48 := hC.1.2.1
  have hs33 := hs.1
  have hs48 := hs.2.1
  have e51 : ∀ g f : zR, zM4 σ g f 51 = σ 51 := fun g f => zM4_ne _ _ _ (by decide) (by decide)
  unfold zcCanon zcE zcSt
  refine zw_aload_n 135 dX4_takeItem_134 rfl rfl ?_
  refine zw_gti 138 1 dX4_takeItem_135 rfl fX4_77 (by decide) rfl rfl ly51 ?_
  rw [e51, c48]
  refine zw_iconst 139 dX4_takeItem_138 rfl ?_
  refine zw_icmp_ge 174 142 dX4_takeItem_139 (by decide) rfl (by omega) (by omega) (fun h139 => ?_) (fun h139 => ?_)
  · first
      | (rw [if_pos (show 5 ≤ r 48 by omega)]
         refine zw_iconst 175 dX4_takeItem_174 rfl ?_
         refine zw_zret dX4_takeItem_175 rfl (by omega) ?_
         exact ⟨g, _, rfl, h1, by omega, rfl, rfl⟩)
      | (rw [if_neg (show ¬ zNb tx n (g 3) (0) (5) = 1 by omega)]
         refine zw_iconst 175 dX4_takeItem_174 rfl ?_
         refine zw_zret dX4_takeItem_175 rfl (by omega) ?_
         exact ⟨g1, _, rfl, o11, by omega, rfl, ob1⟩)
      | (rw [if_neg (show ¬ zNb tx n (g1 3) (1) (9) = 1 by omega)]
         refine zw_iconst 175 dX4_takeItem_174 rfl ?_
         refine zw_zret dX4_takeItem_175 rfl (by omega) ?_
         exact ⟨g2, _, rfl, o12, by omega, rfl, ob2⟩)
      | (rw [if_neg (show ¬ zTk tx n (g2 3) = 3 by omega)]
         refine zw_iconst 175 dX4_takeItem_174 rfl ?_
         refine zw_zret dX4_takeItem_175 rfl (by omega) ?_
         exact ⟨gs, _, rfl, s1, by omega, rfl, sb⟩)
  · rw [if_neg (show ¬ 5 ≤ r 48 by omega)]
    refine zw_aload_n 143 dX4_takeItem_142 rfl rfl ?_
    refine zw_iconst 144 dX4_takeItem_143 rfl ?_
    refine zw_iconst 145 dX4_takeItem_144 rfl ?_
    refine zw_iconst 146 dX4_takeItem_145 rfl ?_
    refine zw_callV 149 _ _ dX4_takeItem_146 rfl kX4_73 qX4_takeNumber ly106 ⟨_, rfl, rfl⟩ (by decide) (sp_X4_takeNumber (d := d - 1) (by omega) hx h7 (g := g) (f := f) (i := g 3) (by omega) rfl (by omega) (ix := 0) (lo := 0) (hi := 5) (by omega) (by omega) (by omega)) (by omega) rfl rfl (Nat.le_of_ble_eq_true rfl) (fun r σ' hq => ?_)
    obtain ⟨g1, rfl, rfl, ho1⟩ := hq
    have nb1 := zNb_b tx n (g 3) (0) (5)
    obtain ⟨of1, ob1, oe1, ok1, ov1⟩ := id ho1
    have ot1 := zTe_b tx (n := n) (i := g 3) (by omega)
    have o11 : g1 1 = n := (of1 1 (by omega)).trans (by assumption)
    have o61 : g1 6 = g 6 := of1 6 (by omega)
    refine zw_if_eq 174 152 dX4_takeItem_149 (by decide) rfl (by omega) (fun h149 => ?_) (fun h149 => ?_)
    · first
        | (rw [if_pos (show 5 ≤ r 48 by omega)]
           refine zw_iconst 175 dX4_takeItem_174 rfl ?_
           refine zw_zret dX4_takeItem_175 rfl (by omega) ?_
           exact ⟨g, _, rfl, h1, by omega, rfl, rfl⟩)
        | (rw [if_neg (show ¬ zNb tx n (g 3) (0) (5) = 1 by omega)]
           refine zw_iconst 175 dX4_takeItem_174 rfl ?_
           refine zw_zret dX4_takeItem_175 rfl (by omega) ?_
           exact ⟨g1, _, rfl, o11, by omega, rfl, ob1⟩)
        | (rw [if_neg (show ¬ zNb tx n (g1 3) (1) (9) = 1 by omega)]
           refine zw_iconst 175 dX4_takeItem_174 rfl ?_
           refine zw_zret dX4_takeItem_175 rfl (by omega) ?_
           exact ⟨g2, _, rfl, o12, by omega, rfl, ob2⟩)
        | (rw [if_neg (show ¬ zTk tx n (g2 3) = 3 by omega)]
           refine zw_iconst 175 dX4_takeItem_174 rfl ?_
           refine zw_zret dX4_takeItem_175 rfl (by omega) ?_
           exact ⟨gs, _, rfl, s1, by omega, rfl, sb⟩)
    · rw [if_pos (show zNb tx n (g 3) (0) (5) = 1 by omega)]
      have on1 := zNb_1 (tx := tx) (n := n) (i := g 3) (lo := 0) (hi := 5) (by omega)
      have oq1 := ov1 on1.1
      rw [← oe1, ← oq1.1]
      try dsimp only
      refine zw_aload_n 153 dX4_takeItem_152 rfl rfl ?_
      refine zw_iconst 154 dX4_takeItem_153 rfl ?_
      refine zw_iconst 155 dX4_takeItem_154 rfl ?_
      refine zw_bipush 157 dX4_takeItem_155 rfl (by decide) ?_
      refine zw_callV 160 _ _ dX4_takeItem_157 rfl kX4_73 qX4_takeNumber ly106 ⟨_, rfl, rfl⟩ (by decide) (sp_X4_takeNumber (d := d - 1) (by omega) hx h7 (g := g1) (f := (zup f 0 (g1 5))) (i := g1 3) (by omega) rfl (by omega) (ix := 1) (lo := 1) (hi := 9) (by omega) (by omega) (by omega)) (by omega) rfl rfl (Nat.le_of_ble_eq_true rfl) (fun r σ' hq => ?_)
      obtain ⟨g2, rfl, rfl, ho2⟩ := hq
      have nb2 := zNb_b tx n (g1 3) (1) (9)
      obtain ⟨of2, ob2, oe2, ok2, ov2⟩ := id ho2
      have ot2 := zTe_b tx (n := n) (i := g1 3) (by omega)
      have o12 : g2 1 = n := (of2 1 (by omega)).trans (by assumption)
      have o62 : g2 6 = g1 6 := of2 6 (by omega)
      refine zw_if_eq 174 163 dX4_takeItem_160 (by decide) rfl (by omega) (fun h160 => ?_) (fun h160 => ?_)
      · first
          | (rw [if_pos (show 5 ≤ r 48 by omega)]
             refine zw_iconst 175 dX4_takeItem_174 rfl ?_
             refine zw_zret dX4_takeItem_175 rfl (by omega) ?_
             exact ⟨g, _, rfl, h1, by omega, rfl, rfl⟩)
          | (rw [if_neg (show ¬ zNb tx n (g 3) (0) (5) = 1 by omega)]
             refine zw_iconst 175 dX4_takeItem_174 rfl ?_
             refine zw_zret dX4_takeItem_175 rfl (by omega) ?_
             exact ⟨g1, _, rfl, o11, by omega, rfl, ob1⟩)
          | (rw [if_neg (show ¬ zNb tx n (g1 3) (1) (9) = 1 by omega)]
             refine zw_iconst 175 dX4_takeItem_174 rfl ?_
             refine zw_zret dX4_takeItem_175 rfl (by omega) ?_
             exact ⟨g2, _, rfl, o12, by omega, rfl, ob2⟩)
          | (rw [if_neg (show ¬ zTk tx n (g2 3) = 3 by omega)]
             refine zw_iconst 175 dX4_takeItem_174 rfl ?_
             refine zw_zret dX4_takeItem_175 rfl (by omega) ?_
             exact ⟨gs, _, rfl, s1, by omega, rfl, sb⟩)
      · rw [if_pos (show zNb tx n (g1 3) (1) (9) = 1 by omega)]
        have on2 := zNb_1 (tx := tx) (n := n) (i := g1 3) (lo := 1) (hi := 9) (by omega)
        have oq2 := ov2 on2.1
        rw [← oe2, ← oq2.1]
        try dsimp only
        refine zw_aload_n 164 dX4_takeItem_163 rfl rfl ?_
        refine zw_callV 167 _ _ dX4_takeItem_164 rfl kX4_66 qX4_takeStop ly106 ⟨_, rfl, rfl⟩ (by decide) (sq_X4_takeStop (d := d - 1) (by omega) hx h7 (g := g2) (f := (zup (zup f 0 (g1 5)) 1 (g2 5))) (i := g2 3) (by omega) rfl (by omega)) (by omega) rfl rfl (Nat.le_of_ble_eq_true rfl) (fun r σ' hq => ?_)
        obtain ⟨gs, rfl, rfl, hos⟩ := hq
        obtain ⟨sf, sb, se, sk, sv⟩ := id hos
        have st := zTe_b tx (n := n) (i := g2 3) (by omega)
        have s1 : gs 1 = n := (sf 1 (by omega)).trans (by assumption)
        have s6 : gs 6 = g2 6 := sf 6 (by omega)
        refine zw_if_eq 174 170 dX4_takeItem_167 (by decide) rfl (by omega) (fun h167 => ?_) (fun h167 => ?_)
        · first
            | (rw [if_pos (show 5 ≤ r 48 by omega)]
               refine zw_iconst 175 dX4_takeItem_174 rfl ?_
               refine zw_zret dX4_takeItem_175 rfl (by omega) ?_
               exact ⟨g, _, rfl, h1, by omega, rfl, rfl⟩)
            | (rw [if_neg (show ¬ zNb tx n (g 3) (0) (5) = 1 by omega)]
               refine zw_iconst 175 dX4_takeItem_174 rfl ?_
               refine zw_zret dX4_takeItem_175 rfl (by omega) ?_
               exact ⟨g1, _, rfl, o11, by omega, rfl, ob1⟩)
            | (rw [if_neg (show ¬ zNb tx n (g1 3) (1) (9) = 1 by omega)]
               refine zw_iconst 175 dX4_takeItem_174 rfl ?_
               refine zw_zret dX4_takeItem_175 rfl (by omega) ?_
               exact ⟨g2, _, rfl, o12, by omega, rfl, ob2⟩)
            | (rw [if_neg (show ¬ zTk tx n (g2 3) = 3 by omega)]
               refine zw_iconst 175 dX4_takeItem_174 rfl ?_
               refine zw_zret dX4_takeItem_175 rfl (by omega) ?_
               exact ⟨gs, _, rfl, s1, by omega, rfl, sb⟩)
        · refine zw_iconst 171 dX4_takeItem_170 rfl ?_
          refine zw_goto 175 dX4_takeItem_171 (by decide) ?_
          refine zw_zret dX4_takeItem_175 rfl (by omega) ?_
          rw [if_pos (show zTk tx n (g2 3) = 3 by omega)]
          refine ⟨gs, _, rfl, s1, by omega, rfl, se, by omega, fun _ => by simp (disch := decide) only [zup_same, zup_ne], fun _ => by simp (disch := decide) only [zup_same, zup_ne], fun h => by omega⟩
