theorem tc_sits {l : Launch} {d : Nat} {σ : zMem} (hd : 6 ≤ d) {tx : zR} {n : Int} (hx : ztx tx n) (h7 : zt7 σ tx n) {r : zR} (hC : zCb σ 51 r) (hs : zVs r) (hr : ∀ c, 0 ≤ c → c < 5 → -1 ≤ r c ∧ r c < 1000) {g f : zR} (h1 : g 1 = n) (hb : 0 ≤ g 2 ∧ g 2 ≤ g 3 ∧ g 3 ≤ n) {c o : Int} (ho : (o = 1 ∧ c = 0) ∨ (o = 0 ∧ c ≠ 0)) (hw : g 6 = 3) : zw l d mX4_takeItem 176 [some (.ref 106), some (.ref 51), some (.int (zI o))] [] (zM4 σ g f) (zcQ σ n (zcSit tx n (g 3) r)) := by
  have hn := hx.1
  have c33 := hC.1.1
  have c48 := hC.1.2.1
  have hs33 := hs.1
  have hs48 := hs.2.1
  have e51 : ∀ g f : zR, zM4 σ g f 51 = σ 51 := fun g f => zM4_ne _ _ _ (by decide) (by decide)
  unfold zcSit zcE zcSt
  refine zw_aload_n 177 dX4_takeItem_176 rfl rfl ?_
  refine zw_iconst 178 dX4_takeItem_177 rfl ?_
  refine zw_iconst 179 dX4_takeItem_178 rfl ?_
  refine zw_aload_n 180 dX4_takeItem_179 rfl rfl ?_
  refine zw_gti 183 1 dX4_takeItem_180 rfl fX4_77 (by decide) rfl rfl ly51 ?_
  rw [e51, c48]
  refine zw_iconst 184 dX4_takeItem_183 rfl ?_
  refine zw_isub 185 dX4_takeItem_184 rfl ?_
  refine zw_callV 188 _ _ dX4_takeItem_185 rfl kX4_73 qX4_takeNumber ly106 ⟨_, rfl, rfl⟩ (by decide) (sp_X4_takeNumber (d := d - 1) (by omega) hx h7 (g := g) (f := f) (i := g 3) (by omega) rfl (by omega) (ix := 0) (lo := 0) (hi := r 48 - 1) (by omega) (by omega) (by omega)) (by omega) rfl rfl (Nat.le_of_ble_eq_true rfl) (fun r σ' hq => ?_)
  obtain ⟨g1, rfl, rfl, ho1⟩ := hq
  have nb1 := zNb_b tx n (g 3) (0) (r 48 - 1)
  obtain ⟨of1, ob1, oe1, ok1, ov1⟩ := id ho1
  have ot1 := zTe_b tx (n := n) (i := g 3) (by omega)
  have o11 : g1 1 = n := (of1 1 (by omega)).trans (by assumption)
  have o61 : g1 6 = g 6 := of1 6 (by omega)
  refine zw_if_eq 239 191 dX4_takeItem_188 (by decide) rfl (by omega) (fun h188 => ?_) (fun h188 => ?_)
  · first
      | (rw [if_neg (show ¬ zNb tx n (g 3) (0) (r 48 - 1) = 1 by omega)]
         refine zw_iconst 240 dX4_takeItem_239 rfl ?_
         refine zw_zret dX4_takeItem_240 rfl (by omega) ?_
         exact ⟨g1, _, rfl, o11, by omega, rfl, ob1⟩)
      | (rw [if_neg (show ¬ zNb tx n (g1 3) (0) (r 33 - 1) = 1 by omega)]
         refine zw_iconst 240 dX4_takeItem_239 rfl ?_
         refine zw_zret dX4_takeItem_240 rfl (by omega) ?_
         exact ⟨g2, _, rfl, o12, by omega, rfl, ob2⟩)
      | (rw [if_pos (show (g2 5 ≠ -1 ∧ zwo r (g2 5) ≠ -1 ∧ zwo r (g2 5) ≠ g1 5) by omega)]
         refine zw_iconst 240 dX4_takeItem_239 rfl ?_
         refine zw_zret dX4_takeItem_240 rfl (by omega) ?_
         exact ⟨g2, _, rfl, o12, by omega, rfl, ob2⟩)
      | (rw [if_neg (show ¬ zTk tx n (g2 3) = 3 by omega)]
         refine zw_iconst 240 dX4_takeItem_239 rfl ?_
         refine zw_zret dX4_takeItem_240 rfl (by omega) ?_
         exact ⟨gs, _, rfl, s1, by omega, rfl, sb⟩)
  · rw [if_pos (show zNb tx n (g 3) (0) (r 48 - 1) = 1 by omega)]
    have on1 := zNb_1 (tx := tx) (n := n) (i := g 3) (lo := 0) (hi := r 48 - 1) (by omega)
    have oq1 := ov1 on1.1
    rw [← oe1, ← oq1.1]
    try dsimp only
    refine zw_aload_n 192 dX4_takeItem_191 rfl rfl ?_
    refine zw_iconst 193 dX4_takeItem_192 rfl ?_
    refine zw_iconst 194 dX4_takeItem_193 rfl ?_
    refine zw_aload_n 195 dX4_takeItem_194 rfl rfl ?_
    refine zw_gti 198 0 dX4_takeItem_195 rfl fX4_70 (by decide) rfl rfl ly51 ?_
    rw [e51, c33]
    refine zw_iconst 199 dX4_takeItem_198 rfl ?_
    refine zw_isub 200 dX4_takeItem_199 rfl ?_
    refine zw_callV 203 _ _ dX4_takeItem_200 rfl kX4_73 qX4_takeNumber ly106 ⟨_, rfl, rfl⟩ (by decide) (sp_X4_takeNumber (d := d - 1) (by omega) hx h7 (g := g1) (f := (zup f 0 (g1 5))) (i := g1 3) (by omega) rfl (by omega) (ix := 1) (lo := 0) (hi := r 33 - 1) (by omega) (by omega) (by omega)) (by omega) rfl rfl (Nat.le_of_ble_eq_true rfl) (fun r σ' hq => ?_)
    obtain ⟨g2, rfl, rfl, ho2⟩ := hq
    have nb2 := zNb_b tx n (g1 3) (0) (r 33 - 1)
    obtain ⟨of2, ob2, oe2, ok2, ov2⟩ := id ho2
    have ot2 := zTe_b tx (n := n) (i := g1 3) (by omega)
    have o12 : g2 1 = n := (of2 1 (by omega)).trans (by assumption)
    have o62 : g2 6 = g1 6 := of2 6 (by omega)
    refine zw_if_eq 239 206 dX4_takeItem_203 (by decide) rfl (by omega) (fun h203 => ?_) (fun h203 => ?_)
    · first
        | (rw [if_neg (show ¬ zNb tx n (g 3) (0) (r 48 - 1) = 1 by omega)]
           refine zw_iconst 240 dX4_takeItem_239 rfl ?_
           refine zw_zret dX4_takeItem_240 rfl (by omega) ?_
           exact ⟨g1, _, rfl, o11, by omega, rfl, ob1⟩)
        | (rw [if_neg (show ¬ zNb tx n (g1 3) (0) (r 33 - 1) = 1 by omega)]
           refine zw_iconst 240 dX4_takeItem_239 rfl ?_
           refine zw_zret dX4_takeItem_240 rfl (by omega) ?_
           exact ⟨g2, _, rfl, o12, by omega, rfl, ob2⟩)
        | (rw [if_pos (show (g2 5 ≠ -1 ∧ zwo r (g2 5) ≠ -1 ∧ zwo r (g2 5) ≠ g1 5) by omega)]
           refine zw_iconst 240 dX4_takeItem_239 rfl ?_
           refine zw_zret dX4_takeItem_240 rfl (by omega) ?_
           exact ⟨g2, _, rfl, o12, by omega, rfl, ob2⟩)
        | (rw [if_neg (show ¬ zTk tx n (g2 3) = 3 by omega)]
           refine zw_iconst 240 dX4_takeItem_239 rfl ?_
           refine zw_zret dX4_takeItem_240 rfl (by omega) ?_
           exact ⟨gs, _, rfl, s1, by omega, rfl, sb⟩)
    · rw [if_pos (show zNb tx n (g1 3) (0) (r 33 - 1) = 1 by omega)]
      have on2 := zNb_1 (tx := tx) (n := n) (i := g1 3) (lo := 0) (hi := r 33 - 1) (by omega)
      have oq2 := ov2 on2.1
      rw [← oe2, ← oq2.1]
      try dsimp only
      refine zw_aload_n 207 dX4_takeItem_206 rfl rfl ?_
      refine zw_getr 210 (57) (o := 6) dX4_takeItem_207 rfl fX4_49 (by decide) rfl rfl ly51 ?_
      refine zw_aload_n 211 dX4_takeItem_210 rfl rfl ?_
      refine zw_getr 214 (108) (o := 2) dX4_takeItem_211 rfl fX4_15 (by decide) rfl rfl ly106 ?_
      refine zw_iconst 215 dX4_takeItem_214 rfl ?_
      refine zw_iald 216 dX4_takeItem_215 rfl ly108 (by omega) ?_
      simp (disch := decide) only [zM4_106, zM4_108, zup_same, zup_ne]
      refine zw_aload_n 217 dX4_takeItem_216 rfl rfl ?_
      refine zw_getr 220 (108) (o := 2) dX4_takeItem_217 rfl fX4_15 (by decide) rfl rfl ly106 ?_
      refine zw_iconst 221 dX4_takeItem_220 rfl ?_
      refine zw_iald 222 dX4_takeItem_221 rfl ly108 (by omega) ?_
      simp (disch := decide) only [zM4_106, zM4_108, zup_same, zup_ne]
      refine zw_callV 225 _ _ dX4_takeItem_222 rfl kX4_80 qX2_isHeldByOther ly57 ⟨_, rfl, rfl⟩ (by decide) (sp_X2_isHeldByOther (d := d - 1) (by omega) ly57 (t := r) (zSc_fr (fun b b0 b1 => zM4_ne _ _ _ (by omega) (by omega)) hC.2.1) hr (c := g1 5) (s := g2 5) (by omega) (by omega)) (by omega) rfl rfl (Nat.le_of_ble_eq_true rfl) (fun r σ' hq => ?_)
      obtain ⟨rfl, rfl⟩ := hq
      refine zw_if_ne 239 228 dX4_takeItem_225 (by decide) rfl (by omega) (fun h225 => ?_) (fun h225 => ?_)
      · first
          | (rw [if_neg (show ¬ zNb tx n (g 3) (0) (r 48 - 1) = 1 by omega)]
             refine zw_iconst 240 dX4_takeItem_239 rfl ?_
             refine zw_zret dX4_takeItem_240 rfl (by omega) ?_
             exact ⟨g1, _, rfl, o11, by omega, rfl, ob1⟩)
          | (rw [if_neg (show ¬ zNb tx n (g1 3) (0) (r 33 - 1) = 1 by omega)]
             refine zw_iconst 240 dX4_takeItem_239 rfl ?_
             refine zw_zret dX4_takeItem_240 rfl (by omega) ?_
             exact ⟨g2, _, rfl, o12, by omega, rfl, ob2⟩)
          | (rw [if_pos (show (g2 5 ≠ -1 ∧ zwo r (g2 5) ≠ -1 ∧ zwo r (g2 5) ≠ g1 5) by omega)]
             refine zw_iconst 240 dX4_takeItem_239 rfl ?_
             refine zw_zret dX4_takeItem_240 rfl (by omega) ?_
             exact ⟨g2, _, rfl, o12, by omega, rfl, ob2⟩)
          | (rw [if_neg (show ¬ zTk tx n (g2 3) = 3 by omega)]
             refine zw_iconst 240 dX4_takeItem_239 rfl ?_
             refine zw_zret dX4_takeItem_240 rfl (by omega) ?_
             exact ⟨gs, _, rfl, s1, by omega, rfl, sb⟩)
      · rw [if_neg (show ¬ (g2 5 ≠ -1 ∧ zwo r (g2 5) ≠ -1 ∧ zwo r (g2 5) ≠ g1 5) by omega)]
        refine zw_aload_n 229 dX4_takeItem_228 rfl rfl ?_
        refine zw_callV 232 _ _ dX4_takeItem_229 rfl kX4_66 qX4_takeStop ly106 ⟨_, rfl, rfl⟩ (by decide) (sq_X4_takeStop (d := d - 1) (by omega) hx h7 (g := g2) (f := (zup (zup f 0 (g1 5)) 1 (g2 5))) (i := g2 3) (by omega) rfl (by omega)) (by omega) rfl rfl (Nat.le_of_ble_eq_true rfl) (fun r σ' hq => ?_)
        obtain ⟨gs, rfl, rfl, hos⟩ := hq
        obtain ⟨sf, sb, se, sk, sv⟩ := id hos
        have st := zTe_b tx (n := n) (i := g2 3) (by omega)
        have s1 : gs 1 = n := (sf 1 (by omega)).trans (by assumption)
        have s6 : gs 6 = g2 6 := sf 6 (by omega)
        refine zw_if_eq 239 235 dX4_takeItem_232 (by decide) rfl (by omega) (fun h232 => ?_) (fun h232 => ?_)
        · first
            | (rw [if_neg (show ¬ zNb tx n (g 3) (0) (r 48 - 1) = 1 by omega)]
               refine zw_iconst 240 dX4_takeItem_239 rfl ?_
               refine zw_zret dX4_takeItem_240 rfl (by omega) ?_
               exact ⟨g1, _, rfl, o11, by omega, rfl, ob1⟩)
            | (rw [if_neg (show ¬ zNb tx n (g1 3) (0) (r 33 - 1) = 1 by omega)]
               refine zw_iconst 240 dX4_takeItem_239 rfl ?_
               refine zw_zret dX4_takeItem_240 rfl (by omega) ?_
               exact ⟨g2, _, rfl, o12, by omega, rfl, ob2⟩)
            | (rw [if_pos (show (g2 5 ≠ -1 ∧ zwo r (g2 5) ≠ -1 ∧ zwo r (g2 5) ≠ g1 5) by omega)]
               refine zw_iconst 240 dX4_takeItem_239 rfl ?_
               refine zw_zret dX4_takeItem_240 rfl (by omega) ?_
               exact ⟨g2, _, rfl, o12, by omega, rfl, ob2⟩)
            | (rw [if_neg (show ¬ zTk tx n (g2 3) = 3 by omega)]
               refine zw_iconst 240 dX4_takeItem_239 rfl ?_
               refine zw_zret dX4_takeItem_240 rfl (by omega) ?_
               exact ⟨gs, _, rfl, s1, by omega, rfl, sb⟩)
        · refine zw_iconst 236 dX4_takeItem_235 rfl ?_
          refine zw_goto 240 dX4_takeItem_236 (by decide) ?_
          refine zw_zret dX4_takeItem_240 rfl (by omega) ?_
          rw [if_pos (show zTk tx n (g2 3) = 3 by omega)]
          refine ⟨gs, _, rfl, s1, by omega, rfl, se, by omega, fun _ => by simp (disch := decide) only [zup_same, zup_ne], fun _ => by simp (disch := decide) only [zup_same, zup_ne], fun h => by omega⟩
