theorem tc_years {l : Launch} {d : Nat} {σ : zMem} (hd : 6 ≤ d) {tx : zR} {n : Int} (hx : ztx tx n) (h7 : zt7 σ tx n) {r : zR} (hC : zCb σ 51 r) (hs : zVs r) (hr : ∀ c, 0 ≤ c → c < 5 → -1 ≤ r c ∧ r c < 1000) {g f : zR} (h1 : g 1 = n) (hb : 0 ≤ g 2 ∧ g 2 ≤ g 3 ∧ g 3 ≤ n) {c o : Int} (ho : (o = 1 ∧ c = 0) ∨ (o = 0 ∧ c ≠ 0)) (hw : g 6 = 4) : zw l d mX4_takeItem 241 [some (.ref 106), some (.ref 51), some (.int (zI o))] [] (zM4 σ g f) (zcQ σ n (zcYears tx n (g 3))) := by
  have hn := hx.1
  have c33 := hC.1.1
  have c48 := hC.1.2.1
  have hs33 := hs.1
  have hs48 := hs.2.1
  have e51 : ∀ g f : zR, zM4 σ g f 51 = σ 51 := fun g f => zM4_ne _ _ _ (by decide) (by decide)
  unfold zcYears zcE zcSt
  refine zw_aload_n 242 dX4_takeItem_241 rfl rfl ?_
  refine zw_iconst 243 dX4_takeItem_242 rfl ?_
  refine zw_iconst 244 dX4_takeItem_243 rfl ?_
  refine zw_bipush 246 dX4_takeItem_244 rfl (by decide) ?_
  refine zw_callV 249 _ _ dX4_takeItem_246 rfl kX4_73 qX4_takeNumber ly106 ⟨_, rfl, rfl⟩ (by decide) (sp_X4_takeNumber (d := d - 1) (by omega) hx h7 (g := g) (f := f) (i := g 3) (by omega) rfl (by omega) (ix := 0) (lo := 1) (hi := 30) (by omega) (by omega) (by omega)) (by omega) rfl rfl (Nat.le_of_ble_eq_true rfl) (fun r σ' hq => ?_)
  obtain ⟨g1, rfl, rfl, ho1⟩ := hq
  have nb1 := zNb_b tx n (g 3) (1) (30)
  obtain ⟨of1, ob1, oe1, ok1, ov1⟩ := id ho1
  have ot1 := zTe_b tx (n := n) (i := g 3) (by omega)
  have o11 : g1 1 = n := (of1 1 (by omega)).trans (by assumption)
  have o61 : g1 6 = g 6 := of1 6 (by omega)
  refine zw_if_eq 263 252 dX4_takeItem_249 (by decide) rfl (by omega) (fun h249 => ?_) (fun h249 => ?_)
  · first
      | (rw [if_neg (show ¬ zNb tx n (g 3) (1) (30) = 1 by omega)]
         refine zw_iconst 264 dX4_takeItem_263 rfl ?_
         refine zw_zret dX4_takeItem_264 rfl (by omega) ?_
         exact ⟨g1, _, rfl, o11, by omega, rfl, ob1⟩)
      | (rw [if_neg (show ¬ zTk tx n (g1 3) = 3 by omega)]
         refine zw_iconst 264 dX4_takeItem_263 rfl ?_
         refine zw_zret dX4_takeItem_264 rfl (by omega) ?_
         exact ⟨gs, _, rfl, s1, by omega, rfl, sb⟩)
  · rw [if_pos (show zNb tx n (g 3) (1) (30) = 1 by omega)]
    have on1 := zNb_1 (tx := tx) (n := n) (i := g 3) (lo := 1) (hi := 30) (by omega)
    have oq1 := ov1 on1.1
    rw [← oe1, ← oq1.1]
    try dsimp only
    refine zw_aload_n 253 dX4_takeItem_252 rfl rfl ?_
    refine zw_callV 256 _ _ dX4_takeItem_253 rfl kX4_66 qX4_takeStop ly106 ⟨_, rfl, rfl⟩ (by decide) (sq_X4_takeStop (d := d - 1) (by omega) hx h7 (g := g1) (f := (zup f 0 (g1 5))) (i := g1 3) (by omega) rfl (by omega)) (by omega) rfl rfl (Nat.le_of_ble_eq_true rfl) (fun r σ' hq => ?_)
    obtain ⟨gs, rfl, rfl, hos⟩ := hq
    obtain ⟨sf, sb, se, sk, sv⟩ := id hos
    have st := zTe_b tx (n := n) (i := g1 3) (by omega)
    have s1 : gs 1 = n := (sf 1 (by omega)).trans (by assumption)
    have s6 : gs 6 = g1 6 := sf 6 (by omega)
    refine zw_if_eq 263 259 dX4_takeItem_256 (by decide) rfl (by omega) (fun h256 => ?_) (fun h256 => ?_)
    · first
        | (rw [if_neg (show ¬ zNb tx n (g 3) (1) (30) = 1 by omega)]
           refine zw_iconst 264 dX4_takeItem_263 rfl ?_
           refine zw_zret dX4_takeItem_264 rfl (by omega) ?_
           exact ⟨g1, _, rfl, o11, by omega, rfl, ob1⟩)
        | (rw [if_neg (show ¬ zTk tx n (g1 3) = 3 by omega)]
           refine zw_iconst 264 dX4_takeItem_263 rfl ?_
           refine zw_zret dX4_takeItem_264 rfl (by omega) ?_
           exact ⟨gs, _, rfl, s1, by omega, rfl, sb⟩)
    · refine zw_iconst 260 dX4_takeItem_259 rfl ?_
      refine zw_goto 264 dX4_takeItem_260 (by decide) ?_
      refine zw_zret dX4_takeItem_264 rfl (by omega) ?_
      rw [if_pos (show zTk tx n (g1 3) = 3 by omega)]
      refine ⟨gs, _, rfl, s1, by omega, rfl, se, by omega, fun _ => by simp (disch := decide) only [zup_same, zup_ne], fun h => by omega, fun h => by omega⟩
