theorem tc_chapter {l : Launch} {d : Nat} {σ : zMem} (hd : 6 ≤ d) {tx : zR} {n : Int} (hx : ztx tx n) (h7 : zt7 σ tx n) {r : zR} (hC : zCb σ 51 r) (hs : zVs r) (hr : ∀ c, 0 ≤ c → c < 5 → -1 ≤ r c ∧ r c < 1000) {g f : zR} (h1 : g 1 = n) (hb : 0 ≤ g 2 ∧ g 2 ≤ g 3 ∧ g 3 ≤ n) {c o : Int} (ho : (o = 1 ∧ c = 0) ∨ (o = 0 ∧ c ≠ 0)) (hw : g 6 = 0) : zw l d mX4_takeItem 76 [some (.ref 106), some (.ref 51), some (.int (zI o))] [] (zM4 σ g f) (zcQ σ n (zcSt tx n (g 3) (0, 0, 0, 0))) := by
  have hn := hx.1
  have c33 := hC.1.1
  have c48 := hC.1.2.1
  have hs33 := hs.1
  have hs48 := hs.2.1
  have e51 : ∀ g f : zR, zM4 σ g f 51 = σ 51 := fun g f => zM4_ne _ _ _ (by decide) (by decide)
  unfold zcSt
  refine zw_aload_n 77 dX4_takeItem_76 rfl rfl ?_
  refine zw_callV 80 _ _ dX4_takeItem_77 rfl kX4_66 qX4_takeStop ly106 ⟨_, rfl, rfl⟩ (by decide) (sq_X4_takeStop (d := d - 1) (by omega) hx h7 (g := g) (f := f) (i := g 3) (by omega) rfl (by omega)) (by omega) rfl rfl (Nat.le_of_ble_eq_true rfl) (fun r σ' hq => ?_)
  obtain ⟨gs, rfl, rfl, hos⟩ := hq
  obtain ⟨sf, sb, se, sk, sv⟩ := id hos
  have st := zTe_b tx (n := n) (i := g 3) (by omega)
  have s1 : gs 1 = n := (sf 1 (by omega)).trans (by assumption)
  have s6 : gs 6 = g 6 := sf 6 (by omega)
  refine zw_zret dX4_takeItem_80 rfl (by omega) ?_
  first
    | (by_cases q : zTk tx n (g 3) = 3
       · rw [if_pos q, if_pos q]
         exact ⟨gs, _, rfl, s1, by omega, rfl, se, by omega, fun h => absurd rfl h, fun h => by omega, fun h => by omega⟩
       · rw [if_neg q, if_neg q]
         exact ⟨gs, _, rfl, s1, by omega, rfl, sb⟩)
