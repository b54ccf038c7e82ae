theorem zem_lo (g : zR) {x : Int} (h : 0 ≤ x ∧ x < 5) : zem g x = -1 := if_pos h
theorem zem_hi (g : zR) {x : Int} (h : 5 ≤ x ∧ x < 399) : zem g x = 0 := by unfold zem; rw [if_neg (by omega), if_pos (by omega)]
theorem zoo_em {N g : zR} (h : zoo N g) : zoo N (zem g) := fun x hx => by
  unfold zem; rw [if_neg (by omega), if_neg hx]; exact h x hx
theorem zVT_em (g : zR) : zVT (zem g) := by
  have e33 := zem_hi g (x := 33) (by omega)
  have e48 := zem_hi g (x := 48) (by omega)
  refine ⟨⟨by omega, by omega, fun s h0 h1 => ?_, fun c h0 h1 => ?_⟩, ⟨fun c h0 h1 => ?_, fun i h0 h1 => ?_, fun s h0 h1 => ?_, fun c c' h0 h1 h2 h3 h4 h5 => ?_, fun c h0 h1 h2 => ⟨zem_lo g ⟨h1, h2⟩, fun k k0 k1 => zem_hi g (by omega)⟩⟩, ?_⟩
  · rw [zem_hi g (x := 34 + s) (by omega), zem_hi g (x := 41 + s) (by omega)]; omega
  · rw [zem_hi g (x := 49 + c) (by omega), zem_hi g (x := 54 + c) (by omega)]; omega
  · rw [zem_lo g ⟨h0, h1⟩, e33]; omega
  · rw [zem_hi g (x := 5 + i) (by omega)]; omega
  · rw [zem_hi g (x := 25 + s) (by omega)]; omega
  · exact zem_lo g ⟨h0, h1⟩
  · rw [zem_hi g (x := 32) (by omega)]; omega
theorem sp_X6_read {l : Launch} {d : Nat} {σ : zMem} (hd : 10 ≤ d) (hx : ztx (σ 223) (σ 217 6)) (ho : zoo (σ 218) (σ 219)) : zSp l d mX6_read [.ref 217] σ (zrF σ (σ 217) (zrLoop (σ 223) (σ 217 6) 200 0 0 (zem (σ 219)))) := by
  refine zSp_of oX6_read (Nat.le_of_ble_eq_true rfl) ?_
  show zw l d mX6_read 0 [some (.ref 217), none] [] σ _
  have hn := hx.1
  refine zw_aload_n 1 dX6_read_0 rfl rfl ?_
  refine zw_getr 4 (219) (o := 2) dX6_read_1 rfl fX6_13 (by decide) rfl rfl ly217 ?_
  refine zw_callS 7 _ _ dX6_read_4 rfl kX6_48 qX6_empties (sp_X6_empties (d := d - 1) (σ := σ) ly219 (by decide)) (by omega) rfl rfl (Nat.le_of_ble_eq_true rfl) (fun r σ' hq => ?_)
  obtain ⟨rfl, rfl⟩ := hq
  refine zw_mem (σ' := zM2 σ (σ 217) (zem (σ 219))) (by unfold zM2; rw [zwa_id]) ?_
  refine zw_aload_n 8 dX6_read_7 rfl rfl ?_
  refine zw_iconst 9 dX6_read_8 rfl ?_
  refine zw_pti 12 10 dX6_read_9 rfl pX6_112 (by decide) rfl rfl ly217 ?_
  rw [zM2_g]
  refine zw_iconst 13 dX6_read_12 rfl ?_
  refine zw_istore_n 14 dX6_read_13 rfl (by decide) ?_
  refine zw_aload_n 15 dX6_read_14 rfl rfl ?_
  refine zw_callV 18 _ _ dX6_read_15 rfl kX6_155 qX6_step ly217 ⟨_, rfl, rfl⟩ (by decide) (sn_X6_step (d := d - 1) (σ := σ) (g := zup (σ 217) 10 0) (r := zem (σ 219)) (n := σ 217 6) (by omega) hx (zup_ne _ _ (by decide)) (by rw [zup_same]; omega)) (by omega) rfl rfl (Nat.le_of_ble_eq_true rfl) (fun r σ' hq => ?_)
  obtain ⟨g1, rfl, rfl, p1, p2⟩ := hq
  rw [zup_same] at p1
  refine zw_loc [true, true] rfl ?_
  exact lp_X6_read (by omega) hx 200 0 0 _ g1 _ p1 p2 (fun j hj => (p1.1 j hj).trans (zup_ne _ _ (by omega))) (by omega) (by omega) (by omega) (by omega) (zVT_em _) (zoo_em ho)
