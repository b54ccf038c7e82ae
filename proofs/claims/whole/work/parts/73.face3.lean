theorem sp_X5_write {l : Launch} {d : Nat} {σ : zMem} (hd : 1 ≤ d) {b : Nat} (hb : zly b = some (1, 3)) {v1 v2 v3 v4 v5 : Int} (hk : 0 ≤ σ b 1 ∧ σ b 1 ≤ 6)  : zSp l d mX5_write [.ref 1, .ref b, .int (zI v1), .int (zI v2), .int (zI v3), .int (zI v4), .int (zI v5)] σ (fun a σ1 => (σ b 1 = 6 → a = some (.int (zI (-4))) ∧ zbm σ 118 2 = σ1) ∧ (σ b 1 ≠ 6 → a = some (.int (zI (σ b 1 + 1))) ∧ zwr (zwa σ (b + 1) (zup (zup (zup (zup (zup (σ (b + 1)) (5 * σ b 1) v1) (5 * σ b 1 + 1) v2) (5 * σ b 1 + 2) v3) (5 * σ b 1 + 3) v4) (5 * σ b 1 + 4) v5)) b 1 (σ b 1 + 1) = σ1)) := by
  refine zSp_of oX5_write (Nat.le_of_ble_eq_true rfl) ?_
  show zw l d mX5_write 0 [some (.ref 1), some (.ref b), some (.int (zI v1)), some (.int (zI v2)), some (.int (zI v3)), some (.int (zI v4)), some (.int (zI v5))] [] σ _
  refine zw_aload_n 1 dX5_write_0 rfl rfl ?_
  refine zw_gti 4 1 dX5_write_1 rfl fX5_257 (by decide) rfl rfl hb ?_
  refine zw_bipush 6 dX5_write_4 rfl (by decide) ?_
  refine zw_icmp_lt 16 9 dX5_write_6 (by decide) rfl (by omega) (by omega) (fun h6 => ?_) (fun h6 => ?_)
  · refine zw_aload_n 17 dX5_write_16 rfl rfl ?_
    refine zw_iload_n 18 dX5_write_17 rfl rfl ?_
    refine zw_iload_n 19 dX5_write_18 rfl rfl ?_
    refine zw_iload 21 dX5_write_19 rfl rfl ?_
    refine zw_iload 23 dX5_write_21 rfl rfl ?_
    refine zw_iload 25 dX5_write_23 rfl rfl ?_
    refine zw_callV 28 _ _ dX5_write_25 rfl kX5_320 qX1_add hb ⟨_, rfl, rfl⟩ (by decide) (sp_X1_add (d := d - 1) hb (v1 := v1) (v2 := v2) (v3 := v3) (v4 := v4) (v5 := v5) (by omega)) (by omega) rfl rfl (Nat.le_of_ble_eq_true rfl) (fun r σ' hq => ?_)
    obtain ⟨rfl, rfl⟩ := hq
    refine zw_aload_n 29 dX5_write_28 rfl rfl ?_
    refine zw_gti 32 1 dX5_write_29 rfl fX5_257 (by decide) rfl rfl hb ?_
    rw [zwr_same]
    refine zw_iret dX5_write_32 rfl ?_
    first
      | exact ⟨fun _ => ⟨rfl, rfl⟩, fun h => by exfalso; omega⟩
      | exact ⟨fun h => by exfalso; omega, fun _ => ⟨rfl, rfl⟩⟩
  · refine zw_aload_n 10 dX5_write_9 rfl rfl ?_
    refine zw_bipush 12 dX5_write_10 rfl (by decide) ?_
    refine zw_callV 15 _ _ dX5_write_12 rfl kX5_89 qX5_refuse ly1 ⟨_, rfl, rfl⟩ (by decide) (sp_X5_refuse_4 (d := d - 1)) (by omega) rfl rfl (Nat.le_of_ble_eq_true rfl) (fun r σ' hq => ?_)
    obtain ⟨rfl, rfl⟩ := hq
    refine zw_iret dX5_write_15 rfl ?_
    first
      | exact ⟨fun _ => ⟨rfl, rfl⟩, fun h => by exfalso; omega⟩
      | exact ⟨fun h => by exfalso; omega, fun _ => ⟨rfl, rfl⟩⟩
theorem zCh_wish {σ : zMem} {a : Nat} {N : zR} {c t x : Int} (hB : zBd N) (hk : 0 ≤ N 59 ∧ N 59 < 6) (hC : zCh σ a N) : zCh (zwr (zwa σ (a + 12) (zup (zup (zup (zup (zup (σ (a + 12)) (5 * σ (a + 11) 1) c) (5 * σ (a + 11) 1 + 1) t) (5 * σ (a + 11) 1 + 2) x) (5 * σ (a + 11) 1 + 3) 0) (5 * σ (a + 11) 1 + 4) 0)) (a + 11) 1 (σ (a + 11) 1 + 1)) a (zwN N c t x) := by
  obtain ⟨⟨⟨c0, c1, c2, c3⟩, c4, cr11, cr13, cr15⟩, d1, p, d2, d3⟩ := hC
  obtain ⟨b1, b2, b3, b4, b5, b6⟩ := hB
  have e1 := cr11.2.1
  rw [e1]
  generalize hσ : zwr (zwa σ (a + 12) (zup (zup (zup (zup (zup (σ (a + 12)) (5 * N 59) c) (5 * N 59 + 1) t) (5 * N 59 + 2) x) (5 * N 59 + 3) 0) (5 * N 59 + 4) 0)) (a + 11) 1 (N 59 + 1) = σ'
  have hf : ∀ b, b ≠ a + 11 → b ≠ a + 12 → σ' b = σ b := fun b h0 h1 => by rw [← hσ, zwr_ne _ _ _ h0, zwa_ne _ _ h1]
  have n59 : zwN N c t x 59 = N 59 + 1 := by unfold zwN; simp (disch := omega) only [zup_same, zup_ne]
  have m0 : zwN N c t x (60 + 3 * N 59) = c := by unfold zwN; simp (disch := omega) only [zup_same, zup_ne]
  have m1 : zwN N c t x (60 + 3 * N 59 + 1) = t := by unfold zwN; simp (disch := omega) only [zup_same, zup_ne]
  have m2 : zwN N c t x (60 + 3 * N 59 + 2) = x := by unfold zwN; simp (disch := omega) only [zup_same, zup_ne]
  have lo : ∀ j, j ≠ 60 + 3 * N 59 → j ≠ 60 + 3 * N 59 + 1 → j ≠ 60 + 3 * N 59 + 2 → j ≠ 59 → zwN N c t x j = N j := fun j h0 h1 h2 hm => by unfold zwN; simp (disch := omega) only [zup_ne]
  refine ⟨⟨⟨by rw [hf a (by omega) (by omega), lo 33 (by omega) (by omega) (by omega) (by omega)]; exact c0, by rw [hf a (by omega) (by omega), lo 48 (by omega) (by omega) (by omega) (by omega)]; exact c1, fun s h0 h1 => ?_, fun c h0 h1 => ?_⟩, zSc_fr (fun b q q2 => hf b (by omega) (by omega)) (zSc_ag (fun j j0 j1 => (lo j (by omega) (by omega) (by omega) (by omega)).symm) c4), ?_, ?_, ?_⟩, by rw [hf a (by omega) (by omega), lo 134 (by omega) (by omega) (by omega) (by omega)]; exact d1, p, zPa_fr (hf _ (by omega) (by omega)) d2, fun i hi hi2 => ?_⟩
  · rw [lo 33 (by omega) (by omega) (by omega) (by omega)] at h1
    rw [hf _ (by omega) (by omega), hf _ (by omega) (by omega), lo _ (by omega) (by omega) (by omega) (by omega), lo _ (by omega) (by omega) (by omega) (by omega)]; exact c2 s h0 h1
  · rw [lo 48 (by omega) (by omega) (by omega) (by omega)] at h1
    rw [hf _ (by omega) (by omega), hf _ (by omega) (by omega), hf _ (by omega) (by omega), lo _ (by omega) (by omega) (by omega) (by omega), lo _ (by omega) (by omega) (by omega) (by omega)]; exact c3 c h0 h1
  · refine ⟨?_, ?_, fun i j h0 h1 h2 h3 => ?_⟩
    · rw [← hσ, zwr_ni _ _ _ (by decide), zwa_ne _ _ (by omega)]; exact cr11.1
    · rw [← hσ, zwr_same, n59]
    · rw [n59] at h1
      rw [← hσ, zwr_ne _ _ _ (by omega), show a + 11 + 1 = a + 12 by omega, zwa_same]
      by_cases q : i = N 59
      · rw [q]
        rcases (by omega : j = 0 ∨ j = 1 ∨ j = 2) with rfl | rfl | rfl
        · rw [show 59 + 1 + 3 * N 59 + 0 = 60 + 3 * N 59 by omega, m0, Int.add_zero]; simp (disch := omega) only [zup_same, zup_ne]
        · rw [show 59 + 1 + 3 * N 59 + 1 = 60 + 3 * N 59 + 1 by omega, m1]; simp (disch := omega) only [zup_same, zup_ne]
        · rw [show 59 + 1 + 3 * N 59 + 2 = 60 + 3 * N 59 + 2 by omega, m2]; simp (disch := omega) only [zup_same, zup_ne]
      · rw [lo _ (by omega) (by omega) (by omega) (by omega)]; simp (disch := omega) only [zup_ne]; exact cr11.2.2 i j h0 (by omega) h2 h3
  · exact zRo_mv (hf _ (by omega) (by omega)) (hf _ (by omega) (by omega)) (lo _ (by omega) (by omega) (by omega) (by omega)) (fun i j _ _ _ _ => lo _ (by omega) (by omega) (by omega) (by omega)) cr13
  · exact zRo_mv (hf _ (by omega) (by omega)) (hf _ (by omega) (by omega)) (lo _ (by omega) (by omega) (by omega) (by omega)) (fun i j _ _ _ _ => lo _ (by omega) (by omega) (by omega) (by omega)) cr15
  · rw [lo 134 (by omega) (by omega) (by omega) (by omega)] at hi2
    have g := (d2.1 i hi).1
    exact zSc_fr (fun b q q2 => hf b (by omega) (by omega)) (zSc_ag (fun j j0 j1 => (lo (135 + 33 * (i : Int) + j) (by omega) (by omega) (by omega) (by omega)).symm) (d3 i hi hi2))
theorem zCh_fg_wish {σ : zMem} {a : Nat} {N : zR} (hB : zBd N) (hC : zCh σ a N) : zCh (zwr σ (a + 11) 1 0) a (zup N 59 0) := by
  obtain ⟨⟨⟨c0, c1, c2, c3⟩, c4, cr11, cr13, cr15⟩, d1, p, d2, d3⟩ := hC
  obtain ⟨b1, b2, b3, b4, b5, b6⟩ := hB
  have hf : ∀ b, b ≠ a + 11 → zwr σ (a + 11) 1 0 b = σ b := fun b h0 => zwr_ne _ _ _ h0
  have lo : ∀ j, j ≠ 59 → zup N 59 0 j = N j := fun j h => zup_ne _ _ h
  refine ⟨⟨⟨by rw [hf a (by omega), lo 33 (by omega)]; exact c0, by rw [hf a (by omega), lo 48 (by omega)]; exact c1, fun s h0 h1 => ?_, fun c h0 h1 => ?_⟩, zSc_fr (fun b q q2 => hf b (by omega)) (zSc_ag (fun j j0 j1 => (lo j (by omega)).symm) c4), ?_, ?_, ?_⟩, by rw [hf a (by omega), lo 134 (by omega)]; exact d1, p, zPa_fr (hf _ (by omega)) d2, fun i hi hi2 => ?_⟩
  · rw [lo 33 (by omega)] at h1
    rw [hf _ (by omega), hf _ (by omega), lo _ (by omega), lo _ (by omega)]; exact c2 s h0 h1
  · rw [lo 48 (by omega)] at h1
    rw [hf _ (by omega), hf _ (by omega), hf _ (by omega), lo _ (by omega), lo _ (by omega)]; exact c3 c h0 h1
  · refine ⟨?_, ?_, fun i j h0 h1 h2 h3 => ?_⟩
    · rw [zwr_ni _ _ _ (by decide)]; exact cr11.1
    · rw [zwr_same, zup_same]
    · rw [zup_same] at h1; omega
  · exact zRo_mv (hf _ (by omega)) (hf _ (by omega)) (lo _ (by omega)) (fun i j _ _ _ _ => lo _ (by omega)) cr13
  · exact zRo_mv (hf _ (by omega)) (hf _ (by omega)) (lo _ (by omega)) (fun i j _ _ _ _ => lo _ (by omega)) cr15
  · rw [lo 134 (by omega)] at hi2
    have g := (d2.1 i hi).1
    exact zSc_fr (fun b q q2 => hf b (by omega)) (zSc_ag (fun j j0 j1 => (lo (135 + 33 * (i : Int) + j) (by omega)).symm) (d3 i hi hi2))
theorem sp_X5_wish {l : Launch} {d : Nat} {σ : zMem} (hd : 8 ≤ d) {N : zR} (hC : zCh σ 2 N) (hV : zVN N) {c t x : Int} (hc : -2147483648 ≤ c ∧ c < 2147483648) (ht : -2147483648 ≤ t ∧ t < 2147483648) (hx : -2147483648 ≤ x ∧ x < 2147483648)  : zSp l d mX5_wish [.ref 1, .int (zI c), .int (zI t), .int (zI x)] σ (zA3 ((0 ≤ c ∧ c ≤ N 48 - 1) ∧ (0 ≤ t ∧ t ≤ 3) ∧ 0 ≤ x ∧ x ≤ 99) (N 59 = 6) σ 118 0 (-2) 2 (-4) (N 59 + 1) (zCF σ (zwN N c t x))) := by
  refine zSp_of oX5_wish (Nat.le_of_ble_eq_true rfl) ?_
  show zw l d mX5_wish 0 [some (.ref 1), some (.int (zI c)), some (.int (zI t)), some (.int (zI x))] [] σ _
  have hs := hV.1
  have hv := hV.2.1
  have hy := hV.2.2.1
  have hB := zVN_bd hV
  have gN := hs.1
  have gC := hs.2.1
  have c0 : σ 2 0 = N 33 := hC.1.1.1
  have c1 : σ 2 1 = N 48 := hC.1.1.2.1
  have c2 : ∀ s, 0 ≤ s → s < N 33 → σ 3 s = N (34 + s) ∧ σ 4 s = N (41 + s) := hC.1.1.2.2.1
  have c3 : ∀ c, 0 ≤ c → c < N 48 → σ 5 c = N (49 + c) ∧ σ 6 c = N (54 + c) ∧ σ 7 c = zhv (N (49 + c)) (N (54 + c)) := hC.1.1.2.2.2
  have c4 : zSc σ 8 N := hC.1.2.1
  have c41 : ∀ c, 0 ≤ c → c < 5 → σ 9 c = N c := c4.1
  have c42 : ∀ i, 0 ≤ i → i < 20 → σ 10 i = N (5 + i) := c4.2.1
  have c43 : ∀ s, 0 ≤ s → s < 7 → σ 11 s = N (25 + s) := c4.2.2.1
  have c44 : σ 8 0 = N 32 := c4.2.2.2
  have c5 : zRo σ 13 3 59 N := hC.1.2.2.1
  have c6 : zRo σ 15 5 78 N := hC.1.2.2.2.1
  have c7 : zRo σ 17 4 109 N := hC.1.2.2.2.2
  have c8 : σ 2 2 = N 134 := hC.2.1
  have hb5 : ∀ c, 0 ≤ c → c < 5 → -1 ≤ N c ∧ N c < 1000 := fun c h0 h1 => by have := hv.1 c h0 h1; omega
  have gW := hV.2.2.2.1.1
  have gw := c5.2.1
  refine zw_aload_n 1 dX5_wish_0 rfl rfl ?_
  refine zw_iload_n 2 dX5_wish_1 rfl rfl ?_
  refine zw_callV 5 _ _ dX5_wish_2 rfl kX5_122 qX5_isCanon ly1 ⟨_, rfl, rfl⟩ (by decide) (sp_X5_isCanon (d := d - 1) (by omega) hC.1.1 (by omega) (by omega)) (by omega) rfl rfl (Nat.le_of_ble_eq_true rfl) (fun r σ' hq => ?_)
  obtain ⟨rfl, rfl⟩ := hq
  refine zw_if_eq 25 8 dX5_wish_5 (by decide) rfl (by omega) (fun h5 => ?_) (fun h5 => ?_)
  · refine zw_aload_n 26 dX5_wish_25 rfl rfl ?_
    refine zw_bipush 28 dX5_wish_26 rfl (by decide) ?_
    refine zw_callV 31 _ _ dX5_wish_28 rfl kX5_89 qX5_refuse ly1 ⟨_, rfl, rfl⟩ (by decide) (sp_X5_refuse_2 (d := d - 1)) (by omega) rfl rfl (Nat.le_of_ble_eq_true rfl) (fun r σ' hq => ?_)
    obtain ⟨rfl, rfl⟩ := hq
    refine zw_iret dX5_wish_31 rfl ?_
    exact zA3_bad (by omega)
  · refine zw_iload_n 9 dX5_wish_8 rfl rfl ?_
    refine zw_callS 12 _ _ dX5_wish_9 rfl kX5_82 qX5_isTrait (sp_X5_isTrait (d := d - 1) (by omega) (by omega)) (by omega) rfl rfl (Nat.le_of_ble_eq_true rfl) (fun r σ' hq => ?_)
    obtain ⟨rfl, rfl⟩ := hq
    refine zw_if_eq 25 15 dX5_wish_12 (by decide) rfl (by omega) (fun h12 => ?_) (fun h12 => ?_)
    · refine zw_aload_n 26 dX5_wish_25 rfl rfl ?_
      refine zw_bipush 28 dX5_wish_26 rfl (by decide) ?_
      refine zw_callV 31 _ _ dX5_wish_28 rfl kX5_89 qX5_refuse ly1 ⟨_, rfl, rfl⟩ (by decide) (sp_X5_refuse_2 (d := d - 1)) (by omega) rfl rfl (Nat.le_of_ble_eq_true rfl) (fun r σ' hq => ?_)
      obtain ⟨rfl, rfl⟩ := hq
      refine zw_iret dX5_wish_31 rfl ?_
      exact zA3_bad (by omega)
    · refine zw_iload_n 16 dX5_wish_15 rfl rfl ?_
      refine zw_iconst 17 dX5_wish_16 rfl ?_
      refine zw_bipush 19 dX5_wish_17 rfl (by decide) ?_
      refine zw_callS 22 _ _ dX5_wish_19 rfl kX5_85 qX5_within (sp_X5_within (d := d - 1) (by omega) (by omega) (by omega)) (by omega) rfl rfl (Nat.le_of_ble_eq_true rfl) (fun r σ' hq => ?_)
      obtain ⟨rfl, rfl⟩ := hq
      refine zw_if_ne 32 25 dX5_wish_22 (by decide) rfl (by omega) (fun h22 => ?_) (fun h22 => ?_)
      · refine zw_aload_n 33 dX5_wish_32 rfl rfl ?_
        refine zw_aload_n 34 dX5_wish_33 rfl rfl ?_
        refine zw_getr 37 (2) (o := 1) dX5_wish_34 rfl fX5_10 (by decide) rfl rfl ly1 ?_
        refine zw_getr 40 (13) (o := 11) dX5_wish_37 rfl fX5_221 (by decide) rfl rfl ly2 ?_
        refine zw_iload_n 41 dX5_wish_40 rfl rfl ?_
        refine zw_iload_n 42 dX5_wish_41 rfl rfl ?_
        refine zw_iload_n 43 dX5_wish_42 rfl rfl ?_
        refine zw_iconst 44 dX5_wish_43 rfl ?_
        refine zw_iconst 45 dX5_wish_44 rfl ?_
        refine zw_callV 48 _ _ dX5_wish_45 rfl kX5_225 qX5_write ly1 ⟨_, rfl, rfl⟩ (by decide) (sp_X5_write (d := d - 1) (by omega) ly13 (v1 := c) (v2 := t) (v3 := x) (v4 := 0) (v5 := 0) (by omega)) (by omega) rfl rfl (Nat.le_of_ble_eq_true rfl) (fun r σ' hq => ?_)
        skip
        by_cases hF : N 59 = 6
        · obtain ⟨rfl, rfl⟩ := hq.1 (by rw [gw]; exact hF)
          refine zw_iret dX5_wish_48 rfl ?_
          exact zA3_full (by omega) hF
        · obtain ⟨rfl, rfl⟩ := hq.2 (by rw [gw]; exact hF)
          refine zw_iret dX5_wish_48 rfl ?_
          exact zA3_ok (by omega) hF (by rw [gw]) ⟨zCh_wish hB (by omega) hC, fun b b0 b1 b2 => by rw [zwr_ne _ _ _ (by omega), zwa_ne _ _ (by omega)]⟩
      · refine zw_aload_n 26 dX5_wish_25 rfl rfl ?_
        refine zw_bipush 28 dX5_wish_26 rfl (by decide) ?_
        refine zw_callV 31 _ _ dX5_wish_28 rfl kX5_89 qX5_refuse ly1 ⟨_, rfl, rfl⟩ (by decide) (sp_X5_refuse_2 (d := d - 1)) (by omega) rfl rfl (Nat.le_of_ble_eq_true rfl) (fun r σ' hq => ?_)
        obtain ⟨rfl, rfl⟩ := hq
        refine zw_iret dX5_wish_31 rfl ?_
        exact zA3_bad (by omega)
theorem zCh_note {σ : zMem} {a : Nat} {N : zR} {s dp y h x : Int} (hB : zBd N) (hk : 0 ≤ N 78 ∧ N 78 < 6) (hC : zCh σ a N) : zCh (zwr (zwa σ (a + 14) (zup (zup (zup (zup (zup (σ (a + 14)) (5 * σ (a + 13) 1) s) (5 * σ (a + 13) 1 + 1) dp) (5 * σ (a + 13) 1 + 2) y) (5 * σ (a + 13) 1 + 3) h) (5 * σ (a + 13) 1 + 4) x)) (a + 13) 1 (σ (a + 13) 1 + 1)) a (znN N s dp y h x) := by
  obtain ⟨⟨⟨c0, c1, c2, c3⟩, c4, cr11, cr13, cr15⟩, d1, p, d2, d3⟩ := hC
  obtain ⟨b1, b2, b3, b4, b5, b6⟩ := hB
  have e1 := cr13.2.1
  rw [e1]
  generalize hσ : zwr (zwa σ (a + 14) (zup (zup (zup (zup (zup (σ (a + 14)) (5 * N 78) s) (5 * N 78 + 1) dp) (5 * N 78 + 2) y) (5 * N 78 + 3) h) (5 * N 78 + 4) x)) (a + 13) 1 (N 78 + 1) = σ'
  have hf : ∀ b, b ≠ a + 13 → b ≠ a + 14 → σ' b = σ b := fun b h0 h1 => by rw [← hσ, zwr_ne _ _ _ h0, zwa_ne _ _ h1]
  have n78 : znN N s dp y h x 78 = N 78 + 1 := by unfold znN; simp (disch := omega) only [zup_same, zup_ne]
  have m0 : znN N s dp y h x (79 + 5 * N 78) = s := by unfold znN; simp (disch := omega) only [zup_same, zup_ne]
  have m1 : znN N s dp y h x (79 + 5 * N 78 + 1) = dp := by unfold znN; simp (disch := omega) only [zup_same, zup_ne]
  have m2 : znN N s dp y h x (79 + 5 * N 78 + 2) = y := by unfold znN; simp (disch := omega) only [zup_same, zup_ne]
  have m3 : znN N s dp y h x (79 + 5 * N 78 + 3) = h := by unfold znN; simp (disch := omega) only [zup_same, zup_ne]
  have m4 : znN N s dp y h x (79 + 5 * N 78 + 4) = x := by unfold znN; simp (disch := omega) only [zup_same, zup_ne]
  have lo : ∀ j, j ≠ 79 + 5 * N 78 → j ≠ 79 + 5 * N 78 + 1 → j ≠ 79 + 5 * N 78 + 2 → j ≠ 79 + 5 * N 78 + 3 → j ≠ 79 + 5 * N 78 + 4 → j ≠ 78 → znN N s dp y h x j = N j := fun j h0 h1 h2 h3 h4 hm => by unfold znN; simp (disch := omega) only [zup_ne]
  refine ⟨⟨⟨by rw [hf a (by omega) (by omega), lo 33 (by omega) (by omega) (by omega) (by omega) (by omega) (by omega)]; exact c0, by rw [hf a (by omega) (by omega), lo 48 (by omega) (by omega) (by omega) (by omega) (by omega) (by omega)]; exact c1, fun s h0 h1 => ?_, fun c h0 h1 => ?_⟩, zSc_fr (fun b q q2 => hf b (by omega) (by omega)) (zSc_ag (fun j j0 j1 => (lo j (by omega) (by omega) (by omega) (by omega) (by omega) (by omega)).symm) c4), ?_, ?_, ?_⟩, by rw [hf a (by omega) (by omega), lo 134 (by omega) (by omega) (by omega) (by omega) (by omega) (by omega)]; exact d1, p, zPa_fr (hf _ (by omega) (by omega)) d2, fun i hi hi2 => ?_⟩
  · rw [lo 33 (by omega) (by omega) (by omega) (by omega) (by omega) (by omega)] at h1
    rw [hf _ (by omega) (by omega), hf _ (by omega) (by omega), lo _ (by omega) (by omega) (by omega) (by omega) (by omega) (by omega), lo _ (by omega) (by omega) (by omega) (by omega) (by omega) (by omega)]; exact c2 s h0 h1
  · rw [lo 48 (by omega) (by omega) (by omega) (by omega) (by omega) (by omega)] at h1
    rw [hf _ (by omega) (by omega), hf _ (by omega) (by omega), hf _ (by omega) (by omega), lo _ (by omega) (by omega) (by omega) (by omega) (by omega) (by omega), lo _ (by omega) (by omega) (by omega) (by omega) (by omega) (by omega)]; exact c3 c h0 h1
  · exact zRo_mv (hf _ (by omega) (by omega)) (hf _ (by omega) (by omega)) (lo _ (by omega) (by omega) (by omega) (by omega) (by omega) (by omega)) (fun i j _ _ _ _ => lo _ (by omega) (by omega) (by omega) (by omega) (by omega) (by omega)) cr11
  · refine ⟨?_, ?_, fun i j h0 h1 h2 h3 => ?_⟩
    · rw [← hσ, zwr_ni _ _ _ (by decide), zwa_ne _ _ (by omega)]; exact cr13.1
    · rw [← hσ, zwr_same, n78]
    · rw [n78] at h1
      rw [← hσ, zwr_ne _ _ _ (by omega), show a + 13 + 1 = a + 14 by omega, zwa_same]
      by_cases q : i = N 78
      · rw [q]
        rcases (by omega : j = 0 ∨ j = 1 ∨ j = 2 ∨ j = 3 ∨ j = 4) with rfl | rfl | rfl | rfl | rfl
        · rw [show 78 + 1 + 5 * N 78 + 0 = 79 + 5 * N 78 by omega, m0, Int.add_zero]; simp (disch := omega) only [zup_same, zup_ne]
        · rw [show 78 + 1 + 5 * N 78 + 1 = 79 + 5 * N 78 + 1 by omega, m1]; simp (disch := omega) only [zup_same, zup_ne]
        · rw [show 78 + 1 + 5 * N 78 + 2 = 79 + 5 * N 78 + 2 by omega, m2]; simp (disch := omega) only [zup_same, zup_ne]
        · rw [show 78 + 1 + 5 * N 78 + 3 = 79 + 5 * N 78 + 3 by omega, m3]; simp (disch := omega) only [zup_same, zup_ne]
        · rw [show 78 + 1 + 5 * N 78 + 4 = 79 + 5 * N 78 + 4 by omega, m4]; simp (disch := omega) only [zup_same, zup_ne]
      · rw [lo _ (by omega) (by omega) (by omega) (by omega) (by omega) (by omega)]; simp (disch := omega) only [zup_ne]; exact cr13.2.2 i j h0 (by omega) h2 h3
  · exact zRo_mv (hf _ (by omega) (by omega)) (hf _ (by omega) (by omega)) (lo _ (by omega) (by omega) (by omega) (by omega) (by omega) (by omega)) (fun i j _ _ _ _ => lo _ (by omega) (by omega) (by omega) (by omega) (by omega) (by omega)) cr15
  · rw [lo 134 (by omega) (by omega) (by omega) (by omega) (by omega) (by omega)] at hi2
    have g := (d2.1 i hi).1
    exact zSc_fr (fun b q q2 => hf b (by omega) (by omega)) (zSc_ag (fun j j0 j1 => (lo (135 + 33 * (i : Int) + j) (by omega) (by omega) (by omega) (by omega) (by omega) (by omega)).symm) (d3 i hi hi2))
theorem zCh_fg_note {σ : zMem} {a : Nat} {N : zR} (hB : zBd N) (hC : zCh σ a N) : zCh (zwr σ (a + 13) 1 0) a (zup N 78 0) := by
  obtain ⟨⟨⟨c0, c1, c2, c3⟩, c4, cr11, cr13, cr15⟩, d1, p, d2, d3⟩ := hC
  obtain ⟨b1, b2, b3, b4, b5, b6⟩ := hB
  have hf : ∀ b, b ≠ a + 13 → zwr σ (a + 13) 1 0 b = σ b := fun b h0 => zwr_ne _ _ _ h0
  have lo : ∀ j, j ≠ 78 → zup N 78 0 j = N j := fun j h => zup_ne _ _ h
  refine ⟨⟨⟨by rw [hf a (by omega), lo 33 (by omega)]; exact c0, by rw [hf a (by omega), lo 48 (by omega)]; exact c1, fun s h0 h1 => ?_, fun c h0 h1 => ?_⟩, zSc_fr (fun b q q2 => hf b (by omega)) (zSc_ag (fun j j0 j1 => (lo j (by omega)).symm) c4), ?_, ?_, ?_⟩, by rw [hf a (by omega), lo 134 (by omega)]; exact d1, p, zPa_fr (hf _ (by omega)) d2, fun i hi hi2 => ?_⟩
  · rw [lo 33 (by omega)] at h1
    rw [hf _ (by omega), hf _ (by omega), lo _ (by omega), lo _ (by omega)]; exact c2 s h0 h1
  · rw [lo 48 (by omega)] at h1
    rw [hf _ (by omega), hf _ (by omega), hf _ (by omega), lo _ (by omega), lo _ (by omega)]; exact c3 c h0 h1
  · exact zRo_mv (hf _ (by omega)) (hf _ (by omega)) (lo _ (by omega)) (fun i j _ _ _ _ => lo _ (by omega)) cr11
  · refine ⟨?_, ?_, fun i j h0 h1 h2 h3 => ?_⟩
    · rw [zwr_ni _ _ _ (by decide)]; exact cr13.1
    · rw [zwr_same, zup_same]
    · rw [zup_same] at h1; omega
  · exact zRo_mv (hf _ (by omega)) (hf _ (by omega)) (lo _ (by omega)) (fun i j _ _ _ _ => lo _ (by omega)) cr15
  · rw [lo 134 (by omega)] at hi2
    have g := (d2.1 i hi).1
    exact zSc_fr (fun b q q2 => hf b (by omega)) (zSc_ag (fun j j0 j1 => (lo (135 + 33 * (i : Int) + j) (by omega)).symm) (d3 i hi hi2))
theorem sp_X5_note {l : Launch} {d : Nat} {σ : zMem} (hd : 8 ≤ d) {N : zR} (hC : zCh σ 2 N) (hV : zVN N) {s dp y h x : Int} (hs : -2147483648 ≤ s ∧ s < 2147483648) (hdp : -2147483648 ≤ dp ∧ dp < 2147483648) (hy : -2147483648 ≤ y ∧ y < 2147483648) (hh : -2147483648 ≤ h ∧ h < 2147483648) (hx : -2147483648 ≤ x ∧ x < 2147483648)  : zSp l d mX5_note [.ref 1, .int (zI s), .int (zI dp), .int (zI y), .int (zI h), .int (zI x)] σ (zA3 ((0 ≤ s ∧ s ≤ N 33 - 1) ∧ (0 ≤ dp ∧ dp ≤ 40) ∧ (0 ≤ y ∧ y ≤ 99) ∧ (0 ≤ h ∧ h ≤ 99) ∧ 0 ≤ x ∧ x ≤ 40) (N 78 = 6) σ 118 0 (-2) 2 (-4) (N 78 + 1) (zCF σ (znN N s dp y h x))) := by
  refine zSp_of oX5_note (Nat.le_of_ble_eq_true rfl) ?_
  show zw l d mX5_note 0 [some (.ref 1), some (.int (zI s)), some (.int (zI dp)), some (.int (zI y)), some (.int (zI h)), some (.int (zI x))] [] σ _
  have hs := hV.1
  have hv := hV.2.1
  have hy := hV.2.2.1
  have hB := zVN_bd hV
  have gN := hs.1
  have gC := hs.2.1
  have c0 : σ 2 0 = N 33 := hC.1.1.1
  have c1 : σ 2 1 = N 48 := hC.1.1.2.1
  have c2 : ∀ s, 0 ≤ s → s < N 33 → σ 3 s = N (34 + s) ∧ σ 4 s = N (41 + s) := hC.1.1.2.2.1
  have c3 : ∀ c, 0 ≤ c → c < N 48 → σ 5 c = N (49 + c) ∧ σ 6 c = N (54 + c) ∧ σ 7 c = zhv (N (49 + c)) (N (54 + c)) := hC.1.1.2.2.2
  have c4 : zSc σ 8 N := hC.1.2.1
  have c41 : ∀ c, 0 ≤ c → c < 5 → σ 9 c = N c := c4.1
  have c42 : ∀ i, 0 ≤ i → i < 20 → σ 10 i = N (5 + i) := c4.2.1
  have c43 : ∀ s, 0 ≤ s → s < 7 → σ 11 s = N (25 + s) := c4.2.2.1
  have c44 : σ 8 0 = N 32 := c4.2.2.2
  have c5 : zRo σ 13 3 59 N := hC.1.2.2.1
  have c6 : zRo σ 15 5 78 N := hC.1.2.2.2.1
  have c7 : zRo σ 17 4 109 N := hC.1.2.2.2.2
  have c8 : σ 2 2 = N 134 := hC.2.1
  have hb5 : ∀ c, 0 ≤ c → c < 5 → -1 ≤ N c ∧ N c < 1000 := fun c h0 h1 => by have := hv.1 c h0 h1; omega
  have gW := hV.2.2.2.2.1.1
  have gw := c6.2.1
  refine zw_aload_n 1 dX5_note_0 rfl rfl ?_
  refine zw_iload_n 2 dX5_note_1 rfl rfl ?_
  refine zw_callV 5 _ _ dX5_note_2 rfl kX5_165 qX5_isSeat ly1 ⟨_, rfl, rfl⟩ (by decide) (sp_X5_isSeat (d := d - 1) (by omega) hC.1.1 (by omega) (by omega)) (by omega) rfl rfl (Nat.le_of_ble_eq_true rfl) (fun r σ' hq => ?_)
  obtain ⟨rfl, rfl⟩ := hq
  refine zw_if_eq 50 8 dX5_note_5 (by decide) rfl (by omega) (fun h5 => ?_) (fun h5 => ?_)
  · refine zw_aload_n 51 dX5_note_50 rfl rfl ?_
    refine zw_bipush 53 dX5_note_51 rfl (by decide) ?_
    refine zw_callV 56 _ _ dX5_note_53 rfl kX5_89 qX5_refuse ly1 ⟨_, rfl, rfl⟩ (by decide) (sp_X5_refuse_2 (d := d - 1)) (by omega) rfl rfl (Nat.le_of_ble_eq_true rfl) (fun r σ' hq => ?_)
    obtain ⟨rfl, rfl⟩ := hq
    refine zw_iret dX5_note_56 rfl ?_
    exact zA3_bad (by omega)
  · refine zw_iload_n 9 dX5_note_8 rfl rfl ?_
    refine zw_iconst 10 dX5_note_9 rfl ?_
    refine zw_bipush 12 dX5_note_10 rfl (by decide) ?_
    refine zw_callS 15 _ _ dX5_note_12 rfl kX5_85 qX5_within (sp_X5_within (d := d - 1) (by omega) (by omega) (by omega)) (by omega) rfl rfl (Nat.le_of_ble_eq_true rfl) (fun r σ' hq => ?_)
    obtain ⟨rfl, rfl⟩ := hq
    refine zw_if_eq 50 18 dX5_note_15 (by decide) rfl (by omega) (fun h15 => ?_) (fun h15 => ?_)
    · refine zw_aload_n 51 dX5_note_50 rfl rfl ?_
      refine zw_bipush 53 dX5_note_51 rfl (by decide) ?_
      refine zw_callV 56 _ _ dX5_note_53 rfl kX5_89 qX5_refuse ly1 ⟨_, rfl, rfl⟩ (by decide) (sp_X5_refuse_2 (d := d - 1)) (by omega) rfl rfl (Nat.le_of_ble_eq_true rfl) (fun r σ' hq => ?_)
      obtain ⟨rfl, rfl⟩ := hq
      refine zw_iret dX5_note_56 rfl ?_
      exact zA3_bad (by omega)
    · refine zw_iload_n 19 dX5_note_18 rfl rfl ?_
      refine zw_iconst 20 dX5_note_19 rfl ?_
      refine zw_bipush 22 dX5_note_20 rfl (by decide) ?_
      refine zw_callS 25 _ _ dX5_note_22 rfl kX5_85 qX5_within (sp_X5_within (d := d - 1) (by omega) (by omega) (by omega)) (by omega) rfl rfl (Nat.le_of_ble_eq_true rfl) (fun r σ' hq => ?_)
      obtain ⟨rfl, rfl⟩ := hq
      refine zw_if_eq 50 28 dX5_note_25 (by decide) rfl (by omega) (fun h25 => ?_) (fun h25 => ?_)
      · refine zw_aload_n 51 dX5_note_50 rfl rfl ?_
        refine zw_bipush 53 dX5_note_51 rfl (by decide) ?_
        refine zw_callV 56 _ _ dX5_note_53 rfl kX5_89 qX5_refuse ly1 ⟨_, rfl, rfl⟩ (by decide) (sp_X5_refuse_2 (d := d - 1)) (by omega) rfl rfl (Nat.le_of_ble_eq_true rfl) (fun r σ' hq => ?_)
        obtain ⟨rfl, rfl⟩ := hq
        refine zw_iret dX5_note_56 rfl ?_
        exact zA3_bad (by omega)
      · refine zw_iload 30 dX5_note_28 rfl rfl ?_
        refine zw_iconst 31 dX5_note_30 rfl ?_
        refine zw_bipush 33 dX5_note_31 rfl (by decide) ?_
        refine zw_callS 36 _ _ dX5_note_33 rfl kX5_85 qX5_within (sp_X5_within (d := d - 1) (by omega) (by omega) (by omega)) (by omega) rfl rfl (Nat.le_of_ble_eq_true rfl) (fun r σ' hq => ?_)
        obtain ⟨rfl, rfl⟩ := hq
        refine zw_if_eq 50 39 dX5_note_36 (by decide) rfl (by omega) (fun h36 => ?_) (fun h36 => ?_)
        · refine zw_aload_n 51 dX5_note_50 rfl rfl ?_
          refine zw_bipush 53 dX5_note_51 rfl (by decide) ?_
          refine zw_callV 56 _ _ dX5_note_53 rfl kX5_89 qX5_refuse ly1 ⟨_, rfl, rfl⟩ (by decide) (sp_X5_refuse_2 (d := d - 1)) (by omega) rfl rfl (Nat.le_of_ble_eq_true rfl) (fun r σ' hq => ?_)
          obtain ⟨rfl, rfl⟩ := hq
          refine zw_iret dX5_note_56 rfl ?_
          exact zA3_bad (by omega)
        · refine zw_iload 41 dX5_note_39 rfl rfl ?_
          refine zw_iconst 42 dX5_note_41 rfl ?_
          refine zw_bipush 44 dX5_note_42 rfl (by decide) ?_
          refine zw_callS 47 _ _ dX5_note_44 rfl kX5_85 qX5_within (sp_X5_within (d := d - 1) (by omega) (by omega) (by omega)) (by omega) rfl rfl (Nat.le_of_ble_eq_true rfl) (fun r σ' hq => ?_)
          obtain ⟨rfl, rfl⟩ := hq
          refine zw_if_ne 57 50 dX5_note_47 (by decide) rfl (by omega) (fun h47 => ?_) (fun h47 => ?_)
          · refine zw_aload_n 58 dX5_note_57 rfl rfl ?_
            refine zw_aload_n 59 dX5_note_58 rfl rfl ?_
            refine zw_getr 62 (2) (o := 1) dX5_note_59 rfl fX5_10 (by decide) rfl rfl ly1 ?_
            refine zw_getr 65 (15) (o := 13) dX5_note_62 rfl fX5_251 (by decide) rfl rfl ly2 ?_
            refine zw_iload_n 66 dX5_note_65 rfl rfl ?_
            refine zw_iload_n 67 dX5_note_66 rfl rfl ?_
            refine zw_iload_n 68 dX5_note_67 rfl rfl ?_
            refine zw_iload 70 dX5_note_68 rfl rfl ?_
            refine zw_iload 72 dX5_note_70 rfl rfl ?_
            refine zw_callV 75 _ _ dX5_note_72 rfl kX5_225 qX5_write ly1 ⟨_, rfl, rfl⟩ (by decide) (sp_X5_write (d := d - 1) (by omega) ly15 (v1 := s) (v2 := dp) (v3 := y) (v4 := h) (v5 := x) (by omega)) (by omega) rfl rfl (Nat.le_of_ble_eq_true rfl) (fun r σ' hq => ?_)
            skip
            by_cases hF : N 78 = 6
            · obtain ⟨rfl, rfl⟩ := hq.1 (by rw [gw]; exact hF)
              refine zw_iret dX5_note_75 rfl ?_
              exact zA3_full (by omega) hF
            · obtain ⟨rfl, rfl⟩ := hq.2 (by rw [gw]; exact hF)
              refine zw_iret dX5_note_75 rfl ?_
              exact zA3_ok (by omega) hF (by rw [gw]) ⟨zCh_note hB (by omega) hC, fun b b0 b1 b2 => by rw [zwr_ne _ _ _ (by omega), zwa_ne _ _ (by omega)]⟩
          · refine zw_aload_n 51 dX5_note_50 rfl rfl ?_
            refine zw_bipush 53 dX5_note_51 rfl (by decide) ?_
            refine zw_callV 56 _ _ dX5_note_53 rfl kX5_89 qX5_refuse ly1 ⟨_, rfl, rfl⟩ (by decide) (sp_X5_refuse_2 (d := d - 1)) (by omega) rfl rfl (Nat.le_of_ble_eq_true rfl) (fun r σ' hq => ?_)
            obtain ⟨rfl, rfl⟩ := hq
            refine zw_iret dX5_note_56 rfl ?_
            exact zA3_bad (by omega)
theorem zCh_mark {σ : zMem} {a : Nat} {N : zR} {c g h x : Int} (hB : zBd N) (hk : 0 ≤ N 109 ∧ N 109 < 6) (hC : zCh σ a N) : zCh (zwr (zwa σ (a + 16) (zup (zup (zup (zup (zup (σ (a + 16)) (5 * σ (a + 15) 1) c) (5 * σ (a + 15) 1 + 1) g) (5 * σ (a + 15) 1 + 2) h) (5 * σ (a + 15) 1 + 3) x) (5 * σ (a + 15) 1 + 4) 0)) (a + 15) 1 (σ (a + 15) 1 + 1)) a (zmN N c g h x) := by
  obtain ⟨⟨⟨c0, c1, c2, c3⟩, c4, cr11, cr13, cr15⟩, d1, p, d2, d3⟩ := hC
  obtain ⟨b1, b2, b3, b4, b5, b6⟩ := hB
  have e1 := cr15.2.1
  rw [e1]
  generalize hσ : zwr (zwa σ (a + 16) (zup (zup (zup (zup (zup (σ (a + 16)) (5 * N 109) c) (5 * N 109 + 1) g) (5 * N 109 + 2) h) (5 * N 109 + 3) x) (5 * N 109 + 4) 0)) (a + 15) 1 (N 109 + 1) = σ'
  have hf : ∀ b, b ≠ a + 15 → b ≠ a + 16 → σ' b = σ b := fun b h0 h1 => by rw [← hσ, zwr_ne _ _ _ h0, zwa_ne _ _ h1]
  have n109 : zmN N c g h x 109 = N 109 + 1 := by unfold zmN; simp (disch := omega) only [zup_same, zup_ne]
  have m0 : zmN N c g h x (110 + 4 * N 109) = c := by unfold zmN; simp (disch := omega) only [zup_same, zup_ne]
  have m1 : zmN N c g h x (110 + 4 * N 109 + 1) = g := by unfold zmN; simp (disch := omega) only [zup_same, zup_ne]
  have m2 : zmN N c g h x (110 + 4 * N 109 + 2) = h := by unfold zmN; simp (disch := omega) only [zup_same, zup_ne]
  have m3 : zmN N c g h x (110 + 4 * N 109 + 3) = x := by unfold zmN; simp (disch := omega) only [zup_same, zup_ne]
  have lo : ∀ j, j ≠ 110 + 4 * N 109 → j ≠ 110 + 4 * N 109 + 1 → j ≠ 110 + 4 * N 109 + 2 → j ≠ 110 + 4 * N 109 + 3 → j ≠ 109 → zmN N c g h x j = N j := fun j h0 h1 h2 h3 hm => by unfold zmN; simp (disch := omega) only [zup_ne]
  refine ⟨⟨⟨by rw [hf a (by omega) (by omega), lo 33 (by omega) (by omega) (by omega) (by omega) (by omega)]; exact c0, by rw [hf a (by omega) (by omega), lo 48 (by omega) (by omega) (by omega) (by omega) (by omega)]; exact c1, fun s h0 h1 => ?_, fun c h0 h1 => ?_⟩, zSc_fr (fun b q q2 => hf b (by omega) (by omega)) (zSc_ag (fun j j0 j1 => (lo j (by omega) (by omega) (by omega) (by omega) (by omega)).symm) c4), ?_, ?_, ?_⟩, by rw [hf a (by omega) (by omega), lo 134 (by omega) (by omega) (by omega) (by omega) (by omega)]; exact d1, p, zPa_fr (hf _ (by omega) (by omega)) d2, fun i hi hi2 => ?_⟩
  · rw [lo 33 (by omega) (by omega) (by omega) (by omega) (by omega)] at h1
    rw [hf _ (by omega) (by omega), hf _ (by omega) (by omega), lo _ (by omega) (by omega) (by omega) (by omega) (by omega), lo _ (by omega) (by omega) (by omega) (by omega) (by omega)]; exact c2 s h0 h1
  · rw [lo 48 (by omega) (by omega) (by omega) (by omega) (by omega)] at h1
    rw [hf _ (by omega) (by omega), hf _ (by omega) (by omega), hf _ (by omega) (by omega), lo _ (by omega) (by omega) (by omega) (by omega) (by omega), lo _ (by omega) (by omega) (by omega) (by omega) (by omega)]; exact c3 c h0 h1
  · exact zRo_mv (hf _ (by omega) (by omega)) (hf _ (by omega) (by omega)) (lo _ (by omega) (by omega) (by omega) (by omega) (by omega)) (fun i j _ _ _ _ => lo _ (by omega) (by omega) (by omega) (by omega) (by omega)) cr11
  · exact zRo_mv (hf _ (by omega) (by omega)) (hf _ (by omega) (by omega)) (lo _ (by omega) (by omega) (by omega) (by omega) (by omega)) (fun i j _ _ _ _ => lo _ (by omega) (by omega) (by omega) (by omega) (by omega)) cr13
  · refine ⟨?_, ?_, fun i j h0 h1 h2 h3 => ?_⟩
    · rw [← hσ, zwr_ni _ _ _ (by decide), zwa_ne _ _ (by omega)]; exact cr15.1
    · rw [← hσ, zwr_same, n109]
    · rw [n109] at h1
      rw [← hσ, zwr_ne _ _ _ (by omega), show a + 15 + 1 = a + 16 by omega, zwa_same]
      by_cases q : i = N 109
      · rw [q]
        rcases (by omega : j = 0 ∨ j = 1 ∨ j = 2 ∨ j = 3) with rfl | rfl | rfl | rfl
        · rw [show 109 + 1 + 4 * N 109 + 0 = 110 + 4 * N 109 by omega, m0, Int.add_zero]; simp (disch := omega) only [zup_same, zup_ne]
        · rw [show 109 + 1 + 4 * N 109 + 1 = 110 + 4 * N 109 + 1 by omega, m1]; simp (disch := omega) only [zup_same, zup_ne]
        · rw [show 109 + 1 + 4 * N 109 + 2 = 110 + 4 * N 109 + 2 by omega, m2]; simp (disch := omega) only [zup_same, zup_ne]
        · rw [show 109 + 1 + 4 * N 109 + 3 = 110 + 4 * N 109 + 3 by omega, m3]; simp (disch := omega) only [zup_same, zup_ne]
      · rw [lo _ (by omega) (by omega) (by omega) (by omega) (by omega)]; simp (disch := omega) only [zup_ne]; exact cr15.2.2 i j h0 (by omega) h2 h3
  · rw [lo 134 (by omega) (by omega) (by omega) (by omega) (by omega)] at hi2
    have g := (d2.1 i hi).1
    exact zSc_fr (fun b q q2 => hf b (by omega) (by omega)) (zSc_ag (fun j j0 j1 => (lo (135 + 33 * (i : Int) + j) (by omega) (by omega) (by omega) (by omega) (by omega)).symm) (d3 i hi hi2))
theorem zCh_fg_mark {σ : zMem} {a : Nat} {N : zR} (hB : zBd N) (hC : zCh σ a N) : zCh (zwr σ (a + 15) 1 0) a (zup N 109 0) := by
  obtain ⟨⟨⟨c0, c1, c2, c3⟩, c4, cr11, cr13, cr15⟩, d1, p, d2, d3⟩ := hC
  obtain ⟨b1, b2, b3, b4, b5, b6⟩ := hB
  have hf : ∀ b, b ≠ a + 15 → zwr σ (a + 15) 1 0 b = σ b := fun b h0 => zwr_ne _ _ _ h0
  have lo : ∀ j, j ≠ 109 → zup N 109 0 j = N j := fun j h => zup_ne _ _ h
  refine ⟨⟨⟨by rw [hf a (by omega), lo 33 (by omega)]; exact c0, by rw [hf a (by omega), lo 48 (by omega)]; exact c1, fun s h0 h1 => ?_, fun c h0 h1 => ?_⟩, zSc_fr (fun b q q2 => hf b (by omega)) (zSc_ag (fun j j0 j1 => (lo j (by omega)).symm) c4), ?_, ?_, ?_⟩, by rw [hf a (by omega), lo 134 (by omega)]; exact d1, p, zPa_fr (hf _ (by omega)) d2, fun i hi hi2 => ?_⟩
  · rw [lo 33 (by omega)] at h1
    rw [hf _ (by omega), hf _ (by omega), lo _ (by omega), lo _ (by omega)]; exact c2 s h0 h1
  · rw [lo 48 (by omega)] at h1
    rw [hf _ (by omega), hf _ (by omega), hf _ (by omega), lo _ (by omega), lo _ (by omega)]; exact c3 c h0 h1
  · exact zRo_mv (hf _ (by omega)) (hf _ (by omega)) (lo _ (by omega)) (fun i j _ _ _ _ => lo _ (by omega)) cr11
  · exact zRo_mv (hf _ (by omega)) (hf _ (by omega)) (lo _ (by omega)) (fun i j _ _ _ _ => lo _ (by omega)) cr13
  · refine ⟨?_, ?_, fun i j h0 h1 h2 h3 => ?_⟩
    · rw [zwr_ni _ _ _ (by decide)]; exact cr15.1
    · rw [zwr_same, zup_same]
    · rw [zup_same] at h1; omega
  · rw [lo 134 (by omega)] at hi2
    have g := (d2.1 i hi).1
    exact zSc_fr (fun b q q2 => hf b (by omega)) (zSc_ag (fun j j0 j1 => (lo (135 + 33 * (i : Int) + j) (by omega)).symm) (d3 i hi hi2))
theorem sp_X5_mark {l : Launch} {d : Nat} {σ : zMem} (hd : 8 ≤ d) {N : zR} (hC : zCh σ 2 N) (hV : zVN N) {c g h x : Int} (hc : -2147483648 ≤ c ∧ c < 2147483648) (hg : -2147483648 ≤ g ∧ g < 2147483648) (hh : -2147483648 ≤ h ∧ h < 2147483648) (hx : -2147483648 ≤ x ∧ x < 2147483648)  : zSp l d mX5_mark [.ref 1, .int (zI c), .int (zI g), .int (zI h), .int (zI x)] σ (zA3 ((0 ≤ c ∧ c ≤ N 48 - 1) ∧ (0 ≤ g ∧ g ≤ 40) ∧ (0 ≤ h ∧ h ≤ 99) ∧ 0 ≤ x ∧ x ≤ 60) (N 109 = 6) σ 118 0 (-2) 2 (-4) (N 109 + 1) (zCF σ (zmN N c g h x))) := by
  refine zSp_of oX5_mark (Nat.le_of_ble_eq_true rfl) ?_
  show zw l d mX5_mark 0 [some (.ref 1), some (.int (zI c)), some (.int (zI g)), some (.int (zI h)), some (.int (zI x))] [] σ _
  have hs := hV.1
  have hv := hV.2.1
  have hy := hV.2.2.1
  have hB := zVN_bd hV
  have gN := hs.1
  have gC := hs.2.1
  have c0 : σ 2 0 = N 33 := hC.1.1.1
  have c1 : σ 2 1 = N 48 := hC.1.1.2.1
  have c2 : ∀ s, 0 ≤ s → s < N 33 → σ 3 s = N (34 + s) ∧ σ 4 s = N (41 + s) := hC.1.1.2.2.1
  have c3 : ∀ c, 0 ≤ c → c < N 48 → σ 5 c = N (49 + c) ∧ σ 6 c = N (54 + c) ∧ σ 7 c = zhv (N (49 + c)) (N (54 + c)) := hC.1.1.2.2.2
  have c4 : zSc σ 8 N := hC.1.2.1
  have c41 : ∀ c, 0 ≤ c → c < 5 → σ 9 c = N c := c4.1
  have c42 : ∀ i, 0 ≤ i → i < 20 → σ 10 i = N (5 + i) := c4.2.1
  have c43 : ∀ s, 0 ≤ s → s < 7 → σ 11 s = N (25 + s) := c4.2.2.1
  have c44 : σ 8 0 = N 32 := c4.2.2.2
  have c5 : zRo σ 13 3 59 N := hC.1.2.2.1
  have c6 : zRo σ 15 5 78 N := hC.1.2.2.2.1
  have c7 : zRo σ 17 4 109 N := hC.1.2.2.2.2
  have c8 : σ 2 2 = N 134 := hC.2.1
  have hb5 : ∀ c, 0 ≤ c → c < 5 → -1 ≤ N c ∧ N c < 1000 := fun c h0 h1 => by have := hv.1 c h0 h1; omega
  have gW := hV.2.2.2.2.2.1.1
  have gw := c7.2.1
  refine zw_aload_n 1 dX5_mark_0 rfl rfl ?_
  refine zw_iload_n 2 dX5_mark_1 rfl rfl ?_
  refine zw_callV 5 _ _ dX5_mark_2 rfl kX5_122 qX5_isCanon ly1 ⟨_, rfl, rfl⟩ (by decide) (sp_X5_isCanon (d := d - 1) (by omega) hC.1.1 (by omega) (by omega)) (by omega) rfl rfl (Nat.le_of_ble_eq_true rfl) (fun r σ' hq => ?_)
  obtain ⟨rfl, rfl⟩ := hq
  refine zw_if_eq 39 8 dX5_mark_5 (by decide) rfl (by omega) (fun h5 => ?_) (fun h5 => ?_)
  · refine zw_aload_n 40 dX5_mark_39 rfl rfl ?_
    refine zw_bipush 42 dX5_mark_40 rfl (by decide) ?_
    refine zw_callV 45 _ _ dX5_mark_42 rfl kX5_89 qX5_refuse ly1 ⟨_, rfl, rfl⟩ (by decide) (sp_X5_refuse_2 (d := d - 1)) (by omega) rfl rfl (Nat.le_of_ble_eq_true rfl) (fun r σ' hq => ?_)
    obtain ⟨rfl, rfl⟩ := hq
    refine zw_iret dX5_mark_45 rfl ?_
    exact zA3_bad (by omega)
  · refine zw_iload_n 9 dX5_mark_8 rfl rfl ?_
    refine zw_iconst 10 dX5_mark_9 rfl ?_
    refine zw_bipush 12 dX5_mark_10 rfl (by decide) ?_
    refine zw_callS 15 _ _ dX5_mark_12 rfl kX5_85 qX5_within (sp_X5_within (d := d - 1) (by omega) (by omega) (by omega)) (by omega) rfl rfl (Nat.le_of_ble_eq_true rfl) (fun r σ' hq => ?_)
    obtain ⟨rfl, rfl⟩ := hq
    refine zw_if_eq 39 18 dX5_mark_15 (by decide) rfl (by omega) (fun h15 => ?_) (fun h15 => ?_)
    · refine zw_aload_n 40 dX5_mark_39 rfl rfl ?_
      refine zw_bipush 42 dX5_mark_40 rfl (by decide) ?_
      refine zw_callV 45 _ _ dX5_mark_42 rfl kX5_89 qX5_refuse ly1 ⟨_, rfl, rfl⟩ (by decide) (sp_X5_refuse_2 (d := d - 1)) (by omega) rfl rfl (Nat.le_of_ble_eq_true rfl) (fun r σ' hq => ?_)
      obtain ⟨rfl, rfl⟩ := hq
      refine zw_iret dX5_mark_45 rfl ?_
      exact zA3_bad (by omega)
    · refine zw_iload_n 19 dX5_mark_18 rfl rfl ?_
      refine zw_iconst 20 dX5_mark_19 rfl ?_
      refine zw_bipush 22 dX5_mark_20 rfl (by decide) ?_
      refine zw_callS 25 _ _ dX5_mark_22 rfl kX5_85 qX5_within (sp_X5_within (d := d - 1) (by omega) (by omega) (by omega)) (by omega) rfl rfl (Nat.le_of_ble_eq_true rfl) (fun r σ' hq => ?_)
      obtain ⟨rfl, rfl⟩ := hq
      refine zw_if_eq 39 28 dX5_mark_25 (by decide) rfl (by omega) (fun h25 => ?_) (fun h25 => ?_)
      · refine zw_aload_n 40 dX5_mark_39 rfl rfl ?_
        refine zw_bipush 42 dX5_mark_40 rfl (by decide) ?_
        refine zw_callV 45 _ _ dX5_mark_42 rfl kX5_89 qX5_refuse ly1 ⟨_, rfl, rfl⟩ (by decide) (sp_X5_refuse_2 (d := d - 1)) (by omega) rfl rfl (Nat.le_of_ble_eq_true rfl) (fun r σ' hq => ?_)
        obtain ⟨rfl, rfl⟩ := hq
        refine zw_iret dX5_mark_45 rfl ?_
        exact zA3_bad (by omega)
      · refine zw_iload 30 dX5_mark_28 rfl rfl ?_
        refine zw_iconst 31 dX5_mark_30 rfl ?_
        refine zw_bipush 33 dX5_mark_31 rfl (by decide) ?_
        refine zw_callS 36 _ _ dX5_mark_33 rfl kX5_85 qX5_within (sp_X5_within (d := d - 1) (by omega) (by omega) (by omega)) (by omega) rfl rfl (Nat.le_of_ble_eq_true rfl) (fun r σ' hq => ?_)
        obtain ⟨rfl, rfl⟩ := hq
        refine zw_if_ne 46 39 dX5_mark_36 (by decide) rfl (by omega) (fun h36 => ?_) (fun h36 => ?_)
        · refine zw_aload_n 47 dX5_mark_46 rfl rfl ?_
          refine zw_aload_n 48 dX5_mark_47 rfl rfl ?_
          refine zw_getr 51 (2) (o := 1) dX5_mark_48 rfl fX5_10 (by decide) rfl rfl ly1 ?_
          refine zw_getr 54 (17) (o := 15) dX5_mark_51 rfl fX5_254 (by decide) rfl rfl ly2 ?_
          refine zw_iload_n 55 dX5_mark_54 rfl rfl ?_
          refine zw_iload_n 56 dX5_mark_55 rfl rfl ?_
          refine zw_iload_n 57 dX5_mark_56 rfl rfl ?_
          refine zw_iload 59 dX5_mark_57 rfl rfl ?_
          refine zw_iconst 60 dX5_mark_59 rfl ?_
          refine zw_callV 63 _ _ dX5_mark_60 rfl kX5_225 qX5_write ly1 ⟨_, rfl, rfl⟩ (by decide) (sp_X5_write (d := d - 1) (by omega) ly17 (v1 := c) (v2 := g) (v3 := h) (v4 := x) (v5 := 0) (by omega)) (by omega) rfl rfl (Nat.le_of_ble_eq_true rfl) (fun r σ' hq => ?_)
          skip
          by_cases hF : N 109 = 6
          · obtain ⟨rfl, rfl⟩ := hq.1 (by rw [gw]; exact hF)
            refine zw_iret dX5_mark_63 rfl ?_
            exact zA3_full (by omega) hF
          · obtain ⟨rfl, rfl⟩ := hq.2 (by rw [gw]; exact hF)
            refine zw_iret dX5_mark_63 rfl ?_
            exact zA3_ok (by omega) hF (by rw [gw]) ⟨zCh_mark hB (by omega) hC, fun b b0 b1 b2 => by rw [zwr_ne _ _ _ (by omega), zwa_ne _ _ (by omega)]⟩
        · refine zw_aload_n 40 dX5_mark_39 rfl rfl ?_
          refine zw_bipush 42 dX5_mark_40 rfl (by decide) ?_
          refine zw_callV 45 _ _ dX5_mark_42 rfl kX5_89 qX5_refuse ly1 ⟨_, rfl, rfl⟩ (by decide) (sp_X5_refuse_2 (d := d - 1)) (by omega) rfl rfl (Nat.le_of_ble_eq_true rfl) (fun r σ' hq => ?_)
          obtain ⟨rfl, rfl⟩ := hq
          refine zw_iret dX5_mark_45 rfl ?_
          exact zA3_bad (by omega)
theorem sp_X5_forget {l : Launch} {d : Nat} {σ : zMem} (hd : 8 ≤ d) {N : zR} (hC : zCh σ 2 N) (hV : zVN N) {w : Int} (hw : -2147483648 ≤ w ∧ w < 2147483648)  : zSp l d mX5_forget [.ref 1, .int (zI w)] σ (zA3 (0 ≤ w ∧ w ≤ 2) False σ 118 0 (-2) 2 (-4) (N (if w = 0 then 59 else if w = 1 then 78 else 109)) (zCF σ (zup N (if w = 0 then 59 else if w = 1 then 78 else 109) 0))) := by
  refine zSp_of oX5_forget (Nat.le_of_ble_eq_true rfl) ?_
  show zw l d mX5_forget 0 [some (.ref 1), some (.int (zI w)), none, none] [] σ _
  have hs := hV.1
  have hv := hV.2.1
  have hy := hV.2.2.1
  have hB := zVN_bd hV
  have gN := hs.1
  have gC := hs.2.1
  have c0 : σ 2 0 = N 33 := hC.1.1.1
  have c1 : σ 2 1 = N 48 := hC.1.1.2.1
  have c2 : ∀ s, 0 ≤ s → s < N 33 → σ 3 s = N (34 + s) ∧ σ 4 s = N (41 + s) := hC.1.1.2.2.1
  have c3 : ∀ c, 0 ≤ c → c < N 48 → σ 5 c = N (49 + c) ∧ σ 6 c = N (54 + c) ∧ σ 7 c = zhv (N (49 + c)) (N (54 + c)) := hC.1.1.2.2.2
  have c4 : zSc σ 8 N := hC.1.2.1
  have c41 : ∀ c, 0 ≤ c → c < 5 → σ 9 c = N c := c4.1
  have c42 : ∀ i, 0 ≤ i → i < 20 → σ 10 i = N (5 + i) := c4.2.1
  have c43 : ∀ s, 0 ≤ s → s < 7 → σ 11 s = N (25 + s) := c4.2.2.1
  have c44 : σ 8 0 = N 32 := c4.2.2.2
  have c5 : zRo σ 13 3 59 N := hC.1.2.2.1
  have c6 : zRo σ 15 5 78 N := hC.1.2.2.2.1
  have c7 : zRo σ 17 4 109 N := hC.1.2.2.2.2
  have c8 : σ 2 2 = N 134 := hC.2.1
  have hb5 : ∀ c, 0 ≤ c → c < 5 → -1 ≤ N c ∧ N c < 1000 := fun c h0 h1 => by have := hv.1 c h0 h1; omega
  refine zw_iload_n 1 dX5_forget_0 rfl rfl ?_
  refine zw_iconst 2 dX5_forget_1 rfl ?_
  refine zw_iconst 3 dX5_forget_2 rfl ?_
  refine zw_callS 6 _ _ dX5_forget_3 rfl kX5_85 qX5_within (sp_X5_within (d := d - 1) (by omega) (by omega) (by omega)) (by omega) rfl rfl (Nat.le_of_ble_eq_true rfl) (fun r σ' hq => ?_)
  obtain ⟨rfl, rfl⟩ := hq
  refine zw_if_ne 16 9 dX5_forget_6 (by decide) rfl (by omega) (fun h6 => ?_) (fun h6 => ?_)
  · refine zw_iload_n 17 dX5_forget_16 rfl rfl ?_
    refine zw_if_ne 30 20 dX5_forget_17 (by decide) rfl (by omega) (fun h17 => ?_) (fun h17 => ?_)
    · refine zw_iload_n 31 dX5_forget_30 rfl rfl ?_
      refine zw_iconst 32 dX5_forget_31 rfl ?_
      refine zw_icmp_ne 45 35 dX5_forget_32 (by decide) rfl (by omega) (by omega) (fun h32 => ?_) (fun h32 => ?_)
      · refine zw_aload_n 46 dX5_forget_45 rfl rfl ?_
        refine zw_getr 49 (2) (o := 1) dX5_forget_46 rfl fX5_10 (by decide) rfl rfl ly1 ?_
        refine zw_getr 52 (17) (o := 15) dX5_forget_49 rfl fX5_254 (by decide) rfl rfl ly2 ?_
        refine zw_astore_n 53 dX5_forget_52 rfl (by decide) ?_
        refine zw_aload_n 54 dX5_forget_53 rfl rfl ?_
        refine zw_gti 57 1 dX5_forget_54 rfl fX5_257 (by decide) rfl rfl ly17 ?_
        first | rw [c5.2.1] | rw [c6.2.1] | rw [c7.2.1]
        refine zw_istore_n 58 dX5_forget_57 rfl (by decide) ?_
        refine zw_aload_n 59 dX5_forget_58 rfl rfl ?_
        refine zw_iconst 60 dX5_forget_59 rfl ?_
        refine zw_pti 63 1 dX5_forget_60 rfl pX5_257 (by decide) rfl rfl ly17 ?_
        refine zw_iload_n 64 dX5_forget_63 rfl rfl ?_
        refine zw_iret dX5_forget_64 rfl ?_
        first
          | exact zA3_bad (by omega)
          | (obtain rfl : w = 0 := by omega
             exact zA3_ok (by omega) (fun h => h) rfl ⟨zCh_fg_wish hB hC, fun b b0 b1 b2 => zwr_ne _ _ _ (by omega)⟩)
          | (obtain rfl : w = 1 := by omega
             exact zA3_ok (by omega) (fun h => h) rfl ⟨zCh_fg_note hB hC, fun b b0 b1 b2 => zwr_ne _ _ _ (by omega)⟩)
          | (obtain rfl : w = 2 := by omega
             exact zA3_ok (by omega) (fun h => h) rfl ⟨zCh_fg_mark hB hC, fun b b0 b1 b2 => zwr_ne _ _ _ (by omega)⟩)
      · refine zw_aload_n 36 dX5_forget_35 rfl rfl ?_
        refine zw_getr 39 (2) (o := 1) dX5_forget_36 rfl fX5_10 (by decide) rfl rfl ly1 ?_
        refine zw_getr 42 (15) (o := 13) dX5_forget_39 rfl fX5_251 (by decide) rfl rfl ly2 ?_
        refine zw_goto 52 dX5_forget_42 (by decide) ?_
        refine zw_astore_n 53 dX5_forget_52 rfl (by decide) ?_
        refine zw_aload_n 54 dX5_forget_53 rfl rfl ?_
        refine zw_gti 57 1 dX5_forget_54 rfl fX5_257 (by decide) rfl rfl ly15 ?_
        first | rw [c5.2.1] | rw [c6.2.1] | rw [c7.2.1]
        refine zw_istore_n 58 dX5_forget_57 rfl (by decide) ?_
        refine zw_aload_n 59 dX5_forget_58 rfl rfl ?_
        refine zw_iconst 60 dX5_forget_59 rfl ?_
        refine zw_pti 63 1 dX5_forget_60 rfl pX5_257 (by decide) rfl rfl ly15 ?_
        refine zw_iload_n 64 dX5_forget_63 rfl rfl ?_
        refine zw_iret dX5_forget_64 rfl ?_
        first
          | exact zA3_bad (by omega)
          | (obtain rfl : w = 0 := by omega
             exact zA3_ok (by omega) (fun h => h) rfl ⟨zCh_fg_wish hB hC, fun b b0 b1 b2 => zwr_ne _ _ _ (by omega)⟩)
          | (obtain rfl : w = 1 := by omega
             exact zA3_ok (by omega) (fun h => h) rfl ⟨zCh_fg_note hB hC, fun b b0 b1 b2 => zwr_ne _ _ _ (by omega)⟩)
          | (obtain rfl : w = 2 := by omega
             exact zA3_ok (by omega) (fun h => h) rfl ⟨zCh_fg_mark hB hC, fun b b0 b1 b2 => zwr_ne _ _ _ (by omega)⟩)
    · refine zw_aload_n 21 dX5_forget_20 rfl rfl ?_
      refine zw_getr 24 (2) (o := 1) dX5_forget_21 rfl fX5_10 (by decide) rfl rfl ly1 ?_
      refine zw_getr 27 (13) (o := 11) dX5_forget_24 rfl fX5_221 (by decide) rfl rfl ly2 ?_
      refine zw_goto 52 dX5_forget_27 (by decide) ?_
      refine zw_astore_n 53 dX5_forget_52 rfl (by decide) ?_
      refine zw_aload_n 54 dX5_forget_53 rfl rfl ?_
      refine zw_gti 57 1 dX5_forget_54 rfl fX5_257 (by decide) rfl rfl ly13 ?_
      first | rw [c5.2.1] | rw [c6.2.1] | rw [c7.2.1]
      refine zw_istore_n 58 dX5_forget_57 rfl (by decide) ?_
      refine zw_aload_n 59 dX5_forget_58 rfl rfl ?_
      refine zw_iconst 60 dX5_forget_59 rfl ?_
      refine zw_pti 63 1 dX5_forget_60 rfl pX5_257 (by decide) rfl rfl ly13 ?_
      refine zw_iload_n 64 dX5_forget_63 rfl rfl ?_
      refine zw_iret dX5_forget_64 rfl ?_
      first
        | exact zA3_bad (by omega)
        | (obtain rfl : w = 0 := by omega
           exact zA3_ok (by omega) (fun h => h) rfl ⟨zCh_fg_wish hB hC, fun b b0 b1 b2 => zwr_ne _ _ _ (by omega)⟩)
        | (obtain rfl : w = 1 := by omega
           exact zA3_ok (by omega) (fun h => h) rfl ⟨zCh_fg_note hB hC, fun b b0 b1 b2 => zwr_ne _ _ _ (by omega)⟩)
        | (obtain rfl : w = 2 := by omega
           exact zA3_ok (by omega) (fun h => h) rfl ⟨zCh_fg_mark hB hC, fun b b0 b1 b2 => zwr_ne _ _ _ (by omega)⟩)
  · refine zw_aload_n 10 dX5_forget_9 rfl rfl ?_
    refine zw_bipush 12 dX5_forget_10 rfl (by decide) ?_
    refine zw_callV 15 _ _ dX5_forget_12 rfl kX5_89 qX5_refuse ly1 ⟨_, rfl, rfl⟩ (by decide) (sp_X5_refuse_2 (d := d - 1)) (by omega) rfl rfl (Nat.le_of_ble_eq_true rfl) (fun r σ' hq => ?_)
    obtain ⟨rfl, rfl⟩ := hq
    refine zw_iret dX5_forget_15 rfl ?_
    first
      | exact zA3_bad (by omega)
      | (obtain rfl : w = 0 := by omega
         exact zA3_ok (by omega) (fun h => h) rfl ⟨zCh_fg_wish hB hC, fun b b0 b1 b2 => zwr_ne _ _ _ (by omega)⟩)
      | (obtain rfl : w = 1 := by omega
         exact zA3_ok (by omega) (fun h => h) rfl ⟨zCh_fg_note hB hC, fun b b0 b1 b2 => zwr_ne _ _ _ (by omega)⟩)
      | (obtain rfl : w = 2 := by omega
         exact zA3_ok (by omega) (fun h => h) rfl ⟨zCh_fg_mark hB hC, fun b b0 b1 b2 => zwr_ne _ _ _ (by omega)⟩)
theorem sp_X5_status {l : Launch} {d : Nat} {σ : zMem} (hd : 8 ≤ d) {N : zR} (hC : zCh σ 2 N) (hV : zVN N) {w : Int} (hw : -2147483648 ≤ w ∧ w < 2147483648)  : zSp l d mX5_status [.ref 1, .int (zI w)] σ (zAn 118 (0 ≤ w ∧ w ≤ 2) (σ 118 w) 0 (-1) σ) := by
  refine zSp_of oX5_status (Nat.le_of_ble_eq_true rfl) ?_
  show zw l d mX5_status 0 [some (.ref 1), some (.int (zI w))] [] σ _
  have hs := hV.1
  have hv := hV.2.1
  have hy := hV.2.2.1
  have hB := zVN_bd hV
  have gN := hs.1
  have gC := hs.2.1
  have c0 : σ 2 0 = N 33 := hC.1.1.1
  have c1 : σ 2 1 = N 48 := hC.1.1.2.1
  have c2 : ∀ s, 0 ≤ s → s < N 33 → σ 3 s = N (34 + s) ∧ σ 4 s = N (41 + s) := hC.1.1.2.2.1
  have c3 : ∀ c, 0 ≤ c → c < N 48 → σ 5 c = N (49 + c) ∧ σ 6 c = N (54 + c) ∧ σ 7 c = zhv (N (49 + c)) (N (54 + c)) := hC.1.1.2.2.2
  have c4 : zSc σ 8 N := hC.1.2.1
  have c41 : ∀ c, 0 ≤ c → c < 5 → σ 9 c = N c := c4.1
  have c42 : ∀ i, 0 ≤ i → i < 20 → σ 10 i = N (5 + i) := c4.2.1
  have c43 : ∀ s, 0 ≤ s → s < 7 → σ 11 s = N (25 + s) := c4.2.2.1
  have c44 : σ 8 0 = N 32 := c4.2.2.2
  have c5 : zRo σ 13 3 59 N := hC.1.2.2.1
  have c6 : zRo σ 15 5 78 N := hC.1.2.2.2.1
  have c7 : zRo σ 17 4 109 N := hC.1.2.2.2.2
  have c8 : σ 2 2 = N 134 := hC.2.1
  have hb5 : ∀ c, 0 ≤ c → c < 5 → -1 ≤ N c ∧ N c < 1000 := fun c h0 h1 => by have := hv.1 c h0 h1; omega
  refine zw_iload_n 1 dX5_status_0 rfl rfl ?_
  refine zw_iconst 2 dX5_status_1 rfl ?_
  refine zw_iconst 3 dX5_status_2 rfl ?_
  refine zw_callS 6 _ _ dX5_status_3 rfl kX5_85 qX5_within (sp_X5_within (d := d - 1) (by omega) (by omega) (by omega)) (by omega) rfl rfl (Nat.le_of_ble_eq_true rfl) (fun r σ' hq => ?_)
  obtain ⟨rfl, rfl⟩ := hq
  refine zw_if_eq 18 9 dX5_status_6 (by decide) rfl (by omega) (fun h6 => ?_) (fun h6 => ?_)
  · refine zw_aload_n 19 dX5_status_18 rfl rfl ?_
    refine zw_iconst 20 dX5_status_19 rfl ?_
    refine zw_callV 23 _ _ dX5_status_20 rfl kX5_128 qX5_refuseAs ly1 ⟨_, rfl, rfl⟩ (by decide) (sp_X5_refuseAs (d := d - 1)) (by omega) rfl rfl (Nat.le_of_ble_eq_true rfl) (fun r σ' hq => ?_)
    obtain ⟨rfl, rfl⟩ := hq
    refine zw_iret dX5_status_23 rfl ?_
    first
      | exact zAn_f (by omega)
      | exact zAn_t (by omega) rfl (zNS_refl _)
  · refine zw_aload_n 10 dX5_status_9 rfl rfl ?_
    refine zw_getr 13 (118) (o := 117) dX5_status_10 rfl fX5_61 (by decide) rfl rfl ly1 ?_
    refine zw_iload_n 14 dX5_status_13 rfl rfl ?_
    refine zw_iald 15 dX5_status_14 rfl ly118 (by omega) ?_
    refine zw_goto 23 dX5_status_15 (by decide) ?_
    refine zw_iret dX5_status_23 rfl ?_
    first
      | exact zAn_f (by omega)
      | exact zAn_t (by omega) rfl (zNS_refl _)
theorem sp_X5_part {l : Launch} {d : Nat} {σ : zMem} (hd : 8 ≤ d) {N : zR} (hC : zCh σ 2 N) (hV : zVN N) {w : Int} (hw : -2147483648 ≤ w ∧ w < 2147483648)  : zSp l d mX5_part [.ref 1, .int (zI w)] σ (fun a σ' => (w = 0 → a = some (.long (zL (σ 1 12))) ∧ σ = σ') ∧ (w = 1 → a = some (.long (zL (σ 1 13))) ∧ σ = σ') ∧ (w ≠ 0 → w ≠ 1 → a = some (.long (zL (-2))) ∧ zbm σ 118 0 = σ')) := by
  refine zSp_of oX5_part (Nat.le_of_ble_eq_true rfl) ?_
  show zw l d mX5_part 0 [some (.ref 1), some (.int (zI w))] [] σ _
  have hs := hV.1
  have hv := hV.2.1
  have hy := hV.2.2.1
  have hB := zVN_bd hV
  have gN := hs.1
  have gC := hs.2.1
  have c0 : σ 2 0 = N 33 := hC.1.1.1
  have c1 : σ 2 1 = N 48 := hC.1.1.2.1
  have c2 : ∀ s, 0 ≤ s → s < N 33 → σ 3 s = N (34 + s) ∧ σ 4 s = N (41 + s) := hC.1.1.2.2.1
  have c3 : ∀ c, 0 ≤ c → c < N 48 → σ 5 c = N (49 + c) ∧ σ 6 c = N (54 + c) ∧ σ 7 c = zhv (N (49 + c)) (N (54 + c)) := hC.1.1.2.2.2
  have c4 : zSc σ 8 N := hC.1.2.1
  have c41 : ∀ c, 0 ≤ c → c < 5 → σ 9 c = N c := c4.1
  have c42 : ∀ i, 0 ≤ i → i < 20 → σ 10 i = N (5 + i) := c4.2.1
  have c43 : ∀ s, 0 ≤ s → s < 7 → σ 11 s = N (25 + s) := c4.2.2.1
  have c44 : σ 8 0 = N 32 := c4.2.2.2
  have c5 : zRo σ 13 3 59 N := hC.1.2.2.1
  have c6 : zRo σ 15 5 78 N := hC.1.2.2.2.1
  have c7 : zRo σ 17 4 109 N := hC.1.2.2.2.2
  have c8 : σ 2 2 = N 134 := hC.2.1
  have hb5 : ∀ c, 0 ≤ c → c < 5 → -1 ≤ N c ∧ N c < 1000 := fun c h0 h1 => by have := hv.1 c h0 h1; omega
  refine zw_iload_n 1 dX5_part_0 rfl rfl ?_
  refine zw_iconst 2 dX5_part_1 rfl ?_
  refine zw_iconst 3 dX5_part_2 rfl ?_
  refine zw_callS 6 _ _ dX5_part_3 rfl kX5_85 qX5_within (sp_X5_within (d := d - 1) (by omega) (by omega) (by omega)) (by omega) rfl rfl (Nat.le_of_ble_eq_true rfl) (fun r σ' hq => ?_)
  obtain ⟨rfl, rfl⟩ := hq
  refine zw_if_ne 17 9 dX5_part_6 (by decide) rfl (by omega) (fun h6 => ?_) (fun h6 => ?_)
  · refine zw_iload_n 18 dX5_part_17 rfl rfl ?_
    refine zw_if_ne 28 21 dX5_part_18 (by decide) rfl (by omega) (fun h18 => ?_) (fun h18 => ?_)
    · refine zw_aload_n 29 dX5_part_28 rfl rfl ?_
      refine zw_gtl 32 13 dX5_part_29 rfl fX5_68 (by decide) rfl rfl ly1 ?_
      refine zw_lret dX5_part_32 rfl ?_
      first
        | exact ⟨fun _ => ⟨rfl, rfl⟩, fun h => by exfalso; omega, fun h => by exfalso; omega⟩
        | exact ⟨fun h => by exfalso; omega, fun _ => ⟨rfl, rfl⟩, fun h h2 => by exfalso; omega⟩
        | exact ⟨fun h => by exfalso; omega, fun h => by exfalso; omega, fun _ _ => ⟨rfl, rfl⟩⟩
    · refine zw_aload_n 22 dX5_part_21 rfl rfl ?_
      refine zw_gtl 25 12 dX5_part_22 rfl fX5_64 (by decide) rfl rfl ly1 ?_
      refine zw_goto 32 dX5_part_25 (by decide) ?_
      refine zw_lret dX5_part_32 rfl ?_
      first
        | exact ⟨fun _ => ⟨rfl, rfl⟩, fun h => by exfalso; omega, fun h => by exfalso; omega⟩
        | exact ⟨fun h => by exfalso; omega, fun _ => ⟨rfl, rfl⟩, fun h h2 => by exfalso; omega⟩
        | exact ⟨fun h => by exfalso; omega, fun h => by exfalso; omega, fun _ _ => ⟨rfl, rfl⟩⟩
  · refine zw_aload_n 10 dX5_part_9 rfl rfl ?_
    refine zw_bipush 12 dX5_part_10 rfl (by decide) ?_
    refine zw_callV 15 _ _ dX5_part_12 rfl kX5_89 qX5_refuse ly1 ⟨_, rfl, rfl⟩ (by decide) (sp_X5_refuse_2 (d := d - 1)) (by omega) rfl rfl (Nat.le_of_ble_eq_true rfl) (fun r σ' hq => ?_)
    obtain ⟨rfl, rfl⟩ := hq
    refine zw_i2l 16 dX5_part_15 rfl (by omega) ?_
    refine zw_lret dX5_part_16 rfl ?_
    first
      | exact ⟨fun _ => ⟨rfl, rfl⟩, fun h => by exfalso; omega, fun h => by exfalso; omega⟩
      | exact ⟨fun h => by exfalso; omega, fun _ => ⟨rfl, rfl⟩, fun h h2 => by exfalso; omega⟩
      | exact ⟨fun h => by exfalso; omega, fun h => by exfalso; omega, fun _ _ => ⟨rfl, rfl⟩⟩
theorem sp_X5_image {l : Launch} {d : Nat} {σ : zMem} (hd : 8 ≤ d) {N : zR} (hC : zCh σ 2 N) (hV : zVN N) {i : Int} (hi : -2147483648 ≤ i ∧ i < 2147483648) (h100 : σ 100 0 = 119 ∧ σ 100 1 = 168) (s0 : zSF σ 119) (s1 : zSF σ 168)  : zSp l d mX5_image [.ref 1, .int (zI i)] σ (zA3 (0 ≤ i ∧ i ≤ 1) False σ 118 0 (-2) 2 (-4) 1 (fun σ' => zCh σ' (if i = 0 then 119 else 168) N ∧ σ' 101 = zup (σ 101) i 1 ∧ ∀ b, ¬ ((if i = 0 then 119 else 168) ≤ b ∧ b ≤ (if i = 0 then 119 else 168) + 48) → b ≠ 101 → σ' b = σ b)) := by
  refine zSp_of oX5_image (Nat.le_of_ble_eq_true rfl) ?_
  show zw l d mX5_image 0 [some (.ref 1), some (.int (zI i))] [] σ _
  have hs := hV.1
  have hv := hV.2.1
  have hy := hV.2.2.1
  have hB := zVN_bd hV
  have gN := hs.1
  have gC := hs.2.1
  have c0 : σ 2 0 = N 33 := hC.1.1.1
  have c1 : σ 2 1 = N 48 := hC.1.1.2.1
  have c2 : ∀ s, 0 ≤ s → s < N 33 → σ 3 s = N (34 + s) ∧ σ 4 s = N (41 + s) := hC.1.1.2.2.1
  have c3 : ∀ c, 0 ≤ c → c < N 48 → σ 5 c = N (49 + c) ∧ σ 6 c = N (54 + c) ∧ σ 7 c = zhv (N (49 + c)) (N (54 + c)) := hC.1.1.2.2.2
  have c4 : zSc σ 8 N := hC.1.2.1
  have c41 : ∀ c, 0 ≤ c → c < 5 → σ 9 c = N c := c4.1
  have c42 : ∀ i, 0 ≤ i → i < 20 → σ 10 i = N (5 + i) := c4.2.1
  have c43 : ∀ s, 0 ≤ s → s < 7 → σ 11 s = N (25 + s) := c4.2.2.1
  have c44 : σ 8 0 = N 32 := c4.2.2.2
  have c5 : zRo σ 13 3 59 N := hC.1.2.2.1
  have c6 : zRo σ 15 5 78 N := hC.1.2.2.2.1
  have c7 : zRo σ 17 4 109 N := hC.1.2.2.2.2
  have c8 : σ 2 2 = N 134 := hC.2.1
  have hb5 : ∀ c, 0 ≤ c → c < 5 → -1 ≤ N c ∧ N c < 1000 := fun c h0 h1 => by have := hv.1 c h0 h1; omega
  have h134 := hV.2.2.2.2.2.2.1
  refine zw_iload_n 1 dX5_image_0 rfl rfl ?_
  refine zw_iconst 2 dX5_image_1 rfl ?_
  refine zw_iconst 3 dX5_image_2 rfl ?_
  refine zw_callS 6 _ _ dX5_image_3 rfl kX5_85 qX5_within (sp_X5_within (d := d - 1) (by omega) (by omega) (by omega)) (by omega) rfl rfl (Nat.le_of_ble_eq_true rfl) (fun r σ' hq => ?_)
  obtain ⟨rfl, rfl⟩ := hq
  refine zw_if_ne 16 9 dX5_image_6 (by decide) rfl (by omega) (fun h6 => ?_) (fun h6 => ?_)
  · rcases (by omega : i = 0 ∨ i = 1) with rfl | rfl
    · refine zw_aload_n 17 dX5_image_16 rfl rfl ?_
      refine zw_getr 20 (100) (o := 99) dX5_image_17 rfl fX5_19 (by decide) rfl rfl ly1 ?_
      refine zw_iload_n 21 dX5_image_20 rfl rfl ?_
      refine zw_aald 22 (119) dX5_image_21 rfl ly100 (by decide) (by omega) h100.1 ?_
      refine zw_aload_n 23 dX5_image_22 rfl rfl ?_
      refine zw_getr 26 (2) (o := 1) dX5_image_23 rfl fX5_10 (by decide) rfl rfl ly1 ?_
      refine zw_callV 29 _ _ dX5_image_26 rfl kX5_118 qX0_become ly119 ⟨_, rfl, rfl⟩ (by decide) (sp_X0_become (d := d - 1) (by omega) ly119 ly2 (by omega) hC hB h134.1 s0) (by omega) rfl rfl (Nat.le_of_ble_eq_true rfl) (fun r σ' hq => ?_)
      obtain ⟨rfl, q1, q2⟩ := hq
      refine zw_aload_n 30 dX5_image_29 rfl rfl ?_
      refine zw_getr 33 (101) (o := 100) dX5_image_30 rfl fX5_23 (by decide) rfl rfl ly1 ?_
      refine zw_iload_n 34 dX5_image_33 rfl rfl ?_
      refine zw_iconst 35 dX5_image_34 rfl ?_
      refine zw_zast 36 dX5_image_35 rfl ly101 (by omega) (by omega) ?_
      refine zw_iconst 37 dX5_image_36 rfl ?_
      refine zw_iret dX5_image_37 rfl ?_
      exact zA3_ok (by omega) (fun h => h) rfl ⟨zCh_fr (fun b b0 b1 => zwr_ne _ _ _ (by intro e; subst e; revert b0 b1; decide)) q1, by unfold zwr; rw [zwa_same, q2 101 (by decide)], fun b b0 b1 => by rw [zwr_ne _ _ _ b1]; exact q2 b b0⟩
    · refine zw_aload_n 17 dX5_image_16 rfl rfl ?_
      refine zw_getr 20 (100) (o := 99) dX5_image_17 rfl fX5_19 (by decide) rfl rfl ly1 ?_
      refine zw_iload_n 21 dX5_image_20 rfl rfl ?_
      refine zw_aald 22 (168) dX5_image_21 rfl ly100 (by decide) (by omega) h100.2 ?_
      refine zw_aload_n 23 dX5_image_22 rfl rfl ?_
      refine zw_getr 26 (2) (o := 1) dX5_image_23 rfl fX5_10 (by decide) rfl rfl ly1 ?_
      refine zw_callV 29 _ _ dX5_image_26 rfl kX5_118 qX0_become ly168 ⟨_, rfl, rfl⟩ (by decide) (sp_X0_become (d := d - 1) (by omega) ly168 ly2 (by omega) hC hB h134.1 s1) (by omega) rfl rfl (Nat.le_of_ble_eq_true rfl) (fun r σ' hq => ?_)
      obtain ⟨rfl, q1, q2⟩ := hq
      refine zw_aload_n 30 dX5_image_29 rfl rfl ?_
      refine zw_getr 33 (101) (o := 100) dX5_image_30 rfl fX5_23 (by decide) rfl rfl ly1 ?_
      refine zw_iload_n 34 dX5_image_33 rfl rfl ?_
      refine zw_iconst 35 dX5_image_34 rfl ?_
      refine zw_zast 36 dX5_image_35 rfl ly101 (by omega) (by omega) ?_
      refine zw_iconst 37 dX5_image_36 rfl ?_
      refine zw_iret dX5_image_37 rfl ?_
      exact zA3_ok (by omega) (fun h => h) rfl ⟨zCh_fr (fun b b0 b1 => zwr_ne _ _ _ (by intro e; subst e; revert b0 b1; decide)) q1, by unfold zwr; rw [zwa_same, q2 101 (by decide)], fun b b0 b1 => by rw [zwr_ne _ _ _ b1]; exact q2 b b0⟩
  · refine zw_aload_n 10 dX5_image_9 rfl rfl ?_
    refine zw_bipush 12 dX5_image_10 rfl (by decide) ?_
    refine zw_callV 15 _ _ dX5_image_12 rfl kX5_89 qX5_refuse ly1 ⟨_, rfl, rfl⟩ (by decide) (sp_X5_refuse_2 (d := d - 1)) (by omega) rfl rfl (Nat.le_of_ble_eq_true rfl) (fun r σ' hq => ?_)
    obtain ⟨rfl, rfl⟩ := hq
    refine zw_iret dX5_image_15 rfl ?_
    exact zA3_bad (by omega)
theorem sp_X5_from {l : Launch} {d : Nat} {σ : zMem} (hd : 8 ≤ d) {N : zR} (hC : zCh σ 2 N) (hV : zVN N) {i : Int} (hi : -2147483648 ≤ i ∧ i < 2147483648) (h100 : σ 100 0 = 119 ∧ σ 100 1 = 168) {R0 R1 : zR} (k0 : σ 101 0 = 0 ∨ σ 101 0 = 1) (k1 : σ 101 1 = 0 ∨ σ 101 1 = 1) (i0 : σ 101 0 = 1 → zCh σ 119 R0 ∧ zBd R0 ∧ 0 ≤ R0 134) (i1 : σ 101 1 = 1 → zCh σ 168 R1 ∧ zBd R1 ∧ 0 ≤ R1 134)  : zSp l d mX5_from [.ref 1, .int (zI i)] σ (zA3 (0 ≤ i ∧ i ≤ 1) (σ 101 i = 0) σ 118 0 (-2) 1 (-3) 1 (zCF σ (if i = 0 then R0 else R1))) := by
  refine zSp_of oX5_from (Nat.le_of_ble_eq_true rfl) ?_
  show zw l d mX5_from 0 [some (.ref 1), some (.int (zI i))] [] σ _
  have hs := hV.1
  have hv := hV.2.1
  have hy := hV.2.2.1
  have hB := zVN_bd hV
  have gN := hs.1
  have gC := hs.2.1
  have c0 : σ 2 0 = N 33 := hC.1.1.1
  have c1 : σ 2 1 = N 48 := hC.1.1.2.1
  have c2 : ∀ s, 0 ≤ s → s < N 33 → σ 3 s = N (34 + s) ∧ σ 4 s = N (41 + s) := hC.1.1.2.2.1
  have c3 : ∀ c, 0 ≤ c → c < N 48 → σ 5 c = N (49 + c) ∧ σ 6 c = N (54 + c) ∧ σ 7 c = zhv (N (49 + c)) (N (54 + c)) := hC.1.1.2.2.2
  have c4 : zSc σ 8 N := hC.1.2.1
  have c41 : ∀ c, 0 ≤ c → c < 5 → σ 9 c = N c := c4.1
  have c42 : ∀ i, 0 ≤ i → i < 20 → σ 10 i = N (5 + i) := c4.2.1
  have c43 : ∀ s, 0 ≤ s → s < 7 → σ 11 s = N (25 + s) := c4.2.2.1
  have c44 : σ 8 0 = N 32 := c4.2.2.2
  have c5 : zRo σ 13 3 59 N := hC.1.2.2.1
  have c6 : zRo σ 15 5 78 N := hC.1.2.2.2.1
  have c7 : zRo σ 17 4 109 N := hC.1.2.2.2.2
  have c8 : σ 2 2 = N 134 := hC.2.1
  have hb5 : ∀ c, 0 ≤ c → c < 5 → -1 ≤ N c ∧ N c < 1000 := fun c h0 h1 => by have := hv.1 c h0 h1; omega
  refine zw_iload_n 1 dX5_from_0 rfl rfl ?_
  refine zw_iconst 2 dX5_from_1 rfl ?_
  refine zw_iconst 3 dX5_from_2 rfl ?_
  refine zw_callS 6 _ _ dX5_from_3 rfl kX5_85 qX5_within (sp_X5_within (d := d - 1) (by omega) (by omega) (by omega)) (by omega) rfl rfl (Nat.le_of_ble_eq_true rfl) (fun r σ' hq => ?_)
  obtain ⟨rfl, rfl⟩ := hq
  refine zw_if_ne 16 9 dX5_from_6 (by decide) rfl (by omega) (fun h6 => ?_) (fun h6 => ?_)
  · rcases (by omega : i = 0 ∨ i = 1) with rfl | rfl
    · refine zw_aload_n 17 dX5_from_16 rfl rfl ?_
      refine zw_getr 20 (101) (o := 100) dX5_from_17 rfl fX5_23 (by decide) rfl rfl ly1 ?_
      refine zw_iload_n 21 dX5_from_20 rfl rfl ?_
      refine zw_zald 22 dX5_from_21 rfl ly101 (by omega) ?_
      refine zw_if_ne 32 25 dX5_from_22 (by decide) rfl (by omega) (fun h22 => ?_) (fun h22 => ?_)
      · refine zw_aload_n 33 dX5_from_32 rfl rfl ?_
        refine zw_getr 36 (2) (o := 1) dX5_from_33 rfl fX5_10 (by decide) rfl rfl ly1 ?_
        refine zw_aload_n 37 dX5_from_36 rfl rfl ?_
        refine zw_getr 40 (100) (o := 99) dX5_from_37 rfl fX5_19 (by decide) rfl rfl ly1 ?_
        refine zw_iload_n 41 dX5_from_40 rfl rfl ?_
        refine zw_aald 42 (119) dX5_from_41 rfl ly100 (by decide) (by omega) h100.1 ?_
        refine zw_callV 45 _ _ dX5_from_42 rfl kX5_118 qX0_become ly2 ⟨_, rfl, rfl⟩ (by decide) (sp_X0_become (d := d - 1) (by omega) ly2 ly119 (by omega) (i0 (by omega)).1 (i0 (by omega)).2.1 (i0 (by omega)).2.2 hC.st) (by omega) rfl rfl (Nat.le_of_ble_eq_true rfl) (fun r σ' hq => ?_)
        obtain ⟨rfl, q1, q2⟩ := hq
        refine zw_iconst 46 dX5_from_45 rfl ?_
        refine zw_iret dX5_from_46 rfl ?_
        first
          | exact zA3_full (by omega) (by omega)
          | exact zA3_ok (by omega) (by omega) rfl ⟨q1, fun b b0 b1 b2 => q2 b b0⟩
      · refine zw_aload_n 26 dX5_from_25 rfl rfl ?_
        refine zw_bipush 28 dX5_from_26 rfl (by decide) ?_
        refine zw_callV 31 _ _ dX5_from_28 rfl kX5_89 qX5_refuse ly1 ⟨_, rfl, rfl⟩ (by decide) (sp_X5_refuse_3 (d := d - 1)) (by omega) rfl rfl (Nat.le_of_ble_eq_true rfl) (fun r σ' hq => ?_)
        obtain ⟨rfl, rfl⟩ := hq
        refine zw_iret dX5_from_31 rfl ?_
        first
          | exact zA3_full (by omega) (by omega)
          | exact zA3_ok (by omega) (by omega) rfl ⟨q1, fun b b0 b1 b2 => q2 b b0⟩
    · refine zw_aload_n 17 dX5_from_16 rfl rfl ?_
      refine zw_getr 20 (101) (o := 100) dX5_from_17 rfl fX5_23 (by decide) rfl rfl ly1 ?_
      refine zw_iload_n 21 dX5_from_20 rfl rfl ?_
      refine zw_zald 22 dX5_from_21 rfl ly101 (by omega) ?_
      refine zw_if_ne 32 25 dX5_from_22 (by decide) rfl (by omega) (fun h22 => ?_) (fun h22 => ?_)
      · refine zw_aload_n 33 dX5_from_32 rfl rfl ?_
        refine zw_getr 36 (2) (o := 1) dX5_from_33 rfl fX5_10 (by decide) rfl rfl ly1 ?_
        refine zw_aload_n 37 dX5_from_36 rfl rfl ?_
        refine zw_getr 40 (100) (o := 99) dX5_from_37 rfl fX5_19 (by decide) rfl rfl ly1 ?_
        refine zw_iload_n 41 dX5_from_40 rfl rfl ?_
        refine zw_aald 42 (168) dX5_from_41 rfl ly100 (by decide) (by omega) h100.2 ?_
        refine zw_callV 45 _ _ dX5_from_42 rfl kX5_118 qX0_become ly2 ⟨_, rfl, rfl⟩ (by decide) (sp_X0_become (d := d - 1) (by omega) ly2 ly168 (by omega) (i1 (by omega)).1 (i1 (by omega)).2.1 (i1 (by omega)).2.2 hC.st) (by omega) rfl rfl (Nat.le_of_ble_eq_true rfl) (fun r σ' hq => ?_)
        obtain ⟨rfl, q1, q2⟩ := hq
        refine zw_iconst 46 dX5_from_45 rfl ?_
        refine zw_iret dX5_from_46 rfl ?_
        first
          | exact zA3_full (by omega) (by omega)
          | exact zA3_ok (by omega) (by omega) rfl ⟨q1, fun b b0 b1 b2 => q2 b b0⟩
      · refine zw_aload_n 26 dX5_from_25 rfl rfl ?_
        refine zw_bipush 28 dX5_from_26 rfl (by decide) ?_
        refine zw_callV 31 _ _ dX5_from_28 rfl kX5_89 qX5_refuse ly1 ⟨_, rfl, rfl⟩ (by decide) (sp_X5_refuse_3 (d := d - 1)) (by omega) rfl rfl (Nat.le_of_ble_eq_true rfl) (fun r σ' hq => ?_)
        obtain ⟨rfl, rfl⟩ := hq
        refine zw_iret dX5_from_31 rfl ?_
        first
          | exact zA3_full (by omega) (by omega)
          | exact zA3_ok (by omega) (by omega) rfl ⟨q1, fun b b0 b1 b2 => q2 b b0⟩
  · refine zw_aload_n 10 dX5_from_9 rfl rfl ?_
    refine zw_bipush 12 dX5_from_10 rfl (by decide) ?_
    refine zw_callV 15 _ _ dX5_from_12 rfl kX5_89 qX5_refuse ly1 ⟨_, rfl, rfl⟩ (by decide) (sp_X5_refuse_2 (d := d - 1)) (by omega) rfl rfl (Nat.le_of_ble_eq_true rfl) (fun r σ' hq => ?_)
    obtain ⟨rfl, rfl⟩ := hq
    refine zw_iret dX5_from_15 rfl ?_
    exact zA3_bad (by omega)
