theorem t38_X4_takeItem {l : Launch} {d : Nat} {σ : zMem} (hd : 6 ≤ d) {tx : zR} {n : Int} (hx : ztx tx n) (h7 : zt7 σ tx n) {r : zR} (hC : zCb σ 51 r) (hs : zVs r) (hr : ∀ c, 0 ≤ c → c < 5 → -1 ≤ r c ∧ r c < 1000) {g f : zR} (h1 : g 1 = n) (hb : 0 ≤ g 2 ∧ g 2 ≤ g 3 ∧ g 3 ≤ n) {c o : Int} (ho : (o = 1 ∧ c = 0) ∨ (o = 0 ∧ c ≠ 0)) {w : Int} (hw : g 6 = w) (hwb : -1 ≤ w ∧ w ≤ 4) (hcw : (c = 0 ∧ w = 0) ∨ (c ≠ 0 ∧ w ≠ 0)) : zw l d mX4_takeItem 38 [some (.ref 106), some (.ref 51), some (.int (zI o))] [] (zM4 σ g f) (zcQ σ n (zcIt tx n (g 2) (g 3) c r w)) := by
  unfold zcIt
  rw [if_neg (show ¬ ((c = 0 ∧ w ≠ 0) ∨ (c ≠ 0 ∧ w = 0)) by omega)]
  refine zw_aload_n 39 dX4_takeItem_38 rfl rfl ?_
  refine zw_gti 42 6 dX4_takeItem_39 rfl fX4_38 (by decide) rfl rfl ly106 ?_
  rw [zM4_106, hw]
  refine zw_sw 265 dX4_takeItem_42 (by decide) (by omega) (fun h42 => ?_) (fun vh42 lh42 uh42 h42 => ?_)
  · refine zw_iconst 266 dX4_takeItem_265 rfl ?_
    refine zw_zret dX4_takeItem_266 rfl (by omega) ?_
    rw [if_neg (show ¬ w = 0 by omega), if_neg (show ¬ w = 1 by omega), if_neg (show ¬ w = 2 by omega), if_neg (show ¬ w = 3 by omega), if_neg (show ¬ w = 4 by omega)]
    exact ⟨g, f, rfl, h1, by omega, rfl, rfl⟩
  · obtain rfl | rfl | rfl | rfl | rfl : vh42 = 0 ∨ vh42 = 1 ∨ vh42 = 2 ∨ vh42 = 3 ∨ vh42 = 4 := by omega
    · refine ⟨76, _, rfl, by decide, ?_⟩
      rw [if_pos (show w = 0 by omega)]
      exact tc_chapter hd hx h7 hC hs hr h1 hb ho (by omega)
    · refine ⟨81, _, rfl, by decide, ?_⟩
      rw [if_neg (show ¬ w = 0 by omega), if_pos (show w = 1 by omega)]
      exact tc_seat hd hx h7 hC hs hr h1 hb ho (by omega)
    · refine ⟨134, _, rfl, by decide, ?_⟩
      rw [if_neg (show ¬ w = 0 by omega), if_neg (show ¬ w = 1 by omega), if_pos (show w = 2 by omega)]
      exact tc_canon hd hx h7 hC hs hr h1 hb ho (by omega)
    · refine ⟨176, _, rfl, by decide, ?_⟩
      rw [if_neg (show ¬ w = 0 by omega), if_neg (show ¬ w = 1 by omega), if_neg (show ¬ w = 2 by omega), if_pos (show w = 3 by omega)]
      exact tc_sits hd hx h7 hC hs hr h1 hb ho (by omega)
    · refine ⟨241, _, rfl, by decide, ?_⟩
      rw [if_neg (show ¬ w = 0 by omega), if_neg (show ¬ w = 1 by omega), if_neg (show ¬ w = 2 by omega), if_neg (show ¬ w = 3 by omega), if_pos (show w = 4 by omega)]
      exact tc_years hd hx h7 hC hs hr h1 hb ho (by omega)
theorem t17_X4_takeItem {l : Launch} {d : Nat} {σ : zMem} (hd : 6 ≤ d) {tx : zR} {n : Int} (hx : ztx tx n) (h7 : zt7 σ tx n) {r : zR} (hC : zCb σ 51 r) (hs : zVs r) (hr : ∀ c, 0 ≤ c → c < 5 → -1 ≤ r c ∧ r c < 1000) {g f : zR} (h1 : g 1 = n) (hb : 0 ≤ g 2 ∧ g 2 ≤ g 3 ∧ g 3 ≤ n) {c o : Int} (ho : (o = 1 ∧ c = 0) ∨ (o = 0 ∧ c ≠ 0)) {w : Int} (hwb : -1 ≤ w ∧ w ≤ 4) : zw l d mX4_takeItem 17 [some (.ref 106), some (.ref 51), some (.int (zI o))] [.int (zI w), .ref 106] (zM4 σ g f) (zcQ σ n (zcIt tx n (g 2) (g 3) c r w)) := by
  have k38 : (c = 0 ∧ w = 0) ∨ (c ≠ 0 ∧ w ≠ 0) → zw l d mX4_takeItem 38 [some (.ref 106), some (.ref 51), some (.int (zI o))] [] (zM4 σ (zup g 6 w) f) (zcQ σ n (zcIt tx n (g 2) (g 3) c r w)) := fun q => by
    have h := t38_X4_takeItem (l := l) hd hx h7 hC hs hr (g := zup g 6 w) (f := f) (c := c) ((zup_ne _ _ (by decide)).trans h1) (by rw [zup_ne _ _ (by decide), zup_ne _ _ (by decide)]; exact hb) ho (w := w) (zup_same _ _ _) hwb q
    rw [zup_ne _ _ (by decide), zup_ne _ _ (by decide)] at h
    exact h
  refine zw_pti 20 6 dX4_takeItem_17 rfl pX4_38 (by decide) rfl rfl ly106 ?_
  rw [zM4_g]
  refine zw_iload_n 21 dX4_takeItem_20 rfl rfl ?_
  refine zw_aload_n 22 dX4_takeItem_21 rfl rfl ?_
  refine zw_gti 25 6 dX4_takeItem_22 rfl fX4_38 (by decide) rfl rfl ly106 ?_
  rw [zM4_106, zup_same]
  refine zw_if_ne 32 28 dX4_takeItem_25 (by decide) rfl (by omega) (fun h25 => ?_) (fun h25 => ?_)
  · refine zw_iconst 33 dX4_takeItem_32 rfl ?_
    refine zw_icmp_eq 38 36 dX4_takeItem_33 (by decide) rfl (by omega) (by omega) (fun h33 => ?_) (fun h33 => ?_)
    · exact k38 (by omega)
    · refine zw_iconst 37 dX4_takeItem_36 rfl ?_
      refine zw_zret dX4_takeItem_37 rfl (by omega) ?_
      unfold zcIt
      rw [if_pos (show (c = 0 ∧ w ≠ 0) ∨ (c ≠ 0 ∧ w = 0) by omega)]
      exact ⟨zup g 6 w, f, rfl, (zup_ne _ _ (by decide)).trans h1, by rw [zup_ne _ _ (by decide)]; omega, rfl, zup_ne _ _ (by decide)⟩
  · refine zw_iconst 29 dX4_takeItem_28 rfl ?_
    refine zw_goto 33 dX4_takeItem_29 (by decide) ?_
    refine zw_icmp_eq 38 36 dX4_takeItem_33 (by decide) rfl (by omega) (by omega) (fun h33 => ?_) (fun h33 => ?_)
    · exact k38 (by omega)
    · refine zw_iconst 37 dX4_takeItem_36 rfl ?_
      refine zw_zret dX4_takeItem_37 rfl (by omega) ?_
      unfold zcIt
      rw [if_pos (show (c = 0 ∧ w ≠ 0) ∨ (c ≠ 0 ∧ w = 0) by omega)]
      exact ⟨zup g 6 w, f, rfl, (zup_ne _ _ (by decide)).trans h1, by rw [zup_ne _ _ (by decide)]; omega, rfl, zup_ne _ _ (by decide)⟩
theorem sp_X4_takeItem {l : Launch} {d : Nat} {σ : zMem} (hd : 6 ≤ d) {tx : zR} {n : Int} (hx : ztx tx n) (h7 : zt7 σ tx n) {r : zR} (hC : zCb σ 51 r) (hs : zVs r) (hr : ∀ c, 0 ≤ c → c < 5 → -1 ≤ r c ∧ r c < 1000) {g f : zR} (h1 : g 1 = n) (hb : 0 ≤ g 2 ∧ g 2 ≤ g 3 ∧ g 3 ≤ n) {c o : Int} (ho : (o = 1 ∧ c = 0) ∨ (o = 0 ∧ c ≠ 0)) {i : Int} (hi : 0 ≤ i ∧ i ≤ n) {g0 : zR} (hco : zCo tx n i g0 g) : zSp l d mX4_takeItem [.ref 106, .ref 51, .int (zI o)] (zM4 σ g f) (zcQ σ n (zcItem tx n i c r)) := by
  refine zSp_of oX4_takeItem (Nat.le_of_ble_eq_true rfl) ?_
  show zw l d mX4_takeItem 0 [some (.ref 106), some (.ref 51), some (.int (zI o))] [] (zM4 σ g f) _
  obtain ⟨f0, f1, f2, f3, f4⟩ := id hco
  have hkb := zTk_b tx n i
  unfold zcItem
  rw [← f1, ← f2]
  have hwW := zwW_b tx (g 2) (g 3)
  refine zw_aload_n 1 dX4_takeItem_0 rfl rfl ?_
  refine zw_aload_n 2 dX4_takeItem_1 rfl rfl ?_
  refine zw_gti 5 4 dX4_takeItem_2 rfl fX4_31 (by decide) rfl rfl ly106 ?_
  rw [zM4_106, f3]
  refine zw_iconst 6 dX4_takeItem_5 rfl ?_
  refine zw_icmp_ne 16 9 dX4_takeItem_6 (by decide) rfl (by omega) (by omega) (fun h6 => ?_) (fun h6 => ?_)
  · refine zw_iconst 17 dX4_takeItem_16 rfl ?_
    first
      | (rw [if_pos (show zTk tx n i = 1 by omega)]; exact t17_X4_takeItem hd hx h7 hC hs hr h1 hb ho hwW)
      | (rw [if_neg (show ¬ zTk tx n i = 1 by omega)]; exact t17_X4_takeItem hd hx h7 hC hs hr h1 hb ho (by omega))
  · refine zw_aload_n 10 dX4_takeItem_9 rfl rfl ?_
    refine zw_callV 13 _ _ dX4_takeItem_10 rfl kX4_62 qX4_wordNumber ly106 ⟨_, rfl, rfl⟩ (by decide) (sp_X4_wordNumber (d := d - 1) (σ := zM4 σ g f) (by omega) hx (fun i h0 h1 => by rw [zM4_ne _ _ _ (by decide) (by decide)]; exact h7 i h0 h1) (b := g 2) (e := g 3) (by rw [zM4_106]) (by rw [zM4_106]) (by omega)) (by omega) rfl rfl (Nat.le_of_ble_eq_true rfl) (fun r σ' hq => ?_)
    obtain ⟨rfl, rfl⟩ := hq
    refine zw_goto 17 dX4_takeItem_13 (by decide) ?_
    first
      | (rw [if_pos (show zTk tx n i = 1 by omega)]; exact t17_X4_takeItem hd hx h7 hC hs hr h1 hb ho hwW)
      | (rw [if_neg (show ¬ zTk tx n i = 1 by omega)]; exact t17_X4_takeItem hd hx h7 hC hs hr h1 hb ho (by omega))
