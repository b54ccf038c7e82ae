theorem zi8_ok : ∀ a : Nat, a < 128 → (zI (a : Int)).toInt8.toInt32 = zI (a : Int) := by decide +kernel
theorem zi8 {a : Int} (h : 0 ≤ a ∧ a ≤ 127) : (zI a).toInt8.toInt32 = zI a := by
  obtain ⟨x, rfl⟩ := Int.eq_ofNat_of_zero_le h.1
  exact zi8_ok x (by omega)
theorem zCh_sit {σ : zMem} {a : Nat} {N : zR} {c s : Int} (hB : zBd N) (hc : 0 ≤ c ∧ c < 5) (hC : zCh σ a N) : zCh (zwr σ (a + 7) c s) a (zup N c s) := by
  obtain ⟨s1, s2, s3, s4⟩ := hC.1.2.1
  refine zCh_sc hB (fun j j0 j1 => zup_ne _ _ (by omega)) (fun b h0 h1 h2 => zwr_ne _ _ _ (by omega)) ⟨fun x x0 x1 => ?_, fun x x0 x1 => ?_, fun x x0 x1 => ?_, ?_⟩ hC
  · show zwr σ (a + 7) c s (a + 7) x = _
    unfold zwr
    rw [zwa_same]; unfold zup
    by_cases q : x = c
    · rw [if_pos q, if_pos q]
    · rw [if_neg q, if_neg q]; exact s1 x x0 x1
  · rw [zwr_ne _ _ _ (by omega), zup_ne _ _ (by omega)]; exact s2 x x0 x1
  · rw [zwr_ne _ _ _ (by omega), zup_ne _ _ (by omega)]; exact s3 x x0 x1
  · rw [zwr_ne _ _ _ (by omega), zup_ne _ _ (by omega)]; exact s4
theorem zrem_134 {N : zR} (h : 0 ≤ N 134 ∧ N 134 ≤ 8) : zrem N 134 = zr1 N 134 + 1 := zup_same _ _ _
theorem zBd_rem {N : zR} (hB : zBd N) (h0 : 0 ≤ N 134) : zBd (zrem N) := by
  have h := zr1_134 N ⟨h0, hB.2.2.2.2.2⟩
  have h2 := zrem_134 ⟨h0, hB.2.2.2.2.2⟩
  have lo : ∀ j, j < 134 → zrem N j = N j := fun j hj => zrem_lo N ⟨h0, hB.2.2.2.2.2⟩ hj
  obtain ⟨b1, b2, b3, b4, b5, b6⟩ := hB
  refine ⟨by rw [lo _ (by omega)]; exact b1, by rw [lo _ (by omega)]; exact b2, by rw [lo _ (by omega)]; exact b3, by rw [lo _ (by omega)]; exact b4, by rw [lo _ (by omega)]; exact b5, ?_⟩
  rw [h2, h]; split <;> omega
theorem zwd_5 {N t : zR} (hs : zVs N) (hv : zVr N t) : zwd t 5 = zwd t (N 48).toNat := by
  have h48 := hs.2.1
  have key : ∀ k : Nat, (N 48).toNat ≤ k → k ≤ 5 → zwd t k = zwd t (N 48).toNat := by
    intro k
    induction k with
    | zero => intro h _; rw [show (N 48).toNat = 0 by omega]
    | succ k ih =>
      intro h h5
      by_cases q : (N 48).toNat = k + 1
      · rw [q]
      · have z := (hv.2.2.2.2 k (by omega) (by omega) (by omega)).2
        have bb := zbs_b t k 3
        have e : t (5 + 4 * (k : Int) + zbs t k 3) = 0 := z _ (by omega) (by omega)
        have e2 : zdo t k = -1 := by unfold zdo; rw [if_pos (by omega)]
        rw [← ih (by omega) (by omega)]
        show zwd t k + (if zdo t k = -1 then 0 else 1) = zwd t k
        rw [if_pos e2]; omega
  exact key 5 (by omega) (by omega)
theorem sp_X5_chapter {l : Launch} {d : Nat} {σ : zMem} (hd : 8 ≤ d) {N : zR} (hC : zCh σ 2 N) (hV : zVN N) (g : zR)  : zSp l d mX5_chapter [.ref 1] σ (fun a σ' => a = some (.int (zI (N 48))) ∧ zCF σ (zem g) σ') := by
  refine zSp_of oX5_chapter (Nat.le_of_ble_eq_true rfl) ?_
  show zw l d mX5_chapter 0 [some (.ref 1), none] [] σ _
  have hs := hV.1
  have hv := hV.2.1
  have hy := hV.2.2.1
  have hB := zVN_bd hV
  have gN := hs.1
  have gC := hs.2.1
  have c0 : σ 2 0 = N 33 := hC.1.1.1
  have c1 : σ 2 1 = N 48 := hC.1.1.2.1
  have c2 : ∀ s, 0 ≤ s → s < N 33 → σ 3 s = N (34 + s) ∧ σ 4 s = N (41 + s) := hC.1.1.2.2.1
  have c3 : ∀ c, 0 ≤ c → c < N 48 → σ 5 c = N (49 + c) ∧ σ 6 c = N (54 + c) ∧ σ 7 c = zhv (N (49 + c)) (N (54 + c)) := hC.1.1.2.2.2
  have c4 : zSc σ 8 N := hC.1.2.1
  have c41 : ∀ c, 0 ≤ c → c < 5 → σ 9 c = N c := c4.1
  have c42 : ∀ i, 0 ≤ i → i < 20 → σ 10 i = N (5 + i) := c4.2.1
  have c43 : ∀ s, 0 ≤ s → s < 7 → σ 11 s = N (25 + s) := c4.2.2.1
  have c44 : σ 8 0 = N 32 := c4.2.2.2
  have c5 : zRo σ 13 3 59 N := hC.1.2.2.1
  have c6 : zRo σ 15 5 78 N := hC.1.2.2.2.1
  have c7 : zRo σ 17 4 109 N := hC.1.2.2.2.2
  have c8 : σ 2 2 = N 134 := hC.2.1
  have hb5 : ∀ c, 0 ≤ c → c < 5 → -1 ≤ N c ∧ N c < 1000 := fun c h0 h1 => by have := hv.1 c h0 h1; omega
  refine zw_aload_n 1 dX5_chapter_0 rfl rfl ?_
  refine zw_getr 4 (2) (o := 1) dX5_chapter_1 rfl fX5_10 (by decide) rfl rfl ly1 ?_
  refine zw_gti 7 1 dX5_chapter_4 rfl fX5_71 (by decide) rfl rfl ly2 ?_
  rw [c1]
  refine zw_istore_n 8 dX5_chapter_7 rfl (by decide) ?_
  refine zw_aload_n 9 dX5_chapter_8 rfl rfl ?_
  refine zw_getr 12 (2) (o := 1) dX5_chapter_9 rfl fX5_10 (by decide) rfl rfl ly1 ?_
  refine zw_callV 15 _ _ dX5_chapter_12 rfl kX5_75 qX0_empty ly2 ⟨_, rfl, rfl⟩ (by decide) (sp_X0_empty (d := d - 1) (by omega) ly2 hC.st g) (by omega) rfl rfl (Nat.le_of_ble_eq_true rfl) (fun r σ' hq => ?_)
  obtain ⟨rfl, q1, q2⟩ := hq
  refine zw_iload_n 16 dX5_chapter_15 rfl rfl ?_
  refine zw_iret dX5_chapter_16 rfl ?_
  exact ⟨rfl, q1, (fun b b0 b1 b2 => q2 b b0)⟩
theorem sp_X5_seat {l : Launch} {d : Nat} {σ : zMem} (hd : 8 ≤ d) {N : zR} (hC : zCh σ 2 N) (hV : zVN N) {k t dp : Int} (hk : -2147483648 ≤ k ∧ k < 2147483648) (ht : -2147483648 ≤ t ∧ t < 2147483648) (hdp : -2147483648 ≤ dp ∧ dp < 2147483648)  : zSp l d mX5_seat [.ref 1, .int (zI k), .int (zI t), .int (zI dp)] σ (zA3 ((0 ≤ k ∧ k ≤ 5) ∧ (0 ≤ t ∧ t ≤ 3) ∧ 0 ≤ dp ∧ dp ≤ 40) (N 33 = 7) σ 118 0 (-2) 2 (-4) (N 33) (zCF σ (zsN N k t dp))) := by
  refine zSp_of oX5_seat (Nat.le_of_ble_eq_true rfl) ?_
  show zw l d mX5_seat 0 [some (.ref 1), some (.int (zI k)), some (.int (zI t)), some (.int (zI dp))] [] σ _
  have hs := hV.1
  have hv := hV.2.1
  have hy := hV.2.2.1
  have hB := zVN_bd hV
  have gN := hs.1
  have gC := hs.2.1
  have c0 : σ 2 0 = N 33 := hC.1.1.1
  have c1 : σ 2 1 = N 48 := hC.1.1.2.1
  have c2 : ∀ s, 0 ≤ s → s < N 33 → σ 3 s = N (34 + s) ∧ σ 4 s = N (41 + s) := hC.1.1.2.2.1
  have c3 : ∀ c, 0 ≤ c → c < N 48 → σ 5 c = N (49 + c) ∧ σ 6 c = N (54 + c) ∧ σ 7 c = zhv (N (49 + c)) (N (54 + c)) := hC.1.1.2.2.2
  have c4 : zSc σ 8 N := hC.1.2.1
  have c41 : ∀ c, 0 ≤ c → c < 5 → σ 9 c = N c := c4.1
  have c42 : ∀ i, 0 ≤ i → i < 20 → σ 10 i = N (5 + i) := c4.2.1
  have c43 : ∀ s, 0 ≤ s → s < 7 → σ 11 s = N (25 + s) := c4.2.2.1
  have c44 : σ 8 0 = N 32 := c4.2.2.2
  have c5 : zRo σ 13 3 59 N := hC.1.2.2.1
  have c6 : zRo σ 15 5 78 N := hC.1.2.2.2.1
  have c7 : zRo σ 17 4 109 N := hC.1.2.2.2.2
  have c8 : σ 2 2 = N 134 := hC.2.1
  have hb5 : ∀ c, 0 ≤ c → c < 5 → -1 ≤ N c ∧ N c < 1000 := fun c h0 h1 => by have := hv.1 c h0 h1; omega
  refine zw_iload_n 1 dX5_seat_0 rfl rfl ?_
  refine zw_callS 4 _ _ dX5_seat_1 rfl kX5_78 qX5_isKind (sp_X5_isKind (d := d - 1) (by omega) (by omega)) (by omega) rfl rfl (Nat.le_of_ble_eq_true rfl) (fun r σ' hq => ?_)
  obtain ⟨rfl, rfl⟩ := hq
  refine zw_if_eq 24 7 dX5_seat_4 (by decide) rfl (by omega) (fun h4 => ?_) (fun h4 => ?_)
  · refine zw_aload_n 25 dX5_seat_24 rfl rfl ?_
    refine zw_bipush 27 dX5_seat_25 rfl (by decide) ?_
    refine zw_callV 30 _ _ dX5_seat_27 rfl kX5_89 qX5_refuse ly1 ⟨_, rfl, rfl⟩ (by decide) (sp_X5_refuse_2 (d := d - 1)) (by omega) rfl rfl (Nat.le_of_ble_eq_true rfl) (fun r σ' hq => ?_)
    obtain ⟨rfl, rfl⟩ := hq
    refine zw_iret dX5_seat_30 rfl ?_
    first
      | exact zA3_bad (by omega)
      | exact zA3_full (by omega) (by omega)
      | exact zA3_ok (by omega) (by omega) rfl ⟨q1, (fun b b0 b1 b2 => q2 b b0)⟩
  · refine zw_iload_n 8 dX5_seat_7 rfl rfl ?_
    refine zw_callS 11 _ _ dX5_seat_8 rfl kX5_82 qX5_isTrait (sp_X5_isTrait (d := d - 1) (by omega) (by omega)) (by omega) rfl rfl (Nat.le_of_ble_eq_true rfl) (fun r σ' hq => ?_)
    obtain ⟨rfl, rfl⟩ := hq
    refine zw_if_eq 24 14 dX5_seat_11 (by decide) rfl (by omega) (fun h11 => ?_) (fun h11 => ?_)
    · refine zw_aload_n 25 dX5_seat_24 rfl rfl ?_
      refine zw_bipush 27 dX5_seat_25 rfl (by decide) ?_
      refine zw_callV 30 _ _ dX5_seat_27 rfl kX5_89 qX5_refuse ly1 ⟨_, rfl, rfl⟩ (by decide) (sp_X5_refuse_2 (d := d - 1)) (by omega) rfl rfl (Nat.le_of_ble_eq_true rfl) (fun r σ' hq => ?_)
      obtain ⟨rfl, rfl⟩ := hq
      refine zw_iret dX5_seat_30 rfl ?_
      first
        | exact zA3_bad (by omega)
        | exact zA3_full (by omega) (by omega)
        | exact zA3_ok (by omega) (by omega) rfl ⟨q1, (fun b b0 b1 b2 => q2 b b0)⟩
    · refine zw_iload_n 15 dX5_seat_14 rfl rfl ?_
      refine zw_iconst 16 dX5_seat_15 rfl ?_
      refine zw_bipush 18 dX5_seat_16 rfl (by decide) ?_
      refine zw_callS 21 _ _ dX5_seat_18 rfl kX5_85 qX5_within (sp_X5_within (d := d - 1) (by omega) (by omega) (by omega)) (by omega) rfl rfl (Nat.le_of_ble_eq_true rfl) (fun r σ' hq => ?_)
      obtain ⟨rfl, rfl⟩ := hq
      refine zw_if_ne 31 24 dX5_seat_21 (by decide) rfl (by omega) (fun h21 => ?_) (fun h21 => ?_)
      · refine zw_aload_n 32 dX5_seat_31 rfl rfl ?_
        refine zw_getr 35 (2) (o := 1) dX5_seat_32 rfl fX5_10 (by decide) rfl rfl ly1 ?_
        refine zw_gti 38 0 dX5_seat_35 rfl fX5_93 (by decide) rfl rfl ly2 ?_
        rw [c0]
        refine zw_bipush 40 dX5_seat_38 rfl (by decide) ?_
        refine zw_icmp_lt 50 43 dX5_seat_40 (by decide) rfl (by omega) (by omega) (fun h40 => ?_) (fun h40 => ?_)
        · refine zw_aload_n 51 dX5_seat_50 rfl rfl ?_
          refine zw_getr 54 (2) (o := 1) dX5_seat_51 rfl fX5_10 (by decide) rfl rfl ly1 ?_
          refine zw_iload_n 55 dX5_seat_54 rfl rfl ?_
          refine zw_iload_n 56 dX5_seat_55 rfl rfl ?_
          refine zw_iload_n 57 dX5_seat_56 rfl rfl ?_
          refine zw_callV 60 _ _ dX5_seat_57 rfl kX5_96 qX0_addSeat ly2 ⟨_, rfl, rfl⟩ (by decide) (sp_X0_addSeat (d := d - 1) ly2 hC hB (by omega) (k := k) (t := t) (e := dp)) (by omega) rfl rfl (Nat.le_of_ble_eq_true rfl) (fun r σ' hq => ?_)
          obtain ⟨rfl, q1, q2⟩ := hq
          refine zw_iret dX5_seat_60 rfl ?_
          first
            | exact zA3_bad (by omega)
            | exact zA3_full (by omega) (by omega)
            | exact zA3_ok (by omega) (by omega) rfl ⟨q1, (fun b b0 b1 b2 => q2 b b0)⟩
        · refine zw_aload_n 44 dX5_seat_43 rfl rfl ?_
          refine zw_bipush 46 dX5_seat_44 rfl (by decide) ?_
          refine zw_callV 49 _ _ dX5_seat_46 rfl kX5_89 qX5_refuse ly1 ⟨_, rfl, rfl⟩ (by decide) (sp_X5_refuse_4 (d := d - 1)) (by omega) rfl rfl (Nat.le_of_ble_eq_true rfl) (fun r σ' hq => ?_)
          obtain ⟨rfl, rfl⟩ := hq
          refine zw_iret dX5_seat_49 rfl ?_
          first
            | exact zA3_bad (by omega)
            | exact zA3_full (by omega) (by omega)
            | exact zA3_ok (by omega) (by omega) rfl ⟨q1, (fun b b0 b1 b2 => q2 b b0)⟩
      · refine zw_aload_n 25 dX5_seat_24 rfl rfl ?_
        refine zw_bipush 27 dX5_seat_25 rfl (by decide) ?_
        refine zw_callV 30 _ _ dX5_seat_27 rfl kX5_89 qX5_refuse ly1 ⟨_, rfl, rfl⟩ (by decide) (sp_X5_refuse_2 (d := d - 1)) (by omega) rfl rfl (Nat.le_of_ble_eq_true rfl) (fun r σ' hq => ?_)
        obtain ⟨rfl, rfl⟩ := hq
        refine zw_iret dX5_seat_30 rfl ?_
        first
          | exact zA3_bad (by omega)
          | exact zA3_full (by omega) (by omega)
          | exact zA3_ok (by omega) (by omega) rfl ⟨q1, (fun b b0 b1 b2 => q2 b b0)⟩
theorem sp_X5_canon {l : Launch} {d : Nat} {σ : zMem} (hd : 8 ≤ d) {N : zR} (hC : zCh σ 2 N) (hV : zVN N) {k w : Int} (hk : -2147483648 ≤ k ∧ k < 2147483648) (hw : -2147483648 ≤ w ∧ w < 2147483648)  : zSp l d mX5_canon [.ref 1, .int (zI k), .int (zI w)] σ (zA3 ((0 ≤ k ∧ k ≤ 5) ∧ 1 ≤ w ∧ w ≤ 9) (N 48 = 5) σ 118 0 (-2) 2 (-4) (N 48) (zCF σ (zcN N k w))) := by
  refine zSp_of oX5_canon (Nat.le_of_ble_eq_true rfl) ?_
  show zw l d mX5_canon 0 [some (.ref 1), some (.int (zI k)), some (.int (zI w))] [] σ _
  have hs := hV.1
  have hv := hV.2.1
  have hy := hV.2.2.1
  have hB := zVN_bd hV
  have gN := hs.1
  have gC := hs.2.1
  have c0 : σ 2 0 = N 33 := hC.1.1.1
  have c1 : σ 2 1 = N 48 := hC.1.1.2.1
  have c2 : ∀ s, 0 ≤ s → s < N 33 → σ 3 s = N (34 + s) ∧ σ 4 s = N (41 + s) := hC.1.1.2.2.1
  have c3 : ∀ c, 0 ≤ c → c < N 48 → σ 5 c = N (49 + c) ∧ σ 6 c = N (54 + c) ∧ σ 7 c = zhv (N (49 + c)) (N (54 + c)) := hC.1.1.2.2.2
  have c4 : zSc σ 8 N := hC.1.2.1
  have c41 : ∀ c, 0 ≤ c → c < 5 → σ 9 c = N c := c4.1
  have c42 : ∀ i, 0 ≤ i → i < 20 → σ 10 i = N (5 + i) := c4.2.1
  have c43 : ∀ s, 0 ≤ s → s < 7 → σ 11 s = N (25 + s) := c4.2.2.1
  have c44 : σ 8 0 = N 32 := c4.2.2.2
  have c5 : zRo σ 13 3 59 N := hC.1.2.2.1
  have c6 : zRo σ 15 5 78 N := hC.1.2.2.2.1
  have c7 : zRo σ 17 4 109 N := hC.1.2.2.2.2
  have c8 : σ 2 2 = N 134 := hC.2.1
  have hb5 : ∀ c, 0 ≤ c → c < 5 → -1 ≤ N c ∧ N c < 1000 := fun c h0 h1 => by have := hv.1 c h0 h1; omega
  refine zw_iload_n 1 dX5_canon_0 rfl rfl ?_
  refine zw_callS 4 _ _ dX5_canon_1 rfl kX5_78 qX5_isKind (sp_X5_isKind (d := d - 1) (by omega) (by omega)) (by omega) rfl rfl (Nat.le_of_ble_eq_true rfl) (fun r σ' hq => ?_)
  obtain ⟨rfl, rfl⟩ := hq
  refine zw_if_eq 17 7 dX5_canon_4 (by decide) rfl (by omega) (fun h4 => ?_) (fun h4 => ?_)
  · refine zw_aload_n 18 dX5_canon_17 rfl rfl ?_
    refine zw_bipush 20 dX5_canon_18 rfl (by decide) ?_
    refine zw_callV 23 _ _ dX5_canon_20 rfl kX5_89 qX5_refuse ly1 ⟨_, rfl, rfl⟩ (by decide) (sp_X5_refuse_2 (d := d - 1)) (by omega) rfl rfl (Nat.le_of_ble_eq_true rfl) (fun r σ' hq => ?_)
    obtain ⟨rfl, rfl⟩ := hq
    refine zw_iret dX5_canon_23 rfl ?_
    first
      | exact zA3_bad (by omega)
      | exact zA3_full (by omega) (by omega)
      | exact zA3_ok (by omega) (by omega) rfl ⟨q1, (fun b b0 b1 b2 => q2 b b0)⟩
  · refine zw_iload_n 8 dX5_canon_7 rfl rfl ?_
    refine zw_iconst 9 dX5_canon_8 rfl ?_
    refine zw_bipush 11 dX5_canon_9 rfl (by decide) ?_
    refine zw_callS 14 _ _ dX5_canon_11 rfl kX5_85 qX5_within (sp_X5_within (d := d - 1) (by omega) (by omega) (by omega)) (by omega) rfl rfl (Nat.le_of_ble_eq_true rfl) (fun r σ' hq => ?_)
    obtain ⟨rfl, rfl⟩ := hq
    refine zw_if_ne 24 17 dX5_canon_14 (by decide) rfl (by omega) (fun h14 => ?_) (fun h14 => ?_)
    · refine zw_aload_n 25 dX5_canon_24 rfl rfl ?_
      refine zw_getr 28 (2) (o := 1) dX5_canon_25 rfl fX5_10 (by decide) rfl rfl ly1 ?_
      refine zw_gti 31 1 dX5_canon_28 rfl fX5_71 (by decide) rfl rfl ly2 ?_
      rw [c1]
      refine zw_iconst 32 dX5_canon_31 rfl ?_
      refine zw_icmp_lt 42 35 dX5_canon_32 (by decide) rfl (by omega) (by omega) (fun h32 => ?_) (fun h32 => ?_)
      · refine zw_aload_n 43 dX5_canon_42 rfl rfl ?_
        refine zw_getr 46 (2) (o := 1) dX5_canon_43 rfl fX5_10 (by decide) rfl rfl ly1 ?_
        refine zw_iload_n 47 dX5_canon_46 rfl rfl ?_
        refine zw_iload_n 48 dX5_canon_47 rfl rfl ?_
        refine zw_callV 51 _ _ dX5_canon_48 rfl kX5_100 qX0_addCanon ly2 ⟨_, rfl, rfl⟩ (by decide) (sp_X0_addCanon (d := d - 1) (by omega) ly2 hC hB (by omega) (k := k) (w := w) (by omega) (by omega)) (by omega) rfl rfl (Nat.le_of_ble_eq_true rfl) (fun r σ' hq => ?_)
        obtain ⟨rfl, q1, q2⟩ := hq
        refine zw_iret dX5_canon_51 rfl ?_
        first
          | exact zA3_bad (by omega)
          | exact zA3_full (by omega) (by omega)
          | exact zA3_ok (by omega) (by omega) rfl ⟨q1, (fun b b0 b1 b2 => q2 b b0)⟩
      · refine zw_aload_n 36 dX5_canon_35 rfl rfl ?_
        refine zw_bipush 38 dX5_canon_36 rfl (by decide) ?_
        refine zw_callV 41 _ _ dX5_canon_38 rfl kX5_89 qX5_refuse ly1 ⟨_, rfl, rfl⟩ (by decide) (sp_X5_refuse_4 (d := d - 1)) (by omega) rfl rfl (Nat.le_of_ble_eq_true rfl) (fun r σ' hq => ?_)
        obtain ⟨rfl, rfl⟩ := hq
        refine zw_iret dX5_canon_41 rfl ?_
        first
          | exact zA3_bad (by omega)
          | exact zA3_full (by omega) (by omega)
          | exact zA3_ok (by omega) (by omega) rfl ⟨q1, (fun b b0 b1 b2 => q2 b b0)⟩
    · refine zw_aload_n 18 dX5_canon_17 rfl rfl ?_
      refine zw_bipush 20 dX5_canon_18 rfl (by decide) ?_
      refine zw_callV 23 _ _ dX5_canon_20 rfl kX5_89 qX5_refuse ly1 ⟨_, rfl, rfl⟩ (by decide) (sp_X5_refuse_2 (d := d - 1)) (by omega) rfl rfl (Nat.le_of_ble_eq_true rfl) (fun r σ' hq => ?_)
      obtain ⟨rfl, rfl⟩ := hq
      refine zw_iret dX5_canon_23 rfl ?_
      first
        | exact zA3_bad (by omega)
        | exact zA3_full (by omega) (by omega)
        | exact zA3_ok (by omega) (by omega) rfl ⟨q1, (fun b b0 b1 b2 => q2 b b0)⟩
theorem sp_X5_type {l : Launch} {d : Nat} {σ : zMem} (hd : 8 ≤ d) {N : zR} (hC : zCh σ 2 N) (hV : zVN N) {c : Int} (hc : -2147483648 ≤ c ∧ c < 2147483648) (hT : 0 ≤ σ 106 1 ∧ σ 106 1 ≤ 150)  : zSp l d mX5_type [.ref 1, .int (zI c)] σ (zA3 (0 ≤ c ∧ c ≤ 127) (σ 106 1 = 150) σ 118 0 (-2) 2 (-4) (σ 106 1 + 1) (fun σ' => zwr (zwr σ 107 (σ 106 1) c) 106 1 (σ 106 1 + 1) = σ')) := by
  refine zSp_of oX5_type (Nat.le_of_ble_eq_true rfl) ?_
  show zw l d mX5_type 0 [some (.ref 1), some (.int (zI c))] [] σ _
  have hs := hV.1
  have hv := hV.2.1
  have hy := hV.2.2.1
  have hB := zVN_bd hV
  have gN := hs.1
  have gC := hs.2.1
  have c0 : σ 2 0 = N 33 := hC.1.1.1
  have c1 : σ 2 1 = N 48 := hC.1.1.2.1
  have c2 : ∀ s, 0 ≤ s → s < N 33 → σ 3 s = N (34 + s) ∧ σ 4 s = N (41 + s) := hC.1.1.2.2.1
  have c3 : ∀ c, 0 ≤ c → c < N 48 → σ 5 c = N (49 + c) ∧ σ 6 c = N (54 + c) ∧ σ 7 c = zhv (N (49 + c)) (N (54 + c)) := hC.1.1.2.2.2
  have c4 : zSc σ 8 N := hC.1.2.1
  have c41 : ∀ c, 0 ≤ c → c < 5 → σ 9 c = N c := c4.1
  have c42 : ∀ i, 0 ≤ i → i < 20 → σ 10 i = N (5 + i) := c4.2.1
  have c43 : ∀ s, 0 ≤ s → s < 7 → σ 11 s = N (25 + s) := c4.2.2.1
  have c44 : σ 8 0 = N 32 := c4.2.2.2
  have c5 : zRo σ 13 3 59 N := hC.1.2.2.1
  have c6 : zRo σ 15 5 78 N := hC.1.2.2.2.1
  have c7 : zRo σ 17 4 109 N := hC.1.2.2.2.2
  have c8 : σ 2 2 = N 134 := hC.2.1
  have hb5 : ∀ c, 0 ≤ c → c < 5 → -1 ≤ N c ∧ N c < 1000 := fun c h0 h1 => by have := hv.1 c h0 h1; omega
  refine zw_iload_n 1 dX5_type_0 rfl rfl ?_
  refine zw_iconst 2 dX5_type_1 rfl ?_
  refine zw_bipush 4 dX5_type_2 rfl (by decide) ?_
  refine zw_callS 7 _ _ dX5_type_4 rfl kX5_85 qX5_within (sp_X5_within (d := d - 1) (by omega) (by omega) (by omega)) (by omega) rfl rfl (Nat.le_of_ble_eq_true rfl) (fun r σ' hq => ?_)
  obtain ⟨rfl, rfl⟩ := hq
  refine zw_if_ne 17 10 dX5_type_7 (by decide) rfl (by omega) (fun h7 => ?_) (fun h7 => ?_)
  · refine zw_aload_n 18 dX5_type_17 rfl rfl ?_
    refine zw_getr 21 (106) (o := 105) dX5_type_18 rfl fX5_37 (by decide) rfl rfl ly1 ?_
    refine zw_gti 24 1 dX5_type_21 rfl fX5_104 (by decide) rfl rfl ly106 ?_
    refine zw_sipush 27 dX5_type_24 rfl (by decide) ?_
    refine zw_icmp_lt 37 30 dX5_type_27 (by decide) rfl (by omega) (by omega) (fun h27 => ?_) (fun h27 => ?_)
    · refine zw_aload_n 38 dX5_type_37 rfl rfl ?_
      refine zw_getr 41 (106) (o := 105) dX5_type_38 rfl fX5_37 (by decide) rfl rfl ly1 ?_
      refine zw_getr 44 (107) (o := 1) dX5_type_41 rfl fX5_107 (by decide) rfl rfl ly106 ?_
      refine zw_aload_n 45 dX5_type_44 rfl rfl ?_
      refine zw_getr 48 (106) (o := 105) dX5_type_45 rfl fX5_37 (by decide) rfl rfl ly1 ?_
      refine zw_gti 51 1 dX5_type_48 rfl fX5_104 (by decide) rfl rfl ly106 ?_
      refine zw_iload_n 52 dX5_type_51 rfl rfl ?_
      refine zw_i2b 53 dX5_type_52 rfl (zi8 (by omega)) ?_
      refine zw_bast 54 dX5_type_53 rfl ly107 (by omega) (zi8 (by omega)) ?_
      refine zw_aload_n 55 dX5_type_54 rfl rfl ?_
      refine zw_getr 58 (106) (o := 105) dX5_type_55 rfl fX5_37 (by decide) rfl rfl ly1 ?_
      refine zw_dup 59 dX5_type_58 rfl rfl ?_
      refine zw_gti 62 1 dX5_type_59 rfl fX5_104 (by decide) rfl rfl ly106 ?_
      rw [zwr_ne _ _ _ (by decide)]
      refine zw_iconst 63 dX5_type_62 rfl ?_
      refine zw_iadd 64 dX5_type_63 rfl ?_
      refine zw_pti 67 1 dX5_type_64 rfl pX5_104 (by decide) rfl rfl ly106 ?_
      refine zw_aload_n 68 dX5_type_67 rfl rfl ?_
      refine zw_getr 71 (106) (o := 105) dX5_type_68 rfl fX5_37 (by decide) rfl rfl ly1 ?_
      refine zw_gti 74 1 dX5_type_71 rfl fX5_104 (by decide) rfl rfl ly106 ?_
      rw [zwr_same]
      refine zw_iret dX5_type_74 rfl ?_
      first
        | exact zA3_bad (by omega)
        | exact zA3_full (by omega) (by omega)
        | exact zA3_ok (by omega) (by omega) rfl rfl
    · refine zw_aload_n 31 dX5_type_30 rfl rfl ?_
      refine zw_bipush 33 dX5_type_31 rfl (by decide) ?_
      refine zw_callV 36 _ _ dX5_type_33 rfl kX5_89 qX5_refuse ly1 ⟨_, rfl, rfl⟩ (by decide) (sp_X5_refuse_4 (d := d - 1)) (by omega) rfl rfl (Nat.le_of_ble_eq_true rfl) (fun r σ' hq => ?_)
      obtain ⟨rfl, rfl⟩ := hq
      refine zw_iret dX5_type_36 rfl ?_
      first
        | exact zA3_bad (by omega)
        | exact zA3_full (by omega) (by omega)
        | exact zA3_ok (by omega) (by omega) rfl rfl
  · refine zw_aload_n 11 dX5_type_10 rfl rfl ?_
    refine zw_bipush 13 dX5_type_11 rfl (by decide) ?_
    refine zw_callV 16 _ _ dX5_type_13 rfl kX5_89 qX5_refuse ly1 ⟨_, rfl, rfl⟩ (by decide) (sp_X5_refuse_2 (d := d - 1)) (by omega) rfl rfl (Nat.le_of_ble_eq_true rfl) (fun r σ' hq => ?_)
    obtain ⟨rfl, rfl⟩ := hq
    refine zw_iret dX5_type_16 rfl ?_
    first
      | exact zA3_bad (by omega)
      | exact zA3_full (by omega) (by omega)
      | exact zA3_ok (by omega) (by omega) rfl rfl
theorem sp_X5_clear {l : Launch} {d : Nat} {σ : zMem} (hd : 8 ≤ d) {N : zR} (hC : zCh σ 2 N) (hV : zVN N)  : zSp l d mX5_clear [.ref 1] σ (zRi (σ 106 1) (zwr σ 106 1 0)) := by
  refine zSp_of oX5_clear (Nat.le_of_ble_eq_true rfl) ?_
  show zw l d mX5_clear 0 [some (.ref 1), none] [] σ _
  have hs := hV.1
  have hv := hV.2.1
  have hy := hV.2.2.1
  have hB := zVN_bd hV
  have gN := hs.1
  have gC := hs.2.1
  have c0 : σ 2 0 = N 33 := hC.1.1.1
  have c1 : σ 2 1 = N 48 := hC.1.1.2.1
  have c2 : ∀ s, 0 ≤ s → s < N 33 → σ 3 s = N (34 + s) ∧ σ 4 s = N (41 + s) := hC.1.1.2.2.1
  have c3 : ∀ c, 0 ≤ c → c < N 48 → σ 5 c = N (49 + c) ∧ σ 6 c = N (54 + c) ∧ σ 7 c = zhv (N (49 + c)) (N (54 + c)) := hC.1.1.2.2.2
  have c4 : zSc σ 8 N := hC.1.2.1
  have c41 : ∀ c, 0 ≤ c → c < 5 → σ 9 c = N c := c4.1
  have c42 : ∀ i, 0 ≤ i → i < 20 → σ 10 i = N (5 + i) := c4.2.1
  have c43 : ∀ s, 0 ≤ s → s < 7 → σ 11 s = N (25 + s) := c4.2.2.1
  have c44 : σ 8 0 = N 32 := c4.2.2.2
  have c5 : zRo σ 13 3 59 N := hC.1.2.2.1
  have c6 : zRo σ 15 5 78 N := hC.1.2.2.2.1
  have c7 : zRo σ 17 4 109 N := hC.1.2.2.2.2
  have c8 : σ 2 2 = N 134 := hC.2.1
  have hb5 : ∀ c, 0 ≤ c → c < 5 → -1 ≤ N c ∧ N c < 1000 := fun c h0 h1 => by have := hv.1 c h0 h1; omega
  refine zw_aload_n 1 dX5_clear_0 rfl rfl ?_
  refine zw_getr 4 (106) (o := 105) dX5_clear_1 rfl fX5_37 (by decide) rfl rfl ly1 ?_
  refine zw_gti 7 1 dX5_clear_4 rfl fX5_104 (by decide) rfl rfl ly106 ?_
  refine zw_istore_n 8 dX5_clear_7 rfl (by decide) ?_
  refine zw_aload_n 9 dX5_clear_8 rfl rfl ?_
  refine zw_getr 12 (106) (o := 105) dX5_clear_9 rfl fX5_37 (by decide) rfl rfl ly1 ?_
  refine zw_iconst 13 dX5_clear_12 rfl ?_
  refine zw_pti 16 1 dX5_clear_13 rfl pX5_104 (by decide) rfl rfl ly106 ?_
  refine zw_iload_n 17 dX5_clear_16 rfl rfl ?_
  refine zw_iret dX5_clear_17 rfl ?_
  exact ⟨rfl, rfl⟩
theorem sp_X5_sits {l : Launch} {d : Nat} {σ : zMem} (hd : 8 ≤ d) {N : zR} (hC : zCh σ 2 N) (hV : zVN N) {c s : Int} (hc : -2147483648 ≤ c ∧ c < 2147483648) (hs : -2147483648 ≤ s ∧ s < 2147483648)  : zSp l d mX5_sits [.ref 1, .int (zI c), .int (zI s)] σ (zA3 ((0 ≤ c ∧ c ≤ N 48 - 1) ∧ -1 ≤ s ∧ s ≤ N 33 - 1) (s ≠ -1 ∧ zwo N s ≠ -1 ∧ zwo N s ≠ c) σ 118 0 (-10) 1 (-3) (N c) (zCF σ (zup (zrem N) c s))) := by
  refine zSp_of oX5_sits (Nat.le_of_ble_eq_true rfl) ?_
  show zw l d mX5_sits 0 [some (.ref 1), some (.int (zI c)), some (.int (zI s)), none] [] σ _
  have hs := hV.1
  have hv := hV.2.1
  have hy := hV.2.2.1
  have hB := zVN_bd hV
  have gN := hs.1
  have gC := hs.2.1
  have c0 : σ 2 0 = N 33 := hC.1.1.1
  have c1 : σ 2 1 = N 48 := hC.1.1.2.1
  have c2 : ∀ s, 0 ≤ s → s < N 33 → σ 3 s = N (34 + s) ∧ σ 4 s = N (41 + s) := hC.1.1.2.2.1
  have c3 : ∀ c, 0 ≤ c → c < N 48 → σ 5 c = N (49 + c) ∧ σ 6 c = N (54 + c) ∧ σ 7 c = zhv (N (49 + c)) (N (54 + c)) := hC.1.1.2.2.2
  have c4 : zSc σ 8 N := hC.1.2.1
  have c41 : ∀ c, 0 ≤ c → c < 5 → σ 9 c = N c := c4.1
  have c42 : ∀ i, 0 ≤ i → i < 20 → σ 10 i = N (5 + i) := c4.2.1
  have c43 : ∀ s, 0 ≤ s → s < 7 → σ 11 s = N (25 + s) := c4.2.2.1
  have c44 : σ 8 0 = N 32 := c4.2.2.2
  have c5 : zRo σ 13 3 59 N := hC.1.2.2.1
  have c6 : zRo σ 15 5 78 N := hC.1.2.2.2.1
  have c7 : zRo σ 17 4 109 N := hC.1.2.2.2.2
  have c8 : σ 2 2 = N 134 := hC.2.1
  have hb5 : ∀ c, 0 ≤ c → c < 5 → -1 ≤ N c ∧ N c < 1000 := fun c h0 h1 => by have := hv.1 c h0 h1; omega
  have h134 := hV.2.2.2.2.2.2.1
  have hR := zBd_rem hB h134.1
  have rlo : ∀ j, j < 134 → zrem N j = N j := fun j hj => zrem_lo N h134 hj
  refine zw_aload_n 1 dX5_sits_0 rfl rfl ?_
  refine zw_iload_n 2 dX5_sits_1 rfl rfl ?_
  refine zw_callV 5 _ _ dX5_sits_2 rfl kX5_122 qX5_isCanon ly1 ⟨_, rfl, rfl⟩ (by decide) (sp_X5_isCanon (d := d - 1) (by omega) hC.1.1 (by omega) (by omega)) (by omega) rfl rfl (Nat.le_of_ble_eq_true rfl) (fun r σ' hq => ?_)
  obtain ⟨rfl, rfl⟩ := hq
  refine zw_if_eq 16 8 dX5_sits_5 (by decide) rfl (by omega) (fun h5 => ?_) (fun h5 => ?_)
  · refine zw_aload_n 17 dX5_sits_16 rfl rfl ?_
    refine zw_bipush 19 dX5_sits_17 rfl (by decide) ?_
    refine zw_callV 22 _ _ dX5_sits_19 rfl kX5_128 qX5_refuseAs ly1 ⟨_, rfl, rfl⟩ (by decide) (sp_X5_refuseAs (d := d - 1)) (by omega) rfl rfl (Nat.le_of_ble_eq_true rfl) (fun r σ' hq => ?_)
    obtain ⟨rfl, rfl⟩ := hq
    refine zw_iret dX5_sits_22 rfl ?_
    first
      | exact zA3_bad (by omega)
      | exact zA3_full (by omega) (by omega)
      | exact zA3_ok (by omega) (by omega) (rlo _ (by omega)) ⟨zCh_sit hR (by omega) q1, fun b b0 b1 b2 => (zwr_ne _ _ _ (by omega)).trans (q2 b b0)⟩
  · refine zw_aload_n 9 dX5_sits_8 rfl rfl ?_
    refine zw_iload_n 10 dX5_sits_9 rfl rfl ?_
    refine zw_callV 13 _ _ dX5_sits_10 rfl kX5_125 qX5_isSeatOrNone ly1 ⟨_, rfl, rfl⟩ (by decide) (sp_X5_isSeatOrNone (d := d - 1) (by omega) hC.1.1 (by omega) (by omega)) (by omega) rfl rfl (Nat.le_of_ble_eq_true rfl) (fun r σ' hq => ?_)
    obtain ⟨rfl, rfl⟩ := hq
    refine zw_if_ne 23 16 dX5_sits_13 (by decide) rfl (by omega) (fun h13 => ?_) (fun h13 => ?_)
    · refine zw_aload_n 24 dX5_sits_23 rfl rfl ?_
      refine zw_getr 27 (2) (o := 1) dX5_sits_24 rfl fX5_10 (by decide) rfl rfl ly1 ?_
      refine zw_getr 30 (8) (o := 6) dX5_sits_27 rfl fX5_131 (by decide) rfl rfl ly2 ?_
      refine zw_iload_n 31 dX5_sits_30 rfl rfl ?_
      refine zw_iload_n 32 dX5_sits_31 rfl rfl ?_
      refine zw_callV 35 _ _ dX5_sits_32 rfl kX5_134 qX2_isHeldByOther ly8 ⟨_, rfl, rfl⟩ (by decide) (sp_X2_isHeldByOther (d := d - 1) (by omega) ly8 c4 hb5 (c := c) (s := s) (by omega) (by omega)) (by omega) rfl rfl (Nat.le_of_ble_eq_true rfl) (fun r σ' hq => ?_)
      obtain ⟨rfl, rfl⟩ := hq
      refine zw_if_eq 45 38 dX5_sits_35 (by decide) rfl (by omega) (fun h35 => ?_) (fun h35 => ?_)
      · refine zw_aload_n 46 dX5_sits_45 rfl rfl ?_
        refine zw_getr 49 (2) (o := 1) dX5_sits_46 rfl fX5_10 (by decide) rfl rfl ly1 ?_
        refine zw_callV 52 _ _ dX5_sits_49 rfl kX5_138 qX0_keepPast ly2 ⟨_, rfl, rfl⟩ (by decide) (sp_X0_keepPast (d := d - 1) (by omega) ly2 hC hB (by omega)) (by omega) rfl rfl (Nat.le_of_ble_eq_true rfl) (fun r σ' hq => ?_)
        obtain ⟨rfl, q1, q2⟩ := hq
        refine zw_aload_n 53 dX5_sits_52 rfl rfl ?_
        refine zw_getr 56 (2) (o := 1) dX5_sits_53 rfl fX5_10 (by decide) rfl rfl ly1 ?_
        refine zw_getr 59 (8) (o := 6) dX5_sits_56 rfl fX5_131 (by decide) rfl rfl ly2 ?_
        refine zw_getr 62 (9) (o := 1) dX5_sits_59 rfl fX5_141 (by decide) rfl rfl ly8 ?_
        refine zw_iload_n 63 dX5_sits_62 rfl rfl ?_
        refine zw_iald 64 dX5_sits_63 rfl ly9 (by omega) ?_
        rw [show ∀ x, σ' 9 x = σ' (2 + 6 + 1) x from fun _ => rfl, q1.1.2.1.1 c (by omega) (by omega)]
        refine zw_istore_n 65 dX5_sits_64 rfl (by decide) ?_
        refine zw_aload_n 66 dX5_sits_65 rfl rfl ?_
        refine zw_getr 69 (2) (o := 1) dX5_sits_66 rfl fX5_10 (by decide) rfl rfl ly1 ?_
        refine zw_getr 72 (8) (o := 6) dX5_sits_69 rfl fX5_131 (by decide) rfl rfl ly2 ?_
        refine zw_getr 75 (9) (o := 1) dX5_sits_72 rfl fX5_141 (by decide) rfl rfl ly8 ?_
        refine zw_iload_n 76 dX5_sits_75 rfl rfl ?_
        refine zw_iload_n 77 dX5_sits_76 rfl rfl ?_
        refine zw_iast 78 dX5_sits_77 rfl ly9 (by omega) ?_
        refine zw_iload_n 79 dX5_sits_78 rfl rfl ?_
        refine zw_iret dX5_sits_79 rfl ?_
        first
          | exact zA3_bad (by omega)
          | exact zA3_full (by omega) (by omega)
          | exact zA3_ok (by omega) (by omega) (rlo _ (by omega)) ⟨zCh_sit hR (by omega) q1, fun b b0 b1 b2 => (zwr_ne _ _ _ (by omega)).trans (q2 b b0)⟩
      · refine zw_aload_n 39 dX5_sits_38 rfl rfl ?_
        refine zw_bipush 41 dX5_sits_39 rfl (by decide) ?_
        refine zw_callV 44 _ _ dX5_sits_41 rfl kX5_89 qX5_refuse ly1 ⟨_, rfl, rfl⟩ (by decide) (sp_X5_refuse_3 (d := d - 1)) (by omega) rfl rfl (Nat.le_of_ble_eq_true rfl) (fun r σ' hq => ?_)
        obtain ⟨rfl, rfl⟩ := hq
        refine zw_iret dX5_sits_44 rfl ?_
        first
          | exact zA3_bad (by omega)
          | exact zA3_full (by omega) (by omega)
          | exact zA3_ok (by omega) (by omega) (rlo _ (by omega)) ⟨zCh_sit hR (by omega) q1, fun b b0 b1 b2 => (zwr_ne _ _ _ (by omega)).trans (q2 b b0)⟩
    · refine zw_aload_n 17 dX5_sits_16 rfl rfl ?_
      refine zw_bipush 19 dX5_sits_17 rfl (by decide) ?_
      refine zw_callV 22 _ _ dX5_sits_19 rfl kX5_128 qX5_refuseAs ly1 ⟨_, rfl, rfl⟩ (by decide) (sp_X5_refuseAs (d := d - 1)) (by omega) rfl rfl (Nat.le_of_ble_eq_true rfl) (fun r σ' hq => ?_)
      obtain ⟨rfl, rfl⟩ := hq
      refine zw_iret dX5_sits_22 rfl ?_
      first
        | exact zA3_bad (by omega)
        | exact zA3_full (by omega) (by omega)
        | exact zA3_ok (by omega) (by omega) (rlo _ (by omega)) ⟨zCh_sit hR (by omega) q1, fun b b0 b1 b2 => (zwr_ne _ _ _ (by omega)).trans (q2 b b0)⟩
theorem sp_X5_swap {l : Launch} {d : Nat} {σ : zMem} (hd : 8 ≤ d) {N : zR} (hC : zCh σ 2 N) (hV : zVN N) {a b : Int} (ha : -2147483648 ≤ a ∧ a < 2147483648) (hb : -2147483648 ≤ b ∧ b < 2147483648)  : zSp l d mX5_swap [.ref 1, .int (zI a), .int (zI b)] σ (zA3 ((0 ≤ a ∧ a ≤ N 48 - 1) ∧ (0 ≤ b ∧ b ≤ N 48 - 1) ∧ a ≠ b) False σ 118 0 (-2) 2 (-4) 1 (zCF σ (zsw (zrem N) a b))) := by
  refine zSp_of oX5_swap (Nat.le_of_ble_eq_true rfl) ?_
  show zw l d mX5_swap 0 [some (.ref 1), some (.int (zI a)), some (.int (zI b))] [] σ _
  have hs := hV.1
  have hv := hV.2.1
  have hy := hV.2.2.1
  have hB := zVN_bd hV
  have gN := hs.1
  have gC := hs.2.1
  have c0 : σ 2 0 = N 33 := hC.1.1.1
  have c1 : σ 2 1 = N 48 := hC.1.1.2.1
  have c2 : ∀ s, 0 ≤ s → s < N 33 → σ 3 s = N (34 + s) ∧ σ 4 s = N (41 + s) := hC.1.1.2.2.1
  have c3 : ∀ c, 0 ≤ c → c < N 48 → σ 5 c = N (49 + c) ∧ σ 6 c = N (54 + c) ∧ σ 7 c = zhv (N (49 + c)) (N (54 + c)) := hC.1.1.2.2.2
  have c4 : zSc σ 8 N := hC.1.2.1
  have c41 : ∀ c, 0 ≤ c → c < 5 → σ 9 c = N c := c4.1
  have c42 : ∀ i, 0 ≤ i → i < 20 → σ 10 i = N (5 + i) := c4.2.1
  have c43 : ∀ s, 0 ≤ s → s < 7 → σ 11 s = N (25 + s) := c4.2.2.1
  have c44 : σ 8 0 = N 32 := c4.2.2.2
  have c5 : zRo σ 13 3 59 N := hC.1.2.2.1
  have c6 : zRo σ 15 5 78 N := hC.1.2.2.2.1
  have c7 : zRo σ 17 4 109 N := hC.1.2.2.2.2
  have c8 : σ 2 2 = N 134 := hC.2.1
  have hb5 : ∀ c, 0 ≤ c → c < 5 → -1 ≤ N c ∧ N c < 1000 := fun c h0 h1 => by have := hv.1 c h0 h1; omega
  have h134 := hV.2.2.2.2.2.2.1
  have hR := zBd_rem hB h134.1
  have rlo : ∀ j, j < 134 → zrem N j = N j := fun j hj => zrem_lo N h134 hj
  refine zw_aload_n 1 dX5_swap_0 rfl rfl ?_
  refine zw_iload_n 2 dX5_swap_1 rfl rfl ?_
  refine zw_callV 5 _ _ dX5_swap_2 rfl kX5_122 qX5_isCanon ly1 ⟨_, rfl, rfl⟩ (by decide) (sp_X5_isCanon (d := d - 1) (by omega) hC.1.1 (by omega) (by omega)) (by omega) rfl rfl (Nat.le_of_ble_eq_true rfl) (fun r σ' hq => ?_)
  obtain ⟨rfl, rfl⟩ := hq
  refine zw_if_eq 21 8 dX5_swap_5 (by decide) rfl (by omega) (fun h5 => ?_) (fun h5 => ?_)
  · refine zw_aload_n 22 dX5_swap_21 rfl rfl ?_
    refine zw_bipush 24 dX5_swap_22 rfl (by decide) ?_
    refine zw_callV 27 _ _ dX5_swap_24 rfl kX5_89 qX5_refuse ly1 ⟨_, rfl, rfl⟩ (by decide) (sp_X5_refuse_2 (d := d - 1)) (by omega) rfl rfl (Nat.le_of_ble_eq_true rfl) (fun r σ' hq => ?_)
    obtain ⟨rfl, rfl⟩ := hq
    refine zw_iret dX5_swap_27 rfl ?_
    first
      | exact zA3_bad (by omega)
      | exact zA3_ok (by omega) (fun h => h) rfl ⟨zCh_sc hR (fun j j0 j1 => by unfold zsw; rw [zup_ne _ _ (by omega), zup_ne _ _ (by omega)]) (fun x h0 h1 h2 => zwa_ne _ _ (by omega)) (zSc_sw q1.1.2.1 (by omega) (by omega)) q1, fun x x0 x1 x2 => (zwa_ne _ _ (by omega)).trans (q2 x x0)⟩
  · refine zw_aload_n 9 dX5_swap_8 rfl rfl ?_
    refine zw_iload_n 10 dX5_swap_9 rfl rfl ?_
    refine zw_callV 13 _ _ dX5_swap_10 rfl kX5_122 qX5_isCanon ly1 ⟨_, rfl, rfl⟩ (by decide) (sp_X5_isCanon (d := d - 1) (by omega) hC.1.1 (by omega) (by omega)) (by omega) rfl rfl (Nat.le_of_ble_eq_true rfl) (fun r σ' hq => ?_)
    obtain ⟨rfl, rfl⟩ := hq
    refine zw_if_eq 21 16 dX5_swap_13 (by decide) rfl (by omega) (fun h13 => ?_) (fun h13 => ?_)
    · refine zw_aload_n 22 dX5_swap_21 rfl rfl ?_
      refine zw_bipush 24 dX5_swap_22 rfl (by decide) ?_
      refine zw_callV 27 _ _ dX5_swap_24 rfl kX5_89 qX5_refuse ly1 ⟨_, rfl, rfl⟩ (by decide) (sp_X5_refuse_2 (d := d - 1)) (by omega) rfl rfl (Nat.le_of_ble_eq_true rfl) (fun r σ' hq => ?_)
      obtain ⟨rfl, rfl⟩ := hq
      refine zw_iret dX5_swap_27 rfl ?_
      first
        | exact zA3_bad (by omega)
        | exact zA3_ok (by omega) (fun h => h) rfl ⟨zCh_sc hR (fun j j0 j1 => by unfold zsw; rw [zup_ne _ _ (by omega), zup_ne _ _ (by omega)]) (fun x h0 h1 h2 => zwa_ne _ _ (by omega)) (zSc_sw q1.1.2.1 (by omega) (by omega)) q1, fun x x0 x1 x2 => (zwa_ne _ _ (by omega)).trans (q2 x x0)⟩
    · refine zw_iload_n 17 dX5_swap_16 rfl rfl ?_
      refine zw_iload_n 18 dX5_swap_17 rfl rfl ?_
      refine zw_icmp_ne 28 21 dX5_swap_18 (by decide) rfl (by omega) (by omega) (fun h18 => ?_) (fun h18 => ?_)
      · refine zw_aload_n 29 dX5_swap_28 rfl rfl ?_
        refine zw_getr 32 (2) (o := 1) dX5_swap_29 rfl fX5_10 (by decide) rfl rfl ly1 ?_
        refine zw_callV 35 _ _ dX5_swap_32 rfl kX5_138 qX0_keepPast ly2 ⟨_, rfl, rfl⟩ (by decide) (sp_X0_keepPast (d := d - 1) (by omega) ly2 hC hB (by omega)) (by omega) rfl rfl (Nat.le_of_ble_eq_true rfl) (fun r σ' hq => ?_)
        obtain ⟨rfl, q1, q2⟩ := hq
        refine zw_aload_n 36 dX5_swap_35 rfl rfl ?_
        refine zw_getr 39 (2) (o := 1) dX5_swap_36 rfl fX5_10 (by decide) rfl rfl ly1 ?_
        refine zw_getr 42 (8) (o := 6) dX5_swap_39 rfl fX5_131 (by decide) rfl rfl ly2 ?_
        refine zw_iload_n 43 dX5_swap_42 rfl rfl ?_
        refine zw_iload_n 44 dX5_swap_43 rfl rfl ?_
        refine zw_callV 47 _ _ dX5_swap_44 rfl kX5_144 qX2_exchange ly8 ⟨_, rfl, rfl⟩ (by decide) (sp_X2_exchange (d := d - 1) ly8 q1.1.2.1 (x := a) (y := b) (by omega) (by omega) (by omega)) (by omega) rfl rfl (Nat.le_of_ble_eq_true rfl) (fun r σ' hq => ?_)
        obtain ⟨rfl, rfl⟩ := hq
        refine zw_iconst 48 dX5_swap_47 rfl ?_
        refine zw_iret dX5_swap_48 rfl ?_
        first
          | exact zA3_bad (by omega)
          | exact zA3_ok (by omega) (fun h => h) rfl ⟨zCh_sc hR (fun j j0 j1 => by unfold zsw; rw [zup_ne _ _ (by omega), zup_ne _ _ (by omega)]) (fun x h0 h1 h2 => zwa_ne _ _ (by omega)) (zSc_sw q1.1.2.1 (by omega) (by omega)) q1, fun x x0 x1 x2 => (zwa_ne _ _ (by omega)).trans (q2 x x0)⟩
      · refine zw_aload_n 22 dX5_swap_21 rfl rfl ?_
        refine zw_bipush 24 dX5_swap_22 rfl (by decide) ?_
        refine zw_callV 27 _ _ dX5_swap_24 rfl kX5_89 qX5_refuse ly1 ⟨_, rfl, rfl⟩ (by decide) (sp_X5_refuse_2 (d := d - 1)) (by omega) rfl rfl (Nat.le_of_ble_eq_true rfl) (fun r σ' hq => ?_)
        obtain ⟨rfl, rfl⟩ := hq
        refine zw_iret dX5_swap_27 rfl ?_
        first
          | exact zA3_bad (by omega)
          | exact zA3_ok (by omega) (fun h => h) rfl ⟨zCh_sc hR (fun j j0 j1 => by unfold zsw; rw [zup_ne _ _ (by omega), zup_ne _ _ (by omega)]) (fun x h0 h1 h2 => zwa_ne _ _ (by omega)) (zSc_sw q1.1.2.1 (by omega) (by omega)) q1, fun x x0 x1 x2 => (zwa_ne _ _ (by omega)).trans (q2 x x0)⟩
theorem sp_X5_year {l : Launch} {d : Nat} {σ : zMem} (hd : 8 ≤ d) {N : zR} (hC : zCh σ 2 N) (hV : zVN N) {n : Int} (hn : -2147483648 ≤ n ∧ n < 2147483648)  : zSp l d mX5_year [.ref 1, .int (zI n)] σ (zA3 (1 ≤ n ∧ n ≤ 30) False σ 118 0 (-2) 2 (-4) (zwd (zyl n.toNat (zrem N)) ((zyl n.toNat (zrem N)) 48).toNat) (zCF σ (zyl n.toNat (zrem N)))) := by
  refine zSp_of oX5_year (Nat.le_of_ble_eq_true rfl) ?_
  show zw l d mX5_year 0 [some (.ref 1), some (.int (zI n))] [] σ _
  have hs := hV.1
  have hv := hV.2.1
  have hy := hV.2.2.1
  have hB := zVN_bd hV
  have gN := hs.1
  have gC := hs.2.1
  have c0 : σ 2 0 = N 33 := hC.1.1.1
  have c1 : σ 2 1 = N 48 := hC.1.1.2.1
  have c2 : ∀ s, 0 ≤ s → s < N 33 → σ 3 s = N (34 + s) ∧ σ 4 s = N (41 + s) := hC.1.1.2.2.1
  have c3 : ∀ c, 0 ≤ c → c < N 48 → σ 5 c = N (49 + c) ∧ σ 6 c = N (54 + c) ∧ σ 7 c = zhv (N (49 + c)) (N (54 + c)) := hC.1.1.2.2.2
  have c4 : zSc σ 8 N := hC.1.2.1
  have c41 : ∀ c, 0 ≤ c → c < 5 → σ 9 c = N c := c4.1
  have c42 : ∀ i, 0 ≤ i → i < 20 → σ 10 i = N (5 + i) := c4.2.1
  have c43 : ∀ s, 0 ≤ s → s < 7 → σ 11 s = N (25 + s) := c4.2.2.1
  have c44 : σ 8 0 = N 32 := c4.2.2.2
  have c5 : zRo σ 13 3 59 N := hC.1.2.2.1
  have c6 : zRo σ 15 5 78 N := hC.1.2.2.2.1
  have c7 : zRo σ 17 4 109 N := hC.1.2.2.2.2
  have c8 : σ 2 2 = N 134 := hC.2.1
  have hb5 : ∀ c, 0 ≤ c → c < 5 → -1 ≤ N c ∧ N c < 1000 := fun c h0 h1 => by have := hv.1 c h0 h1; omega
  have h134 := hV.2.2.2.2.2.2.1
  have hR := zBd_rem hB h134.1
  have rlo : ∀ j, j < 134 → zrem N j = N j := fun j hj => zrem_lo N h134 hj
  have hT1 : zVT (zrem N) := zVT_lo (fun i hi => rlo i hi) (zVN_T hV)
  refine zw_iload_n 1 dX5_year_0 rfl rfl ?_
  refine zw_iconst 2 dX5_year_1 rfl ?_
  refine zw_bipush 4 dX5_year_2 rfl (by decide) ?_
  refine zw_callS 7 _ _ dX5_year_4 rfl kX5_85 qX5_within (sp_X5_within (d := d - 1) (by omega) (by omega) (by omega)) (by omega) rfl rfl (Nat.le_of_ble_eq_true rfl) (fun r σ' hq => ?_)
  obtain ⟨rfl, rfl⟩ := hq
  refine zw_if_ne 17 10 dX5_year_7 (by decide) rfl (by omega) (fun h7 => ?_) (fun h7 => ?_)
  · refine zw_aload_n 18 dX5_year_17 rfl rfl ?_
    refine zw_getr 21 (2) (o := 1) dX5_year_18 rfl fX5_10 (by decide) rfl rfl ly1 ?_
    refine zw_callV 24 _ _ dX5_year_21 rfl kX5_138 qX0_keepPast ly2 ⟨_, rfl, rfl⟩ (by decide) (sp_X0_keepPast (d := d - 1) (by omega) ly2 hC hB (by omega)) (by omega) rfl rfl (Nat.le_of_ble_eq_true rfl) (fun r σ' hq => ?_)
    obtain ⟨rfl, q1, q2⟩ := hq
    refine zw_aload_n 25 dX5_year_24 rfl rfl ?_
    refine zw_getr 28 (2) (o := 1) dX5_year_25 rfl fX5_10 (by decide) rfl rfl ly1 ?_
    refine zw_iload_n 29 dX5_year_28 rfl rfl ?_
    refine zw_callV 32 _ _ dX5_year_29 rfl kX5_148 qX0_passUpToLast ly2 ⟨_, rfl, rfl⟩ (by decide) (sp_X0_passUpToLast (d := d - 1) (by omega) ly2 (n := n) (by omega) q1 hT1 hR) (by omega) rfl rfl (Nat.le_of_ble_eq_true rfl) (fun r σ' hq => ?_)
    obtain ⟨rfl, q3, q4⟩ := hq
    have hT2 := zVT_years n.toNat hT1
    refine zw_aload_n 33 dX5_year_32 rfl rfl ?_
    refine zw_getr 36 (2) (o := 1) dX5_year_33 rfl fX5_10 (by decide) rfl rfl ly1 ?_
    refine zw_getr 39 (8) (o := 6) dX5_year_36 rfl fX5_131 (by decide) rfl rfl ly2 ?_
    refine zw_callV 42 _ _ dX5_year_39 rfl kX5_152 qX2_doers ly8 ⟨_, rfl, rfl⟩ (by decide) (sp_X2_doers (d := d - 1) (by omega) ly8 q3.1.2.1 (fun i i0 i1 => by have := hT2.2.1.2.1 i i0 i1; omega)) (by omega) rfl rfl (Nat.le_of_ble_eq_true rfl) (fun r σ' hq => ?_)
    obtain ⟨rfl, rfl⟩ := hq
    refine zw_iret dX5_year_42 rfl ?_
    first
      | exact zA3_bad (by omega)
      | exact zA3_ok (by omega) (fun h => h) (zwd_5 hT2.1 hT2.2.1) ⟨q3, fun b b0 b1 b2 => (q4 b b0).trans (q2 b b0)⟩
  · refine zw_aload_n 11 dX5_year_10 rfl rfl ?_
    refine zw_bipush 13 dX5_year_11 rfl (by decide) ?_
    refine zw_callV 16 _ _ dX5_year_13 rfl kX5_89 qX5_refuse ly1 ⟨_, rfl, rfl⟩ (by decide) (sp_X5_refuse_2 (d := d - 1)) (by omega) rfl rfl (Nat.le_of_ble_eq_true rfl) (fun r σ' hq => ?_)
    obtain ⟨rfl, rfl⟩ := hq
    refine zw_iret dX5_year_16 rfl ?_
    first
      | exact zA3_bad (by omega)
      | exact zA3_ok (by omega) (fun h => h) (zwd_5 hT2.1 hT2.2.1) ⟨q3, fun b b0 b1 b2 => (q4 b b0).trans (q2 b b0)⟩
theorem sp_X5_undo {l : Launch} {d : Nat} {σ : zMem} (hd : 8 ≤ d) {N : zR} (hC : zCh σ 2 N) (hV : zVN N)  : zSp l d mX5_undo [.ref 1] σ (zA3 (N 134 ≠ 0) False σ 118 1 (-3) 2 (-4) (zun N 32) (zCF σ (zun N))) := by
  refine zSp_of oX5_undo (Nat.le_of_ble_eq_true rfl) ?_
  show zw l d mX5_undo 0 [some (.ref 1)] [] σ _
  have hs := hV.1
  have hv := hV.2.1
  have hy := hV.2.2.1
  have hB := zVN_bd hV
  have gN := hs.1
  have gC := hs.2.1
  have c0 : σ 2 0 = N 33 := hC.1.1.1
  have c1 : σ 2 1 = N 48 := hC.1.1.2.1
  have c2 : ∀ s, 0 ≤ s → s < N 33 → σ 3 s = N (34 + s) ∧ σ 4 s = N (41 + s) := hC.1.1.2.2.1
  have c3 : ∀ c, 0 ≤ c → c < N 48 → σ 5 c = N (49 + c) ∧ σ 6 c = N (54 + c) ∧ σ 7 c = zhv (N (49 + c)) (N (54 + c)) := hC.1.1.2.2.2
  have c4 : zSc σ 8 N := hC.1.2.1
  have c41 : ∀ c, 0 ≤ c → c < 5 → σ 9 c = N c := c4.1
  have c42 : ∀ i, 0 ≤ i → i < 20 → σ 10 i = N (5 + i) := c4.2.1
  have c43 : ∀ s, 0 ≤ s → s < 7 → σ 11 s = N (25 + s) := c4.2.2.1
  have c44 : σ 8 0 = N 32 := c4.2.2.2
  have c5 : zRo σ 13 3 59 N := hC.1.2.2.1
  have c6 : zRo σ 15 5 78 N := hC.1.2.2.2.1
  have c7 : zRo σ 17 4 109 N := hC.1.2.2.2.2
  have c8 : σ 2 2 = N 134 := hC.2.1
  have hb5 : ∀ c, 0 ≤ c → c < 5 → -1 ≤ N c ∧ N c < 1000 := fun c h0 h1 => by have := hv.1 c h0 h1; omega
  have h134 := hV.2.2.2.2.2.2.1
  refine zw_aload_n 1 dX5_undo_0 rfl rfl ?_
  refine zw_getr 4 (2) (o := 1) dX5_undo_1 rfl fX5_10 (by decide) rfl rfl ly1 ?_
  refine zw_gti 7 2 dX5_undo_4 rfl fX5_156 (by decide) rfl rfl ly2 ?_
  rw [c8]
  refine zw_iconst 8 dX5_undo_7 rfl ?_
  refine zw_icmp_ge 18 11 dX5_undo_8 (by decide) rfl (by omega) (by omega) (fun h8 => ?_) (fun h8 => ?_)
  · refine zw_aload_n 19 dX5_undo_18 rfl rfl ?_
    refine zw_getr 22 (2) (o := 1) dX5_undo_19 rfl fX5_10 (by decide) rfl rfl ly1 ?_
    refine zw_callV 25 _ _ dX5_undo_22 rfl kX5_159 qX0_goBack ly2 ⟨_, rfl, rfl⟩ (by decide) (sp_X0_goBack (d := d - 1) (by omega) ly2 hC hB (by omega)) (by omega) rfl rfl (Nat.le_of_ble_eq_true rfl) (fun r σ' hq => ?_)
    obtain ⟨rfl, q1, q2⟩ := hq
    refine zw_aload_n 26 dX5_undo_25 rfl rfl ?_
    refine zw_getr 29 (2) (o := 1) dX5_undo_26 rfl fX5_10 (by decide) rfl rfl ly1 ?_
    refine zw_getr 32 (8) (o := 6) dX5_undo_29 rfl fX5_131 (by decide) rfl rfl ly2 ?_
    refine zw_gti 35 0 dX5_undo_32 rfl fX5_162 (by decide) rfl rfl ly8 ?_
    refine zw_iret dX5_undo_35 rfl ?_
    first
      | exact zA3_bad (by omega)
      | exact zA3_ok (by omega) (fun h => h) q1.1.2.1.2.2.2 ⟨q1, (fun b b0 b1 b2 => q2 b b0)⟩
  · refine zw_aload_n 12 dX5_undo_11 rfl rfl ?_
    refine zw_bipush 14 dX5_undo_12 rfl (by decide) ?_
    refine zw_callV 17 _ _ dX5_undo_14 rfl kX5_89 qX5_refuse ly1 ⟨_, rfl, rfl⟩ (by decide) (sp_X5_refuse_3 (d := d - 1)) (by omega) rfl rfl (Nat.le_of_ble_eq_true rfl) (fun r σ' hq => ?_)
    obtain ⟨rfl, rfl⟩ := hq
    refine zw_iret dX5_undo_17 rfl ?_
    first
      | exact zA3_bad (by omega)
      | exact zA3_ok (by omega) (fun h => h) q1.1.2.1.2.2.2 ⟨q1, (fun b b0 b1 b2 => q2 b b0)⟩
theorem sp_X5_of {l : Launch} {d : Nat} {σ : zMem} (hd : 8 ≤ d) {N : zR} (hC : zCh σ 2 N) (hV : zVN N) {s w : Int} (hs : -2147483648 ≤ s ∧ s < 2147483648) (hw : -2147483648 ≤ w ∧ w < 2147483648)  : zSp l d mX5_of [.ref 1, .int (zI s), .int (zI w)] σ (zAn 118 ((0 ≤ s ∧ s ≤ N 33 - 1) ∧ 0 ≤ w ∧ w ≤ 3) (if w = 0 then N (34 + s) else if w = 1 then N (41 + s) else if w = 2 then N (25 + s) else zwo N s) 0 (-10) σ) := by
  refine zSp_of oX5_of (Nat.le_of_ble_eq_true rfl) ?_
  show zw l d mX5_of 0 [some (.ref 1), some (.int (zI s)), some (.int (zI w))] [] σ _
  have hs := hV.1
  have hv := hV.2.1
  have hy := hV.2.2.1
  have hB := zVN_bd hV
  have gN := hs.1
  have gC := hs.2.1
  have c0 : σ 2 0 = N 33 := hC.1.1.1
  have c1 : σ 2 1 = N 48 := hC.1.1.2.1
  have c2 : ∀ s, 0 ≤ s → s < N 33 → σ 3 s = N (34 + s) ∧ σ 4 s = N (41 + s) := hC.1.1.2.2.1
  have c3 : ∀ c, 0 ≤ c → c < N 48 → σ 5 c = N (49 + c) ∧ σ 6 c = N (54 + c) ∧ σ 7 c = zhv (N (49 + c)) (N (54 + c)) := hC.1.1.2.2.2
  have c4 : zSc σ 8 N := hC.1.2.1
  have c41 : ∀ c, 0 ≤ c → c < 5 → σ 9 c = N c := c4.1
  have c42 : ∀ i, 0 ≤ i → i < 20 → σ 10 i = N (5 + i) := c4.2.1
  have c43 : ∀ s, 0 ≤ s → s < 7 → σ 11 s = N (25 + s) := c4.2.2.1
  have c44 : σ 8 0 = N 32 := c4.2.2.2
  have c5 : zRo σ 13 3 59 N := hC.1.2.2.1
  have c6 : zRo σ 15 5 78 N := hC.1.2.2.2.1
  have c7 : zRo σ 17 4 109 N := hC.1.2.2.2.2
  have c8 : σ 2 2 = N 134 := hC.2.1
  have hb5 : ∀ c, 0 ≤ c → c < 5 → -1 ≤ N c ∧ N c < 1000 := fun c h0 h1 => by have := hv.1 c h0 h1; omega
  refine zw_aload_n 1 dX5_of_0 rfl rfl ?_
  refine zw_iload_n 2 dX5_of_1 rfl rfl ?_
  refine zw_callV 5 _ _ dX5_of_2 rfl kX5_165 qX5_isSeat ly1 ⟨_, rfl, rfl⟩ (by decide) (sp_X5_isSeat (d := d - 1) (by omega) hC.1.1 (by omega) (by omega)) (by omega) rfl rfl (Nat.le_of_ble_eq_true rfl) (fun r σ' hq => ?_)
  obtain ⟨rfl, rfl⟩ := hq
  refine zw_if_eq 17 8 dX5_of_5 (by decide) rfl (by omega) (fun h5 => ?_) (fun h5 => ?_)
  · refine zw_aload_n 18 dX5_of_17 rfl rfl ?_
    refine zw_bipush 20 dX5_of_18 rfl (by decide) ?_
    refine zw_callV 23 _ _ dX5_of_20 rfl kX5_128 qX5_refuseAs ly1 ⟨_, rfl, rfl⟩ (by decide) (sp_X5_refuseAs (d := d - 1)) (by omega) rfl rfl (Nat.le_of_ble_eq_true rfl) (fun r σ' hq => ?_)
    obtain ⟨rfl, rfl⟩ := hq
    refine zw_iret dX5_of_23 rfl ?_
    first
      | exact zAn_f (by omega)
      | exact zAn_t (by omega) (by omega) (zNS_refl _)
  · refine zw_iload_n 9 dX5_of_8 rfl rfl ?_
    refine zw_iconst 10 dX5_of_9 rfl ?_
    refine zw_iconst 11 dX5_of_10 rfl ?_
    refine zw_callS 14 _ _ dX5_of_11 rfl kX5_85 qX5_within (sp_X5_within (d := d - 1) (by omega) (by omega) (by omega)) (by omega) rfl rfl (Nat.le_of_ble_eq_true rfl) (fun r σ' hq => ?_)
    obtain ⟨rfl, rfl⟩ := hq
    refine zw_if_ne 24 17 dX5_of_14 (by decide) rfl (by omega) (fun h14 => ?_) (fun h14 => ?_)
    · refine zw_iload_n 25 dX5_of_24 rfl rfl ?_
      refine zw_sw 85 dX5_of_25 (by decide) (by omega) (fun h25 => ?_) (fun vh25 lh25 uh25 h25 => ?_)
      · refine zw_aload_n 86 dX5_of_85 rfl rfl ?_
        refine zw_getr 89 (2) (o := 1) dX5_of_86 rfl fX5_10 (by decide) rfl rfl ly1 ?_
        refine zw_getr 92 (8) (o := 6) dX5_of_89 rfl fX5_131 (by decide) rfl rfl ly2 ?_
        refine zw_iload_n 93 dX5_of_92 rfl rfl ?_
        refine zw_callV 96 _ _ dX5_of_93 rfl kX5_177 qX2_sitter ly8 ⟨_, rfl, rfl⟩ (by decide) (sp_X2_sitter (d := d - 1) ly8 c4 hb5 (s := s) (by omega)) (by omega) rfl rfl (Nat.le_of_ble_eq_true rfl) (fun r σ' hq => ?_)
        obtain ⟨rfl, rfl⟩ := hq
        refine zw_iret dX5_of_96 rfl ?_
        first
          | exact zAn_f (by omega)
          | exact zAn_t (by omega) (by omega) (zNS_refl _)
      · obtain rfl | rfl | rfl : vh25 = 0 ∨ vh25 = 1 ∨ vh25 = 2 := by omega
        · refine ⟨52, _, rfl, by decide, ?_⟩
          refine zw_aload_n 53 dX5_of_52 rfl rfl ?_
          refine zw_getr 56 (2) (o := 1) dX5_of_53 rfl fX5_10 (by decide) rfl rfl ly1 ?_
          refine zw_getr 59 (3) (o := 1) dX5_of_56 rfl fX5_168 (by decide) rfl rfl ly2 ?_
          refine zw_iload_n 60 dX5_of_59 rfl rfl ?_
          refine zw_iald 61 dX5_of_60 rfl ly3 (by omega) ?_
          rw [(c2 s (by omega) (by omega)).1]
          refine zw_iret dX5_of_61 rfl ?_
          first
            | exact zAn_f (by omega)
            | exact zAn_t (by omega) (by omega) (zNS_refl _)
        · refine ⟨62, _, rfl, by decide, ?_⟩
          refine zw_aload_n 63 dX5_of_62 rfl rfl ?_
          refine zw_getr 66 (2) (o := 1) dX5_of_63 rfl fX5_10 (by decide) rfl rfl ly1 ?_
          refine zw_getr 69 (4) (o := 2) dX5_of_66 rfl fX5_171 (by decide) rfl rfl ly2 ?_
          refine zw_iload_n 70 dX5_of_69 rfl rfl ?_
          refine zw_iald 71 dX5_of_70 rfl ly4 (by omega) ?_
          rw [(c2 s (by omega) (by omega)).2]
          refine zw_iret dX5_of_71 rfl ?_
          first
            | exact zAn_f (by omega)
            | exact zAn_t (by omega) (by omega) (zNS_refl _)
        · refine ⟨72, _, rfl, by decide, ?_⟩
          refine zw_aload_n 73 dX5_of_72 rfl rfl ?_
          refine zw_getr 76 (2) (o := 1) dX5_of_73 rfl fX5_10 (by decide) rfl rfl ly1 ?_
          refine zw_getr 79 (8) (o := 6) dX5_of_76 rfl fX5_131 (by decide) rfl rfl ly2 ?_
          refine zw_getr 82 (11) (o := 3) dX5_of_79 rfl fX5_174 (by decide) rfl rfl ly8 ?_
          refine zw_iload_n 83 dX5_of_82 rfl rfl ?_
          refine zw_iald 84 dX5_of_83 rfl ly11 (by omega) ?_
          rw [c43 s (by omega) (by omega)]
          refine zw_iret dX5_of_84 rfl ?_
          first
            | exact zAn_f (by omega)
            | exact zAn_t (by omega) (by omega) (zNS_refl _)
    · refine zw_aload_n 18 dX5_of_17 rfl rfl ?_
      refine zw_bipush 20 dX5_of_18 rfl (by decide) ?_
      refine zw_callV 23 _ _ dX5_of_20 rfl kX5_128 qX5_refuseAs ly1 ⟨_, rfl, rfl⟩ (by decide) (sp_X5_refuseAs (d := d - 1)) (by omega) rfl rfl (Nat.le_of_ble_eq_true rfl) (fun r σ' hq => ?_)
      obtain ⟨rfl, rfl⟩ := hq
      refine zw_iret dX5_of_23 rfl ?_
      first
        | exact zAn_f (by omega)
        | exact zAn_t (by omega) (by omega) (zNS_refl _)
theorem sp_X5_about {l : Launch} {d : Nat} {σ : zMem} (hd : 8 ≤ d) {N : zR} (hC : zCh σ 2 N) (hV : zVN N) {c w : Int} (hc : -2147483648 ≤ c ∧ c < 2147483648) (hw : -2147483648 ≤ w ∧ w < 2147483648)  : zSp l d mX5_about [.ref 1, .int (zI c), .int (zI w)] σ (zAn 118 ((0 ≤ c ∧ c ≤ N 48 - 1) ∧ 0 ≤ w ∧ w ≤ 4) (if w = 0 then N (49 + c) else if w = 1 then N (54 + c) else if w = 2 then N c else if w = 3 then zdo N c else zhv (N (49 + c)) (N (54 + c))) 0 (-10) σ) := by
  refine zSp_of oX5_about (Nat.le_of_ble_eq_true rfl) ?_
  show zw l d mX5_about 0 [some (.ref 1), some (.int (zI c)), some (.int (zI w))] [] σ _
  have hs := hV.1
  have hv := hV.2.1
  have hy := hV.2.2.1
  have hB := zVN_bd hV
  have gN := hs.1
  have gC := hs.2.1
  have c0 : σ 2 0 = N 33 := hC.1.1.1
  have c1 : σ 2 1 = N 48 := hC.1.1.2.1
  have c2 : ∀ s, 0 ≤ s → s < N 33 → σ 3 s = N (34 + s) ∧ σ 4 s = N (41 + s) := hC.1.1.2.2.1
  have c3 : ∀ c, 0 ≤ c → c < N 48 → σ 5 c = N (49 + c) ∧ σ 6 c = N (54 + c) ∧ σ 7 c = zhv (N (49 + c)) (N (54 + c)) := hC.1.1.2.2.2
  have c4 : zSc σ 8 N := hC.1.2.1
  have c41 : ∀ c, 0 ≤ c → c < 5 → σ 9 c = N c := c4.1
  have c42 : ∀ i, 0 ≤ i → i < 20 → σ 10 i = N (5 + i) := c4.2.1
  have c43 : ∀ s, 0 ≤ s → s < 7 → σ 11 s = N (25 + s) := c4.2.2.1
  have c44 : σ 8 0 = N 32 := c4.2.2.2
  have c5 : zRo σ 13 3 59 N := hC.1.2.2.1
  have c6 : zRo σ 15 5 78 N := hC.1.2.2.2.1
  have c7 : zRo σ 17 4 109 N := hC.1.2.2.2.2
  have c8 : σ 2 2 = N 134 := hC.2.1
  have hb5 : ∀ c, 0 ≤ c → c < 5 → -1 ≤ N c ∧ N c < 1000 := fun c h0 h1 => by have := hv.1 c h0 h1; omega
  refine zw_aload_n 1 dX5_about_0 rfl rfl ?_
  refine zw_iload_n 2 dX5_about_1 rfl rfl ?_
  refine zw_callV 5 _ _ dX5_about_2 rfl kX5_122 qX5_isCanon ly1 ⟨_, rfl, rfl⟩ (by decide) (sp_X5_isCanon (d := d - 1) (by omega) hC.1.1 (by omega) (by omega)) (by omega) rfl rfl (Nat.le_of_ble_eq_true rfl) (fun r σ' hq => ?_)
  obtain ⟨rfl, rfl⟩ := hq
  refine zw_if_eq 17 8 dX5_about_5 (by decide) rfl (by omega) (fun h5 => ?_) (fun h5 => ?_)
  · refine zw_aload_n 18 dX5_about_17 rfl rfl ?_
    refine zw_bipush 20 dX5_about_18 rfl (by decide) ?_
    refine zw_callV 23 _ _ dX5_about_20 rfl kX5_128 qX5_refuseAs ly1 ⟨_, rfl, rfl⟩ (by decide) (sp_X5_refuseAs (d := d - 1)) (by omega) rfl rfl (Nat.le_of_ble_eq_true rfl) (fun r σ' hq => ?_)
    obtain ⟨rfl, rfl⟩ := hq
    refine zw_iret dX5_about_23 rfl ?_
    first
      | exact zAn_f (by omega)
      | exact zAn_t (by omega) (by omega) (zNS_refl _)
  · refine zw_iload_n 9 dX5_about_8 rfl rfl ?_
    refine zw_iconst 10 dX5_about_9 rfl ?_
    refine zw_iconst 11 dX5_about_10 rfl ?_
    refine zw_callS 14 _ _ dX5_about_11 rfl kX5_85 qX5_within (sp_X5_within (d := d - 1) (by omega) (by omega) (by omega)) (by omega) rfl rfl (Nat.le_of_ble_eq_true rfl) (fun r σ' hq => ?_)
    obtain ⟨rfl, rfl⟩ := hq
    refine zw_if_ne 24 17 dX5_about_14 (by decide) rfl (by omega) (fun h14 => ?_) (fun h14 => ?_)
    · refine zw_iload_n 25 dX5_about_24 rfl rfl ?_
      refine zw_sw 101 dX5_about_25 (by decide) (by omega) (fun h25 => ?_) (fun vh25 lh25 uh25 h25 => ?_)
      · refine zw_aload_n 102 dX5_about_101 rfl rfl ?_
        refine zw_getr 105 (2) (o := 1) dX5_about_102 rfl fX5_10 (by decide) rfl rfl ly1 ?_
        refine zw_getr 108 (7) (o := 5) dX5_about_105 rfl fX5_189 (by decide) rfl rfl ly2 ?_
        refine zw_iload_n 109 dX5_about_108 rfl rfl ?_
        refine zw_iald 110 dX5_about_109 rfl ly7 (by omega) ?_
        rw [(c3 c (by omega) (by omega)).2.2]
        refine zw_iret dX5_about_110 rfl ?_
        first
          | exact zAn_f (by omega)
          | exact zAn_t (by omega) (by omega) (zNS_refl _)
      · obtain rfl | rfl | rfl | rfl : vh25 = 0 ∨ vh25 = 1 ∨ vh25 = 2 ∨ vh25 = 3 := by omega
        · refine ⟨56, _, rfl, by decide, ?_⟩
          refine zw_aload_n 57 dX5_about_56 rfl rfl ?_
          refine zw_getr 60 (2) (o := 1) dX5_about_57 rfl fX5_10 (by decide) rfl rfl ly1 ?_
          refine zw_getr 63 (5) (o := 3) dX5_about_60 rfl fX5_180 (by decide) rfl rfl ly2 ?_
          refine zw_iload_n 64 dX5_about_63 rfl rfl ?_
          refine zw_iald 65 dX5_about_64 rfl ly5 (by omega) ?_
          rw [(c3 c (by omega) (by omega)).1]
          refine zw_iret dX5_about_65 rfl ?_
          first
            | exact zAn_f (by omega)
            | exact zAn_t (by omega) (by omega) (zNS_refl _)
        · refine ⟨66, _, rfl, by decide, ?_⟩
          refine zw_aload_n 67 dX5_about_66 rfl rfl ?_
          refine zw_getr 70 (2) (o := 1) dX5_about_67 rfl fX5_10 (by decide) rfl rfl ly1 ?_
          refine zw_getr 73 (6) (o := 4) dX5_about_70 rfl fX5_183 (by decide) rfl rfl ly2 ?_
          refine zw_iload_n 74 dX5_about_73 rfl rfl ?_
          refine zw_iald 75 dX5_about_74 rfl ly6 (by omega) ?_
          rw [(c3 c (by omega) (by omega)).2.1]
          refine zw_iret dX5_about_75 rfl ?_
          first
            | exact zAn_f (by omega)
            | exact zAn_t (by omega) (by omega) (zNS_refl _)
        · refine ⟨76, _, rfl, by decide, ?_⟩
          refine zw_aload_n 77 dX5_about_76 rfl rfl ?_
          refine zw_getr 80 (2) (o := 1) dX5_about_77 rfl fX5_10 (by decide) rfl rfl ly1 ?_
          refine zw_getr 83 (8) (o := 6) dX5_about_80 rfl fX5_131 (by decide) rfl rfl ly2 ?_
          refine zw_getr 86 (9) (o := 1) dX5_about_83 rfl fX5_141 (by decide) rfl rfl ly8 ?_
          refine zw_iload_n 87 dX5_about_86 rfl rfl ?_
          refine zw_iald 88 dX5_about_87 rfl ly9 (by omega) ?_
          rw [c41 c (by omega) (by omega)]
          refine zw_iret dX5_about_88 rfl ?_
          first
            | exact zAn_f (by omega)
            | exact zAn_t (by omega) (by omega) (zNS_refl _)
        · refine ⟨89, _, rfl, by decide, ?_⟩
          refine zw_aload_n 90 dX5_about_89 rfl rfl ?_
          refine zw_getr 93 (2) (o := 1) dX5_about_90 rfl fX5_10 (by decide) rfl rfl ly1 ?_
          refine zw_getr 96 (8) (o := 6) dX5_about_93 rfl fX5_131 (by decide) rfl rfl ly2 ?_
          refine zw_iload_n 97 dX5_about_96 rfl rfl ?_
          refine zw_callV 100 _ _ dX5_about_97 rfl kX5_186 qX2_doing ly8 ⟨_, rfl, rfl⟩ (by decide) (sp_X2_doing (d := d - 1) (by omega) ly8 c4 (fun i i0 i1 => by have := hv.2.1 i i0 i1; omega) (c := c) (by omega)) (by omega) rfl rfl (Nat.le_of_ble_eq_true rfl) (fun r σ' hq => ?_)
          obtain ⟨rfl, rfl⟩ := hq
          refine zw_iret dX5_about_100 rfl ?_
          first
            | exact zAn_f (by omega)
            | exact zAn_t (by omega) (by omega) (zNS_refl _)
    · refine zw_aload_n 18 dX5_about_17 rfl rfl ?_
      refine zw_bipush 20 dX5_about_18 rfl (by decide) ?_
      refine zw_callV 23 _ _ dX5_about_20 rfl kX5_128 qX5_refuseAs ly1 ⟨_, rfl, rfl⟩ (by decide) (sp_X5_refuseAs (d := d - 1)) (by omega) rfl rfl (Nat.le_of_ble_eq_true rfl) (fun r σ' hq => ?_)
      obtain ⟨rfl, rfl⟩ := hq
      refine zw_iret dX5_about_23 rfl ?_
      first
        | exact zAn_f (by omega)
        | exact zAn_t (by omega) (by omega) (zNS_refl _)
theorem sp_X5_taken {l : Launch} {d : Nat} {σ : zMem} (hd : 8 ≤ d) {N : zR} (hC : zCh σ 2 N) (hV : zVN N) {c t : Int} (hc : -2147483648 ≤ c ∧ c < 2147483648) (ht : -2147483648 ≤ t ∧ t < 2147483648)  : zSp l d mX5_taken [.ref 1, .int (zI c), .int (zI t)] σ (zAn 118 ((0 ≤ c ∧ c ≤ N 48 - 1) ∧ 0 ≤ t ∧ t ≤ 3) (N (5 + 4 * c + t)) 0 (-2) σ) := by
  refine zSp_of oX5_taken (Nat.le_of_ble_eq_true rfl) ?_
  show zw l d mX5_taken 0 [some (.ref 1), some (.int (zI c)), some (.int (zI t))] [] σ _
  have hs := hV.1
  have hv := hV.2.1
  have hy := hV.2.2.1
  have hB := zVN_bd hV
  have gN := hs.1
  have gC := hs.2.1
  have c0 : σ 2 0 = N 33 := hC.1.1.1
  have c1 : σ 2 1 = N 48 := hC.1.1.2.1
  have c2 : ∀ s, 0 ≤ s → s < N 33 → σ 3 s = N (34 + s) ∧ σ 4 s = N (41 + s) := hC.1.1.2.2.1
  have c3 : ∀ c, 0 ≤ c → c < N 48 → σ 5 c = N (49 + c) ∧ σ 6 c = N (54 + c) ∧ σ 7 c = zhv (N (49 + c)) (N (54 + c)) := hC.1.1.2.2.2
  have c4 : zSc σ 8 N := hC.1.2.1
  have c41 : ∀ c, 0 ≤ c → c < 5 → σ 9 c = N c := c4.1
  have c42 : ∀ i, 0 ≤ i → i < 20 → σ 10 i = N (5 + i) := c4.2.1
  have c43 : ∀ s, 0 ≤ s → s < 7 → σ 11 s = N (25 + s) := c4.2.2.1
  have c44 : σ 8 0 = N 32 := c4.2.2.2
  have c5 : zRo σ 13 3 59 N := hC.1.2.2.1
  have c6 : zRo σ 15 5 78 N := hC.1.2.2.2.1
  have c7 : zRo σ 17 4 109 N := hC.1.2.2.2.2
  have c8 : σ 2 2 = N 134 := hC.2.1
  have hb5 : ∀ c, 0 ≤ c → c < 5 → -1 ≤ N c ∧ N c < 1000 := fun c h0 h1 => by have := hv.1 c h0 h1; omega
  refine zw_aload_n 1 dX5_taken_0 rfl rfl ?_
  refine zw_iload_n 2 dX5_taken_1 rfl rfl ?_
  refine zw_callV 5 _ _ dX5_taken_2 rfl kX5_122 qX5_isCanon ly1 ⟨_, rfl, rfl⟩ (by decide) (sp_X5_isCanon (d := d - 1) (by omega) hC.1.1 (by omega) (by omega)) (by omega) rfl rfl (Nat.le_of_ble_eq_true rfl) (fun r σ' hq => ?_)
  obtain ⟨rfl, rfl⟩ := hq
  refine zw_if_eq 15 8 dX5_taken_5 (by decide) rfl (by omega) (fun h5 => ?_) (fun h5 => ?_)
  · refine zw_aload_n 16 dX5_taken_15 rfl rfl ?_
    refine zw_bipush 18 dX5_taken_16 rfl (by decide) ?_
    refine zw_callV 21 _ _ dX5_taken_18 rfl kX5_89 qX5_refuse ly1 ⟨_, rfl, rfl⟩ (by decide) (sp_X5_refuse_2 (d := d - 1)) (by omega) rfl rfl (Nat.le_of_ble_eq_true rfl) (fun r σ' hq => ?_)
    obtain ⟨rfl, rfl⟩ := hq
    refine zw_iret dX5_taken_21 rfl ?_
    first
      | exact zAn_f (by omega)
      | exact zAn_t (by omega) rfl (zNS_refl _)
  · refine zw_iload_n 9 dX5_taken_8 rfl rfl ?_
    refine zw_callS 12 _ _ dX5_taken_9 rfl kX5_82 qX5_isTrait (sp_X5_isTrait (d := d - 1) (by omega) (by omega)) (by omega) rfl rfl (Nat.le_of_ble_eq_true rfl) (fun r σ' hq => ?_)
    obtain ⟨rfl, rfl⟩ := hq
    refine zw_if_ne 22 15 dX5_taken_12 (by decide) rfl (by omega) (fun h12 => ?_) (fun h12 => ?_)
    · refine zw_aload_n 23 dX5_taken_22 rfl rfl ?_
      refine zw_getr 26 (2) (o := 1) dX5_taken_23 rfl fX5_10 (by decide) rfl rfl ly1 ?_
      refine zw_getr 29 (8) (o := 6) dX5_taken_26 rfl fX5_131 (by decide) rfl rfl ly2 ?_
      refine zw_iload_n 30 dX5_taken_29 rfl rfl ?_
      refine zw_iload_n 31 dX5_taken_30 rfl rfl ?_
      refine zw_callV 34 _ _ dX5_taken_31 rfl kX5_192 qX2_takenOf ly8 ⟨_, rfl, rfl⟩ (by decide) (sp_X2_takenOf (d := d - 1) ly8 c4 (c := c) (x := t) (by omega) (by omega)) (by omega) rfl rfl (Nat.le_of_ble_eq_true rfl) (fun r σ' hq => ?_)
      obtain ⟨rfl, rfl⟩ := hq
      refine zw_iret dX5_taken_34 rfl ?_
      first
        | exact zAn_f (by omega)
        | exact zAn_t (by omega) rfl (zNS_refl _)
    · refine zw_aload_n 16 dX5_taken_15 rfl rfl ?_
      refine zw_bipush 18 dX5_taken_16 rfl (by decide) ?_
      refine zw_callV 21 _ _ dX5_taken_18 rfl kX5_89 qX5_refuse ly1 ⟨_, rfl, rfl⟩ (by decide) (sp_X5_refuse_2 (d := d - 1)) (by omega) rfl rfl (Nat.le_of_ble_eq_true rfl) (fun r σ' hq => ?_)
      obtain ⟨rfl, rfl⟩ := hq
      refine zw_iret dX5_taken_21 rfl ?_
      first
        | exact zAn_f (by omega)
        | exact zAn_t (by omega) rfl (zNS_refl _)
theorem sp_X5_takes {l : Launch} {d : Nat} {σ : zMem} (hd : 8 ≤ d) {N : zR} (hC : zCh σ 2 N) (hV : zVN N) {c s : Int} (hc : -2147483648 ≤ c ∧ c < 2147483648) (hs : -2147483648 ≤ s ∧ s < 2147483648)  : zSp l d mX5_takes [.ref 1, .int (zI c), .int (zI s)] σ (zAn 118 ((0 ≤ c ∧ c ≤ N 48 - 1) ∧ 0 ≤ s ∧ s ≤ N 33 - 1) (ztk N N c s) 0 (-2) σ) := by
  refine zSp_of oX5_takes (Nat.le_of_ble_eq_true rfl) ?_
  show zw l d mX5_takes 0 [some (.ref 1), some (.int (zI c)), some (.int (zI s))] [] σ _
  have hs := hV.1
  have hv := hV.2.1
  have hy := hV.2.2.1
  have hB := zVN_bd hV
  have gN := hs.1
  have gC := hs.2.1
  have c0 : σ 2 0 = N 33 := hC.1.1.1
  have c1 : σ 2 1 = N 48 := hC.1.1.2.1
  have c2 : ∀ s, 0 ≤ s → s < N 33 → σ 3 s = N (34 + s) ∧ σ 4 s = N (41 + s) := hC.1.1.2.2.1
  have c3 : ∀ c, 0 ≤ c → c < N 48 → σ 5 c = N (49 + c) ∧ σ 6 c = N (54 + c) ∧ σ 7 c = zhv (N (49 + c)) (N (54 + c)) := hC.1.1.2.2.2
  have c4 : zSc σ 8 N := hC.1.2.1
  have c41 : ∀ c, 0 ≤ c → c < 5 → σ 9 c = N c := c4.1
  have c42 : ∀ i, 0 ≤ i → i < 20 → σ 10 i = N (5 + i) := c4.2.1
  have c43 : ∀ s, 0 ≤ s → s < 7 → σ 11 s = N (25 + s) := c4.2.2.1
  have c44 : σ 8 0 = N 32 := c4.2.2.2
  have c5 : zRo σ 13 3 59 N := hC.1.2.2.1
  have c6 : zRo σ 15 5 78 N := hC.1.2.2.2.1
  have c7 : zRo σ 17 4 109 N := hC.1.2.2.2.2
  have c8 : σ 2 2 = N 134 := hC.2.1
  have hb5 : ∀ c, 0 ≤ c → c < 5 → -1 ≤ N c ∧ N c < 1000 := fun c h0 h1 => by have := hv.1 c h0 h1; omega
  refine zw_aload_n 1 dX5_takes_0 rfl rfl ?_
  refine zw_iload_n 2 dX5_takes_1 rfl rfl ?_
  refine zw_callV 5 _ _ dX5_takes_2 rfl kX5_122 qX5_isCanon ly1 ⟨_, rfl, rfl⟩ (by decide) (sp_X5_isCanon (d := d - 1) (by omega) hC.1.1 (by omega) (by omega)) (by omega) rfl rfl (Nat.le_of_ble_eq_true rfl) (fun r σ' hq => ?_)
  obtain ⟨rfl, rfl⟩ := hq
  refine zw_if_eq 16 8 dX5_takes_5 (by decide) rfl (by omega) (fun h5 => ?_) (fun h5 => ?_)
  · refine zw_aload_n 17 dX5_takes_16 rfl rfl ?_
    refine zw_bipush 19 dX5_takes_17 rfl (by decide) ?_
    refine zw_callV 22 _ _ dX5_takes_19 rfl kX5_89 qX5_refuse ly1 ⟨_, rfl, rfl⟩ (by decide) (sp_X5_refuse_2 (d := d - 1)) (by omega) rfl rfl (Nat.le_of_ble_eq_true rfl) (fun r σ' hq => ?_)
    obtain ⟨rfl, rfl⟩ := hq
    refine zw_iret dX5_takes_22 rfl ?_
    first
      | exact zAn_f (by omega)
      | exact zAn_t (by omega) rfl (zNS_refl _)
  · refine zw_aload_n 9 dX5_takes_8 rfl rfl ?_
    refine zw_iload_n 10 dX5_takes_9 rfl rfl ?_
    refine zw_callV 13 _ _ dX5_takes_10 rfl kX5_165 qX5_isSeat ly1 ⟨_, rfl, rfl⟩ (by decide) (sp_X5_isSeat (d := d - 1) (by omega) hC.1.1 (by omega) (by omega)) (by omega) rfl rfl (Nat.le_of_ble_eq_true rfl) (fun r σ' hq => ?_)
    obtain ⟨rfl, rfl⟩ := hq
    refine zw_if_ne 23 16 dX5_takes_13 (by decide) rfl (by omega) (fun h13 => ?_) (fun h13 => ?_)
    · refine zw_aload_n 24 dX5_takes_23 rfl rfl ?_
      refine zw_getr 27 (2) (o := 1) dX5_takes_24 rfl fX5_10 (by decide) rfl rfl ly1 ?_
      refine zw_aload_n 28 dX5_takes_27 rfl rfl ?_
      refine zw_getr 31 (2) (o := 1) dX5_takes_28 rfl fX5_10 (by decide) rfl rfl ly1 ?_
      refine zw_getr 34 (8) (o := 6) dX5_takes_31 rfl fX5_131 (by decide) rfl rfl ly2 ?_
      refine zw_iload_n 35 dX5_takes_34 rfl rfl ?_
      refine zw_iload_n 36 dX5_takes_35 rfl rfl ?_
      refine zw_callV 39 _ _ dX5_takes_36 rfl kX5_195 qX0_wouldTake ly2 ⟨_, rfl, rfl⟩ (by decide) (sp_X0_wouldTake (d := d - 1) (by omega) ly2 ly8 hC.1.1 c4 hs (c := c) (hv.w (by omega)) (by omega) (by omega) (s := s) (by omega)) (by omega) rfl rfl (Nat.le_of_ble_eq_true rfl) (fun r σ' hq => ?_)
      obtain ⟨rfl, rfl⟩ := hq
      refine zw_iret dX5_takes_39 rfl ?_
      first
        | exact zAn_f (by omega)
        | exact zAn_t (by omega) rfl (zNS_refl _)
    · refine zw_aload_n 17 dX5_takes_16 rfl rfl ?_
      refine zw_bipush 19 dX5_takes_17 rfl (by decide) ?_
      refine zw_callV 22 _ _ dX5_takes_19 rfl kX5_89 qX5_refuse ly1 ⟨_, rfl, rfl⟩ (by decide) (sp_X5_refuse_2 (d := d - 1)) (by omega) rfl rfl (Nat.le_of_ble_eq_true rfl) (fun r σ' hq => ?_)
      obtain ⟨rfl, rfl⟩ := hq
      refine zw_iret dX5_takes_22 rfl ?_
      first
        | exact zAn_f (by omega)
        | exact zAn_t (by omega) rfl (zNS_refl _)
theorem sp_X5_then {l : Launch} {d : Nat} {σ : zMem} (hd : 8 ≤ d) {N : zR} (hC : zCh σ 2 N) (hV : zVN N) {c t n : Int} (hc : -2147483648 ≤ c ∧ c < 2147483648) (ht : -2147483648 ≤ t ∧ t < 2147483648) (hn : -2147483648 ≤ n ∧ n < 2147483648)  : zSp l d mX5_then [.ref 1, .int (zI c), .int (zI t), .int (zI n)] σ (zAn 118 ((0 ≤ c ∧ c ≤ N 48 - 1) ∧ (0 ≤ t ∧ t ≤ 3) ∧ 0 ≤ n ∧ n ≤ 60) (zyn N n.toNat N (5 + 4 * c + t)) 0 (-2) σ) := by
  refine zSp_of oX5_then (Nat.le_of_ble_eq_true rfl) ?_
  show zw l d mX5_then 0 [some (.ref 1), some (.int (zI c)), some (.int (zI t)), some (.int (zI n))] [] σ _
  have hs := hV.1
  have hv := hV.2.1
  have hy := hV.2.2.1
  have hB := zVN_bd hV
  have gN := hs.1
  have gC := hs.2.1
  have c0 : σ 2 0 = N 33 := hC.1.1.1
  have c1 : σ 2 1 = N 48 := hC.1.1.2.1
  have c2 : ∀ s, 0 ≤ s → s < N 33 → σ 3 s = N (34 + s) ∧ σ 4 s = N (41 + s) := hC.1.1.2.2.1
  have c3 : ∀ c, 0 ≤ c → c < N 48 → σ 5 c = N (49 + c) ∧ σ 6 c = N (54 + c) ∧ σ 7 c = zhv (N (49 + c)) (N (54 + c)) := hC.1.1.2.2.2
  have c4 : zSc σ 8 N := hC.1.2.1
  have c41 : ∀ c, 0 ≤ c → c < 5 → σ 9 c = N c := c4.1
  have c42 : ∀ i, 0 ≤ i → i < 20 → σ 10 i = N (5 + i) := c4.2.1
  have c43 : ∀ s, 0 ≤ s → s < 7 → σ 11 s = N (25 + s) := c4.2.2.1
  have c44 : σ 8 0 = N 32 := c4.2.2.2
  have c5 : zRo σ 13 3 59 N := hC.1.2.2.1
  have c6 : zRo σ 15 5 78 N := hC.1.2.2.2.1
  have c7 : zRo σ 17 4 109 N := hC.1.2.2.2.2
  have c8 : σ 2 2 = N 134 := hC.2.1
  have hb5 : ∀ c, 0 ≤ c → c < 5 → -1 ≤ N c ∧ N c < 1000 := fun c h0 h1 => by have := hv.1 c h0 h1; omega
  refine zw_aload_n 1 dX5_then_0 rfl rfl ?_
  refine zw_iload_n 2 dX5_then_1 rfl rfl ?_
  refine zw_callV 5 _ _ dX5_then_2 rfl kX5_122 qX5_isCanon ly1 ⟨_, rfl, rfl⟩ (by decide) (sp_X5_isCanon (d := d - 1) (by omega) hC.1.1 (by omega) (by omega)) (by omega) rfl rfl (Nat.le_of_ble_eq_true rfl) (fun r σ' hq => ?_)
  obtain ⟨rfl, rfl⟩ := hq
  refine zw_if_eq 22 8 dX5_then_5 (by decide) rfl (by omega) (fun h5 => ?_) (fun h5 => ?_)
  · refine zw_aload_n 23 dX5_then_22 rfl rfl ?_
    refine zw_bipush 25 dX5_then_23 rfl (by decide) ?_
    refine zw_callV 28 _ _ dX5_then_25 rfl kX5_89 qX5_refuse ly1 ⟨_, rfl, rfl⟩ (by decide) (sp_X5_refuse_2 (d := d - 1)) (by omega) rfl rfl (Nat.le_of_ble_eq_true rfl) (fun r σ' hq => ?_)
    obtain ⟨rfl, rfl⟩ := hq
    refine zw_iret dX5_then_28 rfl ?_
    first
      | exact zAn_f (by omega)
      | exact zAn_t (by omega) rfl (zNc.ns (fun b b0 b1 => q2 b b0))
  · refine zw_iload_n 9 dX5_then_8 rfl rfl ?_
    refine zw_callS 12 _ _ dX5_then_9 rfl kX5_82 qX5_isTrait (sp_X5_isTrait (d := d - 1) (by omega) (by omega)) (by omega) rfl rfl (Nat.le_of_ble_eq_true rfl) (fun r σ' hq => ?_)
    obtain ⟨rfl, rfl⟩ := hq
    refine zw_if_eq 22 15 dX5_then_12 (by decide) rfl (by omega) (fun h12 => ?_) (fun h12 => ?_)
    · refine zw_aload_n 23 dX5_then_22 rfl rfl ?_
      refine zw_bipush 25 dX5_then_23 rfl (by decide) ?_
      refine zw_callV 28 _ _ dX5_then_25 rfl kX5_89 qX5_refuse ly1 ⟨_, rfl, rfl⟩ (by decide) (sp_X5_refuse_2 (d := d - 1)) (by omega) rfl rfl (Nat.le_of_ble_eq_true rfl) (fun r σ' hq => ?_)
      obtain ⟨rfl, rfl⟩ := hq
      refine zw_iret dX5_then_28 rfl ?_
      first
        | exact zAn_f (by omega)
        | exact zAn_t (by omega) rfl (zNc.ns (fun b b0 b1 => q2 b b0))
    · refine zw_iload_n 16 dX5_then_15 rfl rfl ?_
      refine zw_callS 19 _ _ dX5_then_16 rfl kX5_199 qX5_isAhead (sp_X5_isAhead (d := d - 1) (by omega) (by omega)) (by omega) rfl rfl (Nat.le_of_ble_eq_true rfl) (fun r σ' hq => ?_)
      obtain ⟨rfl, rfl⟩ := hq
      refine zw_if_ne 29 22 dX5_then_19 (by decide) rfl (by omega) (fun h19 => ?_) (fun h19 => ?_)
      · refine zw_aload_n 30 dX5_then_29 rfl rfl ?_
        refine zw_iload_n 31 dX5_then_30 rfl rfl ?_
        refine zw_callV 34 _ _ dX5_then_31 rfl kX5_202 qX5_lookAhead ly1 ⟨_, rfl, rfl⟩ (by decide) (sp_X5_lookAhead (d := d - 1) (by omega) hC hV (n := n) (by omega)) (by omega) rfl rfl (Nat.le_of_ble_eq_true rfl) (fun r σ' hq => ?_)
        obtain ⟨rfl, q1, q2⟩ := hq
        refine zw_aload_n 35 dX5_then_34 rfl rfl ?_
        refine zw_getr 38 (102) (o := 101) dX5_then_35 rfl fX5_30 (by decide) rfl rfl ly1 ?_
        refine zw_iload_n 39 dX5_then_38 rfl rfl ?_
        refine zw_iload_n 40 dX5_then_39 rfl rfl ?_
        refine zw_callV 43 _ _ dX5_then_40 rfl kX5_192 qX2_takenOf ly102 ⟨_, rfl, rfl⟩ (by decide) (sp_X2_takenOf (d := d - 1) ly102 q1 (c := c) (x := t) (by omega) (by omega)) (by omega) rfl rfl (Nat.le_of_ble_eq_true rfl) (fun r σ' hq => ?_)
        obtain ⟨rfl, rfl⟩ := hq
        refine zw_iret dX5_then_43 rfl ?_
        first
          | exact zAn_f (by omega)
          | exact zAn_t (by omega) rfl (zNc.ns (fun b b0 b1 => q2 b b0))
      · refine zw_aload_n 23 dX5_then_22 rfl rfl ?_
        refine zw_bipush 25 dX5_then_23 rfl (by decide) ?_
        refine zw_callV 28 _ _ dX5_then_25 rfl kX5_89 qX5_refuse ly1 ⟨_, rfl, rfl⟩ (by decide) (sp_X5_refuse_2 (d := d - 1)) (by omega) rfl rfl (Nat.le_of_ble_eq_true rfl) (fun r σ' hq => ?_)
        obtain ⟨rfl, rfl⟩ := hq
        refine zw_iret dX5_then_28 rfl ?_
        first
          | exact zAn_f (by omega)
          | exact zAn_t (by omega) rfl (zNc.ns (fun b b0 b1 => q2 b b0))
theorem sp_X5_depth {l : Launch} {d : Nat} {σ : zMem} (hd : 8 ≤ d) {N : zR} (hC : zCh σ 2 N) (hV : zVN N) {s n : Int} (hs : -2147483648 ≤ s ∧ s < 2147483648) (hn : -2147483648 ≤ n ∧ n < 2147483648)  : zSp l d mX5_depth [.ref 1, .int (zI s), .int (zI n)] σ (zAn 118 ((0 ≤ s ∧ s ≤ N 33 - 1) ∧ 0 ≤ n ∧ n ≤ 60) (zyn N n.toNat N (25 + s)) 0 (-2) σ) := by
  refine zSp_of oX5_depth (Nat.le_of_ble_eq_true rfl) ?_
  show zw l d mX5_depth 0 [some (.ref 1), some (.int (zI s)), some (.int (zI n))] [] σ _
  have hs := hV.1
  have hv := hV.2.1
  have hy := hV.2.2.1
  have hB := zVN_bd hV
  have gN := hs.1
  have gC := hs.2.1
  have c0 : σ 2 0 = N 33 := hC.1.1.1
  have c1 : σ 2 1 = N 48 := hC.1.1.2.1
  have c2 : ∀ s, 0 ≤ s → s < N 33 → σ 3 s = N (34 + s) ∧ σ 4 s = N (41 + s) := hC.1.1.2.2.1
  have c3 : ∀ c, 0 ≤ c → c < N 48 → σ 5 c = N (49 + c) ∧ σ 6 c = N (54 + c) ∧ σ 7 c = zhv (N (49 + c)) (N (54 + c)) := hC.1.1.2.2.2
  have c4 : zSc σ 8 N := hC.1.2.1
  have c41 : ∀ c, 0 ≤ c → c < 5 → σ 9 c = N c := c4.1
  have c42 : ∀ i, 0 ≤ i → i < 20 → σ 10 i = N (5 + i) := c4.2.1
  have c43 : ∀ s, 0 ≤ s → s < 7 → σ 11 s = N (25 + s) := c4.2.2.1
  have c44 : σ 8 0 = N 32 := c4.2.2.2
  have c5 : zRo σ 13 3 59 N := hC.1.2.2.1
  have c6 : zRo σ 15 5 78 N := hC.1.2.2.2.1
  have c7 : zRo σ 17 4 109 N := hC.1.2.2.2.2
  have c8 : σ 2 2 = N 134 := hC.2.1
  have hb5 : ∀ c, 0 ≤ c → c < 5 → -1 ≤ N c ∧ N c < 1000 := fun c h0 h1 => by have := hv.1 c h0 h1; omega
  refine zw_aload_n 1 dX5_depth_0 rfl rfl ?_
  refine zw_iload_n 2 dX5_depth_1 rfl rfl ?_
  refine zw_callV 5 _ _ dX5_depth_2 rfl kX5_165 qX5_isSeat ly1 ⟨_, rfl, rfl⟩ (by decide) (sp_X5_isSeat (d := d - 1) (by omega) hC.1.1 (by omega) (by omega)) (by omega) rfl rfl (Nat.le_of_ble_eq_true rfl) (fun r σ' hq => ?_)
  obtain ⟨rfl, rfl⟩ := hq
  refine zw_if_eq 15 8 dX5_depth_5 (by decide) rfl (by omega) (fun h5 => ?_) (fun h5 => ?_)
  · refine zw_aload_n 16 dX5_depth_15 rfl rfl ?_
    refine zw_bipush 18 dX5_depth_16 rfl (by decide) ?_
    refine zw_callV 21 _ _ dX5_depth_18 rfl kX5_89 qX5_refuse ly1 ⟨_, rfl, rfl⟩ (by decide) (sp_X5_refuse_2 (d := d - 1)) (by omega) rfl rfl (Nat.le_of_ble_eq_true rfl) (fun r σ' hq => ?_)
    obtain ⟨rfl, rfl⟩ := hq
    refine zw_iret dX5_depth_21 rfl ?_
    first
      | exact zAn_f (by omega)
      | exact zAn_t (by omega) (q1.2.2.1 s (by omega) (by omega)) (zNc.ns (fun b b0 b1 => q2 b b0))
  · refine zw_iload_n 9 dX5_depth_8 rfl rfl ?_
    refine zw_callS 12 _ _ dX5_depth_9 rfl kX5_199 qX5_isAhead (sp_X5_isAhead (d := d - 1) (by omega) (by omega)) (by omega) rfl rfl (Nat.le_of_ble_eq_true rfl) (fun r σ' hq => ?_)
    obtain ⟨rfl, rfl⟩ := hq
    refine zw_if_ne 22 15 dX5_depth_12 (by decide) rfl (by omega) (fun h12 => ?_) (fun h12 => ?_)
    · refine zw_aload_n 23 dX5_depth_22 rfl rfl ?_
      refine zw_iload_n 24 dX5_depth_23 rfl rfl ?_
      refine zw_callV 27 _ _ dX5_depth_24 rfl kX5_202 qX5_lookAhead ly1 ⟨_, rfl, rfl⟩ (by decide) (sp_X5_lookAhead (d := d - 1) (by omega) hC hV (n := n) (by omega)) (by omega) rfl rfl (Nat.le_of_ble_eq_true rfl) (fun r σ' hq => ?_)
      obtain ⟨rfl, q1, q2⟩ := hq
      refine zw_aload_n 28 dX5_depth_27 rfl rfl ?_
      refine zw_getr 31 (102) (o := 101) dX5_depth_28 rfl fX5_30 (by decide) rfl rfl ly1 ?_
      refine zw_getr 34 (105) (o := 3) dX5_depth_31 rfl fX5_174 (by decide) rfl rfl ly102 ?_
      refine zw_iload_n 35 dX5_depth_34 rfl rfl ?_
      refine zw_iald 36 dX5_depth_35 rfl ly105 (by omega) ?_
      refine zw_iret dX5_depth_36 rfl ?_
      first
        | exact zAn_f (by omega)
        | exact zAn_t (by omega) (q1.2.2.1 s (by omega) (by omega)) (zNc.ns (fun b b0 b1 => q2 b b0))
    · refine zw_aload_n 16 dX5_depth_15 rfl rfl ?_
      refine zw_bipush 18 dX5_depth_16 rfl (by decide) ?_
      refine zw_callV 21 _ _ dX5_depth_18 rfl kX5_89 qX5_refuse ly1 ⟨_, rfl, rfl⟩ (by decide) (sp_X5_refuse_2 (d := d - 1)) (by omega) rfl rfl (Nat.le_of_ble_eq_true rfl) (fun r σ' hq => ?_)
      obtain ⟨rfl, rfl⟩ := hq
      refine zw_iret dX5_depth_21 rfl ?_
      first
        | exact zAn_f (by omega)
        | exact zAn_t (by omega) (q1.2.2.1 s (by omega) (by omega)) (zNc.ns (fun b b0 b1 => q2 b b0))
theorem sp_X5_when {l : Launch} {d : Nat} {σ : zMem} (hd : 8 ≤ d) {N : zR} (hC : zCh σ 2 N) (hV : zVN N) {c t x : Int} (hc : -2147483648 ≤ c ∧ c < 2147483648) (ht : -2147483648 ≤ t ∧ t < 2147483648) (hx : -2147483648 ≤ x ∧ x < 2147483648)  : zSp l d mX5_when [.ref 1, .int (zI c), .int (zI t), .int (zI x)] σ (zAn 118 ((0 ≤ c ∧ c ≤ N 48 - 1) ∧ (0 ≤ t ∧ t ≤ 3) ∧ 1 ≤ x ∧ x ≤ 99) (zff (fun n => decide (x ≤ zyn N n N (5 + 4 * c + t))) 0 61) 0 (-2) σ) := by
  refine zSp_of oX5_when (Nat.le_of_ble_eq_true rfl) ?_
  show zw l d mX5_when 0 [some (.ref 1), some (.int (zI c)), some (.int (zI t)), some (.int (zI x))] [] σ _
  have hs := hV.1
  have hv := hV.2.1
  have hy := hV.2.2.1
  have hB := zVN_bd hV
  have gN := hs.1
  have gC := hs.2.1
  have c0 : σ 2 0 = N 33 := hC.1.1.1
  have c1 : σ 2 1 = N 48 := hC.1.1.2.1
  have c2 : ∀ s, 0 ≤ s → s < N 33 → σ 3 s = N (34 + s) ∧ σ 4 s = N (41 + s) := hC.1.1.2.2.1
  have c3 : ∀ c, 0 ≤ c → c < N 48 → σ 5 c = N (49 + c) ∧ σ 6 c = N (54 + c) ∧ σ 7 c = zhv (N (49 + c)) (N (54 + c)) := hC.1.1.2.2.2
  have c4 : zSc σ 8 N := hC.1.2.1
  have c41 : ∀ c, 0 ≤ c → c < 5 → σ 9 c = N c := c4.1
  have c42 : ∀ i, 0 ≤ i → i < 20 → σ 10 i = N (5 + i) := c4.2.1
  have c43 : ∀ s, 0 ≤ s → s < 7 → σ 11 s = N (25 + s) := c4.2.2.1
  have c44 : σ 8 0 = N 32 := c4.2.2.2
  have c5 : zRo σ 13 3 59 N := hC.1.2.2.1
  have c6 : zRo σ 15 5 78 N := hC.1.2.2.2.1
  have c7 : zRo σ 17 4 109 N := hC.1.2.2.2.2
  have c8 : σ 2 2 = N 134 := hC.2.1
  have hb5 : ∀ c, 0 ≤ c → c < 5 → -1 ≤ N c ∧ N c < 1000 := fun c h0 h1 => by have := hv.1 c h0 h1; omega
  refine zw_aload_n 1 dX5_when_0 rfl rfl ?_
  refine zw_iload_n 2 dX5_when_1 rfl rfl ?_
  refine zw_callV 5 _ _ dX5_when_2 rfl kX5_122 qX5_isCanon ly1 ⟨_, rfl, rfl⟩ (by decide) (sp_X5_isCanon (d := d - 1) (by omega) hC.1.1 (by omega) (by omega)) (by omega) rfl rfl (Nat.le_of_ble_eq_true rfl) (fun r σ' hq => ?_)
  obtain ⟨rfl, rfl⟩ := hq
  refine zw_if_eq 25 8 dX5_when_5 (by decide) rfl (by omega) (fun h5 => ?_) (fun h5 => ?_)
  · refine zw_aload_n 26 dX5_when_25 rfl rfl ?_
    refine zw_bipush 28 dX5_when_26 rfl (by decide) ?_
    refine zw_callV 31 _ _ dX5_when_28 rfl kX5_89 qX5_refuse ly1 ⟨_, rfl, rfl⟩ (by decide) (sp_X5_refuse_2 (d := d - 1)) (by omega) rfl rfl (Nat.le_of_ble_eq_true rfl) (fun r σ' hq => ?_)
    obtain ⟨rfl, rfl⟩ := hq
    refine zw_iret dX5_when_31 rfl ?_
    first
      | exact zAn_f (by omega)
      | exact zAn_t (by omega) (by
        have e : zup N c (N c) = N := zup_id rfl
        exact zff_congr _ _ (fun k _ _ => by rw [e, (zan_yn hs hv (c := c) (by omega) k).2.1 t (by omega) (by omega)])) (zNc.ns (fun b b0 b1 => q2 b b0))
  · refine zw_iload_n 9 dX5_when_8 rfl rfl ?_
    refine zw_callS 12 _ _ dX5_when_9 rfl kX5_82 qX5_isTrait (sp_X5_isTrait (d := d - 1) (by omega) (by omega)) (by omega) rfl rfl (Nat.le_of_ble_eq_true rfl) (fun r σ' hq => ?_)
    obtain ⟨rfl, rfl⟩ := hq
    refine zw_if_eq 25 15 dX5_when_12 (by decide) rfl (by omega) (fun h12 => ?_) (fun h12 => ?_)
    · refine zw_aload_n 26 dX5_when_25 rfl rfl ?_
      refine zw_bipush 28 dX5_when_26 rfl (by decide) ?_
      refine zw_callV 31 _ _ dX5_when_28 rfl kX5_89 qX5_refuse ly1 ⟨_, rfl, rfl⟩ (by decide) (sp_X5_refuse_2 (d := d - 1)) (by omega) rfl rfl (Nat.le_of_ble_eq_true rfl) (fun r σ' hq => ?_)
      obtain ⟨rfl, rfl⟩ := hq
      refine zw_iret dX5_when_31 rfl ?_
      first
        | exact zAn_f (by omega)
        | exact zAn_t (by omega) (by
          have e : zup N c (N c) = N := zup_id rfl
          exact zff_congr _ _ (fun k _ _ => by rw [e, (zan_yn hs hv (c := c) (by omega) k).2.1 t (by omega) (by omega)])) (zNc.ns (fun b b0 b1 => q2 b b0))
    · refine zw_iload_n 16 dX5_when_15 rfl rfl ?_
      refine zw_iconst 17 dX5_when_16 rfl ?_
      refine zw_bipush 19 dX5_when_17 rfl (by decide) ?_
      refine zw_callS 22 _ _ dX5_when_19 rfl kX5_85 qX5_within (sp_X5_within (d := d - 1) (by omega) (by omega) (by omega)) (by omega) rfl rfl (Nat.le_of_ble_eq_true rfl) (fun r σ' hq => ?_)
      obtain ⟨rfl, rfl⟩ := hq
      refine zw_if_ne 32 25 dX5_when_22 (by decide) rfl (by omega) (fun h22 => ?_) (fun h22 => ?_)
      · refine zw_aload_n 33 dX5_when_32 rfl rfl ?_
        refine zw_iload_n 34 dX5_when_33 rfl rfl ?_
        refine zw_aload_n 35 dX5_when_34 rfl rfl ?_
        refine zw_getr 38 (2) (o := 1) dX5_when_35 rfl fX5_10 (by decide) rfl rfl ly1 ?_
        refine zw_getr 41 (8) (o := 6) dX5_when_38 rfl fX5_131 (by decide) rfl rfl ly2 ?_
        refine zw_getr 44 (9) (o := 1) dX5_when_41 rfl fX5_141 (by decide) rfl rfl ly8 ?_
        refine zw_iload_n 45 dX5_when_44 rfl rfl ?_
        have hNc := hv.1 c (by omega) (by omega)
        refine zw_iald 46 dX5_when_45 rfl ly9 (by omega) ?_
        rw [c41 c (by omega) (by omega)]
        refine zw_iload_n 47 dX5_when_46 rfl rfl ?_
        refine zw_iload_n 48 dX5_when_47 rfl rfl ?_
        refine zw_callV 51 _ _ dX5_when_48 rfl kX5_205 qX5_yearsUntil ly1 ⟨_, rfl, rfl⟩ (by decide) (sp_X5_yearsUntil (d := d - 1) (by omega) hC hV (c := c) (s := N c) (t := t) (x := x) (by omega) (by omega) (by omega) (by omega)) (by omega) rfl rfl (Nat.le_of_ble_eq_true rfl) (fun r σ' hq => ?_)
        obtain ⟨rfl, q2⟩ := hq
        refine zw_iret dX5_when_51 rfl ?_
        first
          | exact zAn_f (by omega)
          | exact zAn_t (by omega) (by
            have e : zup N c (N c) = N := zup_id rfl
            exact zff_congr _ _ (fun k _ _ => by rw [e, (zan_yn hs hv (c := c) (by omega) k).2.1 t (by omega) (by omega)])) (zNc.ns (fun b b0 b1 => q2 b b0))
      · refine zw_aload_n 26 dX5_when_25 rfl rfl ?_
        refine zw_bipush 28 dX5_when_26 rfl (by decide) ?_
        refine zw_callV 31 _ _ dX5_when_28 rfl kX5_89 qX5_refuse ly1 ⟨_, rfl, rfl⟩ (by decide) (sp_X5_refuse_2 (d := d - 1)) (by omega) rfl rfl (Nat.le_of_ble_eq_true rfl) (fun r σ' hq => ?_)
        obtain ⟨rfl, rfl⟩ := hq
        refine zw_iret dX5_when_31 rfl ?_
        first
          | exact zAn_f (by omega)
          | exact zAn_t (by omega) (by
            have e : zup N c (N c) = N := zup_id rfl
            exact zff_congr _ _ (fun k _ _ => by rw [e, (zan_yn hs hv (c := c) (by omega) k).2.1 t (by omega) (by omega)])) (zNc.ns (fun b b0 b1 => q2 b b0))
