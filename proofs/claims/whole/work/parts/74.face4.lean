theorem lp_X5_quarrels {l : Launch} {d : Nat} {σ : zMem} {N : zR} (hC : zCh σ 2 N) (hV : zVN N) : ∀ (m k : Nat), k + m = (N 33 - 1).toNat → zw l d mX5_quarrels 4 [some (.ref 1), some (.int (zI ((zct (zqf N) k)))), some (.int (zI ((k : Int) + 1)))] [] σ (zRi (zct (zqf N) (N 33 - 1).toNat) σ) := by
  have hs := hV.1
  have hv := hV.2.1
  have hy := hV.2.2.1
  have hB := zVN_bd hV
  have gN := hs.1
  have gC := hs.2.1
  have c0 : σ 2 0 = N 33 := hC.1.1.1
  have c1 : σ 2 1 = N 48 := hC.1.1.2.1
  have c2 : ∀ s, 0 ≤ s → s < N 33 → σ 3 s = N (34 + s) ∧ σ 4 s = N (41 + s) := hC.1.1.2.2.1
  have c3 : ∀ c, 0 ≤ c → c < N 48 → σ 5 c = N (49 + c) ∧ σ 6 c = N (54 + c) ∧ σ 7 c = zhv (N (49 + c)) (N (54 + c)) := hC.1.1.2.2.2
  have c4 : zSc σ 8 N := hC.1.2.1
  have c41 : ∀ c, 0 ≤ c → c < 5 → σ 9 c = N c := c4.1
  have c42 : ∀ i, 0 ≤ i → i < 20 → σ 10 i = N (5 + i) := c4.2.1
  have c43 : ∀ s, 0 ≤ s → s < 7 → σ 11 s = N (25 + s) := c4.2.2.1
  have c44 : σ 8 0 = N 32 := c4.2.2.2
  have c5 : zRo σ 13 3 59 N := hC.1.2.2.1
  have c6 : zRo σ 15 5 78 N := hC.1.2.2.2.1
  have c7 : zRo σ 17 4 109 N := hC.1.2.2.2.2
  have c8 : σ 2 2 = N 134 := hC.2.1
  have hb5 : ∀ c, 0 ≤ c → c < 5 → -1 ≤ N c ∧ N c < 1000 := fun c h0 h1 => by have := hv.1 c h0 h1; omega
  intro m
  induction m with
  | zero =>
    intro k hk
    have hk2 : k = (N 33 - 1).toNat := by omega
    rw [← hk2]
    refine zw_iload_n 5 dX5_quarrels_4 rfl rfl ?_
    refine zw_aload_n 6 dX5_quarrels_5 rfl rfl ?_
    refine zw_getr 9 (2) (o := 1) dX5_quarrels_6 rfl fX5_10 (by decide) rfl rfl ly1 ?_
    refine zw_gti 12 0 dX5_quarrels_9 rfl fX5_93 (by decide) rfl rfl ly2 ?_
    rw [c0]
    refine zw_icmp_ge 47 15 dX5_quarrels_12 (by decide) rfl (by omega) (by omega) (fun h12 => ?_) (fun h12 => ?_)
    · refine zw_iload_n 48 dX5_quarrels_47 rfl rfl ?_
      refine zw_iret dX5_quarrels_48 rfl ?_
      exact ⟨rfl, rfl⟩
    · exfalso; omega
  | succ m ih =>
    intro k hk
    have ih2 := ih (k + 1) (by omega)
    rw [show (((k + 1 : Nat) : Int)) = (k : Int) + 1 by omega, show zct (zqf N) (k + 1) = zct (zqf N) k + zqf N k from rfl] at ih2
    have hb := zct_b (f := zqf N) k (fun x _ _ => by unfold zqf; split <;> omega)
    unfold zqf at ih2
    refine zw_iload_n 5 dX5_quarrels_4 rfl rfl ?_
    refine zw_aload_n 6 dX5_quarrels_5 rfl rfl ?_
    refine zw_getr 9 (2) (o := 1) dX5_quarrels_6 rfl fX5_10 (by decide) rfl rfl ly1 ?_
    refine zw_gti 12 0 dX5_quarrels_9 rfl fX5_93 (by decide) rfl rfl ly2 ?_
    rw [c0]
    refine zw_icmp_ge 47 15 dX5_quarrels_12 (by decide) rfl (by omega) (by omega) (fun h12 => ?_) (fun h12 => ?_)
    · exfalso; omega
    · refine zw_aload_n 16 dX5_quarrels_15 rfl rfl ?_
      refine zw_getr 19 (2) (o := 1) dX5_quarrels_16 rfl fX5_10 (by decide) rfl rfl ly1 ?_
      refine zw_getr 22 (4) (o := 2) dX5_quarrels_19 rfl fX5_171 (by decide) rfl rfl ly2 ?_
      refine zw_iload_n 23 dX5_quarrels_22 rfl rfl ?_
      refine zw_iconst 24 dX5_quarrels_23 rfl ?_
      refine zw_isub 25 dX5_quarrels_24 rfl ?_
      refine zw_iald 26 dX5_quarrels_25 rfl ly4 (by omega) ?_
      rw [show (k : Int) + 1 - 1 = (k : Int) by omega, (c2 k (by omega) (by omega)).2]
      refine zw_aload_n 27 dX5_quarrels_26 rfl rfl ?_
      refine zw_getr 30 (2) (o := 1) dX5_quarrels_27 rfl fX5_10 (by decide) rfl rfl ly1 ?_
      refine zw_getr 33 (4) (o := 2) dX5_quarrels_30 rfl fX5_171 (by decide) rfl rfl ly2 ?_
      refine zw_iload_n 34 dX5_quarrels_33 rfl rfl ?_
      refine zw_iald 35 dX5_quarrels_34 rfl ly4 (by omega) ?_
      rw [(c2 ((k : Int) + 1) (by omega) (by omega)).2]
      refine zw_icmp_ne 41 38 dX5_quarrels_35 (by decide) rfl (by have := hs.s (s := (k : Int)) (by omega) (by omega); omega) (by have := hs.s (s := (k : Int) + 1) (by omega) (by omega); omega) (fun h35 => ?_) (fun h35 => ?_)
      · refine zw_iinc 44 dX5_quarrels_41 rfl (by decide) rfl ?_
        refine zw_goto 4 dX5_quarrels_44 (by decide) ?_
        refine zw_loc [true, true, true] rfl ?_
        first
          | (rw [if_pos (show N (41 + (k : Int) + 1) = N (41 + (k : Int)) by rw [show 41 + (k : Int) + 1 = 41 + ((k : Int) + 1) by omega]; omega)] at ih2; exact ih2)
          | (rw [if_neg (show ¬ N (41 + (k : Int) + 1) = N (41 + (k : Int)) by rw [show 41 + (k : Int) + 1 = 41 + ((k : Int) + 1) by omega]; omega), Int.add_zero] at ih2; exact ih2)
      · refine zw_iinc 41 dX5_quarrels_38 rfl (by decide) rfl ?_
        refine zw_iinc 44 dX5_quarrels_41 rfl (by decide) rfl ?_
        refine zw_goto 4 dX5_quarrels_44 (by decide) ?_
        refine zw_loc [true, true, true] rfl ?_
        first
          | (rw [if_pos (show N (41 + (k : Int) + 1) = N (41 + (k : Int)) by rw [show 41 + (k : Int) + 1 = 41 + ((k : Int) + 1) by omega]; omega)] at ih2; exact ih2)
          | (rw [if_neg (show ¬ N (41 + (k : Int) + 1) = N (41 + (k : Int)) by rw [show 41 + (k : Int) + 1 = 41 + ((k : Int) + 1) by omega]; omega), Int.add_zero] at ih2; exact ih2)
theorem sp_X5_quarrels {l : Launch} {d : Nat} {σ : zMem} {N : zR} (hC : zCh σ 2 N) (hV : zVN N)  : zSp l d mX5_quarrels [.ref 1] σ (zRi (zct (zqf N) (N 33 - 1).toNat) σ) := by
  refine zSp_of oX5_quarrels (Nat.le_of_ble_eq_true rfl) ?_
  show zw l d mX5_quarrels 0 [some (.ref 1), none, none] [] σ _
  refine zw_iconst 1 dX5_quarrels_0 rfl ?_
  refine zw_istore_n 2 dX5_quarrels_1 rfl (by decide) ?_
  refine zw_iconst 3 dX5_quarrels_2 rfl ?_
  refine zw_istore_n 4 dX5_quarrels_3 rfl (by decide) ?_
  exact lp_X5_quarrels hC hV (N 33 - 1).toNat 0 (by omega)
theorem lp_X5_blank {l : Launch} {d : Nat} {σ : zMem} (hd : 5 ≤ d) {N : zR} (hC : zCh σ 2 N) (hV : zVN N) {s : Int} (hsn : 0 ≤ s ∧ s < N 33) : ∀ (m k : Nat), k + m = 61 → ∀ σc : zMem, zSc σc 102 (zyn N k N) → (∀ r, ¬ (102 ≤ r ∧ r ≤ 105) → σc r = σ r) → zw l d mX5_blank 31 [some (.ref 1), some (.int (zI s)), some (.int (zI ((k : Int))))] [] σc (fun a σ' => a = some (.int (zI (zff (zblp N s) k m))) ∧ zNS σ σ') := by
  have hs := hV.1
  have hv := hV.2.1
  have hy := hV.2.2.1
  have hB := zVN_bd hV
  have gN := hs.1
  have gC := hs.2.1
  have c0 : σ 2 0 = N 33 := hC.1.1.1
  have c1 : σ 2 1 = N 48 := hC.1.1.2.1
  have c2 : ∀ s, 0 ≤ s → s < N 33 → σ 3 s = N (34 + s) ∧ σ 4 s = N (41 + s) := hC.1.1.2.2.1
  have c3 : ∀ c, 0 ≤ c → c < N 48 → σ 5 c = N (49 + c) ∧ σ 6 c = N (54 + c) ∧ σ 7 c = zhv (N (49 + c)) (N (54 + c)) := hC.1.1.2.2.2
  have c4 : zSc σ 8 N := hC.1.2.1
  have c41 : ∀ c, 0 ≤ c → c < 5 → σ 9 c = N c := c4.1
  have c42 : ∀ i, 0 ≤ i → i < 20 → σ 10 i = N (5 + i) := c4.2.1
  have c43 : ∀ s, 0 ≤ s → s < 7 → σ 11 s = N (25 + s) := c4.2.2.1
  have c44 : σ 8 0 = N 32 := c4.2.2.2
  have c5 : zRo σ 13 3 59 N := hC.1.2.2.1
  have c6 : zRo σ 15 5 78 N := hC.1.2.2.2.1
  have c7 : zRo σ 17 4 109 N := hC.1.2.2.2.2
  have c8 : σ 2 2 = N 134 := hC.2.1
  have hb5 : ∀ c, 0 ≤ c → c < 5 → -1 ≤ N c ∧ N c < 1000 := fun c h0 h1 => by have := hv.1 c h0 h1; omega
  intro m
  induction m with
  | zero =>
    intro k hk σc g1 g2
    refine zw_iload_n 32 dX5_blank_31 rfl rfl ?_
    refine zw_bipush 34 dX5_blank_32 rfl (by decide) ?_
    refine zw_icmp_gt 88 37 dX5_blank_34 (by decide) rfl (by omega) (by omega) (fun h34 => ?_) (fun h34 => ?_)
    · refine zw_iconst 89 dX5_blank_88 rfl ?_
      refine zw_iret dX5_blank_89 rfl ?_
      exact ⟨rfl, zNc.ns (fun b b0 b1 => g2 b b0)⟩
    · exfalso; omega
  | succ m ih =>
    intro k hk σc g1 g2
    have h32 := zyn_32 hs hv k
    have ih2 := ih (k + 1) (by omega)
    rw [show (((k + 1 : Nat) : Int)) = (k : Int) + 1 by omega] at ih2
    have hvk := zyn_V hs hv k
    have gd := hvk.2.2.1 s (by omega) (by omega)
    have gk := hs.s (s := s) (by omega) (by omega)
    have gg := zgv_b (k := N (34 + s)) (y := zyn N k N 32) (h := 0) gd (by omega)
    have k1 := c2 s hsn.1 hsn.2
    unfold zff zblp
    refine zw_iload_n 32 dX5_blank_31 rfl rfl ?_
    refine zw_bipush 34 dX5_blank_32 rfl (by decide) ?_
    refine zw_icmp_gt 88 37 dX5_blank_34 (by decide) rfl (by omega) (by omega) (fun h34 => ?_) (fun h34 => ?_)
    · exfalso; omega
    · refine zw_aload_n 38 dX5_blank_37 rfl rfl ?_
      refine zw_getr 41 (2) (o := 1) dX5_blank_38 rfl fX5_10 (by decide) rfl rfl ly1 ?_
      refine zw_getr 44 (3) (o := 1) dX5_blank_41 rfl fX5_168 (by decide) rfl rfl ly2 ?_
      refine zw_iload_n 45 dX5_blank_44 rfl rfl ?_
      refine zw_iald 46 dX5_blank_45 rfl ly3 (by omega) ?_
      rw [g2 3 (by omega), k1.1]
      refine zw_aload_n 47 dX5_blank_46 rfl rfl ?_
      refine zw_getr 50 (102) (o := 101) dX5_blank_47 rfl fX5_30 (by decide) rfl rfl ly1 ?_
      refine zw_getr 53 (105) (o := 3) dX5_blank_50 rfl fX5_174 (by decide) rfl rfl ly102 ?_
      refine zw_iload_n 54 dX5_blank_53 rfl rfl ?_
      refine zw_iald 55 dX5_blank_54 rfl ly105 (by omega) ?_
      rw [show ∀ x, σc 105 x = σc (102 + 3) x from fun _ => rfl, g1.2.2.1 s (by omega) (by omega)]
      refine zw_aload_n 56 dX5_blank_55 rfl rfl ?_
      refine zw_getr 59 (102) (o := 101) dX5_blank_56 rfl fX5_30 (by decide) rfl rfl ly1 ?_
      refine zw_gti 62 0 dX5_blank_59 rfl fX5_162 (by decide) rfl rfl ly102 ?_
      rw [g1.2.2.2]
      refine zw_iconst 63 dX5_blank_62 rfl ?_
      refine zw_callS 66 _ _ dX5_blank_63 rfl kX5_218 qX5_given (sp_X5_given (d := d - 1) (by omega) (k := N (34 + s)) (dd := zyn N k N (25 + s)) (y := zyn N k N 32) (h := 0) (by omega) (by omega) (by omega) (by omega)) (by omega) rfl rfl (Nat.le_of_ble_eq_true rfl) (fun r σ' hq => ?_)
      obtain ⟨rfl, rfl⟩ := hq
      refine zw_if_ne 71 69 dX5_blank_66 (by decide) rfl (by omega) (fun h66 => ?_) (fun h66 => ?_)
      · refine zw_aload_n 72 dX5_blank_71 rfl rfl ?_
        refine zw_getr 75 (2) (o := 1) dX5_blank_72 rfl fX5_10 (by decide) rfl rfl ly1 ?_
        refine zw_aload_n 76 dX5_blank_75 rfl rfl ?_
        refine zw_getr 79 (102) (o := 101) dX5_blank_76 rfl fX5_30 (by decide) rfl rfl ly1 ?_
        refine zw_callV 82 _ _ dX5_blank_79 rfl kX5_215 qX0_pass ly2 ⟨_, rfl, rfl⟩ (by decide) (sp_X0_pass (d := d - 1) (by omega) ly2 ly102 (by omega) (zCs_fr (fun b b0 b1 => g2 b (by omega)) hC.1.1) g1 hs (zyn_V hs hv k) (by omega)) (by omega) rfl rfl (Nat.le_of_ble_eq_true rfl) (fun r σ' hq => ?_)
        obtain ⟨rfl, q1, q2⟩ := hq
        refine zw_iinc 85 dX5_blank_82 rfl (by decide) rfl ?_
        refine zw_goto 31 dX5_blank_85 (by decide) ?_
        refine zw_loc [true, true, true] rfl ?_
        rw [if_neg (by rw [decide_eq_true_eq]; omega)]
        exact ih2 _ q1 (fun r hr => (q2 r (by omega)).trans (g2 r hr))
      · refine zw_iload_n 70 dX5_blank_69 rfl rfl ?_
        refine zw_iret dX5_blank_70 rfl ?_
        exact ⟨by rw [if_pos (by rw [decide_eq_true_eq]; omega)], zNc.ns (fun b b0 b1 => g2 b b0)⟩
theorem sp_X5_blank {l : Launch} {d : Nat} {σ : zMem} (hd : 8 ≤ d) {N : zR} (hC : zCh σ 2 N) (hV : zVN N) {s : Int} (hs : -2147483648 ≤ s ∧ s < 2147483648)  : zSp l d mX5_blank [.ref 1, .int (zI s)] σ (zAn 118 (0 ≤ s ∧ s ≤ N 33 - 1) (zff (zblp N s) 0 61) 0 (-2) σ) := by
  refine zSp_of oX5_blank (Nat.le_of_ble_eq_true rfl) ?_
  show zw l d mX5_blank 0 [some (.ref 1), some (.int (zI s)), none] [] σ _
  have hs := hV.1
  have hv := hV.2.1
  have hy := hV.2.2.1
  have hB := zVN_bd hV
  have gN := hs.1
  have gC := hs.2.1
  have c0 : σ 2 0 = N 33 := hC.1.1.1
  have c1 : σ 2 1 = N 48 := hC.1.1.2.1
  have c2 : ∀ s, 0 ≤ s → s < N 33 → σ 3 s = N (34 + s) ∧ σ 4 s = N (41 + s) := hC.1.1.2.2.1
  have c3 : ∀ c, 0 ≤ c → c < N 48 → σ 5 c = N (49 + c) ∧ σ 6 c = N (54 + c) ∧ σ 7 c = zhv (N (49 + c)) (N (54 + c)) := hC.1.1.2.2.2
  have c4 : zSc σ 8 N := hC.1.2.1
  have c41 : ∀ c, 0 ≤ c → c < 5 → σ 9 c = N c := c4.1
  have c42 : ∀ i, 0 ≤ i → i < 20 → σ 10 i = N (5 + i) := c4.2.1
  have c43 : ∀ s, 0 ≤ s → s < 7 → σ 11 s = N (25 + s) := c4.2.2.1
  have c44 : σ 8 0 = N 32 := c4.2.2.2
  have c5 : zRo σ 13 3 59 N := hC.1.2.2.1
  have c6 : zRo σ 15 5 78 N := hC.1.2.2.2.1
  have c7 : zRo σ 17 4 109 N := hC.1.2.2.2.2
  have c8 : σ 2 2 = N 134 := hC.2.1
  have hb5 : ∀ c, 0 ≤ c → c < 5 → -1 ≤ N c ∧ N c < 1000 := fun c h0 h1 => by have := hv.1 c h0 h1; omega
  refine zw_aload_n 1 dX5_blank_0 rfl rfl ?_
  refine zw_iload_n 2 dX5_blank_1 rfl rfl ?_
  refine zw_callV 5 _ _ dX5_blank_2 rfl kX5_165 qX5_isSeat ly1 ⟨_, rfl, rfl⟩ (by decide) (sp_X5_isSeat (d := d - 1) (by omega) hC.1.1 (by omega) (by omega)) (by omega) rfl rfl (Nat.le_of_ble_eq_true rfl) (fun r σ' hq => ?_)
  obtain ⟨rfl, rfl⟩ := hq
  refine zw_if_ne 15 8 dX5_blank_5 (by decide) rfl (by omega) (fun h5 => ?_) (fun h5 => ?_)
  · refine zw_aload_n 16 dX5_blank_15 rfl rfl ?_
    refine zw_getr 19 (102) (o := 101) dX5_blank_16 rfl fX5_30 (by decide) rfl rfl ly1 ?_
    refine zw_aload_n 20 dX5_blank_19 rfl rfl ?_
    refine zw_getr 23 (2) (o := 1) dX5_blank_20 rfl fX5_10 (by decide) rfl rfl ly1 ?_
    refine zw_getr 26 (8) (o := 6) dX5_blank_23 rfl fX5_131 (by decide) rfl rfl ly2 ?_
    refine zw_callV 29 _ _ dX5_blank_26 rfl kX5_209 qX2_become ly102 ⟨_, rfl, rfl⟩ (by decide) (sp_X2_become (d := d - 1) (by omega) ly102 ly8 (by omega) c4) (by omega) rfl rfl (Nat.le_of_ble_eq_true rfl) (fun r σ' hq => ?_)
    obtain ⟨rfl, q1, q2⟩ := hq
    refine zw_iconst 30 dX5_blank_29 rfl ?_
    refine zw_istore_n 31 dX5_blank_30 rfl (by decide) ?_
    refine zw_mono (lp_X5_blank (by omega) hC hV (s := s) (by omega) 61 0 (by omega) _ q1 (fun r hr => q2 r (by omega))) (fun a σ2 hq => ⟨fun _ => hq, fun q => absurd (show 0 ≤ s ∧ s ≤ N 33 - 1 by omega) q⟩)
  · refine zw_aload_n 9 dX5_blank_8 rfl rfl ?_
    refine zw_bipush 11 dX5_blank_9 rfl (by decide) ?_
    refine zw_callV 14 _ _ dX5_blank_11 rfl kX5_89 qX5_refuse ly1 ⟨_, rfl, rfl⟩ (by decide) (sp_X5_refuse_2 (d := d - 1)) (by omega) rfl rfl (Nat.le_of_ble_eq_true rfl) (fun r σ' hq => ?_)
    obtain ⟨rfl, rfl⟩ := hq
    refine zw_iret dX5_blank_14 rfl ?_
    first
      | exact zAn_f (by omega)
      | exact zAn_t (by omega) rfl (zNS_refl _)
theorem lp_X5_first {l : Launch} {d : Nat} {σ : zMem} (hd : 5 ≤ d) {N : zR} (hC : zCh σ 2 N) (hV : zVN N) {t w : Int} (ht : 0 ≤ t ∧ t ≤ 3) (hw : 0 ≤ w ∧ w ≤ 1) : ∀ (m k : Nat), k + m = 61 → zff (fun n => decide (zfic N t n ≠ -1)) k m = zfin N t → ∀ σc : zMem, zSc σc 102 (zyn N k N) → (∀ r, ¬ (102 ≤ r ∧ r ≤ 105) → σc r = σ r) → zw l d mX5_first 39 [some (.ref 1), some (.int (zI t)), some (.int (zI w)), some (.int (zI ((k : Int)))), none] [] σc (fun a σ' => a = some (.int (zI (zfir N t w))) ∧ zNS σ σ') := by
  have hs := hV.1
  have hv := hV.2.1
  have hy := hV.2.2.1
  have hB := zVN_bd hV
  have gN := hs.1
  have gC := hs.2.1
  have c0 : σ 2 0 = N 33 := hC.1.1.1
  have c1 : σ 2 1 = N 48 := hC.1.1.2.1
  have c2 : ∀ s, 0 ≤ s → s < N 33 → σ 3 s = N (34 + s) ∧ σ 4 s = N (41 + s) := hC.1.1.2.2.1
  have c3 : ∀ c, 0 ≤ c → c < N 48 → σ 5 c = N (49 + c) ∧ σ 6 c = N (54 + c) ∧ σ 7 c = zhv (N (49 + c)) (N (54 + c)) := hC.1.1.2.2.2
  have c4 : zSc σ 8 N := hC.1.2.1
  have c41 : ∀ c, 0 ≤ c → c < 5 → σ 9 c = N c := c4.1
  have c42 : ∀ i, 0 ≤ i → i < 20 → σ 10 i = N (5 + i) := c4.2.1
  have c43 : ∀ s, 0 ≤ s → s < 7 → σ 11 s = N (25 + s) := c4.2.2.1
  have c44 : σ 8 0 = N 32 := c4.2.2.2
  have c5 : zRo σ 13 3 59 N := hC.1.2.2.1
  have c6 : zRo σ 15 5 78 N := hC.1.2.2.2.1
  have c7 : zRo σ 17 4 109 N := hC.1.2.2.2.2
  have c8 : σ 2 2 = N 134 := hC.2.1
  have hb5 : ∀ c, 0 ≤ c → c < 5 → -1 ≤ N c ∧ N c < 1000 := fun c h0 h1 => by have := hv.1 c h0 h1; omega
  intro m
  induction m with
  | zero =>
    intro k hk hz σc g1 g2
    have hz2 : zfin N t = -1 := hz.symm
    refine zw_iload_n 40 dX5_first_39 rfl rfl ?_
    refine zw_bipush 42 dX5_first_40 rfl (by decide) ?_
    refine zw_icmp_gt 96 45 dX5_first_42 (by decide) rfl (by omega) (by omega) (fun h42 => ?_) (fun h42 => ?_)
    · refine zw_iconst 97 dX5_first_96 rfl ?_
      refine zw_iret dX5_first_97 rfl ?_
      exact ⟨by unfold zfir; rw [if_pos hz2], zNc.ns (fun b b0 b1 => g2 b b0)⟩
    · exfalso; omega
  | succ m ih =>
    intro k hk hz σc g1 g2
    have h32 := zyn_32 hs hv k
    have hvk := zyn_V hs hv k
    have bz := zff_b (p := zfip N t k) (N 48).toNat 0
    have ez : zff (fun c : Nat => decide (zdo (zyn N k N) (c : Int) = t)) 0 (N 48).toNat = zfic N t k := rfl
    have bz2 : -1 ≤ zfic N t k ∧ zfic N t k < 6 := by unfold zfic; omega
    have ih1 := ih (k + 1) (by omega)
    rw [show (((k + 1 : Nat) : Int)) = (k : Int) + 1 by omega] at ih1
    unfold zff at hz
    refine zw_iload_n 40 dX5_first_39 rfl rfl ?_
    refine zw_bipush 42 dX5_first_40 rfl (by decide) ?_
    refine zw_icmp_gt 96 45 dX5_first_42 (by decide) rfl (by omega) (by omega) (fun h42 => ?_) (fun h42 => ?_)
    · exfalso; omega
    · refine zw_aload_n 46 dX5_first_45 rfl rfl ?_
      refine zw_getr 49 (102) (o := 101) dX5_first_46 rfl fX5_30 (by decide) rfl rfl ly1 ?_
      refine zw_iload_n 50 dX5_first_49 rfl rfl ?_
      refine zw_aload_n 51 dX5_first_50 rfl rfl ?_
      refine zw_getr 54 (2) (o := 1) dX5_first_51 rfl fX5_10 (by decide) rfl rfl ly1 ?_
      refine zw_gti 57 1 dX5_first_54 rfl fX5_71 (by decide) rfl rfl ly2 ?_
      rw [g2 2 (by omega), c1]
      rw [show (zI (N 48)) = zI (((N 48).toNat : Nat) : Int) by congr 1; omega]
      refine zw_callV 60 _ _ dX5_first_57 rfl kX5_212 qX2_firstDoing ly102 ⟨_, rfl, rfl⟩ (by decide) (sp_X2_firstDoing (d := d - 1) (by omega) ly102 g1 (fun i i0 i1 => by have := hvk.2.1 i i0 i1; omega) (x := t) (by omega) (n := (N 48).toNat) (by omega)) (by omega) rfl rfl (Nat.le_of_ble_eq_true rfl) (fun r σ' hq => ?_)
      obtain ⟨rfl, rfl⟩ := hq
      rw [ez]
      refine zw_istore 62 dX5_first_60 rfl (by decide) ?_
      refine zw_iload 64 dX5_first_62 rfl rfl ?_
      refine zw_iconst 65 dX5_first_64 rfl ?_
      refine zw_icmp_eq 79 68 dX5_first_65 (by decide) rfl (by omega) (by omega) (fun h65 => ?_) (fun h65 => ?_)
      · refine zw_aload_n 80 dX5_first_79 rfl rfl ?_
        refine zw_getr 83 (2) (o := 1) dX5_first_80 rfl fX5_10 (by decide) rfl rfl ly1 ?_
        refine zw_aload_n 84 dX5_first_83 rfl rfl ?_
        refine zw_getr 87 (102) (o := 101) dX5_first_84 rfl fX5_30 (by decide) rfl rfl ly1 ?_
        refine zw_callV 90 _ _ dX5_first_87 rfl kX5_215 qX0_pass ly2 ⟨_, rfl, rfl⟩ (by decide) (sp_X0_pass (d := d - 1) (by omega) ly2 ly102 (by omega) (zCs_fr (fun b b0 b1 => g2 b (by omega)) hC.1.1) g1 hs (zyn_V hs hv k) (by omega)) (by omega) rfl rfl (Nat.le_of_ble_eq_true rfl) (fun r σ' hq => ?_)
        obtain ⟨rfl, q1, q2⟩ := hq
        refine zw_iinc 93 dX5_first_90 rfl (by decide) rfl ?_
        refine zw_goto 39 dX5_first_93 (by decide) ?_
        refine zw_loc [true, true, true, true, false] rfl ?_
        rw [if_neg (by rw [decide_eq_true_eq]; omega)] at hz
        exact ih1 hz _ q1 (fun r hr => (q2 r (by omega)).trans (g2 r hr))
      · refine zw_iload_n 69 dX5_first_68 rfl rfl ?_
        refine zw_if_ne 77 72 dX5_first_69 (by decide) rfl (by omega) (fun h69 => ?_) (fun h69 => ?_)
        · refine zw_iload_n 78 dX5_first_77 rfl rfl ?_
          refine zw_iret dX5_first_78 rfl ?_
          rw [if_pos (by rw [decide_eq_true_eq]; omega)] at hz
          refine ⟨?_, zNc.ns (fun b b0 b1 => g2 b b0)⟩
          unfold zfir
          rw [← hz, if_neg (by omega), Int.toNat_natCast]
          first | rw [if_pos (by omega)] | rw [if_neg (by omega)]
        · refine zw_iload 74 dX5_first_72 rfl rfl ?_
          refine zw_goto 78 dX5_first_74 (by decide) ?_
          refine zw_iret dX5_first_78 rfl ?_
          rw [if_pos (by rw [decide_eq_true_eq]; omega)] at hz
          refine ⟨?_, zNc.ns (fun b b0 b1 => g2 b b0)⟩
          unfold zfir
          rw [← hz, if_neg (by omega), Int.toNat_natCast]
          first | rw [if_pos (by omega)] | rw [if_neg (by omega)]
theorem sp_X5_first {l : Launch} {d : Nat} {σ : zMem} (hd : 8 ≤ d) {N : zR} (hC : zCh σ 2 N) (hV : zVN N) {t w : Int} (ht : -2147483648 ≤ t ∧ t < 2147483648) (hw : -2147483648 ≤ w ∧ w < 2147483648)  : zSp l d mX5_first [.ref 1, .int (zI t), .int (zI w)] σ (zAn 118 ((0 ≤ t ∧ t ≤ 3) ∧ 0 ≤ w ∧ w ≤ 1) (zfir N t w) 0 (-2) σ) := by
  refine zSp_of oX5_first (Nat.le_of_ble_eq_true rfl) ?_
  show zw l d mX5_first 0 [some (.ref 1), some (.int (zI t)), some (.int (zI w)), none, none] [] σ _
  have hs := hV.1
  have hv := hV.2.1
  have hy := hV.2.2.1
  have hB := zVN_bd hV
  have gN := hs.1
  have gC := hs.2.1
  have c0 : σ 2 0 = N 33 := hC.1.1.1
  have c1 : σ 2 1 = N 48 := hC.1.1.2.1
  have c2 : ∀ s, 0 ≤ s → s < N 33 → σ 3 s = N (34 + s) ∧ σ 4 s = N (41 + s) := hC.1.1.2.2.1
  have c3 : ∀ c, 0 ≤ c → c < N 48 → σ 5 c = N (49 + c) ∧ σ 6 c = N (54 + c) ∧ σ 7 c = zhv (N (49 + c)) (N (54 + c)) := hC.1.1.2.2.2
  have c4 : zSc σ 8 N := hC.1.2.1
  have c41 : ∀ c, 0 ≤ c → c < 5 → σ 9 c = N c := c4.1
  have c42 : ∀ i, 0 ≤ i → i < 20 → σ 10 i = N (5 + i) := c4.2.1
  have c43 : ∀ s, 0 ≤ s → s < 7 → σ 11 s = N (25 + s) := c4.2.2.1
  have c44 : σ 8 0 = N 32 := c4.2.2.2
  have c5 : zRo σ 13 3 59 N := hC.1.2.2.1
  have c6 : zRo σ 15 5 78 N := hC.1.2.2.2.1
  have c7 : zRo σ 17 4 109 N := hC.1.2.2.2.2
  have c8 : σ 2 2 = N 134 := hC.2.1
  have hb5 : ∀ c, 0 ≤ c → c < 5 → -1 ≤ N c ∧ N c < 1000 := fun c h0 h1 => by have := hv.1 c h0 h1; omega
  refine zw_iload_n 1 dX5_first_0 rfl rfl ?_
  refine zw_callS 4 _ _ dX5_first_1 rfl kX5_82 qX5_isTrait (sp_X5_isTrait (d := d - 1) (by omega) (by omega)) (by omega) rfl rfl (Nat.le_of_ble_eq_true rfl) (fun r σ' hq => ?_)
  obtain ⟨rfl, rfl⟩ := hq
  refine zw_if_eq 16 7 dX5_first_4 (by decide) rfl (by omega) (fun h4 => ?_) (fun h4 => ?_)
  · refine zw_aload_n 17 dX5_first_16 rfl rfl ?_
    refine zw_bipush 19 dX5_first_17 rfl (by decide) ?_
    refine zw_callV 22 _ _ dX5_first_19 rfl kX5_89 qX5_refuse ly1 ⟨_, rfl, rfl⟩ (by decide) (sp_X5_refuse_2 (d := d - 1)) (by omega) rfl rfl (Nat.le_of_ble_eq_true rfl) (fun r σ' hq => ?_)
    obtain ⟨rfl, rfl⟩ := hq
    refine zw_iret dX5_first_22 rfl ?_
    first
      | exact zAn_f (by omega)
      | exact zAn_t (by omega) rfl (zNS_refl _)
  · refine zw_iload_n 8 dX5_first_7 rfl rfl ?_
    refine zw_iconst 9 dX5_first_8 rfl ?_
    refine zw_iconst 10 dX5_first_9 rfl ?_
    refine zw_callS 13 _ _ dX5_first_10 rfl kX5_85 qX5_within (sp_X5_within (d := d - 1) (by omega) (by omega) (by omega)) (by omega) rfl rfl (Nat.le_of_ble_eq_true rfl) (fun r σ' hq => ?_)
    obtain ⟨rfl, rfl⟩ := hq
    refine zw_if_ne 23 16 dX5_first_13 (by decide) rfl (by omega) (fun h13 => ?_) (fun h13 => ?_)
    · refine zw_aload_n 24 dX5_first_23 rfl rfl ?_
      refine zw_getr 27 (102) (o := 101) dX5_first_24 rfl fX5_30 (by decide) rfl rfl ly1 ?_
      refine zw_aload_n 28 dX5_first_27 rfl rfl ?_
      refine zw_getr 31 (2) (o := 1) dX5_first_28 rfl fX5_10 (by decide) rfl rfl ly1 ?_
      refine zw_getr 34 (8) (o := 6) dX5_first_31 rfl fX5_131 (by decide) rfl rfl ly2 ?_
      refine zw_callV 37 _ _ dX5_first_34 rfl kX5_209 qX2_become ly102 ⟨_, rfl, rfl⟩ (by decide) (sp_X2_become (d := d - 1) (by omega) ly102 ly8 (by omega) c4) (by omega) rfl rfl (Nat.le_of_ble_eq_true rfl) (fun r σ' hq => ?_)
      obtain ⟨rfl, q1, q2⟩ := hq
      refine zw_iconst 38 dX5_first_37 rfl ?_
      refine zw_istore_n 39 dX5_first_38 rfl (by decide) ?_
      refine zw_mono (lp_X5_first (by omega) hC hV (t := t) (w := w) (by omega) (by omega) 61 0 (by omega) rfl _ q1 (fun r hr => q2 r (by omega))) (fun a σ2 hq => ⟨fun _ => hq, fun q => absurd (show (0 ≤ t ∧ t ≤ 3) ∧ 0 ≤ w ∧ w ≤ 1 by omega) q⟩)
    · refine zw_aload_n 17 dX5_first_16 rfl rfl ?_
      refine zw_bipush 19 dX5_first_17 rfl (by decide) ?_
      refine zw_callV 22 _ _ dX5_first_19 rfl kX5_89 qX5_refuse ly1 ⟨_, rfl, rfl⟩ (by decide) (sp_X5_refuse_2 (d := d - 1)) (by omega) rfl rfl (Nat.le_of_ble_eq_true rfl) (fun r σ' hq => ?_)
      obtain ⟨rfl, rfl⟩ := hq
      refine zw_iret dX5_first_22 rfl ?_
      first
        | exact zAn_f (by omega)
        | exact zAn_t (by omega) rfl (zNS_refl _)
theorem zpl_1 {f : Int → Int} : ∀ n : Nat, (zpl f n).1 = -1 → (zpl f n).2 = 1000000
  | 0, _ => rfl
  | n + 1, h => by
    unfold zpl at h ⊢
    split
    · rename_i q
      rw [if_pos q] at h
      exfalso
      have h2 : (n : Int) = -1 := h
      omega
    · rename_i q
      rw [if_neg q] at h
      exact zpl_1 n h
theorem zpl_2 {f : Int → Int} (hf : ∀ k, -1 ≤ f k ∧ f k ≤ 1000) : ∀ n : Nat, (zpl f n).1 ≠ -1 → 0 ≤ (zpl f n).2 ∧ (zpl f n).2 ≤ 1000
  | 0, h => absurd rfl h
  | n + 1, h => by
    unfold zpl at h ⊢
    have := hf n
    split
    · rename_i q
      show 0 ≤ f n ∧ f n ≤ 1000
      omega
    · rename_i q
      rw [if_neg q] at h
      exact zpl_2 hf n h
def zpS (f : Int → Int) (n : Nat) : Int := if (zpl f n).1 = -1 then -1 else (zpl f n).2
theorem lp_X5_place {l : Launch} {d : Nat} {σ : zMem} (hd : 5 ≤ d) {N : zR} (hC : zCh σ 2 N) (hV : zVN N) {c t x w : Int} (hc : 0 ≤ c ∧ c < N 48) (ht : 0 ≤ t ∧ t ≤ 3) (hx : 1 ≤ x ∧ x ≤ 99) (hw : 0 ≤ w ∧ w ≤ 1) : ∀ (m k : Nat), k + m = (N 33).toNat → ∀ σc : zMem, (∀ r, ¬ (102 ≤ r ∧ r ≤ 105) → σc r = σ r) → zw l d mX5_place 51 [some (.ref 1), some (.int (zI c)), some (.int (zI t)), some (.int (zI x)), some (.int (zI w)), some (.int (zI ((zpl (zpc N c t x) k).1))), some (.int (zI ((zpS (zpc N c t x) k)))), some (.int (zI ((k : Int)))), none] [] σc (fun a σ' => a = some (.int (zI (zpv N c t x w))) ∧ zNS σ σ') := by
  have hs := hV.1
  have hv := hV.2.1
  have hy := hV.2.2.1
  have hB := zVN_bd hV
  have gN := hs.1
  have gC := hs.2.1
  have c0 : σ 2 0 = N 33 := hC.1.1.1
  have c1 : σ 2 1 = N 48 := hC.1.1.2.1
  have c2 : ∀ s, 0 ≤ s → s < N 33 → σ 3 s = N (34 + s) ∧ σ 4 s = N (41 + s) := hC.1.1.2.2.1
  have c3 : ∀ c, 0 ≤ c → c < N 48 → σ 5 c = N (49 + c) ∧ σ 6 c = N (54 + c) ∧ σ 7 c = zhv (N (49 + c)) (N (54 + c)) := hC.1.1.2.2.2
  have c4 : zSc σ 8 N := hC.1.2.1
  have c41 : ∀ c, 0 ≤ c → c < 5 → σ 9 c = N c := c4.1
  have c42 : ∀ i, 0 ≤ i → i < 20 → σ 10 i = N (5 + i) := c4.2.1
  have c43 : ∀ s, 0 ≤ s → s < 7 → σ 11 s = N (25 + s) := c4.2.2.1
  have c44 : σ 8 0 = N 32 := c4.2.2.2
  have c5 : zRo σ 13 3 59 N := hC.1.2.2.1
  have c6 : zRo σ 15 5 78 N := hC.1.2.2.2.1
  have c7 : zRo σ 17 4 109 N := hC.1.2.2.2.2
  have c8 : σ 2 2 = N 134 := hC.2.1
  have hb5 : ∀ c, 0 ≤ c → c < 5 → -1 ≤ N c ∧ N c < 1000 := fun c h0 h1 => by have := hv.1 c h0 h1; omega
  have hF : ∀ j, -1 ≤ zpc N c t x j ∧ zpc N c t x j ≤ 1000 := fun j => by
    unfold zpc
    split
    · have := zff_b (p := (fun n => decide (x ≤ zyn N n (zup N c j) (5 + 4 * c + t)))) 61 0; omega
    · omega
  intro m
  induction m with
  | zero =>
    intro k hk σc g2
    have hb := zpl_b hF k
    have e : (N 33).toNat = k := by omega
    have e2 := zpl_2 hF k
    refine zw_iload 53 dX5_place_51 rfl rfl ?_
    refine zw_aload_n 54 dX5_place_53 rfl rfl ?_
    refine zw_getr 57 (2) (o := 1) dX5_place_54 rfl fX5_10 (by decide) rfl rfl ly1 ?_
    refine zw_gti 60 0 dX5_place_57 rfl fX5_93 (by decide) rfl rfl ly2 ?_
    rw [g2 2 (by omega), c0]
    refine zw_icmp_ge 127 63 dX5_place_60 (by decide) rfl (by omega) (by omega) (fun h60 => ?_) (fun h60 => ?_)
    · refine zw_iload 129 dX5_place_127 rfl rfl ?_
      refine zw_if_ne 137 132 dX5_place_129 (by decide) rfl (by omega) (fun h129 => ?_) (fun h129 => ?_)
      · refine zw_iload 139 dX5_place_137 rfl rfl ?_
        refine zw_iret dX5_place_139 rfl ?_
        refine ⟨?_, zNc.ns (fun b b0 b1 => g2 b b0)⟩
        unfold zpv
        rw [e]
        by_cases q : (zpl (zpc N c t x) k).1 = -1
        · rw [if_pos q]
          first | rw [q] | (unfold zpS; rw [if_pos q])
        · rw [if_neg q]
          first
          | rw [if_pos (by omega)]
          | (rw [if_neg (by omega)]; unfold zpS; rw [if_neg q])
      · refine zw_iload 134 dX5_place_132 rfl rfl ?_
        refine zw_goto 139 dX5_place_134 (by decide) ?_
        refine zw_iret dX5_place_139 rfl ?_
        refine ⟨?_, zNc.ns (fun b b0 b1 => g2 b b0)⟩
        unfold zpv
        rw [e]
        by_cases q : (zpl (zpc N c t x) k).1 = -1
        · rw [if_pos q]
          first | rw [q] | (unfold zpS; rw [if_pos q])
        · rw [if_neg q]
          first
          | rw [if_pos (by omega)]
          | (rw [if_neg (by omega)]; unfold zpS; rw [if_neg q])
    · exfalso; omega
  | succ m ih =>
    intro k hk σc g2
    have hb := zpl_b hF k
    have e1 := zpl_1 (f := zpc N c t x) k
    have e2 := zpl_2 hF k
    have hFk := hF k
    have ih2 := ih (k + 1) (by omega)
    rw [show (((k + 1 : Nat) : Int)) = (k : Int) + 1 by omega] at ih2
    have es : (zpl (zpc N c t x) (k + 1)) = if zpc N c t x k ≠ -1 ∧ zpc N c t x k < (zpl (zpc N c t x) k).2 then ((k : Int), zpc N c t x k) else zpl (zpc N c t x) k := rfl
    have wb : -1 ≤ zwo N k ∧ zwo N k < 5 := by rcases zwo_spec N k with q | q <;> omega
    have hCc := zCh_fr (σ' := σc) (fun b b0 b1 => g2 b (by omega)) hC
    have eS : zpS (zpc N c t x) (k + 1) = if zpc N c t x k ≠ -1 ∧ zpc N c t x k < (zpl (zpc N c t x) k).2 then zpc N c t x k else zpS (zpc N c t x) k := by
      unfold zpS
      rw [es]
      split
      · rw [if_neg (show ¬ ((k : Int), zpc N c t x k).1 = -1 by show ¬ (k : Int) = -1; omega)]
      · rfl
    have eS0 : zpS (zpc N c t x) k = if (zpl (zpc N c t x) k).1 = -1 then -1 else (zpl (zpc N c t x) k).2 := rfl
    have hS : (zpS (zpc N c t x) k = -1 ∧ (zpl (zpc N c t x) k).2 = 1000000) ∨ (zpS (zpc N c t x) k = (zpl (zpc N c t x) k).2 ∧ 0 ≤ (zpl (zpc N c t x) k).2 ∧ (zpl (zpc N c t x) k).2 ≤ 1000) := by
      by_cases q : (zpl (zpc N c t x) k).1 = -1
      · rw [if_pos q] at eS0; exact Or.inl ⟨eS0, e1 q⟩
      · rw [if_neg q] at eS0; exact Or.inr ⟨eS0, e2 q⟩
    rw [es, eS] at ih2
    have kk : ∀ σq : zMem, (∀ r, ¬ (102 ≤ r ∧ r ≤ 105) → σq r = σ r) → zw l d mX5_place 92 [some (.ref 1), some (.int (zI c)), some (.int (zI t)), some (.int (zI x)), some (.int (zI w)), some (.int (zI ((zpl (zpc N c t x) k).1))), some (.int (zI ((zpS (zpc N c t x) k)))), some (.int (zI ((k : Int)))), none] [.int (zI (zpc N c t x k))] σq (fun a σ' => a = some (.int (zI (zpv N c t x w))) ∧ zNS σ σ') := by
      intro σq g3
      refine zw_istore 94 dX5_place_92 rfl (by decide) ?_
      refine zw_iload 96 dX5_place_94 rfl rfl ?_
      refine zw_iconst 97 dX5_place_96 rfl ?_
      refine zw_icmp_eq 121 100 dX5_place_97 (by decide) rfl (by omega) (by omega) (fun h97 => ?_) (fun h97 => ?_)
      · refine zw_iinc 124 dX5_place_121 rfl (by decide) rfl ?_
        refine zw_goto 51 dX5_place_124 (by decide) ?_
        refine zw_loc [true, true, true, true, true, true, true, true, false] rfl ?_
        first
          | (rw [if_pos (show zpc N c t x k ≠ -1 ∧ zpc N c t x k < (zpl (zpc N c t x) k).2 by omega), if_pos (show zpc N c t x k ≠ -1 ∧ zpc N c t x k < (zpl (zpc N c t x) k).2 by omega)] at ih2; exact ih2 _ g3)
          | (rw [if_neg (show ¬ (zpc N c t x k ≠ -1 ∧ zpc N c t x k < (zpl (zpc N c t x) k).2) by omega), if_neg (show ¬ (zpc N c t x k ≠ -1 ∧ zpc N c t x k < (zpl (zpc N c t x) k).2) by omega)] at ih2; exact ih2 _ g3)
      · refine zw_iload 102 dX5_place_100 rfl rfl ?_
        refine zw_iconst 103 dX5_place_102 rfl ?_
        refine zw_icmp_eq 113 106 dX5_place_103 (by decide) rfl (by omega) (by omega) (fun h103 => ?_) (fun h103 => ?_)
        · refine zw_iload 115 dX5_place_113 rfl rfl ?_
          refine zw_istore 117 dX5_place_115 rfl (by decide) ?_
          refine zw_iload 119 dX5_place_117 rfl rfl ?_
          refine zw_istore 121 dX5_place_119 rfl (by decide) ?_
          refine zw_iinc 124 dX5_place_121 rfl (by decide) rfl ?_
          refine zw_goto 51 dX5_place_124 (by decide) ?_
          refine zw_loc [true, true, true, true, true, true, true, true, false] rfl ?_
          first
            | (rw [if_pos (show zpc N c t x k ≠ -1 ∧ zpc N c t x k < (zpl (zpc N c t x) k).2 by omega), if_pos (show zpc N c t x k ≠ -1 ∧ zpc N c t x k < (zpl (zpc N c t x) k).2 by omega)] at ih2; exact ih2 _ g3)
            | (rw [if_neg (show ¬ (zpc N c t x k ≠ -1 ∧ zpc N c t x k < (zpl (zpc N c t x) k).2) by omega), if_neg (show ¬ (zpc N c t x k ≠ -1 ∧ zpc N c t x k < (zpl (zpc N c t x) k).2) by omega)] at ih2; exact ih2 _ g3)
        · refine zw_iload 108 dX5_place_106 rfl rfl ?_
          refine zw_iload 110 dX5_place_108 rfl rfl ?_
          refine zw_icmp_ge 121 113 dX5_place_110 (by decide) rfl (by omega) (by omega) (fun h110 => ?_) (fun h110 => ?_)
          · refine zw_iinc 124 dX5_place_121 rfl (by decide) rfl ?_
            refine zw_goto 51 dX5_place_124 (by decide) ?_
            refine zw_loc [true, true, true, true, true, true, true, true, false] rfl ?_
            first
              | (rw [if_pos (show zpc N c t x k ≠ -1 ∧ zpc N c t x k < (zpl (zpc N c t x) k).2 by omega), if_pos (show zpc N c t x k ≠ -1 ∧ zpc N c t x k < (zpl (zpc N c t x) k).2 by omega)] at ih2; exact ih2 _ g3)
              | (rw [if_neg (show ¬ (zpc N c t x k ≠ -1 ∧ zpc N c t x k < (zpl (zpc N c t x) k).2) by omega), if_neg (show ¬ (zpc N c t x k ≠ -1 ∧ zpc N c t x k < (zpl (zpc N c t x) k).2) by omega)] at ih2; exact ih2 _ g3)
          · refine zw_iload 115 dX5_place_113 rfl rfl ?_
            refine zw_istore 117 dX5_place_115 rfl (by decide) ?_
            refine zw_iload 119 dX5_place_117 rfl rfl ?_
            refine zw_istore 121 dX5_place_119 rfl (by decide) ?_
            refine zw_iinc 124 dX5_place_121 rfl (by decide) rfl ?_
            refine zw_goto 51 dX5_place_124 (by decide) ?_
            refine zw_loc [true, true, true, true, true, true, true, true, false] rfl ?_
            first
              | (rw [if_pos (show zpc N c t x k ≠ -1 ∧ zpc N c t x k < (zpl (zpc N c t x) k).2 by omega), if_pos (show zpc N c t x k ≠ -1 ∧ zpc N c t x k < (zpl (zpc N c t x) k).2 by omega)] at ih2; exact ih2 _ g3)
              | (rw [if_neg (show ¬ (zpc N c t x k ≠ -1 ∧ zpc N c t x k < (zpl (zpc N c t x) k).2) by omega), if_neg (show ¬ (zpc N c t x k ≠ -1 ∧ zpc N c t x k < (zpl (zpc N c t x) k).2) by omega)] at ih2; exact ih2 _ g3)
    refine zw_iload 53 dX5_place_51 rfl rfl ?_
    refine zw_aload_n 54 dX5_place_53 rfl rfl ?_
    refine zw_getr 57 (2) (o := 1) dX5_place_54 rfl fX5_10 (by decide) rfl rfl ly1 ?_
    refine zw_gti 60 0 dX5_place_57 rfl fX5_93 (by decide) rfl rfl ly2 ?_
    rw [g2 2 (by omega), c0]
    refine zw_icmp_ge 127 63 dX5_place_60 (by decide) rfl (by omega) (by omega) (fun h60 => ?_) (fun h60 => ?_)
    · exfalso; omega
    · refine zw_aload_n 64 dX5_place_63 rfl rfl ?_
      refine zw_getr 67 (2) (o := 1) dX5_place_64 rfl fX5_10 (by decide) rfl rfl ly1 ?_
      refine zw_getr 70 (8) (o := 6) dX5_place_67 rfl fX5_131 (by decide) rfl rfl ly2 ?_
      refine zw_iload_n 71 dX5_place_70 rfl rfl ?_
      refine zw_iload 73 dX5_place_71 rfl rfl ?_
      refine zw_callV 76 _ _ dX5_place_73 rfl kX5_134 qX2_isHeldByOther ly8 ⟨_, rfl, rfl⟩ (by decide) (sp_X2_isHeldByOther (d := d - 1) (by omega) ly8 hCc.1.2.1 hb5 (c := c) (s := (k : Int)) (by omega) (by omega)) (by omega) rfl rfl (Nat.le_of_ble_eq_true rfl) (fun r σ' hq => ?_)
      obtain ⟨rfl, rfl⟩ := hq
      refine zw_if_eq 83 79 dX5_place_76 (by decide) rfl (by omega) (fun h76 => ?_) (fun h76 => ?_)
      · refine zw_aload_n 84 dX5_place_83 rfl rfl ?_
        refine zw_iload_n 85 dX5_place_84 rfl rfl ?_
        refine zw_iload 87 dX5_place_85 rfl rfl ?_
        refine zw_iload_n 88 dX5_place_87 rfl rfl ?_
        refine zw_iload_n 89 dX5_place_88 rfl rfl ?_
        refine zw_callV 92 _ _ dX5_place_89 rfl kX5_205 qX5_yearsUntil ly1 ⟨_, rfl, rfl⟩ (by decide) (sp_X5_yearsUntil (d := d - 1) (by omega) hCc hV (c := c) (s := (k : Int)) (t := t) (x := x) (by omega) (by omega) (by omega) (by omega)) (by omega) rfl rfl (Nat.le_of_ble_eq_true rfl) (fun r σ' hq => ?_)
        obtain ⟨rfl, q2⟩ := hq
        first
          | (have ez : (-1 : Int) = zpc N c t x k := by unfold zpc; rw [if_neg (by omega)]
             rw [ez]
             exact kk _ g2)
          | (have ez : zff (fun n => decide (x ≤ zan N c n (zup N c k) (5 + 4 * c + t))) 0 61 = zpc N c t x k := by
               unfold zpc
               rw [if_pos (by omega)]
               have hvp := zVr_put hs hv (c := c) (s := (k : Int)) hc (by omega) (by omega)
               exact zff_congr _ _ (fun j _ _ => by rw [(zan_yn hs hvp hc j).2.1 t (by omega) (by omega)])
             rw [ez]
             exact kk _ (fun r hr => (q2 r hr).trans (g2 r hr)))
      · refine zw_iconst 80 dX5_place_79 rfl ?_
        refine zw_goto 92 dX5_place_80 (by decide) ?_
        first
          | (have ez : (-1 : Int) = zpc N c t x k := by unfold zpc; rw [if_neg (by omega)]
             rw [ez]
             exact kk _ g2)
          | (have ez : zff (fun n => decide (x ≤ zan N c n (zup N c k) (5 + 4 * c + t))) 0 61 = zpc N c t x k := by
               unfold zpc
               rw [if_pos (by omega)]
               have hvp := zVr_put hs hv (c := c) (s := (k : Int)) hc (by omega) (by omega)
               exact zff_congr _ _ (fun j _ _ => by rw [(zan_yn hs hvp hc j).2.1 t (by omega) (by omega)])
             rw [ez]
             exact kk _ (fun r hr => (q2 r hr).trans (g2 r hr)))
theorem sp_X5_place {l : Launch} {d : Nat} {σ : zMem} (hd : 8 ≤ d) {N : zR} (hC : zCh σ 2 N) (hV : zVN N) {c t x w : Int} (hc : -2147483648 ≤ c ∧ c < 2147483648) (ht : -2147483648 ≤ t ∧ t < 2147483648) (hx : -2147483648 ≤ x ∧ x < 2147483648) (hw : -2147483648 ≤ w ∧ w < 2147483648)  : zSp l d mX5_place [.ref 1, .int (zI c), .int (zI t), .int (zI x), .int (zI w)] σ (zAn 118 ((0 ≤ c ∧ c ≤ N 48 - 1) ∧ (0 ≤ t ∧ t ≤ 3) ∧ (1 ≤ x ∧ x ≤ 99) ∧ 0 ≤ w ∧ w ≤ 1) (zpv N c t x w) 0 (-2) σ) := by
  refine zSp_of oX5_place (Nat.le_of_ble_eq_true rfl) ?_
  show zw l d mX5_place 0 [some (.ref 1), some (.int (zI c)), some (.int (zI t)), some (.int (zI x)), some (.int (zI w)), none, none, none, none] [] σ _
  have hs := hV.1
  have hv := hV.2.1
  have hy := hV.2.2.1
  have hB := zVN_bd hV
  have gN := hs.1
  have gC := hs.2.1
  have c0 : σ 2 0 = N 33 := hC.1.1.1
  have c1 : σ 2 1 = N 48 := hC.1.1.2.1
  have c2 : ∀ s, 0 ≤ s → s < N 33 → σ 3 s = N (34 + s) ∧ σ 4 s = N (41 + s) := hC.1.1.2.2.1
  have c3 : ∀ c, 0 ≤ c → c < N 48 → σ 5 c = N (49 + c) ∧ σ 6 c = N (54 + c) ∧ σ 7 c = zhv (N (49 + c)) (N (54 + c)) := hC.1.1.2.2.2
  have c4 : zSc σ 8 N := hC.1.2.1
  have c41 : ∀ c, 0 ≤ c → c < 5 → σ 9 c = N c := c4.1
  have c42 : ∀ i, 0 ≤ i → i < 20 → σ 10 i = N (5 + i) := c4.2.1
  have c43 : ∀ s, 0 ≤ s → s < 7 → σ 11 s = N (25 + s) := c4.2.2.1
  have c44 : σ 8 0 = N 32 := c4.2.2.2
  have c5 : zRo σ 13 3 59 N := hC.1.2.2.1
  have c6 : zRo σ 15 5 78 N := hC.1.2.2.2.1
  have c7 : zRo σ 17 4 109 N := hC.1.2.2.2.2
  have c8 : σ 2 2 = N 134 := hC.2.1
  have hb5 : ∀ c, 0 ≤ c → c < 5 → -1 ≤ N c ∧ N c < 1000 := fun c h0 h1 => by have := hv.1 c h0 h1; omega
  refine zw_aload_n 1 dX5_place_0 rfl rfl ?_
  refine zw_iload_n 2 dX5_place_1 rfl rfl ?_
  refine zw_callV 5 _ _ dX5_place_2 rfl kX5_122 qX5_isCanon ly1 ⟨_, rfl, rfl⟩ (by decide) (sp_X5_isCanon (d := d - 1) (by omega) hC.1.1 (by omega) (by omega)) (by omega) rfl rfl (Nat.le_of_ble_eq_true rfl) (fun r σ' hq => ?_)
  obtain ⟨rfl, rfl⟩ := hq
  refine zw_if_eq 35 8 dX5_place_5 (by decide) rfl (by omega) (fun h5 => ?_) (fun h5 => ?_)
  · refine zw_aload_n 36 dX5_place_35 rfl rfl ?_
    refine zw_bipush 38 dX5_place_36 rfl (by decide) ?_
    refine zw_callV 41 _ _ dX5_place_38 rfl kX5_89 qX5_refuse ly1 ⟨_, rfl, rfl⟩ (by decide) (sp_X5_refuse_2 (d := d - 1)) (by omega) rfl rfl (Nat.le_of_ble_eq_true rfl) (fun r σ' hq => ?_)
    obtain ⟨rfl, rfl⟩ := hq
    refine zw_iret dX5_place_41 rfl ?_
    exact zAn_f (by omega)
  · refine zw_iload_n 9 dX5_place_8 rfl rfl ?_
    refine zw_callS 12 _ _ dX5_place_9 rfl kX5_82 qX5_isTrait (sp_X5_isTrait (d := d - 1) (by omega) (by omega)) (by omega) rfl rfl (Nat.le_of_ble_eq_true rfl) (fun r σ' hq => ?_)
    obtain ⟨rfl, rfl⟩ := hq
    refine zw_if_eq 35 15 dX5_place_12 (by decide) rfl (by omega) (fun h12 => ?_) (fun h12 => ?_)
    · refine zw_aload_n 36 dX5_place_35 rfl rfl ?_
      refine zw_bipush 38 dX5_place_36 rfl (by decide) ?_
      refine zw_callV 41 _ _ dX5_place_38 rfl kX5_89 qX5_refuse ly1 ⟨_, rfl, rfl⟩ (by decide) (sp_X5_refuse_2 (d := d - 1)) (by omega) rfl rfl (Nat.le_of_ble_eq_true rfl) (fun r σ' hq => ?_)
      obtain ⟨rfl, rfl⟩ := hq
      refine zw_iret dX5_place_41 rfl ?_
      exact zAn_f (by omega)
    · refine zw_iload_n 16 dX5_place_15 rfl rfl ?_
      refine zw_iconst 17 dX5_place_16 rfl ?_
      refine zw_bipush 19 dX5_place_17 rfl (by decide) ?_
      refine zw_callS 22 _ _ dX5_place_19 rfl kX5_85 qX5_within (sp_X5_within (d := d - 1) (by omega) (by omega) (by omega)) (by omega) rfl rfl (Nat.le_of_ble_eq_true rfl) (fun r σ' hq => ?_)
      obtain ⟨rfl, rfl⟩ := hq
      refine zw_if_eq 35 25 dX5_place_22 (by decide) rfl (by omega) (fun h22 => ?_) (fun h22 => ?_)
      · refine zw_aload_n 36 dX5_place_35 rfl rfl ?_
        refine zw_bipush 38 dX5_place_36 rfl (by decide) ?_
        refine zw_callV 41 _ _ dX5_place_38 rfl kX5_89 qX5_refuse ly1 ⟨_, rfl, rfl⟩ (by decide) (sp_X5_refuse_2 (d := d - 1)) (by omega) rfl rfl (Nat.le_of_ble_eq_true rfl) (fun r σ' hq => ?_)
        obtain ⟨rfl, rfl⟩ := hq
        refine zw_iret dX5_place_41 rfl ?_
        exact zAn_f (by omega)
      · refine zw_iload 27 dX5_place_25 rfl rfl ?_
        refine zw_iconst 28 dX5_place_27 rfl ?_
        refine zw_iconst 29 dX5_place_28 rfl ?_
        refine zw_callS 32 _ _ dX5_place_29 rfl kX5_85 qX5_within (sp_X5_within (d := d - 1) (by omega) (by omega) (by omega)) (by omega) rfl rfl (Nat.le_of_ble_eq_true rfl) (fun r σ' hq => ?_)
        obtain ⟨rfl, rfl⟩ := hq
        refine zw_if_ne 42 35 dX5_place_32 (by decide) rfl (by omega) (fun h32 => ?_) (fun h32 => ?_)
        · refine zw_iconst 43 dX5_place_42 rfl ?_
          refine zw_istore 45 dX5_place_43 rfl (by decide) ?_
          refine zw_iconst 46 dX5_place_45 rfl ?_
          refine zw_istore 48 dX5_place_46 rfl (by decide) ?_
          refine zw_iconst 49 dX5_place_48 rfl ?_
          refine zw_istore 51 dX5_place_49 rfl (by decide) ?_
          refine zw_mono (lp_X5_place (by omega) hC hV (c := c) (t := t) (x := x) (w := w) (by omega) (by omega) (by omega) (by omega) (N 33).toNat 0 (by omega) σ (fun _ _ => rfl)) (fun a σ2 hq => ⟨fun _ => hq, fun q => absurd (show (0 ≤ c ∧ c ≤ N 48 - 1) ∧ (0 ≤ t ∧ t ≤ 3) ∧ (1 ≤ x ∧ x ≤ 99) ∧ 0 ≤ w ∧ w ≤ 1 by omega) q⟩)
        · refine zw_aload_n 36 dX5_place_35 rfl rfl ?_
          refine zw_bipush 38 dX5_place_36 rfl (by decide) ?_
          refine zw_callV 41 _ _ dX5_place_38 rfl kX5_89 qX5_refuse ly1 ⟨_, rfl, rfl⟩ (by decide) (sp_X5_refuse_2 (d := d - 1)) (by omega) rfl rfl (Nat.le_of_ble_eq_true rfl) (fun r σ' hq => ?_)
          obtain ⟨rfl, rfl⟩ := hq
          refine zw_iret dX5_place_41 rfl ?_
          exact zAn_f (by omega)
theorem zwhf_b5 (N : zR) (c t x s : Int) : zwhf N c t x s = 0 ∨ zwhf N c t x s = 1 := by
  unfold zwhf
  by_cases q : (if N (41 + s) = t then ztk N N c s else 0) = x
  · rw [if_pos q]; exact Or.inr rfl
  · rw [if_neg q]; exact Or.inl rfl
theorem lp_X5_where {l : Launch} {d : Nat} {σ : zMem} {N : zR} (hC : zCh σ 2 N) (hV : zVN N) (hd : 3 ≤ d) {c t x : Int} (hc : 0 ≤ c ∧ c < N 48) (ht : 0 ≤ t ∧ t ≤ 3) (hx : 0 ≤ x ∧ x ≤ 60)  : ∀ (m : Nat) (s : Int) (n : Int), s + m = N 33 → 0 ≤ s → n = zbi (zwhf N c t x) s.toNat → zw l d mX5_where 38 [some (.ref 1), some (.int (zI c)), some (.int (zI t)), some (.int (zI x)), some (.int (zI n)), some (.int (zI s)), none] [] σ (zRi (zbi (zwhf N c t x) (N 33).toNat) σ) := by
  intro m
  induction m with
  | zero =>
    intro s n hk hk0 hn
    have hs := hV.1
    have hv := hV.2.1
    have hy := hV.2.2.1
    have hB := zVN_bd hV
    have gN := hs.1
    have gC := hs.2.1
    have c0 : σ 2 0 = N 33 := hC.1.1.1
    have c1 : σ 2 1 = N 48 := hC.1.1.2.1
    have c2 : ∀ s, 0 ≤ s → s < N 33 → σ 3 s = N (34 + s) ∧ σ 4 s = N (41 + s) := hC.1.1.2.2.1
    have c3 : ∀ c, 0 ≤ c → c < N 48 → σ 5 c = N (49 + c) ∧ σ 6 c = N (54 + c) ∧ σ 7 c = zhv (N (49 + c)) (N (54 + c)) := hC.1.1.2.2.2
    have c4 : zSc σ 8 N := hC.1.2.1
    have c41 : ∀ c, 0 ≤ c → c < 5 → σ 9 c = N c := c4.1
    have c42 : ∀ i, 0 ≤ i → i < 20 → σ 10 i = N (5 + i) := c4.2.1
    have c43 : ∀ s, 0 ≤ s → s < 7 → σ 11 s = N (25 + s) := c4.2.2.1
    have c44 : σ 8 0 = N 32 := c4.2.2.2
    have c5 : zRo σ 13 3 59 N := hC.1.2.2.1
    have c6 : zRo σ 15 5 78 N := hC.1.2.2.2.1
    have c7 : zRo σ 17 4 109 N := hC.1.2.2.2.2
    have c8 : σ 2 2 = N 134 := hC.2.1
    have hb5 : ∀ c, 0 ≤ c → c < 5 → -1 ≤ N c ∧ N c < 1000 := fun c h0 h1 => by have := hv.1 c h0 h1; omega
    have b1 := zbi_b (f := zwhf N c t x) s.toNat (fun k _ _ => zwhf_b5 _ _ _ _ _)
    rw [← hn] at b1
    refine zw_iload 40 dX5_where_38 rfl rfl ?_
    refine zw_aload_n 41 dX5_where_40 rfl rfl ?_
    refine zw_getr 44 (2) (o := 1) dX5_where_41 rfl fX5_10 (by decide) rfl rfl ly1 ?_
    refine zw_gti 47 0 dX5_where_44 rfl fX5_93 (by decide) rfl rfl ly2 ?_
    rw [c0]
    refine zw_icmp_ge 108 50 dX5_where_47 (by decide) rfl (by omega) (by omega) (fun h47 => ?_) (fun h47 => ?_)
    · refine zw_iload 110 dX5_where_108 rfl rfl ?_
      refine zw_iret dX5_where_110 rfl ?_
      exact zRi_of (by rw [hn, show s = N 33 by omega])
    · exfalso; omega
  | succ m ih =>
    intro s n hk hk0 hn
    have hs := hV.1
    have hv := hV.2.1
    have hy := hV.2.2.1
    have hB := zVN_bd hV
    have gN := hs.1
    have gC := hs.2.1
    have c0 : σ 2 0 = N 33 := hC.1.1.1
    have c1 : σ 2 1 = N 48 := hC.1.1.2.1
    have c2 : ∀ s, 0 ≤ s → s < N 33 → σ 3 s = N (34 + s) ∧ σ 4 s = N (41 + s) := hC.1.1.2.2.1
    have c3 : ∀ c, 0 ≤ c → c < N 48 → σ 5 c = N (49 + c) ∧ σ 6 c = N (54 + c) ∧ σ 7 c = zhv (N (49 + c)) (N (54 + c)) := hC.1.1.2.2.2
    have c4 : zSc σ 8 N := hC.1.2.1
    have c41 : ∀ c, 0 ≤ c → c < 5 → σ 9 c = N c := c4.1
    have c42 : ∀ i, 0 ≤ i → i < 20 → σ 10 i = N (5 + i) := c4.2.1
    have c43 : ∀ s, 0 ≤ s → s < 7 → σ 11 s = N (25 + s) := c4.2.2.1
    have c44 : σ 8 0 = N 32 := c4.2.2.2
    have c5 : zRo σ 13 3 59 N := hC.1.2.2.1
    have c6 : zRo σ 15 5 78 N := hC.1.2.2.2.1
    have c7 : zRo σ 17 4 109 N := hC.1.2.2.2.2
    have c8 : σ 2 2 = N 134 := hC.2.1
    have hb5 : ∀ c, 0 ≤ c → c < 5 → -1 ≤ N c ∧ N c < 1000 := fun c h0 h1 => by have := hv.1 c h0 h1; omega
    have b1 := zbi_b (f := zwhf N c t x) s.toNat (fun k _ _ => zwhf_b5 _ _ _ _ _)
    rw [← hn] at b1
    refine zw_iload 40 dX5_where_38 rfl rfl ?_
    refine zw_aload_n 41 dX5_where_40 rfl rfl ?_
    refine zw_getr 44 (2) (o := 1) dX5_where_41 rfl fX5_10 (by decide) rfl rfl ly1 ?_
    refine zw_gti 47 0 dX5_where_44 rfl fX5_93 (by decide) rfl rfl ly2 ?_
    rw [c0]
    refine zw_icmp_ge 108 50 dX5_where_47 (by decide) rfl (by omega) (by omega) (fun h47 => ?_) (fun h47 => ?_)
    · refine zw_iload 110 dX5_where_108 rfl rfl ?_
      refine zw_iret dX5_where_110 rfl ?_
      exfalso; omega
    · have g3 := z2k (k := s) (by omega)
      have g4 := c2 s hk0 (by omega)
      have g5 := hs.s hk0 (by omega : s < 7)
      have g6 := ztk_b hs hv (c := c) (s := s) (by omega) (by omega)
      refine zw_aload_n 51 dX5_where_50 rfl rfl ?_
      refine zw_getr 54 (2) (o := 1) dX5_where_51 rfl fX5_10 (by decide) rfl rfl ly1 ?_
      refine zw_getr 57 (4) (o := 2) dX5_where_54 rfl fX5_171 (by decide) rfl rfl ly2 ?_
      refine zw_iload 59 dX5_where_57 rfl rfl ?_
      refine zw_iald 60 dX5_where_59 rfl ly4 (by omega) ?_
      rw [g4.2]
      refine zw_iload_n 61 dX5_where_60 rfl rfl ?_
      refine zw_icmp_ne 84 64 dX5_where_61 (by decide) rfl (by omega) (by omega) (fun h61 => ?_) (fun h61 => ?_)
      · refine zw_iconst 85 dX5_where_84 rfl ?_
        refine zw_istore 87 dX5_where_85 rfl (by decide) ?_
        refine zw_iload 89 dX5_where_87 rfl rfl ?_
        refine zw_iload_n 90 dX5_where_89 rfl rfl ?_
        refine zw_icmp_ne 102 93 dX5_where_90 (by decide) rfl (by omega) (by omega) (fun h90 => ?_) (fun h90 => ?_)
        · refine zw_iinc 105 dX5_where_102 rfl (by decide) rfl ?_
          refine zw_goto 38 dX5_where_105 (by decide) ?_
          refine zw_loc [true, true, true, true, true, true, false] rfl ?_
          first
            | (have e : zwhf N c t x s = 1 := by
                 unfold zwhf
                 first
                 | rw [if_pos (show N (41 + s) = t by omega), if_pos (by omega)]
                 | rw [if_neg (show ¬ N (41 + s) = t by omega), if_pos (by omega)]
               exact ih (s + 1) _ (by omega) (by omega) (by rw [zbi_s2 _ hk0 (zwhf_b5 _ _ _ _ _), ← hn, if_pos e]))
            | (have e : ¬ zwhf N c t x s = 1 := by
                 unfold zwhf
                 first
                 | (rw [if_pos (show N (41 + s) = t by omega), if_neg (by omega)]; omega)
                 | (rw [if_neg (show ¬ N (41 + s) = t by omega), if_neg (by omega)]; omega)
               exact ih (s + 1) _ (by omega) (by omega) (by rw [zbi_s2 _ hk0 (zwhf_b5 _ _ _ _ _), ← hn, if_neg e, Int.add_zero]))
        · refine zw_iload 95 dX5_where_93 rfl rfl ?_
          refine zw_iconst 96 dX5_where_95 rfl ?_
          refine zw_iload 98 dX5_where_96 rfl rfl ?_
          refine zw_ishl 99 _ dX5_where_98 rfl (zshl_int (by omega)) ?_
          refine zw_ior 100 _ dX5_where_99 rfl (zor_int (k := s) (by omega) b1 (Or.inr rfl)) ?_
          refine zw_istore 102 dX5_where_100 rfl (by decide) ?_
          refine zw_iinc 105 dX5_where_102 rfl (by decide) rfl ?_
          refine zw_goto 38 dX5_where_105 (by decide) ?_
          refine zw_loc [true, true, true, true, true, true, false] rfl ?_
          first
            | (have e : zwhf N c t x s = 1 := by
                 unfold zwhf
                 first
                 | rw [if_pos (show N (41 + s) = t by omega), if_pos (by omega)]
                 | rw [if_neg (show ¬ N (41 + s) = t by omega), if_pos (by omega)]
               exact ih (s + 1) _ (by omega) (by omega) (by rw [zbi_s2 _ hk0 (zwhf_b5 _ _ _ _ _), ← hn, if_pos e]))
            | (have e : ¬ zwhf N c t x s = 1 := by
                 unfold zwhf
                 first
                 | (rw [if_pos (show N (41 + s) = t by omega), if_neg (by omega)]; omega)
                 | (rw [if_neg (show ¬ N (41 + s) = t by omega), if_neg (by omega)]; omega)
               exact ih (s + 1) _ (by omega) (by omega) (by rw [zbi_s2 _ hk0 (zwhf_b5 _ _ _ _ _), ← hn, if_neg e, Int.add_zero]))
      · refine zw_aload_n 65 dX5_where_64 rfl rfl ?_
        refine zw_getr 68 (2) (o := 1) dX5_where_65 rfl fX5_10 (by decide) rfl rfl ly1 ?_
        refine zw_aload_n 69 dX5_where_68 rfl rfl ?_
        refine zw_getr 72 (2) (o := 1) dX5_where_69 rfl fX5_10 (by decide) rfl rfl ly1 ?_
        refine zw_getr 75 (8) (o := 6) dX5_where_72 rfl fX5_131 (by decide) rfl rfl ly2 ?_
        refine zw_iload_n 76 dX5_where_75 rfl rfl ?_
        refine zw_iload 78 dX5_where_76 rfl rfl ?_
        refine zw_callV 81 _ _ dX5_where_78 rfl kX5_195 qX0_wouldTake ly2 ⟨_, rfl, rfl⟩ (by decide) (sp_X0_wouldTake (d := d - 1) (by omega) ly2 ly8 hC.1.1 c4 hs (c := c) (hv.w (by omega)) (by omega) hc (s := s) (by omega)) (by omega) rfl rfl (Nat.le_of_ble_eq_true rfl) (fun r σ' hq => ?_)
        obtain ⟨rfl, rfl⟩ := hq
        refine zw_goto 85 dX5_where_81 (by decide) ?_
        refine zw_istore 87 dX5_where_85 rfl (by decide) ?_
        refine zw_iload 89 dX5_where_87 rfl rfl ?_
        refine zw_iload_n 90 dX5_where_89 rfl rfl ?_
        refine zw_icmp_ne 102 93 dX5_where_90 (by decide) rfl (by omega) (by omega) (fun h90 => ?_) (fun h90 => ?_)
        · refine zw_iinc 105 dX5_where_102 rfl (by decide) rfl ?_
          refine zw_goto 38 dX5_where_105 (by decide) ?_
          refine zw_loc [true, true, true, true, true, true, false] rfl ?_
          first
            | (have e : zwhf N c t x s = 1 := by
                 unfold zwhf
                 first
                 | rw [if_pos (show N (41 + s) = t by omega), if_pos (by omega)]
                 | rw [if_neg (show ¬ N (41 + s) = t by omega), if_pos (by omega)]
               exact ih (s + 1) _ (by omega) (by omega) (by rw [zbi_s2 _ hk0 (zwhf_b5 _ _ _ _ _), ← hn, if_pos e]))
            | (have e : ¬ zwhf N c t x s = 1 := by
                 unfold zwhf
                 first
                 | (rw [if_pos (show N (41 + s) = t by omega), if_neg (by omega)]; omega)
                 | (rw [if_neg (show ¬ N (41 + s) = t by omega), if_neg (by omega)]; omega)
               exact ih (s + 1) _ (by omega) (by omega) (by rw [zbi_s2 _ hk0 (zwhf_b5 _ _ _ _ _), ← hn, if_neg e, Int.add_zero]))
        · refine zw_iload 95 dX5_where_93 rfl rfl ?_
          refine zw_iconst 96 dX5_where_95 rfl ?_
          refine zw_iload 98 dX5_where_96 rfl rfl ?_
          refine zw_ishl 99 _ dX5_where_98 rfl (zshl_int (by omega)) ?_
          refine zw_ior 100 _ dX5_where_99 rfl (zor_int (k := s) (by omega) b1 (Or.inr rfl)) ?_
          refine zw_istore 102 dX5_where_100 rfl (by decide) ?_
          refine zw_iinc 105 dX5_where_102 rfl (by decide) rfl ?_
          refine zw_goto 38 dX5_where_105 (by decide) ?_
          refine zw_loc [true, true, true, true, true, true, false] rfl ?_
          first
            | (have e : zwhf N c t x s = 1 := by
                 unfold zwhf
                 first
                 | rw [if_pos (show N (41 + s) = t by omega), if_pos (by omega)]
                 | rw [if_neg (show ¬ N (41 + s) = t by omega), if_pos (by omega)]
               exact ih (s + 1) _ (by omega) (by omega) (by rw [zbi_s2 _ hk0 (zwhf_b5 _ _ _ _ _), ← hn, if_pos e]))
            | (have e : ¬ zwhf N c t x s = 1 := by
                 unfold zwhf
                 first
                 | (rw [if_pos (show N (41 + s) = t by omega), if_neg (by omega)]; omega)
                 | (rw [if_neg (show ¬ N (41 + s) = t by omega), if_neg (by omega)]; omega)
               exact ih (s + 1) _ (by omega) (by omega) (by rw [zbi_s2 _ hk0 (zwhf_b5 _ _ _ _ _), ← hn, if_neg e, Int.add_zero]))
theorem sp_X5_where {l : Launch} {d : Nat} {σ : zMem} (hd : 8 ≤ d) {N : zR} (hC : zCh σ 2 N) (hV : zVN N) {c t x : Int} (hc : -2147483648 ≤ c ∧ c < 2147483648) (ht : -2147483648 ≤ t ∧ t < 2147483648) (hx : -2147483648 ≤ x ∧ x < 2147483648)  : zSp l d mX5_where [.ref 1, .int (zI c), .int (zI t), .int (zI x)] σ (zAn 118 ((0 ≤ c ∧ c ≤ N 48 - 1) ∧ (0 ≤ t ∧ t ≤ 3) ∧ 0 ≤ x ∧ x ≤ 60) (zbi (zwhf N c t x) (N 33).toNat) 0 (-2) σ) := by
  refine zSp_of oX5_where (Nat.le_of_ble_eq_true rfl) ?_
  show zw l d mX5_where 0 [some (.ref 1), some (.int (zI c)), some (.int (zI t)), some (.int (zI x)), none, none, none] [] σ _
  have hs := hV.1
  have hv := hV.2.1
  have hy := hV.2.2.1
  have hB := zVN_bd hV
  have gN := hs.1
  have gC := hs.2.1
  have c0 : σ 2 0 = N 33 := hC.1.1.1
  have c1 : σ 2 1 = N 48 := hC.1.1.2.1
  have c2 : ∀ s, 0 ≤ s → s < N 33 → σ 3 s = N (34 + s) ∧ σ 4 s = N (41 + s) := hC.1.1.2.2.1
  have c3 : ∀ c, 0 ≤ c → c < N 48 → σ 5 c = N (49 + c) ∧ σ 6 c = N (54 + c) ∧ σ 7 c = zhv (N (49 + c)) (N (54 + c)) := hC.1.1.2.2.2
  have c4 : zSc σ 8 N := hC.1.2.1
  have c41 : ∀ c, 0 ≤ c → c < 5 → σ 9 c = N c := c4.1
  have c42 : ∀ i, 0 ≤ i → i < 20 → σ 10 i = N (5 + i) := c4.2.1
  have c43 : ∀ s, 0 ≤ s → s < 7 → σ 11 s = N (25 + s) := c4.2.2.1
  have c44 : σ 8 0 = N 32 := c4.2.2.2
  have c5 : zRo σ 13 3 59 N := hC.1.2.2.1
  have c6 : zRo σ 15 5 78 N := hC.1.2.2.2.1
  have c7 : zRo σ 17 4 109 N := hC.1.2.2.2.2
  have c8 : σ 2 2 = N 134 := hC.2.1
  have hb5 : ∀ c, 0 ≤ c → c < 5 → -1 ≤ N c ∧ N c < 1000 := fun c h0 h1 => by have := hv.1 c h0 h1; omega
  refine zw_aload_n 1 dX5_where_0 rfl rfl ?_
  refine zw_iload_n 2 dX5_where_1 rfl rfl ?_
  refine zw_callV 5 _ _ dX5_where_2 rfl kX5_122 qX5_isCanon ly1 ⟨_, rfl, rfl⟩ (by decide) (sp_X5_isCanon (d := d - 1) (by omega) hC.1.1 (by omega) (by omega)) (by omega) rfl rfl (Nat.le_of_ble_eq_true rfl) (fun r σ' hq => ?_)
  obtain ⟨rfl, rfl⟩ := hq
  refine zw_if_eq 25 8 dX5_where_5 (by decide) rfl (by omega) (fun h5 => ?_) (fun h5 => ?_)
  · refine zw_aload_n 26 dX5_where_25 rfl rfl ?_
    refine zw_bipush 28 dX5_where_26 rfl (by decide) ?_
    refine zw_callV 31 _ _ dX5_where_28 rfl kX5_89 qX5_refuse ly1 ⟨_, rfl, rfl⟩ (by decide) (sp_X5_refuse_2 (d := d - 1)) (by omega) rfl rfl (Nat.le_of_ble_eq_true rfl) (fun r σ' hq => ?_)
    obtain ⟨rfl, rfl⟩ := hq
    refine zw_iret dX5_where_31 rfl ?_
    exact zAn_f (by omega)
  · refine zw_iload_n 9 dX5_where_8 rfl rfl ?_
    refine zw_callS 12 _ _ dX5_where_9 rfl kX5_82 qX5_isTrait (sp_X5_isTrait (d := d - 1) (by omega) (by omega)) (by omega) rfl rfl (Nat.le_of_ble_eq_true rfl) (fun r σ' hq => ?_)
    obtain ⟨rfl, rfl⟩ := hq
    refine zw_if_eq 25 15 dX5_where_12 (by decide) rfl (by omega) (fun h12 => ?_) (fun h12 => ?_)
    · refine zw_aload_n 26 dX5_where_25 rfl rfl ?_
      refine zw_bipush 28 dX5_where_26 rfl (by decide) ?_
      refine zw_callV 31 _ _ dX5_where_28 rfl kX5_89 qX5_refuse ly1 ⟨_, rfl, rfl⟩ (by decide) (sp_X5_refuse_2 (d := d - 1)) (by omega) rfl rfl (Nat.le_of_ble_eq_true rfl) (fun r σ' hq => ?_)
      obtain ⟨rfl, rfl⟩ := hq
      refine zw_iret dX5_where_31 rfl ?_
      exact zAn_f (by omega)
    · refine zw_iload_n 16 dX5_where_15 rfl rfl ?_
      refine zw_iconst 17 dX5_where_16 rfl ?_
      refine zw_bipush 19 dX5_where_17 rfl (by decide) ?_
      refine zw_callS 22 _ _ dX5_where_19 rfl kX5_85 qX5_within (sp_X5_within (d := d - 1) (by omega) (by omega) (by omega)) (by omega) rfl rfl (Nat.le_of_ble_eq_true rfl) (fun r σ' hq => ?_)
      obtain ⟨rfl, rfl⟩ := hq
      refine zw_if_ne 32 25 dX5_where_22 (by decide) rfl (by omega) (fun h22 => ?_) (fun h22 => ?_)
      · refine zw_iconst 33 dX5_where_32 rfl ?_
        refine zw_istore 35 dX5_where_33 rfl (by decide) ?_
        refine zw_iconst 36 dX5_where_35 rfl ?_
        refine zw_istore 38 dX5_where_36 rfl (by decide) ?_
        refine zw_mono (lp_X5_where hC hV (by omega) (c := c) (t := t) (x := x) (by omega) (by omega) (by omega) (N 33).toNat 0 0 (by omega) (by omega) rfl) (fun a σ2 hq => ?_)
        obtain ⟨rfl, rfl⟩ := hq
        exact zAn_t (by omega) rfl (zNS_refl _)
      · refine zw_aload_n 26 dX5_where_25 rfl rfl ?_
        refine zw_bipush 28 dX5_where_26 rfl (by decide) ?_
        refine zw_callV 31 _ _ dX5_where_28 rfl kX5_89 qX5_refuse ly1 ⟨_, rfl, rfl⟩ (by decide) (sp_X5_refuse_2 (d := d - 1)) (by omega) rfl rfl (Nat.le_of_ble_eq_true rfl) (fun r σ' hq => ?_)
        obtain ⟨rfl, rfl⟩ := hq
        refine zw_iret dX5_where_31 rfl ?_
        exact zAn_f (by omega)
theorem lp_X5_blur {l : Launch} {d : Nat} {σ : zMem} (hd : 3 ≤ d) {N : zR} (hC : zCh σ 2 N) (hV : zVN N) {s c n w W : Int} (hsn : 0 ≤ s ∧ s < N 33) (hw : 0 ≤ w ∧ w ≤ 2) (hW : 0 ≤ W ∧ W ≤ 1000) : ∀ (m k : Nat), k + m = 41 → zw l d mX5_blur 80 [some (.ref 1), some (.int (zI s)), some (.int (zI c)), some (.int (zI n)), some (.int (zI w)), some (.int (zI W)), some (.int (zI ((zct (zbf W (N (25 + s))) k)))), some (.int (zI ((zls (zbf W (N (25 + s))) k)))), some (.int (zI ((zgs (zbf W (N (25 + s))) k)))), some (.int (zI ((k : Int))))] [] σ (zRi (zbv W (N (25 + s)) w) σ) := by
  have hs := hV.1
  have hv := hV.2.1
  have hy := hV.2.2.1
  have hB := zVN_bd hV
  have gN := hs.1
  have gC := hs.2.1
  have c0 : σ 2 0 = N 33 := hC.1.1.1
  have c1 : σ 2 1 = N 48 := hC.1.1.2.1
  have c2 : ∀ s, 0 ≤ s → s < N 33 → σ 3 s = N (34 + s) ∧ σ 4 s = N (41 + s) := hC.1.1.2.2.1
  have c3 : ∀ c, 0 ≤ c → c < N 48 → σ 5 c = N (49 + c) ∧ σ 6 c = N (54 + c) ∧ σ 7 c = zhv (N (49 + c)) (N (54 + c)) := hC.1.1.2.2.2
  have c4 : zSc σ 8 N := hC.1.2.1
  have c41 : ∀ c, 0 ≤ c → c < 5 → σ 9 c = N c := c4.1
  have c42 : ∀ i, 0 ≤ i → i < 20 → σ 10 i = N (5 + i) := c4.2.1
  have c43 : ∀ s, 0 ≤ s → s < 7 → σ 11 s = N (25 + s) := c4.2.2.1
  have c44 : σ 8 0 = N 32 := c4.2.2.2
  have c5 : zRo σ 13 3 59 N := hC.1.2.2.1
  have c6 : zRo σ 15 5 78 N := hC.1.2.2.2.1
  have c7 : zRo σ 17 4 109 N := hC.1.2.2.2.2
  have c8 : σ 2 2 = N 134 := hC.2.1
  have hb5 : ∀ c, 0 ≤ c → c < 5 → -1 ≤ N c ∧ N c < 1000 := fun c h0 h1 => by have := hv.1 c h0 h1; omega
  have k3 := c43 s hsn.1 (by omega)
  have gd := hv.2.2.1 s (by omega) (by omega)
  intro m
  induction m with
  | zero =>
    intro k hk
    obtain rfl : k = 41 := by omega
    unfold zbv
    refine zw_iload 82 dX5_blur_80 rfl rfl ?_
    refine zw_bipush 84 dX5_blur_82 rfl (by decide) ?_
    refine zw_icmp_gt 139 87 dX5_blur_84 (by decide) rfl (by omega) (by omega) (fun h84 => ?_) (fun h84 => ?_)
    · refine zw_iload 141 dX5_blur_139 rfl rfl ?_
      refine zw_if_ne 149 144 dX5_blur_141 (by decide) rfl (by omega) (fun h141 => ?_) (fun h141 => ?_)
      · refine zw_iload 151 dX5_blur_149 rfl rfl ?_
        refine zw_iconst 152 dX5_blur_151 rfl ?_
        refine zw_icmp_ne 160 155 dX5_blur_152 (by decide) rfl (by omega) (by omega) (fun h152 => ?_) (fun h152 => ?_)
        · refine zw_iload 162 dX5_blur_160 rfl rfl ?_
          refine zw_iret dX5_blur_162 rfl ?_
          first
            | (rw [if_pos (by omega)]; exact ⟨rfl, rfl⟩)
            | (rw [if_neg (by omega), if_pos (by omega)]; exact ⟨rfl, rfl⟩)
            | (rw [if_neg (by omega), if_neg (by omega)]; exact ⟨rfl, rfl⟩)
        · refine zw_iload 157 dX5_blur_155 rfl rfl ?_
          refine zw_goto 162 dX5_blur_157 (by decide) ?_
          refine zw_iret dX5_blur_162 rfl ?_
          first
            | (rw [if_pos (by omega)]; exact ⟨rfl, rfl⟩)
            | (rw [if_neg (by omega), if_pos (by omega)]; exact ⟨rfl, rfl⟩)
            | (rw [if_neg (by omega), if_neg (by omega)]; exact ⟨rfl, rfl⟩)
      · refine zw_iload 146 dX5_blur_144 rfl rfl ?_
        refine zw_goto 162 dX5_blur_146 (by decide) ?_
        refine zw_iret dX5_blur_162 rfl ?_
        first
          | (rw [if_pos (by omega)]; exact ⟨rfl, rfl⟩)
          | (rw [if_neg (by omega), if_pos (by omega)]; exact ⟨rfl, rfl⟩)
          | (rw [if_neg (by omega), if_neg (by omega)]; exact ⟨rfl, rfl⟩)
    · exfalso; omega
  | succ m ih =>
    intro k hk
    have ih2 := ih (k + 1) (by omega)
    have bl : -1 ≤ zls (zbf W (N (25 + s))) k ∧ zls (zbf W (N (25 + s))) k ≤ k := by
      have key : ∀ j : Nat, -1 ≤ zls (zbf W (N (25 + s))) j ∧ zls (zbf W (N (25 + s))) j ≤ j := by
        intro j
        induction j with
        | zero => exact ⟨Int.le_refl _, by show (-1 : Int) ≤ 0; decide⟩
        | succ j ihj =>
          unfold zls
          split <;> omega
      exact key k
    rw [show (((k + 1 : Nat) : Int)) = (k : Int) + 1 by omega, show zct (zbf W (N (25 + s))) (k + 1) = zct (zbf W (N (25 + s))) k + zbf W (N (25 + s)) k from rfl, show zls (zbf W (N (25 + s))) (k + 1) = if zbf W (N (25 + s)) k = 1 ∧ zls (zbf W (N (25 + s))) k = -1 then (k : Int) else zls (zbf W (N (25 + s))) k from rfl, show zgs (zbf W (N (25 + s))) (k + 1) = if zbf W (N (25 + s)) k = 1 then (k : Int) else zgs (zbf W (N (25 + s))) k from rfl] at ih2
    have eb : zbf W (N (25 + s)) k = if max ((k : Int) - W) 0 = N (25 + s) then 1 else 0 := rfl
    refine zw_iload 82 dX5_blur_80 rfl rfl ?_
    refine zw_bipush 84 dX5_blur_82 rfl (by decide) ?_
    refine zw_icmp_gt 139 87 dX5_blur_84 (by decide) rfl (by omega) (by omega) (fun h84 => ?_) (fun h84 => ?_)
    · exfalso; omega
    · refine zw_iload 89 dX5_blur_87 rfl rfl ?_
      refine zw_iload 91 dX5_blur_89 rfl rfl ?_
      refine zw_isub 92 dX5_blur_91 rfl ?_
      refine zw_iconst 93 dX5_blur_92 rfl ?_
      refine zw_mmax 96 dX5_blur_93 rfl xX5_246 (by omega) (by omega) rfl (by omega) ?_
      refine zw_aload_n 97 dX5_blur_96 rfl rfl ?_
      refine zw_getr 100 (2) (o := 1) dX5_blur_97 rfl fX5_10 (by decide) rfl rfl ly1 ?_
      refine zw_getr 103 (8) (o := 6) dX5_blur_100 rfl fX5_131 (by decide) rfl rfl ly2 ?_
      refine zw_getr 106 (11) (o := 3) dX5_blur_103 rfl fX5_174 (by decide) rfl rfl ly8 ?_
      refine zw_iload_n 107 dX5_blur_106 rfl rfl ?_
      refine zw_iald 108 dX5_blur_107 rfl ly11 (by omega) ?_
      rw [k3]
      refine zw_icmp_ne 133 111 dX5_blur_108 (by decide) rfl (by omega) (by omega) (fun h108 => ?_) (fun h108 => ?_)
      · refine zw_iinc 136 dX5_blur_133 rfl (by decide) rfl ?_
        refine zw_goto 80 dX5_blur_136 (by decide) ?_
        refine zw_loc [true, true, true, true, true, true, true, true, true, true] rfl ?_
        first
          | (rw [if_neg (show ¬ max ((k : Int) - W) 0 = N (25 + s) by omega)] at eb
             rw [eb, if_neg (by omega), if_neg (by omega), Int.add_zero] at ih2
             exact ih2)
          | (rw [if_pos (show max ((k : Int) - W) 0 = N (25 + s) by omega)] at eb
             rw [eb, if_pos (show (1 : Int) = 1 from rfl)] at ih2
             first
             | (rw [if_pos (show (1 : Int) = 1 ∧ zls (zbf W (N (25 + s))) k = -1 from ⟨rfl, by omega⟩)] at ih2; exact ih2)
             | (rw [if_neg (show ¬ ((1 : Int) = 1 ∧ zls (zbf W (N (25 + s))) k = -1) by omega)] at ih2; exact ih2))
      · refine zw_iinc 114 dX5_blur_111 rfl (by decide) rfl ?_
        refine zw_iload 116 dX5_blur_114 rfl rfl ?_
        refine zw_iconst 117 dX5_blur_116 rfl ?_
        refine zw_icmp_ne 125 120 dX5_blur_117 (by decide) rfl (by omega) (by omega) (fun h117 => ?_) (fun h117 => ?_)
        · refine zw_iload 127 dX5_blur_125 rfl rfl ?_
          refine zw_istore 129 dX5_blur_127 rfl (by decide) ?_
          refine zw_iload 131 dX5_blur_129 rfl rfl ?_
          refine zw_istore 133 dX5_blur_131 rfl (by decide) ?_
          refine zw_iinc 136 dX5_blur_133 rfl (by decide) rfl ?_
          refine zw_goto 80 dX5_blur_136 (by decide) ?_
          refine zw_loc [true, true, true, true, true, true, true, true, true, true] rfl ?_
          first
            | (rw [if_neg (show ¬ max ((k : Int) - W) 0 = N (25 + s) by omega)] at eb
               rw [eb, if_neg (by omega), if_neg (by omega), Int.add_zero] at ih2
               exact ih2)
            | (rw [if_pos (show max ((k : Int) - W) 0 = N (25 + s) by omega)] at eb
               rw [eb, if_pos (show (1 : Int) = 1 from rfl)] at ih2
               first
               | (rw [if_pos (show (1 : Int) = 1 ∧ zls (zbf W (N (25 + s))) k = -1 from ⟨rfl, by omega⟩)] at ih2; exact ih2)
               | (rw [if_neg (show ¬ ((1 : Int) = 1 ∧ zls (zbf W (N (25 + s))) k = -1) by omega)] at ih2; exact ih2))
        · refine zw_iload 122 dX5_blur_120 rfl rfl ?_
          refine zw_goto 127 dX5_blur_122 (by decide) ?_
          refine zw_istore 129 dX5_blur_127 rfl (by decide) ?_
          refine zw_iload 131 dX5_blur_129 rfl rfl ?_
          refine zw_istore 133 dX5_blur_131 rfl (by decide) ?_
          refine zw_iinc 136 dX5_blur_133 rfl (by decide) rfl ?_
          refine zw_goto 80 dX5_blur_136 (by decide) ?_
          refine zw_loc [true, true, true, true, true, true, true, true, true, true] rfl ?_
          first
            | (rw [if_neg (show ¬ max ((k : Int) - W) 0 = N (25 + s) by omega)] at eb
               rw [eb, if_neg (by omega), if_neg (by omega), Int.add_zero] at ih2
               exact ih2)
            | (rw [if_pos (show max ((k : Int) - W) 0 = N (25 + s) by omega)] at eb
               rw [eb, if_pos (show (1 : Int) = 1 from rfl)] at ih2
               first
               | (rw [if_pos (show (1 : Int) = 1 ∧ zls (zbf W (N (25 + s))) k = -1 from ⟨rfl, by omega⟩)] at ih2; exact ih2)
               | (rw [if_neg (show ¬ ((1 : Int) = 1 ∧ zls (zbf W (N (25 + s))) k = -1) by omega)] at ih2; exact ih2))
theorem sp_X5_blur {l : Launch} {d : Nat} {σ : zMem} (hd : 8 ≤ d) {N : zR} (hC : zCh σ 2 N) (hV : zVN N) {s c n w : Int} (hs : -2147483648 ≤ s ∧ s < 2147483648) (hc : -2147483648 ≤ c ∧ c < 2147483648) (hn : -2147483648 ≤ n ∧ n < 2147483648) (hw : -2147483648 ≤ w ∧ w < 2147483648)  : zSp l d mX5_blur [.ref 1, .int (zI s), .int (zI c), .int (zI n), .int (zI w)] σ (zAn 118 ((0 ≤ s ∧ s ≤ N 33 - 1) ∧ (0 ≤ c ∧ c ≤ N 48 - 1) ∧ (0 ≤ n ∧ n ≤ 20) ∧ 0 ≤ w ∧ w ≤ 2) (zbv (n * zww N c s) (N (25 + s)) w) 0 (-2) σ) := by
  refine zSp_of oX5_blur (Nat.le_of_ble_eq_true rfl) ?_
  show zw l d mX5_blur 0 [some (.ref 1), some (.int (zI s)), some (.int (zI c)), some (.int (zI n)), some (.int (zI w)), none, none, none, none, none] [] σ _
  have hs := hV.1
  have hv := hV.2.1
  have hy := hV.2.2.1
  have hB := zVN_bd hV
  have gN := hs.1
  have gC := hs.2.1
  have c0 : σ 2 0 = N 33 := hC.1.1.1
  have c1 : σ 2 1 = N 48 := hC.1.1.2.1
  have c2 : ∀ s, 0 ≤ s → s < N 33 → σ 3 s = N (34 + s) ∧ σ 4 s = N (41 + s) := hC.1.1.2.2.1
  have c3 : ∀ c, 0 ≤ c → c < N 48 → σ 5 c = N (49 + c) ∧ σ 6 c = N (54 + c) ∧ σ 7 c = zhv (N (49 + c)) (N (54 + c)) := hC.1.1.2.2.2
  have c4 : zSc σ 8 N := hC.1.2.1
  have c41 : ∀ c, 0 ≤ c → c < 5 → σ 9 c = N c := c4.1
  have c42 : ∀ i, 0 ≤ i → i < 20 → σ 10 i = N (5 + i) := c4.2.1
  have c43 : ∀ s, 0 ≤ s → s < 7 → σ 11 s = N (25 + s) := c4.2.2.1
  have c44 : σ 8 0 = N 32 := c4.2.2.2
  have c5 : zRo σ 13 3 59 N := hC.1.2.2.1
  have c6 : zRo σ 15 5 78 N := hC.1.2.2.2.1
  have c7 : zRo σ 17 4 109 N := hC.1.2.2.2.2
  have c8 : σ 2 2 = N 134 := hC.2.1
  have hb5 : ∀ c, 0 ≤ c → c < 5 → -1 ≤ N c ∧ N c < 1000 := fun c h0 h1 => by have := hv.1 c h0 h1; omega
  refine zw_aload_n 1 dX5_blur_0 rfl rfl ?_
  refine zw_iload_n 2 dX5_blur_1 rfl rfl ?_
  refine zw_callV 5 _ _ dX5_blur_2 rfl kX5_165 qX5_isSeat ly1 ⟨_, rfl, rfl⟩ (by decide) (sp_X5_isSeat (d := d - 1) (by omega) hC.1.1 (by omega) (by omega)) (by omega) rfl rfl (Nat.le_of_ble_eq_true rfl) (fun r σ' hq => ?_)
  obtain ⟨rfl, rfl⟩ := hq
  refine zw_if_eq 36 8 dX5_blur_5 (by decide) rfl (by omega) (fun h5 => ?_) (fun h5 => ?_)
  · refine zw_aload_n 37 dX5_blur_36 rfl rfl ?_
    refine zw_bipush 39 dX5_blur_37 rfl (by decide) ?_
    refine zw_callV 42 _ _ dX5_blur_39 rfl kX5_89 qX5_refuse ly1 ⟨_, rfl, rfl⟩ (by decide) (sp_X5_refuse_2 (d := d - 1)) (by omega) rfl rfl (Nat.le_of_ble_eq_true rfl) (fun r σ' hq => ?_)
    obtain ⟨rfl, rfl⟩ := hq
    refine zw_iret dX5_blur_42 rfl ?_
    exact zAn_f (by omega)
  · refine zw_aload_n 9 dX5_blur_8 rfl rfl ?_
    refine zw_iload_n 10 dX5_blur_9 rfl rfl ?_
    refine zw_callV 13 _ _ dX5_blur_10 rfl kX5_122 qX5_isCanon ly1 ⟨_, rfl, rfl⟩ (by decide) (sp_X5_isCanon (d := d - 1) (by omega) hC.1.1 (by omega) (by omega)) (by omega) rfl rfl (Nat.le_of_ble_eq_true rfl) (fun r σ' hq => ?_)
    obtain ⟨rfl, rfl⟩ := hq
    refine zw_if_eq 36 16 dX5_blur_13 (by decide) rfl (by omega) (fun h13 => ?_) (fun h13 => ?_)
    · refine zw_aload_n 37 dX5_blur_36 rfl rfl ?_
      refine zw_bipush 39 dX5_blur_37 rfl (by decide) ?_
      refine zw_callV 42 _ _ dX5_blur_39 rfl kX5_89 qX5_refuse ly1 ⟨_, rfl, rfl⟩ (by decide) (sp_X5_refuse_2 (d := d - 1)) (by omega) rfl rfl (Nat.le_of_ble_eq_true rfl) (fun r σ' hq => ?_)
      obtain ⟨rfl, rfl⟩ := hq
      refine zw_iret dX5_blur_42 rfl ?_
      exact zAn_f (by omega)
    · refine zw_iload_n 17 dX5_blur_16 rfl rfl ?_
      refine zw_iconst 18 dX5_blur_17 rfl ?_
      refine zw_bipush 20 dX5_blur_18 rfl (by decide) ?_
      refine zw_callS 23 _ _ dX5_blur_20 rfl kX5_85 qX5_within (sp_X5_within (d := d - 1) (by omega) (by omega) (by omega)) (by omega) rfl rfl (Nat.le_of_ble_eq_true rfl) (fun r σ' hq => ?_)
      obtain ⟨rfl, rfl⟩ := hq
      refine zw_if_eq 36 26 dX5_blur_23 (by decide) rfl (by omega) (fun h23 => ?_) (fun h23 => ?_)
      · refine zw_aload_n 37 dX5_blur_36 rfl rfl ?_
        refine zw_bipush 39 dX5_blur_37 rfl (by decide) ?_
        refine zw_callV 42 _ _ dX5_blur_39 rfl kX5_89 qX5_refuse ly1 ⟨_, rfl, rfl⟩ (by decide) (sp_X5_refuse_2 (d := d - 1)) (by omega) rfl rfl (Nat.le_of_ble_eq_true rfl) (fun r σ' hq => ?_)
        obtain ⟨rfl, rfl⟩ := hq
        refine zw_iret dX5_blur_42 rfl ?_
        exact zAn_f (by omega)
      · refine zw_iload 28 dX5_blur_26 rfl rfl ?_
        refine zw_iconst 29 dX5_blur_28 rfl ?_
        refine zw_iconst 30 dX5_blur_29 rfl ?_
        refine zw_callS 33 _ _ dX5_blur_30 rfl kX5_85 qX5_within (sp_X5_within (d := d - 1) (by omega) (by omega) (by omega)) (by omega) rfl rfl (Nat.le_of_ble_eq_true rfl) (fun r σ' hq => ?_)
        obtain ⟨rfl, rfl⟩ := hq
        refine zw_if_ne 43 36 dX5_blur_33 (by decide) rfl (by omega) (fun h33 => ?_) (fun h33 => ?_)
        · have k1 := c2 s (by omega) (by omega)
          have k2 := c3 c (by omega) (by omega)
          have g5 := hs.c (c := c) (by omega) (by omega)
          have g4 := hs.s (s := s) (by omega) (by omega)
          have g7 := zhv_b (k := N (49 + c)) g5.2
          have g8 := zww_b hs s (c := c) (by omega)
          have g9 : 0 ≤ n * zww N c s ∧ n * zww N c s ≤ 1000 := ⟨Int.mul_nonneg (by omega) g8.1, Int.le_trans (Int.mul_le_mul (show n ≤ 20 by omega) g8.2 g8.1 (by omega)) (by omega)⟩
          refine zw_iload_n 44 dX5_blur_43 rfl rfl ?_
          refine zw_aload_n 45 dX5_blur_44 rfl rfl ?_
          refine zw_getr 48 (2) (o := 1) dX5_blur_45 rfl fX5_10 (by decide) rfl rfl ly1 ?_
          refine zw_getr 51 (3) (o := 1) dX5_blur_48 rfl fX5_168 (by decide) rfl rfl ly2 ?_
          refine zw_iload_n 52 dX5_blur_51 rfl rfl ?_
          refine zw_iald 53 dX5_blur_52 rfl ly3 (by omega) ?_
          rw [k1.1]
          refine zw_aload_n 54 dX5_blur_53 rfl rfl ?_
          refine zw_getr 57 (2) (o := 1) dX5_blur_54 rfl fX5_10 (by decide) rfl rfl ly1 ?_
          refine zw_getr 60 (7) (o := 5) dX5_blur_57 rfl fX5_189 (by decide) rfl rfl ly2 ?_
          refine zw_iload_n 61 dX5_blur_60 rfl rfl ?_
          refine zw_iald 62 dX5_blur_61 rfl ly7 (by omega) ?_
          rw [k2.2.2]
          refine zw_callS 65 _ _ dX5_blur_62 rfl kX5_243 qX5_worn (sp_X5_worn (d := d - 1) (k := N (34 + s)) (w := zhv (N (49 + c)) (N (54 + c))) (by omega) (by omega)) (by omega) rfl rfl (Nat.le_of_ble_eq_true rfl) (fun r σ' hq => ?_)
          obtain ⟨rfl, rfl⟩ := hq
          rw [show zwn (N (34 + s)) (zhv (N (49 + c)) (N (54 + c))) = zww N c s from rfl]
          refine zw_imul 66 dX5_blur_65 rfl ?_
          refine zw_istore 68 dX5_blur_66 rfl (by decide) ?_
          refine zw_iconst 69 dX5_blur_68 rfl ?_
          refine zw_istore 71 dX5_blur_69 rfl (by decide) ?_
          refine zw_iconst 72 dX5_blur_71 rfl ?_
          refine zw_istore 74 dX5_blur_72 rfl (by decide) ?_
          refine zw_iconst 75 dX5_blur_74 rfl ?_
          refine zw_istore 77 dX5_blur_75 rfl (by decide) ?_
          refine zw_iconst 78 dX5_blur_77 rfl ?_
          refine zw_istore 80 dX5_blur_78 rfl (by decide) ?_
          refine zw_mono (lp_X5_blur (by omega) hC hV (s := s) (c := c) (n := n) (w := w) (W := n * zww N c s) (by omega) (by omega) g9 41 0 (by omega)) (fun a σ2 hq => ?_)
          obtain ⟨rfl, rfl⟩ := hq
          exact zAn_t (by omega) rfl (zNS_refl _)
        · refine zw_aload_n 37 dX5_blur_36 rfl rfl ?_
          refine zw_bipush 39 dX5_blur_37 rfl (by decide) ?_
          refine zw_callV 42 _ _ dX5_blur_39 rfl kX5_89 qX5_refuse ly1 ⟨_, rfl, rfl⟩ (by decide) (sp_X5_refuse_2 (d := d - 1)) (by omega) rfl rfl (Nat.le_of_ble_eq_true rfl) (fun r σ' hq => ?_)
          obtain ⟨rfl, rfl⟩ := hq
          refine zw_iret dX5_blur_42 rfl ?_
          exact zAn_f (by omega)
