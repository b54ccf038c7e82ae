theorem zbi_5 {N : zR} (hs : zVs N) (hv : zVr N N) : zbi (zwsf N) 5 = zbi (zwsf N) (N 48).toNat := by
  have h48 := hs.2.1
  have key : ∀ k : Nat, (N 48).toNat ≤ k → k ≤ 5 → zbi (zwsf N) k = zbi (zwsf N) (N 48).toNat := by
    intro k
    induction k with
    | zero => intro h _; rw [show (N 48).toNat = 0 by omega]
    | succ k ih =>
      intro h h5
      by_cases q : (N 48).toNat = k + 1
      · rw [q]
      · have z := (hv.2.2.2.2 k (by omega) (by omega) (by omega)).1
        have e : zwsf N k = 0 := by unfold zwsf; rw [if_pos z]
        rw [← ih (by omega) (by omega)]
        show zbi (zwsf N) k + zwsf N k * 2 ^ k = zbi (zwsf N) k
        rw [e]; omega
  exact key 5 (by omega) (by omega)
theorem lp_X5_sum {l : Launch} {d : Nat} {σ : zMem} {r n : Nat} (hr : zly r = some (100, n)) (hn : n < 1000) : ∀ (m k : Nat), k + m = n → zw l d mX5_sum 10 [some (.ref r), some (.int (zI ((zct (σ r) k)))), some (.ref r), some (.int (zI ((n : Int)))), some (.int (zI ((k : Int)))), none] [] σ (zRi (zct (σ r) n) σ) := by
  intro m
  induction m with
  | zero =>
    intro k hk
    obtain rfl : k = n := by omega
    refine zw_iload 12 dX5_sum_10 rfl rfl ?_
    refine zw_iload_n 13 dX5_sum_12 rfl rfl ?_
    refine zw_icmp_ge 33 16 dX5_sum_13 (by decide) rfl (by omega) (by omega) (fun h13 => ?_) (fun h13 => ?_)
    · refine zw_iload_n 34 dX5_sum_33 rfl rfl ?_
      refine zw_iret dX5_sum_34 rfl ?_
      exact ⟨rfl, rfl⟩
    · exfalso; omega
  | succ m ih =>
    intro k hk
    have ih2 := ih (k + 1) (by omega)
    rw [show (((k + 1 : Nat) : Int)) = (k : Int) + 1 by omega, show zct (σ r) (k + 1) = zct (σ r) k + σ r k from rfl] at ih2
    refine zw_iload 12 dX5_sum_10 rfl rfl ?_
    refine zw_iload_n 13 dX5_sum_12 rfl rfl ?_
    refine zw_icmp_ge 33 16 dX5_sum_13 (by decide) rfl (by omega) (by omega) (fun h13 => ?_) (fun h13 => ?_)
    · exfalso; omega
    · refine zw_aload_n 17 dX5_sum_16 rfl rfl ?_
      refine zw_iload 19 dX5_sum_17 rfl rfl ?_
      refine zw_iald 20 dX5_sum_19 rfl hr (by omega) ?_
      refine zw_istore 22 dX5_sum_20 rfl (by decide) ?_
      refine zw_iload_n 23 dX5_sum_22 rfl rfl ?_
      refine zw_iload 25 dX5_sum_23 rfl rfl ?_
      refine zw_iadd 26 dX5_sum_25 rfl ?_
      refine zw_istore_n 27 dX5_sum_26 rfl (by decide) ?_
      refine zw_iinc 30 dX5_sum_27 rfl (by decide) rfl ?_
      refine zw_goto 10 dX5_sum_30 (by decide) ?_
      refine zw_loc [true, true, true, true, true, false] rfl ?_
      exact ih2
theorem sp_X5_sum {l : Launch} {d : Nat} {σ : zMem} {r n : Nat} (hr : zly r = some (100, n)) (hn : n < 1000)  : zSp l d mX5_sum [.ref r] σ (zRi (zct (σ r) n) σ) := by
  refine zSp_of oX5_sum (Nat.le_of_ble_eq_true rfl) ?_
  show zw l d mX5_sum 0 [some (.ref r), none, none, none, none, none] [] σ _
  refine zw_iconst 1 dX5_sum_0 rfl ?_
  refine zw_istore_n 2 dX5_sum_1 rfl (by decide) ?_
  refine zw_aload_n 3 dX5_sum_2 rfl rfl ?_
  refine zw_astore_n 4 dX5_sum_3 rfl (by decide) ?_
  refine zw_aload_n 5 dX5_sum_4 rfl rfl ?_
  refine zw_alen 6 dX5_sum_5 rfl hr ?_
  refine zw_istore_n 7 dX5_sum_6 rfl (by decide) ?_
  refine zw_iconst 8 dX5_sum_7 rfl ?_
  refine zw_istore 10 dX5_sum_8 rfl (by decide) ?_
  exact lp_X5_sum hr hn n 0 (by omega)
theorem sp_X5_howMany {l : Launch} {d : Nat} {σ : zMem} (hd : 3 ≤ d) {N : zR} (hC : zCh σ 2 N) (hV : zVN N) {w : Int} (hw : 0 ≤ w ∧ w ≤ 10)  : zSp l d mX5_howMany [.ref 1, .int (zI w)] σ (zRi (zcnt N (σ 106 1) w) σ) := by
  refine zSp_of oX5_howMany (Nat.le_of_ble_eq_true rfl) ?_
  show zw l d mX5_howMany 0 [some (.ref 1), some (.int (zI w))] [] σ _
  have hs := hV.1
  have hv := hV.2.1
  have hy := hV.2.2.1
  have hB := zVN_bd hV
  have gN := hs.1
  have gC := hs.2.1
  have c0 : σ 2 0 = N 33 := hC.1.1.1
  have c1 : σ 2 1 = N 48 := hC.1.1.2.1
  have c2 : ∀ s, 0 ≤ s → s < N 33 → σ 3 s = N (34 + s) ∧ σ 4 s = N (41 + s) := hC.1.1.2.2.1
  have c3 : ∀ c, 0 ≤ c → c < N 48 → σ 5 c = N (49 + c) ∧ σ 6 c = N (54 + c) ∧ σ 7 c = zhv (N (49 + c)) (N (54 + c)) := hC.1.1.2.2.2
  have c4 : zSc σ 8 N := hC.1.2.1
  have c41 : ∀ c, 0 ≤ c → c < 5 → σ 9 c = N c := c4.1
  have c42 : ∀ i, 0 ≤ i → i < 20 → σ 10 i = N (5 + i) := c4.2.1
  have c43 : ∀ s, 0 ≤ s → s < 7 → σ 11 s = N (25 + s) := c4.2.2.1
  have c44 : σ 8 0 = N 32 := c4.2.2.2
  have c5 : zRo σ 13 3 59 N := hC.1.2.2.1
  have c6 : zRo σ 15 5 78 N := hC.1.2.2.2.1
  have c7 : zRo σ 17 4 109 N := hC.1.2.2.2.2
  have c8 : σ 2 2 = N 134 := hC.2.1
  have hb5 : ∀ c, 0 ≤ c → c < 5 → -1 ≤ N c ∧ N c < 1000 := fun c h0 h1 => by have := hv.1 c h0 h1; omega
  have e4 : zct (σ 11) 7 = zct (fun i => N (25 + i)) 7 := zct_congr 7 (fun i i0 i1 => c43 i i0 i1)
  have e5 : zct (σ 10) 20 = zct (fun i => N (5 + i)) 20 := zct_congr 20 (fun i i0 i1 => c42 i i0 i1)
  have e3 := zbi_5 hs hv
  refine zw_iload_n 1 dX5_howMany_0 rfl rfl ?_
  refine zw_sw 163 dX5_howMany_1 (by decide) (by omega) (fun h1 => ?_) (fun vh1 lh1 uh1 h1 => ?_)
  · refine zw_aload_n 164 dX5_howMany_163 rfl rfl ?_
    refine zw_getr 167 (106) (o := 105) dX5_howMany_164 rfl fX5_37 (by decide) rfl rfl ly1 ?_
    refine zw_gti 170 1 dX5_howMany_167 rfl fX5_104 (by decide) rfl rfl ly106 ?_
    refine zw_iret dX5_howMany_170 rfl ?_
    exact zRi_of (by unfold zcnt; first | (subst h1; first | rfl | exact e3) | omega)
  · obtain rfl | rfl | rfl | rfl | rfl | rfl | rfl | rfl | rfl | rfl : vh1 = 0 ∨ vh1 = 1 ∨ vh1 = 2 ∨ vh1 = 3 ∨ vh1 = 4 ∨ vh1 = 5 ∨ vh1 = 6 ∨ vh1 = 7 ∨ vh1 = 8 ∨ vh1 = 9 := by omega
    · refine ⟨56, _, rfl, by decide, ?_⟩
      refine zw_aload_n 57 dX5_howMany_56 rfl rfl ?_
      refine zw_getr 60 (2) (o := 1) dX5_howMany_57 rfl fX5_10 (by decide) rfl rfl ly1 ?_
      refine zw_gti 63 0 dX5_howMany_60 rfl fX5_93 (by decide) rfl rfl ly2 ?_
      rw [c0]
      refine zw_iret dX5_howMany_63 rfl ?_
      exact zRi_of (by unfold zcnt; first | (subst h1; first | rfl | exact e3) | omega)
    · refine ⟨64, _, rfl, by decide, ?_⟩
      refine zw_aload_n 65 dX5_howMany_64 rfl rfl ?_
      refine zw_getr 68 (2) (o := 1) dX5_howMany_65 rfl fX5_10 (by decide) rfl rfl ly1 ?_
      refine zw_gti 71 1 dX5_howMany_68 rfl fX5_71 (by decide) rfl rfl ly2 ?_
      rw [c1]
      refine zw_iret dX5_howMany_71 rfl ?_
      exact zRi_of (by unfold zcnt; first | (subst h1; first | rfl | exact e3) | omega)
    · refine ⟨72, _, rfl, by decide, ?_⟩
      refine zw_aload_n 73 dX5_howMany_72 rfl rfl ?_
      refine zw_getr 76 (2) (o := 1) dX5_howMany_73 rfl fX5_10 (by decide) rfl rfl ly1 ?_
      refine zw_getr 79 (8) (o := 6) dX5_howMany_76 rfl fX5_131 (by decide) rfl rfl ly2 ?_
      refine zw_gti 82 0 dX5_howMany_79 rfl fX5_162 (by decide) rfl rfl ly8 ?_
      rw [c44]
      refine zw_iret dX5_howMany_82 rfl ?_
      exact zRi_of (by unfold zcnt; first | (subst h1; first | rfl | exact e3) | omega)
    · refine ⟨83, _, rfl, by decide, ?_⟩
      refine zw_aload_n 84 dX5_howMany_83 rfl rfl ?_
      refine zw_getr 87 (2) (o := 1) dX5_howMany_84 rfl fX5_10 (by decide) rfl rfl ly1 ?_
      refine zw_getr 90 (8) (o := 6) dX5_howMany_87 rfl fX5_131 (by decide) rfl rfl ly2 ?_
      refine zw_callV 93 _ _ dX5_howMany_90 rfl kX5_327 qX2_whoSit ly8 ⟨_, rfl, rfl⟩ (by decide) (sp_X2_whoSit (d := d - 1) ly8 c4 hb5) (by omega) rfl rfl (Nat.le_of_ble_eq_true rfl) (fun r σ' hq => ?_)
      obtain ⟨rfl, rfl⟩ := hq
      refine zw_iret dX5_howMany_93 rfl ?_
      exact zRi_of (by unfold zcnt; first | (subst h1; first | rfl | exact e3) | omega)
    · refine ⟨94, _, rfl, by decide, ?_⟩
      refine zw_aload_n 95 dX5_howMany_94 rfl rfl ?_
      refine zw_getr 98 (2) (o := 1) dX5_howMany_95 rfl fX5_10 (by decide) rfl rfl ly1 ?_
      refine zw_getr 101 (8) (o := 6) dX5_howMany_98 rfl fX5_131 (by decide) rfl rfl ly2 ?_
      refine zw_getr 104 (11) (o := 3) dX5_howMany_101 rfl fX5_174 (by decide) rfl rfl ly8 ?_
      refine zw_callS 107 _ _ dX5_howMany_104 rfl kX5_330 qX5_sum (sp_X5_sum (d := d - 1) (n := 7) ly11 (by decide)) (by omega) rfl rfl (Nat.le_of_ble_eq_true rfl) (fun r σ' hq => ?_)
      obtain ⟨rfl, rfl⟩ := hq
      rw [e4]
      refine zw_iret dX5_howMany_107 rfl ?_
      exact zRi_of (by unfold zcnt; first | (subst h1; first | rfl | exact e3) | omega)
    · refine ⟨108, _, rfl, by decide, ?_⟩
      refine zw_aload_n 109 dX5_howMany_108 rfl rfl ?_
      refine zw_getr 112 (2) (o := 1) dX5_howMany_109 rfl fX5_10 (by decide) rfl rfl ly1 ?_
      refine zw_getr 115 (8) (o := 6) dX5_howMany_112 rfl fX5_131 (by decide) rfl rfl ly2 ?_
      refine zw_getr 118 (10) (o := 2) dX5_howMany_115 rfl fX5_334 (by decide) rfl rfl ly8 ?_
      refine zw_callS 121 _ _ dX5_howMany_118 rfl kX5_330 qX5_sum (sp_X5_sum (d := d - 1) (n := 20) ly10 (by decide)) (by omega) rfl rfl (Nat.le_of_ble_eq_true rfl) (fun r σ' hq => ?_)
      obtain ⟨rfl, rfl⟩ := hq
      rw [e5]
      refine zw_iret dX5_howMany_121 rfl ?_
      exact zRi_of (by unfold zcnt; first | (subst h1; first | rfl | exact e3) | omega)
    · refine ⟨122, _, rfl, by decide, ?_⟩
      refine zw_aload_n 123 dX5_howMany_122 rfl rfl ?_
      refine zw_getr 126 (2) (o := 1) dX5_howMany_123 rfl fX5_10 (by decide) rfl rfl ly1 ?_
      refine zw_getr 129 (13) (o := 11) dX5_howMany_126 rfl fX5_221 (by decide) rfl rfl ly2 ?_
      refine zw_gti 132 1 dX5_howMany_129 rfl fX5_257 (by decide) rfl rfl ly13 ?_
      rw [c5.2.1]
      refine zw_iret dX5_howMany_132 rfl ?_
      exact zRi_of (by unfold zcnt; first | (subst h1; first | rfl | exact e3) | omega)
    · refine ⟨133, _, rfl, by decide, ?_⟩
      refine zw_aload_n 134 dX5_howMany_133 rfl rfl ?_
      refine zw_getr 137 (2) (o := 1) dX5_howMany_134 rfl fX5_10 (by decide) rfl rfl ly1 ?_
      refine zw_getr 140 (15) (o := 13) dX5_howMany_137 rfl fX5_251 (by decide) rfl rfl ly2 ?_
      refine zw_gti 143 1 dX5_howMany_140 rfl fX5_257 (by decide) rfl rfl ly15 ?_
      rw [c6.2.1]
      refine zw_iret dX5_howMany_143 rfl ?_
      exact zRi_of (by unfold zcnt; first | (subst h1; first | rfl | exact e3) | omega)
    · refine ⟨144, _, rfl, by decide, ?_⟩
      refine zw_aload_n 145 dX5_howMany_144 rfl rfl ?_
      refine zw_getr 148 (2) (o := 1) dX5_howMany_145 rfl fX5_10 (by decide) rfl rfl ly1 ?_
      refine zw_getr 151 (17) (o := 15) dX5_howMany_148 rfl fX5_254 (by decide) rfl rfl ly2 ?_
      refine zw_gti 154 1 dX5_howMany_151 rfl fX5_257 (by decide) rfl rfl ly17 ?_
      rw [c7.2.1]
      refine zw_iret dX5_howMany_154 rfl ?_
      exact zRi_of (by unfold zcnt; first | (subst h1; first | rfl | exact e3) | omega)
    · refine ⟨155, _, rfl, by decide, ?_⟩
      refine zw_aload_n 156 dX5_howMany_155 rfl rfl ?_
      refine zw_getr 159 (2) (o := 1) dX5_howMany_156 rfl fX5_10 (by decide) rfl rfl ly1 ?_
      refine zw_gti 162 2 dX5_howMany_159 rfl fX5_156 (by decide) rfl rfl ly2 ?_
      rw [c8]
      refine zw_iret dX5_howMany_162 rfl ?_
      exact zRi_of (by unfold zcnt; first | (subst h1; first | rfl | exact e3) | omega)
theorem sp_X5_count {l : Launch} {d : Nat} {σ : zMem} (hd : 8 ≤ d) {N : zR} (hC : zCh σ 2 N) (hV : zVN N) {w : Int} (hw : -2147483648 ≤ w ∧ w < 2147483648)  : zSp l d mX5_count [.ref 1, .int (zI w)] σ (zAn 118 (0 ≤ w ∧ w ≤ 10) (zcnt N (σ 106 1) w) 0 (-2) σ) := by
  refine zSp_of oX5_count (Nat.le_of_ble_eq_true rfl) ?_
  show zw l d mX5_count 0 [some (.ref 1), some (.int (zI w))] [] σ _
  have hs := hV.1
  have hv := hV.2.1
  have hy := hV.2.2.1
  have hB := zVN_bd hV
  have gN := hs.1
  have gC := hs.2.1
  have c0 : σ 2 0 = N 33 := hC.1.1.1
  have c1 : σ 2 1 = N 48 := hC.1.1.2.1
  have c2 : ∀ s, 0 ≤ s → s < N 33 → σ 3 s = N (34 + s) ∧ σ 4 s = N (41 + s) := hC.1.1.2.2.1
  have c3 : ∀ c, 0 ≤ c → c < N 48 → σ 5 c = N (49 + c) ∧ σ 6 c = N (54 + c) ∧ σ 7 c = zhv (N (49 + c)) (N (54 + c)) := hC.1.1.2.2.2
  have c4 : zSc σ 8 N := hC.1.2.1
  have c41 : ∀ c, 0 ≤ c → c < 5 → σ 9 c = N c := c4.1
  have c42 : ∀ i, 0 ≤ i → i < 20 → σ 10 i = N (5 + i) := c4.2.1
  have c43 : ∀ s, 0 ≤ s → s < 7 → σ 11 s = N (25 + s) := c4.2.2.1
  have c44 : σ 8 0 = N 32 := c4.2.2.2
  have c5 : zRo σ 13 3 59 N := hC.1.2.2.1
  have c6 : zRo σ 15 5 78 N := hC.1.2.2.2.1
  have c7 : zRo σ 17 4 109 N := hC.1.2.2.2.2
  have c8 : σ 2 2 = N 134 := hC.2.1
  have hb5 : ∀ c, 0 ≤ c → c < 5 → -1 ≤ N c ∧ N c < 1000 := fun c h0 h1 => by have := hv.1 c h0 h1; omega
  refine zw_iload_n 1 dX5_count_0 rfl rfl ?_
  refine zw_iconst 2 dX5_count_1 rfl ?_
  refine zw_bipush 4 dX5_count_2 rfl (by decide) ?_
  refine zw_callS 7 _ _ dX5_count_4 rfl kX5_85 qX5_within (sp_X5_within (d := d - 1) (by omega) (by omega) (by omega)) (by omega) rfl rfl (Nat.le_of_ble_eq_true rfl) (fun r σ' hq => ?_)
  obtain ⟨rfl, rfl⟩ := hq
  refine zw_if_eq 18 10 dX5_count_7 (by decide) rfl (by omega) (fun h7 => ?_) (fun h7 => ?_)
  · refine zw_aload_n 19 dX5_count_18 rfl rfl ?_
    refine zw_bipush 21 dX5_count_19 rfl (by decide) ?_
    refine zw_callV 24 _ _ dX5_count_21 rfl kX5_89 qX5_refuse ly1 ⟨_, rfl, rfl⟩ (by decide) (sp_X5_refuse_2 (d := d - 1)) (by omega) rfl rfl (Nat.le_of_ble_eq_true rfl) (fun r σ' hq => ?_)
    obtain ⟨rfl, rfl⟩ := hq
    refine zw_iret dX5_count_24 rfl ?_
    first
      | exact zAn_f (by omega)
      | exact zAn_t (by omega) rfl (zNS_refl _)
  · refine zw_aload_n 11 dX5_count_10 rfl rfl ?_
    refine zw_iload_n 12 dX5_count_11 rfl rfl ?_
    refine zw_callV 15 _ _ dX5_count_12 rfl kX5_305 qX5_howMany ly1 ⟨_, rfl, rfl⟩ (by decide) (sp_X5_howMany (d := d - 1) (by omega) hC hV (w := w) (by omega)) (by omega) rfl rfl (Nat.le_of_ble_eq_true rfl) (fun r σ' hq => ?_)
    obtain ⟨rfl, rfl⟩ := hq
    refine zw_goto 24 dX5_count_15 (by decide) ?_
    refine zw_iret dX5_count_24 rfl ?_
    first
      | exact zAn_f (by omega)
      | exact zAn_t (by omega) rfl (zNS_refl _)
theorem lp_X5_digest {l : Launch} {d : Nat} {σ : zMem} (hd : 5 ≤ d) {N : zR} (hC : zCh σ 2 N) (hV : zVN N) (hT : 0 ≤ σ 106 1 ∧ σ 106 1 ≤ 150) : ∀ (m k : Nat), k + m = 11 → zw l d mX5_digest 6 [some (.ref 1), some (.long (zL ((zdg (zcnt N (σ 106 1)) 0 k 1499)))), none, some (.int (zI ((k : Int))))] [] σ (zRl (31 * (31 * zdR N (σ 106 1) + σ 1 12) + σ 1 13) σ) := by
  have hs := hV.1
  have hv := hV.2.1
  have hy := hV.2.2.1
  have hB := zVN_bd hV
  have gN := hs.1
  have gC := hs.2.1
  have c0 : σ 2 0 = N 33 := hC.1.1.1
  have c1 : σ 2 1 = N 48 := hC.1.1.2.1
  have c2 : ∀ s, 0 ≤ s → s < N 33 → σ 3 s = N (34 + s) ∧ σ 4 s = N (41 + s) := hC.1.1.2.2.1
  have c3 : ∀ c, 0 ≤ c → c < N 48 → σ 5 c = N (49 + c) ∧ σ 6 c = N (54 + c) ∧ σ 7 c = zhv (N (49 + c)) (N (54 + c)) := hC.1.1.2.2.2
  have c4 : zSc σ 8 N := hC.1.2.1
  have c41 : ∀ c, 0 ≤ c → c < 5 → σ 9 c = N c := c4.1
  have c42 : ∀ i, 0 ≤ i → i < 20 → σ 10 i = N (5 + i) := c4.2.1
  have c43 : ∀ s, 0 ≤ s → s < 7 → σ 11 s = N (25 + s) := c4.2.2.1
  have c44 : σ 8 0 = N 32 := c4.2.2.2
  have c5 : zRo σ 13 3 59 N := hC.1.2.2.1
  have c6 : zRo σ 15 5 78 N := hC.1.2.2.2.1
  have c7 : zRo σ 17 4 109 N := hC.1.2.2.2.2
  have c8 : σ 2 2 = N 134 := hC.2.1
  have hb5 : ∀ c, 0 ≤ c → c < 5 → -1 ≤ N c ∧ N c < 1000 := fun c h0 h1 => by have := hv.1 c h0 h1; omega
  intro m
  induction m with
  | zero =>
    intro k hk
    obtain rfl : k = 11 := by omega
    refine zw_iload_n 7 dX5_digest_6 rfl rfl ?_
    refine zw_bipush 9 dX5_digest_7 rfl (by decide) ?_
    refine zw_icmp_gt 31 12 dX5_digest_9 (by decide) rfl (by omega) (by omega) (fun h9 => ?_) (fun h9 => ?_)
    · refine zw_aload_n 32 dX5_digest_31 rfl rfl ?_
      refine zw_getr 35 (2) (o := 1) dX5_digest_32 rfl fX5_10 (by decide) rfl rfl ly1 ?_
      refine zw_lload_n 36 dX5_digest_35 rfl rfl ?_
      refine zw_callV 39 _ _ dX5_digest_36 rfl kX5_312 qX0_mix ly2 ⟨_, rfl, rfl⟩ (by decide) (sp_X0_mix (d := d - 1) (by omega) ly2 hC.1 hV (h := (zdg (zcnt N (σ 106 1)) 0 11 1499))) (by omega) rfl rfl (Nat.le_of_ble_eq_true rfl) (fun r σ' hq => ?_)
      obtain ⟨rfl, rfl⟩ := hq
      refine zw_lstore_n 40 dX5_digest_39 rfl (by decide) ?_
      refine zw_ldc2 43 (31) dX5_digest_40 rfl cX5_310 ?_
      refine zw_ldc2 46 (31) dX5_digest_43 rfl cX5_310 ?_
      refine zw_lload_n 47 dX5_digest_46 rfl rfl ?_
      refine zw_lmul 48 dX5_digest_47 rfl ?_
      refine zw_aload_n 49 dX5_digest_48 rfl rfl ?_
      refine zw_gtl 52 12 dX5_digest_49 rfl fX5_64 (by decide) rfl rfl ly1 ?_
      refine zw_ladd 53 dX5_digest_52 rfl ?_
      refine zw_lmul 54 dX5_digest_53 rfl ?_
      refine zw_aload_n 55 dX5_digest_54 rfl rfl ?_
      refine zw_gtl 58 13 dX5_digest_55 rfl fX5_68 (by decide) rfl rfl ly1 ?_
      refine zw_ladd 59 dX5_digest_58 rfl ?_
      refine zw_lret dX5_digest_59 rfl ?_
      exact ⟨rfl, rfl⟩
    · exfalso; omega
  | succ m ih =>
    intro k hk
    have hcb := zcnt_b (w := (k : Int)) hV hT
    have ih2 := ih (k + 1) (by omega)
    rw [show (((k + 1 : Nat) : Int)) = (k : Int) + 1 by omega, show zdg (zcnt N (σ 106 1)) 0 (k + 1) 1499 = 31 * zdg (zcnt N (σ 106 1)) 0 k 1499 + zcnt N (σ 106 1) (0 + k) from rfl, Int.zero_add] at ih2
    refine zw_iload_n 7 dX5_digest_6 rfl rfl ?_
    refine zw_bipush 9 dX5_digest_7 rfl (by decide) ?_
    refine zw_icmp_gt 31 12 dX5_digest_9 (by decide) rfl (by omega) (by omega) (fun h9 => ?_) (fun h9 => ?_)
    · exfalso; omega
    · refine zw_ldc2 15 (31) dX5_digest_12 rfl cX5_310 ?_
      refine zw_lload_n 16 dX5_digest_15 rfl rfl ?_
      refine zw_lmul 17 dX5_digest_16 rfl ?_
      refine zw_aload_n 18 dX5_digest_17 rfl rfl ?_
      refine zw_iload_n 19 dX5_digest_18 rfl rfl ?_
      refine zw_callV 22 _ _ dX5_digest_19 rfl kX5_305 qX5_howMany ly1 ⟨_, rfl, rfl⟩ (by decide) (sp_X5_howMany (d := d - 1) (by omega) hC hV (w := (k : Int)) (by omega)) (by omega) rfl rfl (Nat.le_of_ble_eq_true rfl) (fun r σ' hq => ?_)
      obtain ⟨rfl, rfl⟩ := hq
      refine zw_i2l 23 dX5_digest_22 rfl (by omega) ?_
      refine zw_ladd 24 dX5_digest_23 rfl ?_
      refine zw_lstore_n 25 dX5_digest_24 rfl (by decide) ?_
      refine zw_iinc 28 dX5_digest_25 rfl (by decide) rfl ?_
      refine zw_goto 6 dX5_digest_28 (by decide) ?_
      refine zw_loc [true, true, false, true] rfl ?_
      exact ih2
theorem sp_X5_digest {l : Launch} {d : Nat} {σ : zMem} (hd : 8 ≤ d) {N : zR} (hC : zCh σ 2 N) (hV : zVN N) (hT : 0 ≤ σ 106 1 ∧ σ 106 1 ≤ 150)  : zSp l d mX5_digest [.ref 1] σ (zRl (31 * (31 * zdR N (σ 106 1) + σ 1 12) + σ 1 13) σ) := by
  refine zSp_of oX5_digest (Nat.le_of_ble_eq_true rfl) ?_
  show zw l d mX5_digest 0 [some (.ref 1), none, none, none] [] σ _
  refine zw_ldc2 3 (1499) dX5_digest_0 rfl cX5_308 ?_
  refine zw_lstore_n 4 dX5_digest_3 rfl (by decide) ?_
  refine zw_iconst 5 dX5_digest_4 rfl ?_
  refine zw_istore_n 6 dX5_digest_5 rfl (by decide) ?_
  exact lp_X5_digest (by omega) hC hV hT 11 0 (by omega)
