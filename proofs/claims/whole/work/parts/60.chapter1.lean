/-- the chapter at a has the standing numbers of the row N -/
def zCs (σ : zMem) (a : Nat) (N : zR) : Prop := σ a 0 = N 33 ∧ σ a 1 = N 48 ∧ (∀ s, 0 ≤ s → s < N 33 → σ (a + 1) s = N (34 + s) ∧ σ (a + 2) s = N (41 + s)) ∧ ∀ c, 0 ≤ c → c < N 48 → σ (a + 3) c = N (49 + c) ∧ σ (a + 4) c = N (54 + c) ∧ σ (a + 5) c = zhv (N (49 + c)) (N (54 + c))
theorem zCs_fr {σ σ' : zMem} {a : Nat} {N : zR} (h : ∀ b, a ≤ b → b ≤ a + 5 → σ' b = σ b) (hc : zCs σ a N) : zCs σ' a N := by
  unfold zCs
  rw [h a (by omega) (by omega), h (a + 1) (by omega) (by omega), h (a + 2) (by omega) (by omega), h (a + 3) (by omega) (by omega), h (a + 4) (by omega) (by omega), h (a + 5) (by omega) (by omega)]
  exact hc
theorem sp_X0_wouldTake {l : Launch} {d : Nat} {σ : zMem} (hd : 2 ≤ d) {a b : Nat} (ha : zly a = some (0, 13)) (hb : zly b = some (2, 4)) {N t : zR} (hN : zCs σ a N) (hc : zSc σ b t) (hs : zVs N) {c : Int} (hv : zVw N t c) (hy : 0 ≤ t 32 ∧ t 32 < 5000) (h0 : 0 ≤ c ∧ c < N 48) {s : Int} (h1 : 0 ≤ s ∧ s < N 33)  : zSp l d mX0_wouldTake [.ref a, .ref b, .int (zI c), .int (zI s)] σ (zRi (ztk N t c s) σ) := by
  refine zSp_of oX0_wouldTake (Nat.le_of_ble_eq_true rfl) ?_
  show zw l d mX0_wouldTake 0 [some (.ref a), some (.ref b), some (.int (zI c)), some (.int (zI s)), none] [] σ _
  have hs2 := hs.2.1
  have hs1 := hs.1
  have k1 := hN.2.2.1 s h1.1 h1.2
  have k2 := hN.2.2.2 c h0.1 h0.2
  have k3 := hc.2.2.1 s h1.1 (by omega)
  have g1 := zVw.tk hs hv (c := c) (s := s) (by omega) (by omega)
  have g2 := hv.2.2 s h1.1 (by omega)
  have g3 := zgv_b (k := N (34 + s)) (y := t 32) g2 g1
  have g4 := hs.s h1.1 (by omega : s < 7)
  have g5 := hs.c h0.1 (by omega : c < 5)
  refine zw_aload_n 1 dX0_wouldTake_0 rfl rfl ?_
  refine zw_iload_n 2 dX0_wouldTake_1 rfl rfl ?_
  refine zw_aload_n 3 dX0_wouldTake_2 rfl rfl ?_
  refine zw_getr 6 (a + 2) (o := 2) dX0_wouldTake_3 rfl fX0_15 (by decide) rfl rfl ha ?_
  refine zw_iload_n 7 dX0_wouldTake_6 rfl rfl ?_
  refine zw_iald 8 dX0_wouldTake_7 rfl (zl_sub ha 0 2 rfl rfl) (by omega) ?_
  rw [k1.2]
  refine zw_callV 11 _ _ dX0_wouldTake_8 rfl kX0_89 qX2_takenOf hb ⟨_, rfl, rfl⟩ (by decide) (sp_X2_takenOf (d := d - 1) hb hc (c := c) (x := N (41 + s)) (by omega) (by omega)) (by omega) rfl rfl (Nat.le_of_ble_eq_true rfl) (fun r σ' hq => ?_)
  obtain ⟨rfl, rfl⟩ := hq
  refine zw_istore 13 dX0_wouldTake_11 rfl (by decide) ?_
  refine zw_aload_n 14 dX0_wouldTake_13 rfl rfl ?_
  refine zw_getr 17 (a + 3) (o := 3) dX0_wouldTake_14 rfl fX0_18 (by decide) rfl rfl ha ?_
  refine zw_iload_n 18 dX0_wouldTake_17 rfl rfl ?_
  refine zw_iald 19 dX0_wouldTake_18 rfl (zl_sub ha 0 3 rfl rfl) (by omega) ?_
  rw [k2.1]
  refine zw_aload_n 20 dX0_wouldTake_19 rfl rfl ?_
  refine zw_getr 23 (a + 1) (o := 1) dX0_wouldTake_20 rfl fX0_9 (by decide) rfl rfl ha ?_
  refine zw_iload_n 24 dX0_wouldTake_23 rfl rfl ?_
  refine zw_iald 25 dX0_wouldTake_24 rfl (zl_sub ha 0 1 rfl rfl) (by omega) ?_
  rw [k1.1]
  refine zw_aload_n 26 dX0_wouldTake_25 rfl rfl ?_
  refine zw_getr 29 (b + 3) (o := 3) dX0_wouldTake_26 rfl fX0_82 (by decide) rfl rfl hb ?_
  refine zw_iload_n 30 dX0_wouldTake_29 rfl rfl ?_
  refine zw_iald 31 dX0_wouldTake_30 rfl (zl_sub hb 2 3 rfl rfl) (by omega) ?_
  rw [k3]
  refine zw_aload_n 32 dX0_wouldTake_31 rfl rfl ?_
  refine zw_gti 35 0 dX0_wouldTake_32 rfl fX0_92 (by decide) rfl rfl hb ?_
  rw [hc.2.2.2]
  refine zw_iload 37 dX0_wouldTake_35 rfl rfl ?_
  refine zw_callN 40 _ _ dX0_wouldTake_37 rfl kX0_95 qX5_given (sp_X5_given (d := d - 1) (by omega) (k := N (34 + s)) (dd := t (25 + s)) (y := t 32) (h := t (5 + 4 * c + N (41 + s))) (by omega) (by omega) (by omega) (by omega)) (by omega) rfl rfl (Nat.le_of_ble_eq_true rfl) (fun r σ' hq => ?_)
  obtain ⟨rfl, rfl⟩ := hq
  refine zw_iload 42 dX0_wouldTake_40 rfl rfl ?_
  refine zw_callN 45 _ _ dX0_wouldTake_42 rfl kX0_99 qX5_accepted (sp_X5_accepted (d := d - 1) (k := N (49 + c)) (g := zgv (N (34 + s)) (t (25 + s)) (t (5 + 4 * c + N (41 + s))) (t 32)) (h := t (5 + 4 * c + N (41 + s))) (by omega) (by omega) (by omega)) (by omega) rfl rfl (Nat.le_of_ble_eq_true rfl) (fun r σ' hq => ?_)
  obtain ⟨rfl, rfl⟩ := hq
  refine zw_iret dX0_wouldTake_45 rfl ?_
  exact ⟨rfl, rfl⟩
/-- the scene's two rows that a year of one canon changes -/
theorem zSc_ps {σ : zMem} {b : Nat} {N t : zR} {c : Int} (hc : zSc σ b t) (hs : zVs N) (hv : zVw N t c) (h0 : 0 ≤ c ∧ c < 5) (hn : t c ≠ -1) : zSc (zwa (zwa σ (b + 2) (zup (σ (b + 2)) (4 * c + N (41 + t c)) (min (t (5 + 4 * c + N (41 + t c)) + ztk N t c (t c)) 99))) (b + 3) (zup (σ (b + 3)) (t c) (max (t (25 + t c) - zww N c (t c)) 0))) b (zps N t c) := by
  have b1 := hv.1
  have b2 := hs.1
  have b3 := (hs.s (s := t c) (by omega) (by omega)).2
  have e1 : z1t N t c = zup t (5 + 4 * c + N (41 + t c)) (min (t (5 + 4 * c + N (41 + t c)) + ztk N t c (t c)) 99) := if_neg hn
  have e2 : z1t N t c c = t c := by rw [e1, zup_ne _ _ (by omega)]
  have e3 : z1t N t c (25 + t c) = t (25 + t c) := by rw [e1, zup_ne _ _ (by omega)]
  have e4 : zps N t c = zup (z1t N t c) (25 + t c) (max (t (25 + t c) - zww N c (t c)) 0) := by
    unfold zps z1w; rw [e2, if_neg hn, e3]
  rw [e4, e1]
  refine ⟨fun x h1 h2 => ?_, fun i h1 h2 => ?_, fun s h1 h2 => ?_, ?_⟩
  · rw [zwa_ne _ _ (by omega), zwa_ne _ _ (by omega), zup_ne _ _ (by omega), zup_ne _ _ (by omega)]; exact hc.1 x h1 h2
  · rw [zwa_ne _ _ (by omega), zwa_same, zup_ne _ _ (by omega : (5 + i : Int) ≠ 25 + t c)]
    by_cases q : i = 4 * c + N (41 + t c)
    · rw [q, zup_same, show 5 + (4 * c + N (41 + t c)) = 5 + 4 * c + N (41 + t c) by omega, zup_same]
    · rw [zup_ne _ _ q, zup_ne _ _ (by omega)]; exact hc.2.1 i h1 h2
  · rw [zwa_same]
    by_cases q : s = t c
    · rw [q, zup_same, zup_same]
    · rw [zup_ne _ _ q, zup_ne _ _ (by omega), zup_ne _ _ (by omega)]; exact hc.2.2.1 s h1 h2
  · rw [zwa_ne _ _ (by omega), zwa_ne _ _ (by omega), zup_ne _ _ (by omega), zup_ne _ _ (by omega)]; exact hc.2.2.2
theorem sp_X0_passFor {l : Launch} {d : Nat} {σ : zMem} (hd : 3 ≤ d) {a b : Nat} (ha : zly a = some (0, 13)) (hb : zly b = some (2, 4)) {N t : zR} (hN : zCs σ a N) (hc : zSc σ b t) (hs : zVs N) {c : Int} (hv : zVw N t c) (hy : 0 ≤ t 32 ∧ t 32 < 5000) (h0 : 0 ≤ c ∧ c < N 48) (hab : b + 3 < a ∨ a + 5 < b)  : zSp l d mX0_passFor [.ref a, .ref b, .int (zI c)] σ (fun v σ1 => v = none ∧ zSc σ1 b (zps N t c) ∧ ∀ r, ¬ (b ≤ r ∧ r ≤ b + 3) → σ1 r = σ r) := by
  refine zSp_of oX0_passFor (Nat.le_of_ble_eq_true rfl) ?_
  show zw l d mX0_passFor 0 [some (.ref a), some (.ref b), some (.int (zI c)), none, none] [] σ _
  have hs2 := hs.2.1
  have hs1 := hs.1
  have k0 := hc.1 c h0.1 (by omega)
  have b1 := hv.1
  by_cases hn : t c = -1
  · have e1 : zps N t c = t := by
      have e2 : z1t N t c = t := if_pos hn
      unfold zps; rw [e2]; exact if_pos hn
    rw [e1]
    refine zw_aload_n 1 dX0_passFor_0 rfl rfl ?_
    refine zw_getr 4 (b + 1) (o := 1) dX0_passFor_1 rfl fX0_103 (by decide) rfl rfl hb ?_
    refine zw_iload_n 5 dX0_passFor_4 rfl rfl ?_
    refine zw_iald 6 dX0_passFor_5 rfl (zl_sub hb 2 1 rfl rfl) (by omega) ?_
    rw [k0]
    refine zw_istore_n 7 dX0_passFor_6 rfl (by decide) ?_
    refine zw_iload_n 8 dX0_passFor_7 rfl rfl ?_
    refine zw_iconst 9 dX0_passFor_8 rfl ?_
    refine zw_icmp_ne 13 12 dX0_passFor_9 (by decide) rfl (by omega) (by omega) (fun h9 => ?_) (fun h9 => ?_)
    · exfalso; omega
    · refine zw_vret dX0_passFor_12 rfl ?_
      exact ⟨rfl, hc, fun r _ => rfl⟩
  · skip
    have h1 : 0 ≤ t c ∧ t c < N 33 := by omega
    have k1 := hN.2.2.1 (t c) h1.1 h1.2
    have k2 := hN.2.2.2 c h0.1 h0.2
    have k3 := hc.2.2.1 (t c) h1.1 (by omega)
    have g1 := zVw.tk hs hv (c := c) (s := t c) (by omega) (by omega)
    have g2 := hv.2.2 (t c) h1.1 (by omega)
    have g4 := hs.s h1.1 (by omega : t c < 7)
    have g5 := hs.c h0.1 (by omega : c < 5)
    have g6 := ztk_bw hs hv (c := c) (s := t c) (by omega) (by omega)
    have g7 := zhv_b (k := N (49 + c)) g5.2
    have g8 := zww_b hs (t c) (c := c) (by omega)
    have k4 : σ (b + 2) (4 * c + N (41 + t c)) = t (5 + 4 * c + N (41 + t c)) := by
      rw [hc.2.1 _ (by omega) (by omega)]; congr 1; omega
    refine zw_aload_n 1 dX0_passFor_0 rfl rfl ?_
    refine zw_getr 4 (b + 1) (o := 1) dX0_passFor_1 rfl fX0_103 (by decide) rfl rfl hb ?_
    refine zw_iload_n 5 dX0_passFor_4 rfl rfl ?_
    refine zw_iald 6 dX0_passFor_5 rfl (zl_sub hb 2 1 rfl rfl) (by omega) ?_
    rw [k0]
    refine zw_istore_n 7 dX0_passFor_6 rfl (by decide) ?_
    refine zw_iload_n 8 dX0_passFor_7 rfl rfl ?_
    refine zw_iconst 9 dX0_passFor_8 rfl ?_
    refine zw_icmp_ne 13 12 dX0_passFor_9 (by decide) rfl (by omega) (by omega) (fun h9 => ?_) (fun h9 => ?_)
    · refine zw_iload_n 14 dX0_passFor_13 rfl rfl ?_
      refine zw_iconst 15 dX0_passFor_14 rfl ?_
      refine zw_imul 16 dX0_passFor_15 rfl ?_
      refine zw_aload_n 17 dX0_passFor_16 rfl rfl ?_
      refine zw_getr 20 (a + 2) (o := 2) dX0_passFor_17 rfl fX0_15 (by decide) rfl rfl ha ?_
      refine zw_iload_n 21 dX0_passFor_20 rfl rfl ?_
      refine zw_iald 22 dX0_passFor_21 rfl (zl_sub ha 0 2 rfl rfl) (by omega) ?_
      rw [k1.2]
      refine zw_iadd 23 dX0_passFor_22 rfl ?_
      rw [show c * 4 + N (41 + t c) = 4 * c + N (41 + t c) by omega]
      refine zw_istore 25 dX0_passFor_23 rfl (by decide) ?_
      refine zw_aload_n 26 dX0_passFor_25 rfl rfl ?_
      refine zw_getr 29 (b + 2) (o := 2) dX0_passFor_26 rfl fX0_106 (by decide) rfl rfl hb ?_
      refine zw_iload 31 dX0_passFor_29 rfl rfl ?_
      refine zw_aload_n 32 dX0_passFor_31 rfl rfl ?_
      refine zw_getr 35 (b + 2) (o := 2) dX0_passFor_32 rfl fX0_106 (by decide) rfl rfl hb ?_
      refine zw_iload 37 dX0_passFor_35 rfl rfl ?_
      refine zw_iald 38 dX0_passFor_37 rfl (zl_sub hb 2 2 rfl rfl) (by omega) ?_
      rw [k4]
      refine zw_aload_n 39 dX0_passFor_38 rfl rfl ?_
      refine zw_aload_n 40 dX0_passFor_39 rfl rfl ?_
      refine zw_iload_n 41 dX0_passFor_40 rfl rfl ?_
      refine zw_iload_n 42 dX0_passFor_41 rfl rfl ?_
      refine zw_callV 45 _ _ dX0_passFor_42 rfl kX0_109 qX0_wouldTake ha ⟨_, rfl, rfl⟩ (by decide) (sp_X0_wouldTake (d := d - 1) (by omega) ha hb hN hc hs hv hy h0 h1) (by omega) rfl rfl (Nat.le_of_ble_eq_true rfl) (fun r σ' hq => ?_)
      obtain ⟨rfl, rfl⟩ := hq
      refine zw_iadd 46 dX0_passFor_45 rfl ?_
      refine zw_bipush 48 dX0_passFor_46 rfl (by decide) ?_
      refine zw_mmin 51 dX0_passFor_48 rfl xX0_113 (by omega) (by omega) rfl (by omega) ?_
      refine zw_iast 52 dX0_passFor_51 rfl (zl_sub hb 2 2 rfl rfl) (by omega) ?_
      rw [zwr]
      refine zw_aload_n 53 dX0_passFor_52 rfl rfl ?_
      refine zw_getr 56 (b + 3) (o := 3) dX0_passFor_53 rfl fX0_82 (by decide) rfl rfl hb ?_
      refine zw_iload_n 57 dX0_passFor_56 rfl rfl ?_
      refine zw_aload_n 58 dX0_passFor_57 rfl rfl ?_
      refine zw_getr 61 (b + 3) (o := 3) dX0_passFor_58 rfl fX0_82 (by decide) rfl rfl hb ?_
      refine zw_iload_n 62 dX0_passFor_61 rfl rfl ?_
      refine zw_iald 63 dX0_passFor_62 rfl (zl_sub hb 2 3 rfl rfl) (by omega) ?_
      rw [zwa_ne _ _ (by omega), k3]
      refine zw_aload_n 64 dX0_passFor_63 rfl rfl ?_
      refine zw_getr 67 (a + 1) (o := 1) dX0_passFor_64 rfl fX0_9 (by decide) rfl rfl ha ?_
      refine zw_iload_n 68 dX0_passFor_67 rfl rfl ?_
      refine zw_iald 69 dX0_passFor_68 rfl (zl_sub ha 0 1 rfl rfl) (by omega) ?_
      rw [zwa_ne _ _ (by omega), k1.1]
      refine zw_aload_n 70 dX0_passFor_69 rfl rfl ?_
      refine zw_getr 73 (a + 5) (o := 5) dX0_passFor_70 rfl fX0_24 (by decide) rfl rfl ha ?_
      refine zw_iload_n 74 dX0_passFor_73 rfl rfl ?_
      refine zw_iald 75 dX0_passFor_74 rfl (zl_sub ha 0 5 rfl rfl) (by omega) ?_
      rw [zwa_ne _ _ (by omega), k2.2.2]
      refine zw_callN 78 _ _ dX0_passFor_75 rfl kX0_118 qX5_worn (sp_X5_worn (d := d - 1) (k := N (34 + t c)) (w := zhv (N (49 + c)) (N (54 + c))) (by omega) (by omega)) (by omega) rfl rfl (Nat.le_of_ble_eq_true rfl) (fun r σ' hq => ?_)
      obtain ⟨rfl, rfl⟩ := hq
      rw [show zwn (N (34 + t c)) (zhv (N (49 + c)) (N (54 + c))) = zww N c (t c) from rfl]
      refine zw_isub 79 dX0_passFor_78 rfl ?_
      refine zw_iconst 80 dX0_passFor_79 rfl ?_
      refine zw_mmax 83 dX0_passFor_80 rfl xX0_121 (by omega) (by omega) rfl (by omega) ?_
      refine zw_iast 84 dX0_passFor_83 rfl (zl_sub hb 2 3 rfl rfl) (by omega) ?_
      rw [zwr, zwa_ne _ _ (by omega)]
      refine zw_vret dX0_passFor_84 rfl ?_
      refine ⟨rfl, zSc_ps hc hs hv (by omega) hn, fun r hr => ?_⟩
      rw [zwa_ne _ _ (by omega), zwa_ne _ _ (by omega)]
    · refine zw_vret dX0_passFor_12 rfl ?_
      exfalso; omega
/-- the rows but one's own years: what each canon's passing keeps -/
theorem zps_V {N t : zR} (hs : zVs N) (h : zVr N t) {c : Int} (hc : 0 ≤ c ∧ c < 5) : zVr N (zps N t c) := z1w_V hs (z1t_V hs h hc) hc
theorem zfp_V {N t : zR} (hs : zVs N) (h : zVr N t) (k : Nat) (hk : k ≤ 5) : zVr N (zfd (zps N) k t) := zfd_ind (n := 5) (P := zVr N) (fun _ _ h0 h1 hP => zps_V hs hP ⟨h0, by omega⟩) k hk t h
theorem zfp_32 {N t : zR} (hs : zVs N) (h : zVr N t) : ∀ k : Nat, k ≤ 5 → zfd (zps N) k t 32 = t 32
  | 0, _ => rfl
  | k + 1, hk => by
    have hc : 0 ≤ (k : Int) ∧ (k : Int) < 5 := by omega
    show zps N (zfd (zps N) k t) k 32 = t 32
    rw [zps_lo hs ((zfp_V hs h k (by omega)).w hc) hc (by omega), zfp_32 hs h k (by omega)]
/-- two canons: one's taking and another's wearing do not meet -/
theorem z1t_1w {N u : zR} (hs : zVs N) (h : zVr N u) {c e : Int} (hc : 0 ≤ c ∧ c < 5) (he : 0 ≤ e ∧ e < 5) (hne : c ≠ e) : z1t N (z1w N u e) c = z1w N (z1t N u c) e := by
  have bN := hs.1
  have bc := h.1 c hc.1 hc.2
  have be := h.1 e he.1 he.2
  have o1 : z1w N u e c = u c := z1w_out h he (Or.inl (by omega))
  have o2 : z1t N u c e = u e := z1t_out hs h hc (Or.inl (by omega))
  by_cases q1 : u c = -1
  · rw [show z1t N u c = u from if_pos q1, show z1t N (z1w N u e) c = z1w N u e from if_pos (by rw [o1]; exact q1)]
  · by_cases q2 : u e = -1
    · rw [show z1w N u e = u from if_pos q2, show z1w N (z1t N u c) e = z1t N u c from if_pos (by rw [o2]; exact q2)]
    · have q3 : u c ≠ u e := fun q => q1 (h.2.2.2.1 c e hc.1 hc.2 he.1 he.2 hne q)
      have g := (hs.s (s := u c) (by omega) (by omega)).2
      have w1 : z1w N u e = zup u (25 + u e) (max (u (25 + u e) - zww N e (u e)) 0) := if_neg q2
      have t1 : z1t N u c = zup u (5 + 4 * c + N (41 + u c)) (min (u (5 + 4 * c + N (41 + u c)) + ztk N u c (u c)) 99) := if_neg q1
      have t2 : z1t N (z1w N u e) c = zup (z1w N u e) (5 + 4 * c + N (41 + u c)) (min (z1w N u e (5 + 4 * c + N (41 + u c)) + ztk N (z1w N u e) c (u c)) 99) := by
        unfold z1t; rw [o1, if_neg q1]
      have w2 : z1w N (z1t N u c) e = zup (z1t N u c) (25 + u e) (max (z1t N u c (25 + u e) - zww N e (u e)) 0) := by
        unfold z1w; rw [o2, if_neg q2]
      have k1 : z1w N u e (5 + 4 * c + N (41 + u c)) = u (5 + 4 * c + N (41 + u c)) := z1w_out h he (Or.inl (by omega))
      have k2 : ztk N (z1w N u e) c (u c) = ztk N u c (u c) := by
        unfold ztk
        rw [k1, z1w_out h he (j := 25 + u c) (Or.inr (Or.inr (by omega))), z1w_out h he (j := 32) (Or.inr (Or.inl (by omega)))]
      have k3 : z1t N u c (25 + u e) = u (25 + u e) := z1t_out hs h hc (Or.inr (by omega))
      rw [t2, w2, k1, k2, k3, w1, t1]
      exact zup_comm _ _ _ (by omega)
theorem z1t_fw {N u : zR} (hs : zVs N) (h : zVr N u) {c : Int} (hc : 0 ≤ c ∧ c < 5) : ∀ k : Nat, (k : Int) ≤ c → z1t N (zfd (z1w N) k u) c = zfd (z1w N) k (z1t N u c)
  | 0, _ => rfl
  | k + 1, hk => by
    show z1t N (z1w N (zfd (z1w N) k u) k) c = z1w N (zfd (z1w N) k (z1t N u c)) k
    rw [z1t_1w hs (zfw_V hs h k (by omega)) hc (by omega) (by omega), z1t_fw hs h hc k (by omega)]
theorem zfp_eq {N t : zR} (hs : zVs N) (h : zVr N t) : ∀ k : Nat, k ≤ 5 → zfd (zps N) k t = zfd (z1w N) k (zfd (z1t N) k t)
  | 0, _ => rfl
  | k + 1, hk => by
    show zps N (zfd (zps N) k t) k = z1w N (zfd (z1w N) k (z1t N (zfd (z1t N) k t) k)) k
    rw [zfp_eq hs h k (by omega)]
    unfold zps
    rw [z1t_fw hs (zft_V hs h k (by omega)) (by omega) k (Int.le_refl _)]
/-- the class's year and the document's -/
theorem zpa_eq {N t : zR} (hs : zVs N) (h : zVr N t) : zpa N t = zyr N t := by
  have := hs.2.1
  unfold zpa zyr zpB zyA
  rw [zfp_eq hs h _ (by omega)]
theorem lp_X0_pass {l : Launch} {d : Nat} {σ : zMem} (hd : 4 ≤ d) {a b : Nat} (ha : zly a = some (0, 13)) (hb : zly b = some (2, 4)) (hab : b + 3 < a ∨ a + 5 < b) {N t : zR} (hN : zCs σ a N) (hc : zSc σ b t) (hs : zVs N) (hv : zVr N t) (hy : 0 ≤ t 32 ∧ t 32 < 5000) : ∀ (m n : Nat), n + m = (N 48).toNat → ∀ σc : zMem, zSc σc b (zfd (zps N) n t) → (∀ r, ¬ (b ≤ r ∧ r ≤ b + 3) → σc r = σ r) → zw l d mX0_pass 2 [some (.ref a), some (.ref b), some (.int (zI ((n : Int))))] [] σc (fun v σ1 => v = none ∧ zSc σ1 b (zyr N t) ∧ ∀ r, ¬ (b ≤ r ∧ r ≤ b + 3) → σ1 r = σ r) := by
  intro m
  induction m with
  | zero =>
    intro n h1 σc g1 g2
    have hs2 := hs.2.1
    have hN2 := zCs_fr (σ' := σc) (fun b h0 h1 => g2 b (by omega)) hN
    have e1 := hN2.2.1
    have e2 := zfp_32 hs hv n (by omega)
    have e3 := g1.2.2.2
    refine zw_iload_n 3 dX0_pass_2 rfl rfl ?_
    refine zw_aload_n 4 dX0_pass_3 rfl rfl ?_
    refine zw_gti 7 1 dX0_pass_4 rfl fX0_57 (by decide) rfl rfl ha ?_
    rw [e1]
    refine zw_icmp_ge 22 10 dX0_pass_7 (by decide) rfl (by omega) (by omega) (fun h7 => ?_) (fun h7 => ?_)
    · refine zw_aload_n 23 dX0_pass_22 rfl rfl ?_
      refine zw_dup 24 dX0_pass_23 rfl rfl ?_
      refine zw_gti 27 0 dX0_pass_24 rfl fX0_92 (by decide) rfl rfl hb ?_
      rw [e3, e2]
      refine zw_iconst 28 dX0_pass_27 rfl ?_
      refine zw_iadd 29 dX0_pass_28 rfl ?_
      refine zw_pti 32 0 dX0_pass_29 rfl pX0_92 (by decide) rfl rfl hb ?_
      rw [zwr]
      refine zw_vret dX0_pass_32 rfl ?_
      refine ⟨rfl, ?_, fun r hr => ?_⟩
      · rw [← zpa_eq hs hv]
        unfold zpa
        have e5 : zfd (zps N) n t = zpB N t := by unfold zpB; rw [show n = (N 48).toNat by omega]
        rw [e5] at g1 e2
        rw [e2]
        refine ⟨fun x h1 h2 => ?_, fun i h1 h2 => ?_, fun s h1 h2 => ?_, ?_⟩
        · rw [zwa_ne _ _ (by omega), zup_ne _ _ (by omega)]; exact g1.1 x h1 h2
        · rw [zwa_ne _ _ (by omega), zup_ne _ _ (by omega)]; exact g1.2.1 i h1 h2
        · rw [zwa_ne _ _ (by omega), zup_ne _ _ (by omega)]; exact g1.2.2.1 s h1 h2
        · rw [zwa_same, zup_same, zup_same]
      · rw [zwa_ne _ _ (by omega)]; exact g2 r hr
    · exfalso; omega
  | succ m ih =>
    intro n h1 σc g1 g2
    have hs2 := hs.2.1
    have hN2 := zCs_fr (σ' := σc) (fun b h0 h1 => g2 b (by omega)) hN
    have e1 := hN2.2.1
    have e2 := zfp_32 hs hv n (by omega)
    have hvn := (zfp_V hs hv n (by omega)).w (c := (n : Int)) (by omega)
    have ih2 := ih (n + 1) (by omega)
    rw [show (((n + 1 : Nat) : Int)) = (n : Int) + 1 by omega] at ih2
    refine zw_iload_n 3 dX0_pass_2 rfl rfl ?_
    refine zw_aload_n 4 dX0_pass_3 rfl rfl ?_
    refine zw_gti 7 1 dX0_pass_4 rfl fX0_57 (by decide) rfl rfl ha ?_
    rw [e1]
    refine zw_icmp_ge 22 10 dX0_pass_7 (by decide) rfl (by omega) (by omega) (fun h7 => ?_) (fun h7 => ?_)
    · exfalso; omega
    · refine zw_aload_n 11 dX0_pass_10 rfl rfl ?_
      refine zw_aload_n 12 dX0_pass_11 rfl rfl ?_
      refine zw_iload_n 13 dX0_pass_12 rfl rfl ?_
      refine zw_callV 16 _ _ dX0_pass_13 rfl kX0_124 qX0_passFor ha ⟨_, rfl, rfl⟩ (by decide) (sp_X0_passFor (d := d - 1) (by omega) ha hb hN2 g1 hs hvn (by rw [e2]; exact hy) (by omega) hab) (by omega) rfl rfl (Nat.le_of_ble_eq_true rfl) (fun r σ' hq => ?_)
      obtain ⟨rfl, q1, q2⟩ := hq
      refine zw_iinc 19 dX0_pass_16 rfl (by decide) rfl ?_
      refine zw_goto 2 dX0_pass_19 (by decide) ?_
      refine zw_loc [true, true, true] rfl ?_
      exact ih2 _ q1 (fun r hr => (q2 r hr).trans (g2 r hr))
theorem sp_X0_pass {l : Launch} {d : Nat} {σ : zMem} (hd : 4 ≤ d) {a b : Nat} (ha : zly a = some (0, 13)) (hb : zly b = some (2, 4)) (hab : b + 3 < a ∨ a + 5 < b) {N t : zR} (hN : zCs σ a N) (hc : zSc σ b t) (hs : zVs N) (hv : zVr N t) (hy : 0 ≤ t 32 ∧ t 32 < 5000)  : zSp l d mX0_pass [.ref a, .ref b] σ (fun v σ1 => v = none ∧ zSc σ1 b (zyr N t) ∧ ∀ r, ¬ (b ≤ r ∧ r ≤ b + 3) → σ1 r = σ r) := by
  refine zSp_of oX0_pass (Nat.le_of_ble_eq_true rfl) ?_
  show zw l d mX0_pass 0 [some (.ref a), some (.ref b), none] [] σ _
  refine zw_iconst 1 dX0_pass_0 rfl ?_
  refine zw_istore_n 2 dX0_pass_1 rfl (by decide) ?_
  exact lp_X0_pass hd ha hb hab hN hc hs hv hy (N 48).toNat 0 (by omega) σ hc (fun r _ => rfl)
