theorem zbest_ge {w : List Nat → Int} : ∀ (L : List (List Nat)) (a : Int × List Nat) (l : List Nat), l ∈ L → w l ≤ (zbest w L a).1
  | [], a, l, h => by cases h
  | x :: L, a, l, h => by
    show w l ≤ (zbest w L (if a.1 < w x then (w x, x) else a)).1
    rcases List.mem_cons.mp h with q | q
    · have h1 := zbest_1 (w := w) L (if a.1 < w x then (w x, x) else a)
      rw [q]
      by_cases q2 : a.1 < w x
      · rw [if_pos q2] at h1 ⊢; exact h1
      · rw [if_neg q2] at h1 ⊢; omega
    · exact zbest_ge L _ l q
theorem zdf_ne (S : Nat) : ∀ (r : Nat) (pre : List Nat), ∃ l, l ∈ zdf S r pre
  | 0, pre => ⟨pre, List.mem_singleton.mpr rfl⟩
  | r + 1, pre => by
    obtain ⟨l, hl⟩ := zdf_ne S r (0 :: pre)
    refine ⟨l, ?_⟩
    rw [zdf_s]
    exact List.mem_flatMap.mpr ⟨0, List.mem_range.mpr (by omega), by rw [show zbk S r pre 0 = zdf S r (0 :: pre) from if_pos (Or.inl rfl)]; exact hl⟩
theorem zse_pt (N : zR) (n : Nat) : zse N n = zbest (zpt N n) (zdf (N 33).toNat (N 48).toNat []) (-1, []) := zbest_w _ _ (fun l hl => zwl_pt (by
  have := zdf_len _ _ _ l hl
  rw [List.length_nil] at this; omega))
theorem zse_0 {N : zR} (hN : 0 ≤ N 59 ∧ N 59 ≤ 6) (n : Nat) : 0 ≤ (zse N n).1 := by
  rw [zse_pt]
  obtain ⟨l, hl⟩ := zdf_ne (N 33).toNat (N 48).toNat []
  have h1 := zbest_ge (w := zpt N n) _ (-1, []) l hl
  have h2 := (zpt_b hN n l).1
  omega
/-- what is laid while the table is filled, from canon c on -/
def zTC (σ : zMem) (N : zR) (n S C : Nat) (c : Int) : Prop := σ 109 0 = (S : Int) ∧ σ 109 1 = (C : Int) ∧ (∀ c' k : Nat, c ≤ c' → c' < C → k ≤ S → σ 112 (8 * (c' : Int) + k) = zfu N n c' ((k : Int) - 1)) ∧ ∀ r : Nat, r ≤ C → c ≤ (C : Int) - r → σ 113 ((C : Int) - r) = zhp N n S C r
def zSX (σ σc : zMem) : Prop := ∀ b, ¬ (102 ≤ b ∧ b ≤ 105) → ¬ (109 ≤ b ∧ b ≤ 113) → σc b = σ b
theorem zTC_mv {σ σ1 : zMem} {N : zR} {n S C : Nat} {c : Int} (h : zTC σ N n S C c) (h9 : σ1 109 = σ 109) (h2 : σ1 112 = σ 112) (h3 : σ1 113 = σ 113) : zTC σ1 N n S C c := by
  unfold zTC; rw [h9, h2, h3]; exact h
theorem li_X3_settle {l : Launch} {d : Nat} {σ : zMem} {N : zR} (hC : zCh σ 2 N) (hV : zVN N) (hd : 8 ≤ d) {n : Int} (hn : 0 ≤ n ∧ n ≤ 12) {m : Nat} (hm : (m : Int) < N 48) {Q : Option Value → zMem → Prop} (kk : ∀ σq, zSX σ σq → zTC σq N n.toNat (N 33).toNat (N 48).toNat ((m : Int) + 1) → (∀ j : Nat, j < (N 33).toNat + 1 → σq 112 (8 * (m : Int) + j) = zfu N n.toNat m ((j : Int) - 1)) → zw l d mX3_settle 98 [some (.ref 109), some (.ref 2), some (.ref 102), some (.int (zI n)), some (.int (zI ((m : Int)))), some (.int (zI ((zmx (fun k => zfu N n.toNat (m : Int) (k - 1)) ((N 33).toNat + 1))))), none, none] [] σq Q) : ∀ (q j : Nat), j + q = (N 33).toNat + 1 → ∀ σc, zSX σ σc → zTC σc N n.toNat (N 33).toNat (N 48).toNat ((m : Int) + 1) → (∀ i : Nat, i < j → σc 112 (8 * (m : Int) + i) = zfu N n.toNat m ((i : Int) - 1)) → zw l d mX3_settle 45 [some (.ref 109), some (.ref 2), some (.ref 102), some (.int (zI n)), some (.int (zI ((m : Int)))), some (.int (zI ((zmx (fun k => zfu N n.toNat (m : Int) (k - 1)) j)))), some (.int (zI ((j : Int) - 1))), none] [] σc Q := by
  have hs := hV.1
  have hv := hV.2.1
  have hy := hV.2.2.1
  have hB := zVN_bd hV
  have gN := hs.1
  have gC := hs.2.1
  have c0 : σ 2 0 = N 33 := hC.1.1.1
  have c1 : σ 2 1 = N 48 := hC.1.1.2.1
  have c2 : ∀ s, 0 ≤ s → s < N 33 → σ 3 s = N (34 + s) ∧ σ 4 s = N (41 + s) := hC.1.1.2.2.1
  have c3 : ∀ c, 0 ≤ c → c < N 48 → σ 5 c = N (49 + c) ∧ σ 6 c = N (54 + c) ∧ σ 7 c = zhv (N (49 + c)) (N (54 + c)) := hC.1.1.2.2.2
  have c4 : zSc σ 8 N := hC.1.2.1
  have c41 : ∀ c, 0 ≤ c → c < 5 → σ 9 c = N c := c4.1
  have c42 : ∀ i, 0 ≤ i → i < 20 → σ 10 i = N (5 + i) := c4.2.1
  have c43 : ∀ s, 0 ≤ s → s < 7 → σ 11 s = N (25 + s) := c4.2.2.1
  have c44 : σ 8 0 = N 32 := c4.2.2.2
  have c5 : zRo σ 13 3 59 N := hC.1.2.2.1
  have c6 : zRo σ 15 5 78 N := hC.1.2.2.2.1
  have c7 : zRo σ 17 4 109 N := hC.1.2.2.2.2
  have c8 : σ 2 2 = N 134 := hC.2.1
  have hb5 : ∀ c, 0 ≤ c → c < 5 → -1 ≤ N c ∧ N c < 1000 := fun c h0 h1 => by have := hv.1 c h0 h1; omega
  intro q
  induction q with
  | zero =>
    intro j hj σc hX hT hG
    obtain rfl : j = (N 33).toNat + 1 := by omega
    have e0 := hT.1
    refine zw_iload 47 dX3_settle_45 rfl rfl ?_
    refine zw_aload_n 48 dX3_settle_47 rfl rfl ?_
    refine zw_gti 51 0 dX3_settle_48 rfl fX3_30 (by decide) rfl rfl ly109 ?_
    rw [e0]
    refine zw_icmp_ge 98 54 dX3_settle_51 (by decide) rfl (by omega) (by omega) (fun h51 => ?_) (fun h51 => ?_)
    · refine zw_loc [true, true, true, true, true, true, false, false] rfl ?_
      exact kk _ hX hT hG
    · exfalso; omega
  | succ q ih =>
    intro j hj σc hX hT hG
    have e0 := hT.1
    have gW := hV.2.2.2.1.1
    have hCc := zCh_fr (σ' := σc) (fun b b0 b1 => hX b (by omega) (by omega)) hC
    have zb := zfu_b N gW n.toNat (m : Int) ((j : Int) - 1)
    have zm0 := zmx_0 (fun k => zfu N n.toNat (m : Int) (k - 1)) j
    have zm6 : zmx (fun k => zfu N n.toNat (m : Int) (k - 1)) j ≤ 6 := zmx_le (by omega) _ (fun x _ _ => (zfu_b N gW n.toNat (m : Int) (x - 1)).2)
    have ih2 := ih (j + 1) (by omega)
    rw [show zmx (fun k => zfu N n.toNat (m : Int) (k - 1)) (j + 1) = max (zmx (fun k => zfu N n.toNat (m : Int) (k - 1)) j) (zfu N n.toNat (m : Int) ((j : Int) - 1)) from rfl, show (((j + 1 : Nat) : Int)) - 1 = (j : Int) - 1 + 1 by omega] at ih2
    refine zw_iload 47 dX3_settle_45 rfl rfl ?_
    refine zw_aload_n 48 dX3_settle_47 rfl rfl ?_
    refine zw_gti 51 0 dX3_settle_48 rfl fX3_30 (by decide) rfl rfl ly109 ?_
    rw [e0]
    refine zw_icmp_ge 98 54 dX3_settle_51 (by decide) rfl (by omega) (by omega) (fun h51 => ?_) (fun h51 => ?_)
    · exfalso; omega
    · refine zw_aload_n 55 dX3_settle_54 rfl rfl ?_
      refine zw_aload_n 56 dX3_settle_55 rfl rfl ?_
      refine zw_iload 58 dX3_settle_56 rfl rfl ?_
      refine zw_iload 60 dX3_settle_58 rfl rfl ?_
      refine zw_iload_n 61 dX3_settle_60 rfl rfl ?_
      refine zw_callS 64 _ _ dX3_settle_61 rfl kX3_35 qX3_wishesCome (sp_X3_wishesCome (d := d - 1) hCc hV (by omega) (c := (m : Int)) (s := (j : Int) - 1) (n := n) (by omega) (by omega) hn) (by omega) rfl rfl (Nat.le_of_ble_eq_true rfl) (fun r σ' hq => ?_)
      obtain ⟨rfl, q2⟩ := hq
      refine zw_istore 66 dX3_settle_64 rfl (by decide) ?_
      refine zw_aload_n 67 dX3_settle_66 rfl rfl ?_
      refine zw_getr 70 (112) (o := 3) dX3_settle_67 rfl fX3_18 (by decide) rfl rfl ly109 ?_
      refine zw_iload 72 dX3_settle_70 rfl rfl ?_
      refine zw_bipush 74 dX3_settle_72 rfl (by decide) ?_
      refine zw_imul 75 dX3_settle_74 rfl ?_
      refine zw_iload 77 dX3_settle_75 rfl rfl ?_
      refine zw_iadd 78 dX3_settle_77 rfl ?_
      refine zw_iconst 79 dX3_settle_78 rfl ?_
      refine zw_iadd 80 dX3_settle_79 rfl ?_
      refine zw_iload 82 dX3_settle_80 rfl rfl ?_
      refine zw_iast 83 dX3_settle_82 rfl ly112 (by omega) ?_
      refine zw_iload 85 dX3_settle_83 rfl rfl ?_
      refine zw_iload 87 dX3_settle_85 rfl rfl ?_
      refine zw_mmax 90 dX3_settle_87 rfl xX3_39 (by omega) (by omega) rfl (by omega) ?_
      refine zw_istore 92 dX3_settle_90 rfl (by decide) ?_
      refine zw_iinc 95 dX3_settle_92 rfl (by decide) rfl ?_
      refine zw_goto 45 dX3_settle_95 (by decide) ?_
      refine zw_loc [true, true, true, true, true, true, true, false] rfl ?_
      have ei : (m : Int) * 8 + ((j : Int) - 1) + 1 = 8 * (m : Int) + j := by omega
      rw [ei]
      refine ih2 _ (fun b b0 b1 => (zwr_ne _ _ _ (by omega)).trans ((q2 b b0).trans (hX b b0 b1))) ⟨?_, ?_, fun c' k h0 h1 h2 => ?_, fun r h0 h1 => ?_⟩ (fun i hi => ?_)
      · rw [zwr_ne _ _ _ (by decide), q2 109 (by decide)]; exact hT.1
      · rw [zwr_ne _ _ _ (by decide), q2 109 (by decide)]; exact hT.2.1
      · rw [zwr_ni _ _ _ (by omega), q2 112 (by decide)]; exact hT.2.2.1 c' k h0 h1 h2
      · rw [zwr_ne _ _ _ (by decide), q2 113 (by decide)]; exact hT.2.2.2 r h0 h1
      · by_cases e : i = j
        · rw [e, zwr_same]
        · rw [zwr_ni _ _ _ (by omega), q2 112 (by decide)]; exact hG i (by omega)
theorem lo_X3_settle {l : Launch} {d : Nat} {σ : zMem} {N : zR} (hC : zCh σ 2 N) (hV : zVN N) (hd : 8 ≤ d) {n : Int} (hn : 0 ≤ n ∧ n ≤ 12) {Q : Option Value → zMem → Prop} (kk : ∀ σq, zSX σ σq → zTC σq N n.toNat (N 33).toNat (N 48).toNat 0 → zw l d mX3_settle 123 [some (.ref 109), some (.ref 2), some (.ref 102), some (.int (zI n)), none, none, none, none] [] σq Q) : ∀ (m : Nat), (m : Int) ≤ N 48 → ∀ σc, zSX σ σc → zTC σc N n.toNat (N 33).toNat (N 48).toNat (m : Int) → zw l d mX3_settle 34 [some (.ref 109), some (.ref 2), some (.ref 102), some (.int (zI n)), some (.int (zI ((m : Int) - 1))), none, none, none] [] σc Q := by
  have hs := hV.1
  have hv := hV.2.1
  have hy := hV.2.2.1
  have hB := zVN_bd hV
  have gN := hs.1
  have gC := hs.2.1
  have c0 : σ 2 0 = N 33 := hC.1.1.1
  have c1 : σ 2 1 = N 48 := hC.1.1.2.1
  have c2 : ∀ s, 0 ≤ s → s < N 33 → σ 3 s = N (34 + s) ∧ σ 4 s = N (41 + s) := hC.1.1.2.2.1
  have c3 : ∀ c, 0 ≤ c → c < N 48 → σ 5 c = N (49 + c) ∧ σ 6 c = N (54 + c) ∧ σ 7 c = zhv (N (49 + c)) (N (54 + c)) := hC.1.1.2.2.2
  have c4 : zSc σ 8 N := hC.1.2.1
  have c41 : ∀ c, 0 ≤ c → c < 5 → σ 9 c = N c := c4.1
  have c42 : ∀ i, 0 ≤ i → i < 20 → σ 10 i = N (5 + i) := c4.2.1
  have c43 : ∀ s, 0 ≤ s → s < 7 → σ 11 s = N (25 + s) := c4.2.2.1
  have c44 : σ 8 0 = N 32 := c4.2.2.2
  have c5 : zRo σ 13 3 59 N := hC.1.2.2.1
  have c6 : zRo σ 15 5 78 N := hC.1.2.2.2.1
  have c7 : zRo σ 17 4 109 N := hC.1.2.2.2.2
  have c8 : σ 2 2 = N 134 := hC.2.1
  have hb5 : ∀ c, 0 ≤ c → c < 5 → -1 ≤ N c ∧ N c < 1000 := fun c h0 h1 => by have := hv.1 c h0 h1; omega
  intro m
  induction m with
  | zero =>
    intro hm σc hX hT
    refine zw_iload 36 dX3_settle_34 rfl rfl ?_
    refine zw_if_lt 123 39 dX3_settle_36 (by decide) rfl (by omega) (fun h36 => ?_) (fun h36 => ?_)
    · refine zw_loc [true, true, true, true, false, false, false, false] rfl ?_
      exact kk _ hX hT
    · exfalso; omega
  | succ m ih =>
    intro hm σc hX hT
    rw [show (((m + 1 : Nat) : Int)) = (m : Int) + 1 by omega] at hT
    rw [show (((m + 1 : Nat) : Int)) - 1 = (m : Int) by omega]
    have k98 : ∀ σq, zSX σ σq → zTC σq N n.toNat (N 33).toNat (N 48).toNat ((m : Int) + 1) → (∀ j : Nat, j < (N 33).toNat + 1 → σq 112 (8 * (m : Int) + j) = zfu N n.toNat m ((j : Int) - 1)) → zw l d mX3_settle 98 [some (.ref 109), some (.ref 2), some (.ref 102), some (.int (zI n)), some (.int (zI ((m : Int)))), some (.int (zI ((zmx (fun k => zfu N n.toNat (m : Int) (k - 1)) ((N 33).toNat + 1))))), none, none] [] σq Q := by
      intro σq h1 h2 h3
      have eh := h2.2.2.2 ((N 48).toNat - 1 - m) (by omega) (by omega)
      rw [show (((N 48).toNat : Nat) : Int) - (((N 48).toNat - 1 - m : Nat) : Int) = (m : Int) + 1 by omega] at eh
      have er : zhp N n.toNat (N 33).toNat (N 48).toNat ((N 48).toNat - 1 - m + 1) = zhp N n.toNat (N 33).toNat (N 48).toNat ((N 48).toNat - 1 - m) + zmg N n.toNat (N 33).toNat (m : Int) := by
        show zhp N n.toNat (N 33).toNat (N 48).toNat ((N 48).toNat - 1 - m) + zmg N n.toNat (N 33).toNat ((((N 48).toNat : Nat) : Int) - 1 - (((N 48).toNat - 1 - m : Nat) : Int)) = _
        rw [show (((N 48).toNat : Nat) : Int) - 1 - (((N 48).toNat - 1 - m : Nat) : Int) = (m : Int) by omega]
      refine zw_aload_n 99 dX3_settle_98 rfl rfl ?_
      refine zw_getr 102 (113) (o := 4) dX3_settle_99 rfl fX3_21 (by decide) rfl rfl ly109 ?_
      refine zw_iload 104 dX3_settle_102 rfl rfl ?_
      refine zw_aload_n 105 dX3_settle_104 rfl rfl ?_
      refine zw_getr 108 (113) (o := 4) dX3_settle_105 rfl fX3_21 (by decide) rfl rfl ly109 ?_
      refine zw_iload 110 dX3_settle_108 rfl rfl ?_
      refine zw_iconst 111 dX3_settle_110 rfl ?_
      refine zw_iadd 112 dX3_settle_111 rfl ?_
      refine zw_iald 113 dX3_settle_112 rfl ly113 (by omega) ?_
      rw [eh]
      refine zw_iload 115 dX3_settle_113 rfl rfl ?_
      refine zw_iadd 116 dX3_settle_115 rfl ?_
      refine zw_iast 117 dX3_settle_116 rfl ly113 (by omega) ?_
      refine zw_iinc 120 dX3_settle_117 rfl (by decide) rfl ?_
      refine zw_goto 34 dX3_settle_120 (by decide) ?_
      refine zw_loc [true, true, true, true, true, false, false, false] rfl ?_
      rw [show (m : Int) + -1 = (m : Int) - 1 by omega]
      refine ih (by omega) _ (fun b b0 b1 => (zwr_ne _ _ _ (by omega)).trans (h1 b b0 b1)) ⟨?_, ?_, fun c' k h5 h6 h7 => ?_, fun r h5 h6 => ?_⟩
      · rw [zwr_ne _ _ _ (by decide)]; exact h2.1
      · rw [zwr_ne _ _ _ (by decide)]; exact h2.2.1
      · rw [zwr_ne _ _ _ (by decide)]
        by_cases e : c' = m
        · rw [e]; exact h3 k (by omega)
        · exact h2.2.2.1 c' k (by omega) h6 h7
      · by_cases e : r = (N 48).toNat - 1 - m + 1
        · rw [show (((N 48).toNat : Nat) : Int) - (r : Int) = (m : Int) by omega, zwr_same, e, er]; rfl
        · rw [zwr_ni _ _ _ (by omega)]; exact h2.2.2.2 r h5 (by omega)
    have hl := li_X3_settle (l := l) hC hV hd hn (m := m) (by omega) k98 ((N 33).toNat + 1) 0 (by omega) σc hX hT (fun i hi => by omega)
    rw [show zmx (fun k => zfu N n.toNat (m : Int) (k - 1)) 0 = 0 from rfl, show (((0 : Nat) : Int)) - 1 = -1 from rfl] at hl
    refine zw_iload 36 dX3_settle_34 rfl rfl ?_
    refine zw_if_lt 123 39 dX3_settle_36 (by decide) rfl (by omega) (fun h36 => ?_) (fun h36 => ?_)
    · exfalso; omega
    · refine zw_iconst 40 dX3_settle_39 rfl ?_
      refine zw_istore 42 dX3_settle_40 rfl (by decide) ?_
      refine zw_iconst 43 dX3_settle_42 rfl ?_
      refine zw_istore 45 dX3_settle_43 rfl (by decide) ?_
      exact hl
theorem le_X3_settle {l : Launch} {d : Nat} {σ : zMem} {N : zR} (hC : zCh σ 2 N) (hV : zVN N) (hd : 8 ≤ d) {n : Int} (hn : 0 ≤ n ∧ n ≤ 12) {σc : zMem} (hX : zSX σ σc) (hT : zTC σc N n.toNat (N 33).toNat (N 48).toNat 0) : zw l d mX3_settle 123 [some (.ref 109), some (.ref 2), some (.ref 102), some (.int (zI n)), none, none, none, none] [] σc (fun v σ1 => v = none ∧ zNc σ σ1 ∧ σ1 109 2 = (zse N n.toNat).1 ∧ zrl (N 48).toNat (zse N n.toNat).2 (σ1 110)) := by
  have hs := hV.1
  have hv := hV.2.1
  have hy := hV.2.2.1
  have hB := zVN_bd hV
  have gN := hs.1
  have gC := hs.2.1
  have c0 : σ 2 0 = N 33 := hC.1.1.1
  have c1 : σ 2 1 = N 48 := hC.1.1.2.1
  have c2 : ∀ s, 0 ≤ s → s < N 33 → σ 3 s = N (34 + s) ∧ σ 4 s = N (41 + s) := hC.1.1.2.2.1
  have c3 : ∀ c, 0 ≤ c → c < N 48 → σ 5 c = N (49 + c) ∧ σ 6 c = N (54 + c) ∧ σ 7 c = zhv (N (49 + c)) (N (54 + c)) := hC.1.1.2.2.2
  have c4 : zSc σ 8 N := hC.1.2.1
  have c41 : ∀ c, 0 ≤ c → c < 5 → σ 9 c = N c := c4.1
  have c42 : ∀ i, 0 ≤ i → i < 20 → σ 10 i = N (5 + i) := c4.2.1
  have c43 : ∀ s, 0 ≤ s → s < 7 → σ 11 s = N (25 + s) := c4.2.2.1
  have c44 : σ 8 0 = N 32 := c4.2.2.2
  have c5 : zRo σ 13 3 59 N := hC.1.2.2.1
  have c6 : zRo σ 15 5 78 N := hC.1.2.2.2.1
  have c7 : zRo σ 17 4 109 N := hC.1.2.2.2.2
  have c8 : σ 2 2 = N 134 := hC.2.1
  have hb5 : ∀ c, 0 ≤ c → c < 5 → -1 ≤ N c ∧ N c < 1000 := fun c h0 h1 => by have := hv.1 c h0 h1; omega
  have gW := hV.2.2.2.1.1
  have hTB : zTB (zwr σc 109 2 (-1)) N n.toNat (N 33).toNat (N 48).toNat := by
    refine ⟨by rw [zwr_ni _ _ _ (by decide)]; exact hT.1, by rw [zwr_ni _ _ _ (by decide)]; exact hT.2.1, fun c k h0 h1 => ?_, fun r h0 => ?_⟩
    · rw [zwr_ne _ _ _ (by decide)]; exact hT.2.2.1 c k (by omega) h0 h1
    · rw [zwr_ne _ _ _ (by decide)]; exact hT.2.2.2 r h0 (by omega)
  have hsp := sp_X3_tryFrom (l := l) gW (n := n.toNat) (S := (N 33).toNat) (C := (N 48).toNat) (by omega) (by omega) (N 48).toNat (d := d - 1) (by omega) (zwr σc 109 2 (-1)) [] 0 (-1, []) (by rw [List.length_nil]; omega) (fun v hv => by cases hv) ⟨by decide, fun s hs => by simp⟩ hTB ⟨zwr_same _ _ _ _, fun h => absurd rfl h, Int.le_refl _, by show (-1 : Int) ≤ 36; decide⟩ ⟨rfl, fun i v h => by simp at h, fun v h => by cases h⟩
  rw [show ((([] : List Nat).length : Nat) : Int) = 0 from rfl, show ((0 : Nat) : Int) = 0 from rfl, show zpt N n.toNat [] = 0 from rfl, ← zse_pt] at hsp
  have z0 := zse_0 gW n.toNat
  refine zw_aload_n 124 dX3_settle_123 rfl rfl ?_
  refine zw_iconst 125 dX3_settle_124 rfl ?_
  refine zw_pti 128 2 dX3_settle_125 rfl pX3_45 (by decide) rfl rfl ly109 ?_
  refine zw_aload_n 129 dX3_settle_128 rfl rfl ?_
  refine zw_iconst 130 dX3_settle_129 rfl ?_
  refine zw_iconst 131 dX3_settle_130 rfl ?_
  refine zw_iconst 132 dX3_settle_131 rfl ?_
  refine zw_callS 135 _ _ dX3_settle_132 rfl kX3_48 qX3_tryFrom (hsp) (by omega) rfl rfl (Nat.le_of_ble_eq_true rfl) (fun r σ' hq => ?_)
  obtain ⟨rfl, q1, q2⟩ := hq
  refine zw_vret dX3_settle_135 rfl ?_
  refine ⟨rfl, fun b b0 b1 => ?_, q2.1, q2.2.1 (by omega)⟩
  rw [q1.1 b (by omega) (by omega) (by omega), zwr_ne _ _ _ (by omega)]; exact hX b b0 (by omega)
theorem sp_X3_settle {l : Launch} {d : Nat} {σ : zMem} {N : zR} (hC : zCh σ 2 N) (hV : zVN N) (hd : 8 ≤ d) {n : Int} (hn : 0 ≤ n ∧ n ≤ 12)  : zSp l d mX3_settle [.ref 109, .ref 2, .ref 102, .int (zI n)] σ (fun v σ1 => v = none ∧ zNc σ σ1 ∧ σ1 109 2 = (zse N n.toNat).1 ∧ zrl (N 48).toNat (zse N n.toNat).2 (σ1 110)) := by
  refine zSp_of oX3_settle (Nat.le_of_ble_eq_true rfl) ?_
  show zw l d mX3_settle 0 [some (.ref 109), some (.ref 2), some (.ref 102), some (.int (zI n)), none, none, none, none] [] σ _
  have hs := hV.1
  have hv := hV.2.1
  have hy := hV.2.2.1
  have hB := zVN_bd hV
  have gN := hs.1
  have gC := hs.2.1
  have c0 : σ 2 0 = N 33 := hC.1.1.1
  have c1 : σ 2 1 = N 48 := hC.1.1.2.1
  have c2 : ∀ s, 0 ≤ s → s < N 33 → σ 3 s = N (34 + s) ∧ σ 4 s = N (41 + s) := hC.1.1.2.2.1
  have c3 : ∀ c, 0 ≤ c → c < N 48 → σ 5 c = N (49 + c) ∧ σ 6 c = N (54 + c) ∧ σ 7 c = zhv (N (49 + c)) (N (54 + c)) := hC.1.1.2.2.2
  have c4 : zSc σ 8 N := hC.1.2.1
  have c41 : ∀ c, 0 ≤ c → c < 5 → σ 9 c = N c := c4.1
  have c42 : ∀ i, 0 ≤ i → i < 20 → σ 10 i = N (5 + i) := c4.2.1
  have c43 : ∀ s, 0 ≤ s → s < 7 → σ 11 s = N (25 + s) := c4.2.2.1
  have c44 : σ 8 0 = N 32 := c4.2.2.2
  have c5 : zRo σ 13 3 59 N := hC.1.2.2.1
  have c6 : zRo σ 15 5 78 N := hC.1.2.2.2.1
  have c7 : zRo σ 17 4 109 N := hC.1.2.2.2.2
  have c8 : σ 2 2 = N 134 := hC.2.1
  have hb5 : ∀ c, 0 ≤ c → c < 5 → -1 ≤ N c ∧ N c < 1000 := fun c h0 h1 => by have := hv.1 c h0 h1; omega
  refine zw_aload_n 1 dX3_settle_0 rfl rfl ?_
  refine zw_aload_n 2 dX3_settle_1 rfl rfl ?_
  refine zw_gti 5 0 dX3_settle_2 rfl fX3_24 (by decide) rfl rfl ly2 ?_
  rw [c0]
  refine zw_pti 8 0 dX3_settle_5 rfl pX3_30 (by decide) rfl rfl ly109 ?_
  refine zw_aload_n 9 dX3_settle_8 rfl rfl ?_
  refine zw_aload_n 10 dX3_settle_9 rfl rfl ?_
  refine zw_gti 13 1 dX3_settle_10 rfl fX3_31 (by decide) rfl rfl ly2 ?_
  rw [zwr_ne _ _ _ (by decide), c1]
  refine zw_pti 16 1 dX3_settle_13 rfl pX3_34 (by decide) rfl rfl ly109 ?_
  refine zw_aload_n 17 dX3_settle_16 rfl rfl ?_
  refine zw_getr 20 (113) (o := 4) dX3_settle_17 rfl fX3_21 (by decide) rfl rfl ly109 ?_
  refine zw_aload_n 21 dX3_settle_20 rfl rfl ?_
  refine zw_gti 24 1 dX3_settle_21 rfl fX3_34 (by decide) rfl rfl ly109 ?_
  rw [zwr_same]
  refine zw_iconst 25 dX3_settle_24 rfl ?_
  refine zw_iast 26 dX3_settle_25 rfl ly113 (by omega) ?_
  refine zw_aload_n 27 dX3_settle_26 rfl rfl ?_
  refine zw_gti 30 1 dX3_settle_27 rfl fX3_34 (by decide) rfl rfl ly109 ?_
  rw [zwr_ne _ _ _ (by decide), zwr_same]
  refine zw_iconst 31 dX3_settle_30 rfl ?_
  refine zw_isub 32 dX3_settle_31 rfl ?_
  refine zw_istore 34 dX3_settle_32 rfl (by decide) ?_
  rw [show N 48 - 1 = (((N 48).toNat : Nat) : Int) - 1 by omega]
  refine lo_X3_settle hC hV hd hn (fun σq h1 h2 => le_X3_settle hC hV hd hn h1 h2) (N 48).toNat (by omega) _ (fun b b0 b1 => ?_) ⟨?_, ?_, fun c' k h0 h1 h2 => by omega, fun r h0 h1 => ?_⟩
  · rw [zwr_ne _ _ _ (by omega), zwr_ne _ _ _ (by omega), zwr_ne _ _ _ (by omega)]
  · rw [zwr_ne _ _ _ (by decide), zwr_ni _ _ _ (by decide), zwr_same]; omega
  · rw [zwr_ne _ _ _ (by decide), zwr_same]; omega
  · obtain rfl : r = 0 := by omega
    rw [show (((N 48).toNat : Nat) : Int) - ((0 : Nat) : Int) = N 48 by omega, zwr_same]; rfl
theorem sp_X5_seating {l : Launch} {d : Nat} {σ : zMem} (hd : 9 ≤ d) {N : zR} (hC : zCh σ 2 N) (hV : zVN N) {n c : Int} (hn : -2147483648 ≤ n ∧ n < 2147483648) (hc : -2147483648 ≤ c ∧ c < 2147483648)  : zSp l d mX5_seating [.ref 1, .int (zI n), .int (zI c)] σ (zAn 118 ((0 ≤ n ∧ n ≤ 12) ∧ -1 ≤ c ∧ c ≤ N 48 - 1) (zsv N n.toNat c) 0 (-10) σ) := by
  refine zSp_of oX5_seating (Nat.le_of_ble_eq_true rfl) ?_
  show zw l d mX5_seating 0 [some (.ref 1), some (.int (zI n)), some (.int (zI c))] [] σ _
  have hs := hV.1
  have hv := hV.2.1
  have hy := hV.2.2.1
  have hB := zVN_bd hV
  have gN := hs.1
  have gC := hs.2.1
  have c0 : σ 2 0 = N 33 := hC.1.1.1
  have c1 : σ 2 1 = N 48 := hC.1.1.2.1
  have c2 : ∀ s, 0 ≤ s → s < N 33 → σ 3 s = N (34 + s) ∧ σ 4 s = N (41 + s) := hC.1.1.2.2.1
  have c3 : ∀ c, 0 ≤ c → c < N 48 → σ 5 c = N (49 + c) ∧ σ 6 c = N (54 + c) ∧ σ 7 c = zhv (N (49 + c)) (N (54 + c)) := hC.1.1.2.2.2
  have c4 : zSc σ 8 N := hC.1.2.1
  have c41 : ∀ c, 0 ≤ c → c < 5 → σ 9 c = N c := c4.1
  have c42 : ∀ i, 0 ≤ i → i < 20 → σ 10 i = N (5 + i) := c4.2.1
  have c43 : ∀ s, 0 ≤ s → s < 7 → σ 11 s = N (25 + s) := c4.2.2.1
  have c44 : σ 8 0 = N 32 := c4.2.2.2
  have c5 : zRo σ 13 3 59 N := hC.1.2.2.1
  have c6 : zRo σ 15 5 78 N := hC.1.2.2.2.1
  have c7 : zRo σ 17 4 109 N := hC.1.2.2.2.2
  have c8 : σ 2 2 = N 134 := hC.2.1
  have hb5 : ∀ c, 0 ≤ c → c < 5 → -1 ≤ N c ∧ N c < 1000 := fun c h0 h1 => by have := hv.1 c h0 h1; omega
  refine zw_iload_n 1 dX5_seating_0 rfl rfl ?_
  refine zw_iconst 2 dX5_seating_1 rfl ?_
  refine zw_bipush 4 dX5_seating_2 rfl (by decide) ?_
  refine zw_callS 7 _ _ dX5_seating_4 rfl kX5_85 qX5_within (sp_X5_within (d := d - 1) (by omega) (by omega) (by omega)) (by omega) rfl rfl (Nat.le_of_ble_eq_true rfl) (fun r σ' hq => ?_)
  obtain ⟨rfl, rfl⟩ := hq
  refine zw_if_eq 23 10 dX5_seating_7 (by decide) rfl (by omega) (fun h7 => ?_) (fun h7 => ?_)
  · refine zw_aload_n 24 dX5_seating_23 rfl rfl ?_
    refine zw_bipush 26 dX5_seating_24 rfl (by decide) ?_
    refine zw_callV 29 _ _ dX5_seating_26 rfl kX5_128 qX5_refuseAs ly1 ⟨_, rfl, rfl⟩ (by decide) (sp_X5_refuseAs (d := d - 1)) (by omega) rfl rfl (Nat.le_of_ble_eq_true rfl) (fun r σ' hq => ?_)
    obtain ⟨rfl, rfl⟩ := hq
    refine zw_iret dX5_seating_29 rfl ?_
    first
      | exact zAn_f (by omega)
      | exact zAn_t (by omega) (by unfold zsv; rw [if_pos (by omega)]; exact q3) q2.ns
      | exact zAn_t (by omega) (by unfold zsv; rw [if_neg (by omega)]; exact zat_eq q4 (by omega) (by omega)) q2.ns
  · refine zw_iload_n 11 dX5_seating_10 rfl rfl ?_
    refine zw_iconst 12 dX5_seating_11 rfl ?_
    refine zw_icmp_eq 30 15 dX5_seating_12 (by decide) rfl (by omega) (by omega) (fun h12 => ?_) (fun h12 => ?_)
    · refine zw_aload_n 31 dX5_seating_30 rfl rfl ?_
      refine zw_getr 34 (109) (o := 108) dX5_seating_31 rfl fX5_44 (by decide) rfl rfl ly1 ?_
      refine zw_aload_n 35 dX5_seating_34 rfl rfl ?_
      refine zw_getr 38 (2) (o := 1) dX5_seating_35 rfl fX5_10 (by decide) rfl rfl ly1 ?_
      refine zw_aload_n 39 dX5_seating_38 rfl rfl ?_
      refine zw_getr 42 (102) (o := 101) dX5_seating_39 rfl fX5_30 (by decide) rfl rfl ly1 ?_
      refine zw_iload_n 43 dX5_seating_42 rfl rfl ?_
      refine zw_callV 46 _ _ dX5_seating_43 rfl kX5_229 qX3_settle ly109 ⟨_, rfl, rfl⟩ (by decide) (sp_X3_settle (d := d - 1) hC hV (by omega) (n := n) (by omega)) (by omega) rfl rfl (Nat.le_of_ble_eq_true rfl) (fun r σ' hq => ?_)
      obtain ⟨rfl, q2, q3, q4⟩ := hq
      refine zw_iload_n 47 dX5_seating_46 rfl rfl ?_
      refine zw_iconst 48 dX5_seating_47 rfl ?_
      refine zw_icmp_ne 61 51 dX5_seating_48 (by decide) rfl (by omega) (by omega) (fun h48 => ?_) (fun h48 => ?_)
      · refine zw_aload_n 62 dX5_seating_61 rfl rfl ?_
        refine zw_getr 65 (109) (o := 108) dX5_seating_62 rfl fX5_44 (by decide) rfl rfl ly1 ?_
        refine zw_getr 68 (110) (o := 1) dX5_seating_65 rfl fX5_236 (by decide) rfl rfl ly109 ?_
        refine zw_iload_n 69 dX5_seating_68 rfl rfl ?_
        refine zw_iald 70 dX5_seating_69 rfl ly110 (by omega) ?_
        refine zw_iret dX5_seating_70 rfl ?_
        first
          | exact zAn_f (by omega)
          | exact zAn_t (by omega) (by unfold zsv; rw [if_pos (by omega)]; exact q3) q2.ns
          | exact zAn_t (by omega) (by unfold zsv; rw [if_neg (by omega)]; exact zat_eq q4 (by omega) (by omega)) q2.ns
      · refine zw_aload_n 52 dX5_seating_51 rfl rfl ?_
        refine zw_getr 55 (109) (o := 108) dX5_seating_52 rfl fX5_44 (by decide) rfl rfl ly1 ?_
        refine zw_gti 58 2 dX5_seating_55 rfl fX5_233 (by decide) rfl rfl ly109 ?_
        refine zw_goto 70 dX5_seating_58 (by decide) ?_
        refine zw_iret dX5_seating_70 rfl ?_
        first
          | exact zAn_f (by omega)
          | exact zAn_t (by omega) (by unfold zsv; rw [if_pos (by omega)]; exact q3) q2.ns
          | exact zAn_t (by omega) (by unfold zsv; rw [if_neg (by omega)]; exact zat_eq q4 (by omega) (by omega)) q2.ns
    · refine zw_aload_n 16 dX5_seating_15 rfl rfl ?_
      refine zw_iload_n 17 dX5_seating_16 rfl rfl ?_
      refine zw_callV 20 _ _ dX5_seating_17 rfl kX5_122 qX5_isCanon ly1 ⟨_, rfl, rfl⟩ (by decide) (sp_X5_isCanon (d := d - 1) (by omega) hC.1.1 (by omega) (by omega)) (by omega) rfl rfl (Nat.le_of_ble_eq_true rfl) (fun r σ' hq => ?_)
      obtain ⟨rfl, rfl⟩ := hq
      refine zw_if_ne 30 23 dX5_seating_20 (by decide) rfl (by omega) (fun h20 => ?_) (fun h20 => ?_)
      · refine zw_aload_n 31 dX5_seating_30 rfl rfl ?_
        refine zw_getr 34 (109) (o := 108) dX5_seating_31 rfl fX5_44 (by decide) rfl rfl ly1 ?_
        refine zw_aload_n 35 dX5_seating_34 rfl rfl ?_
        refine zw_getr 38 (2) (o := 1) dX5_seating_35 rfl fX5_10 (by decide) rfl rfl ly1 ?_
        refine zw_aload_n 39 dX5_seating_38 rfl rfl ?_
        refine zw_getr 42 (102) (o := 101) dX5_seating_39 rfl fX5_30 (by decide) rfl rfl ly1 ?_
        refine zw_iload_n 43 dX5_seating_42 rfl rfl ?_
        refine zw_callV 46 _ _ dX5_seating_43 rfl kX5_229 qX3_settle ly109 ⟨_, rfl, rfl⟩ (by decide) (sp_X3_settle (d := d - 1) hC hV (by omega) (n := n) (by omega)) (by omega) rfl rfl (Nat.le_of_ble_eq_true rfl) (fun r σ' hq => ?_)
        obtain ⟨rfl, q2, q3, q4⟩ := hq
        refine zw_iload_n 47 dX5_seating_46 rfl rfl ?_
        refine zw_iconst 48 dX5_seating_47 rfl ?_
        refine zw_icmp_ne 61 51 dX5_seating_48 (by decide) rfl (by omega) (by omega) (fun h48 => ?_) (fun h48 => ?_)
        · refine zw_aload_n 62 dX5_seating_61 rfl rfl ?_
          refine zw_getr 65 (109) (o := 108) dX5_seating_62 rfl fX5_44 (by decide) rfl rfl ly1 ?_
          refine zw_getr 68 (110) (o := 1) dX5_seating_65 rfl fX5_236 (by decide) rfl rfl ly109 ?_
          refine zw_iload_n 69 dX5_seating_68 rfl rfl ?_
          refine zw_iald 70 dX5_seating_69 rfl ly110 (by omega) ?_
          refine zw_iret dX5_seating_70 rfl ?_
          first
            | exact zAn_f (by omega)
            | exact zAn_t (by omega) (by unfold zsv; rw [if_pos (by omega)]; exact q3) q2.ns
            | exact zAn_t (by omega) (by unfold zsv; rw [if_neg (by omega)]; exact zat_eq q4 (by omega) (by omega)) q2.ns
        · refine zw_aload_n 52 dX5_seating_51 rfl rfl ?_
          refine zw_getr 55 (109) (o := 108) dX5_seating_52 rfl fX5_44 (by decide) rfl rfl ly1 ?_
          refine zw_gti 58 2 dX5_seating_55 rfl fX5_233 (by decide) rfl rfl ly109 ?_
          refine zw_goto 70 dX5_seating_58 (by decide) ?_
          refine zw_iret dX5_seating_70 rfl ?_
          first
            | exact zAn_f (by omega)
            | exact zAn_t (by omega) (by unfold zsv; rw [if_pos (by omega)]; exact q3) q2.ns
            | exact zAn_t (by omega) (by unfold zsv; rw [if_neg (by omega)]; exact zat_eq q4 (by omega) (by omega)) q2.ns
      · refine zw_aload_n 24 dX5_seating_23 rfl rfl ?_
        refine zw_bipush 26 dX5_seating_24 rfl (by decide) ?_
        refine zw_callV 29 _ _ dX5_seating_26 rfl kX5_128 qX5_refuseAs ly1 ⟨_, rfl, rfl⟩ (by decide) (sp_X5_refuseAs (d := d - 1)) (by omega) rfl rfl (Nat.le_of_ble_eq_true rfl) (fun r σ' hq => ?_)
        obtain ⟨rfl, rfl⟩ := hq
        refine zw_iret dX5_seating_29 rfl ?_
        first
          | exact zAn_f (by omega)
          | exact zAn_t (by omega) (by unfold zsv; rw [if_pos (by omega)]; exact q3) q2.ns
          | exact zAn_t (by omega) (by unfold zsv; rw [if_neg (by omega)]; exact zat_eq q4 (by omega) (by omega)) q2.ns
