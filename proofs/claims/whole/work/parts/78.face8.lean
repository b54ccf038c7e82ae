theorem lp_X5_isContent {l : Launch} {d : Nat} {σ : zMem} {N : zR} (hC : zCh σ 2 N) (hV : zVN N) {r : Nat} (hr : zly r = some (100, 7)) {c : Int} (hc : 0 ≤ c ∧ c < 5) (hg : ∀ s, 0 ≤ s → s < N 33 → σ r s = ztk N N c s) {i o : Int} (hi : 0 ≤ i ∧ i < N 33) (ho : 0 ≤ o ∧ o < N 33) : ∀ (m : Nat) (s : Int), s + m = N 33 → 0 ≤ s → (∀ j, 0 ≤ j → j < s → zsf1 N c i o j = 1) → zw l d mX5_isContent 17 [some (.ref 1), some (.ref r), some (.int (zI i)), some (.int (zI o)), some (.int (zI ((zh0 N c i o)))), some (.int (zI s))] [] σ (zRi (zst N c i o) σ) := by
  have hs := hV.1
  have hv := hV.2.1
  have hy := hV.2.2.1
  have hB := zVN_bd hV
  have gN := hs.1
  have gC := hs.2.1
  have c0 : σ 2 0 = N 33 := hC.1.1.1
  have c1 : σ 2 1 = N 48 := hC.1.1.2.1
  have c2 : ∀ s, 0 ≤ s → s < N 33 → σ 3 s = N (34 + s) ∧ σ 4 s = N (41 + s) := hC.1.1.2.2.1
  have c3 : ∀ c, 0 ≤ c → c < N 48 → σ 5 c = N (49 + c) ∧ σ 6 c = N (54 + c) ∧ σ 7 c = zhv (N (49 + c)) (N (54 + c)) := hC.1.1.2.2.2
  have c4 : zSc σ 8 N := hC.1.2.1
  have c41 : ∀ c, 0 ≤ c → c < 5 → σ 9 c = N c := c4.1
  have c42 : ∀ i, 0 ≤ i → i < 20 → σ 10 i = N (5 + i) := c4.2.1
  have c43 : ∀ s, 0 ≤ s → s < 7 → σ 11 s = N (25 + s) := c4.2.2.1
  have c44 : σ 8 0 = N 32 := c4.2.2.2
  have c5 : zRo σ 13 3 59 N := hC.1.2.2.1
  have c6 : zRo σ 15 5 78 N := hC.1.2.2.2.1
  have c7 : zRo σ 17 4 109 N := hC.1.2.2.2.2
  have c8 : σ 2 2 = N 134 := hC.2.1
  have hb5 : ∀ c, 0 ≤ c → c < 5 → -1 ≤ N c ∧ N c < 1000 := fun c h0 h1 => by have := hv.1 c h0 h1; omega
  have hbi := ztk_b hs hv (c := c) (s := i) hc (by omega)
  have h0b : 0 ≤ zh0 N c i o ∧ zh0 N c i o ≤ 101 := by unfold zh0; split <;> omega
  intro m
  induction m with
  | zero =>
    intro s hk hk0 hj
    refine zw_iload 19 dX5_isContent_17 rfl rfl ?_
    refine zw_aload_n 20 dX5_isContent_19 rfl rfl ?_
    refine zw_getr 23 (2) (o := 1) dX5_isContent_20 rfl fX5_10 (by decide) rfl rfl ly1 ?_
    refine zw_gti 26 0 dX5_isContent_23 rfl fX5_93 (by decide) rfl rfl ly2 ?_
    rw [c0]
    refine zw_icmp_ge 52 29 dX5_isContent_26 (by decide) rfl (by omega) (by omega) (fun h26 => ?_) (fun h26 => ?_)
    · refine zw_iconst 53 dX5_isContent_52 rfl ?_
      refine zw_zret dX5_isContent_53 rfl (by omega) ?_
      exact zRi_of (by unfold zst; exact ((zal_iff _ _).mpr (fun j j0 j1 => hj j j0 (by omega))).symm)
    · exfalso; omega
  | succ m ih =>
    intro s hk hk0 hj
    have hbs := ztk_b hs hv (c := c) (s := s) hc (by omega)
    have gs := hg s hk0 (by omega)
    have es : zsf1 N c i o s = if s = o ∨ ztk N N c s ≤ zh0 N c i o then 1 else 0 := rfl
    refine zw_iload 19 dX5_isContent_17 rfl rfl ?_
    refine zw_aload_n 20 dX5_isContent_19 rfl rfl ?_
    refine zw_getr 23 (2) (o := 1) dX5_isContent_20 rfl fX5_10 (by decide) rfl rfl ly1 ?_
    refine zw_gti 26 0 dX5_isContent_23 rfl fX5_93 (by decide) rfl rfl ly2 ?_
    rw [c0]
    refine zw_icmp_ge 52 29 dX5_isContent_26 (by decide) rfl (by omega) (by omega) (fun h26 => ?_) (fun h26 => ?_)
    · exfalso; omega
    · refine zw_iload 31 dX5_isContent_29 rfl rfl ?_
      refine zw_iload_n 32 dX5_isContent_31 rfl rfl ?_
      refine zw_icmp_eq 46 35 dX5_isContent_32 (by decide) rfl (by omega) (by omega) (fun h32 => ?_) (fun h32 => ?_)
      · refine zw_iinc 49 dX5_isContent_46 rfl (by decide) rfl ?_
        refine zw_goto 17 dX5_isContent_49 (by decide) ?_
        refine zw_loc [true, true, true, true, true, true] rfl ?_
        refine ih (s + 1) (by omega) (by omega) (fun j j0 j1 => ?_)
        by_cases q : j = s
        · subst q
          rw [es, if_pos (by omega)]
        · exact hj j j0 (by omega)
      · refine zw_aload_n 36 dX5_isContent_35 rfl rfl ?_
        refine zw_iload 38 dX5_isContent_36 rfl rfl ?_
        refine zw_iald 39 dX5_isContent_38 rfl hr (by omega) ?_
        rw [gs]
        refine zw_iload 41 dX5_isContent_39 rfl rfl ?_
        refine zw_icmp_le 46 44 dX5_isContent_41 (by decide) rfl (by omega) (by omega) (fun h41 => ?_) (fun h41 => ?_)
        · refine zw_iinc 49 dX5_isContent_46 rfl (by decide) rfl ?_
          refine zw_goto 17 dX5_isContent_49 (by decide) ?_
          refine zw_loc [true, true, true, true, true, true] rfl ?_
          refine ih (s + 1) (by omega) (by omega) (fun j j0 j1 => ?_)
          by_cases q : j = s
          · subst q
            rw [es, if_pos (by omega)]
          · exact hj j j0 (by omega)
        · refine zw_iconst 45 dX5_isContent_44 rfl ?_
          refine zw_zret dX5_isContent_45 rfl (by omega) ?_
          refine zRi_of ?_
          unfold zst
          rcases zal_b (zsf1 N c i o) (N 33).toNat with q | q
          · exact q.symm
          · have q2 := (zal_iff _ _).mp q s hk0 (by omega)
            rw [es, if_neg (by omega)] at q2
            omega
theorem sp_X5_isContent {l : Launch} {d : Nat} {σ : zMem} {N : zR} (hC : zCh σ 2 N) (hV : zVN N) {r : Nat} (hr : zly r = some (100, 7)) {c : Int} (hc : 0 ≤ c ∧ c < 5) (hg : ∀ s, 0 ≤ s → s < N 33 → σ r s = ztk N N c s) {i o : Int} (hi : 0 ≤ i ∧ i < N 33) (ho : 0 ≤ o ∧ o < N 33)  : zSp l d mX5_isContent [.ref 1, .ref r, .int (zI i), .int (zI o)] σ (zRi (zst N c i o) σ) := by
  refine zSp_of oX5_isContent (Nat.le_of_ble_eq_true rfl) ?_
  show zw l d mX5_isContent 0 [some (.ref 1), some (.ref r), some (.int (zI i)), some (.int (zI o)), none, none] [] σ _
  have hs := hV.1
  have hv := hV.2.1
  have hy := hV.2.2.1
  have hB := zVN_bd hV
  have gN := hs.1
  have gC := hs.2.1
  have c0 : σ 2 0 = N 33 := hC.1.1.1
  have c1 : σ 2 1 = N 48 := hC.1.1.2.1
  have c2 : ∀ s, 0 ≤ s → s < N 33 → σ 3 s = N (34 + s) ∧ σ 4 s = N (41 + s) := hC.1.1.2.2.1
  have c3 : ∀ c, 0 ≤ c → c < N 48 → σ 5 c = N (49 + c) ∧ σ 6 c = N (54 + c) ∧ σ 7 c = zhv (N (49 + c)) (N (54 + c)) := hC.1.1.2.2.2
  have c4 : zSc σ 8 N := hC.1.2.1
  have c41 : ∀ c, 0 ≤ c → c < 5 → σ 9 c = N c := c4.1
  have c42 : ∀ i, 0 ≤ i → i < 20 → σ 10 i = N (5 + i) := c4.2.1
  have c43 : ∀ s, 0 ≤ s → s < 7 → σ 11 s = N (25 + s) := c4.2.2.1
  have c44 : σ 8 0 = N 32 := c4.2.2.2
  have c5 : zRo σ 13 3 59 N := hC.1.2.2.1
  have c6 : zRo σ 15 5 78 N := hC.1.2.2.2.1
  have c7 : zRo σ 17 4 109 N := hC.1.2.2.2.2
  have c8 : σ 2 2 = N 134 := hC.2.1
  have hb5 : ∀ c, 0 ≤ c → c < 5 → -1 ≤ N c ∧ N c < 1000 := fun c h0 h1 => by have := hv.1 c h0 h1; omega
  have hbi := ztk_b hs hv (c := c) (s := i) hc (by omega)
  have hh : zh0 N c i o = if i = o then 0 else ztk N N c i := rfl
  refine zw_iload_n 1 dX5_isContent_0 rfl rfl ?_
  refine zw_iload_n 2 dX5_isContent_1 rfl rfl ?_
  refine zw_icmp_ne 9 5 dX5_isContent_2 (by decide) rfl (by omega) (by omega) (fun h2 => ?_) (fun h2 => ?_)
  · refine zw_aload_n 10 dX5_isContent_9 rfl rfl ?_
    refine zw_iload_n 11 dX5_isContent_10 rfl rfl ?_
    refine zw_iald 12 dX5_isContent_11 rfl hr (by omega) ?_
    rw [hg i hi.1 hi.2]
    refine zw_istore 14 dX5_isContent_12 rfl (by decide) ?_
    refine zw_iconst 15 dX5_isContent_14 rfl ?_
    refine zw_istore 17 dX5_isContent_15 rfl (by decide) ?_
    have hl := lp_X5_isContent (l := l) (d := d) hC hV hr hc hg hi ho (N 33).toNat 0 (by omega) (by omega) (fun j j0 j1 => by omega)
    first
      | (rw [hh, if_pos (by omega)] at hl; exact hl)
      | (rw [hh, if_neg (by omega)] at hl; exact hl)
  · refine zw_iconst 6 dX5_isContent_5 rfl ?_
    refine zw_goto 12 dX5_isContent_6 (by decide) ?_
    refine zw_istore 14 dX5_isContent_12 rfl (by decide) ?_
    refine zw_iconst 15 dX5_isContent_14 rfl ?_
    refine zw_istore 17 dX5_isContent_15 rfl (by decide) ?_
    have hl := lp_X5_isContent (l := l) (d := d) hC hV hr hc hg hi ho (N 33).toNat 0 (by omega) (by omega) (fun j j0 j1 => by omega)
    first
      | (rw [hh, if_pos (by omega)] at hl; exact hl)
      | (rw [hh, if_neg (by omega)] at hl; exact hl)
theorem zti_keep (P : Int → Int → Int) (k i : Int) (a : Int × Int) : ∀ (j f : Nat), k < (zti P k i j a).1 → (zti P k i (j + f) a).2 = (zti P k i j a).2 ∧ k < (zti P k i (j + f) a).1
  | j, 0, h => ⟨rfl, h⟩
  | j, f + 1, h => by
    have ih := zti_keep P k i a j f h
    show (if P i ((j + f : Nat) : Int) = 1 then ((zti P k i (j + f) a).1 + 1, if (zti P k i (j + f) a).1 = k then 7 * i + ((j + f : Nat) : Int) else (zti P k i (j + f) a).2) else zti P k i (j + f) a).2 = _ ∧ _ < (if P i ((j + f : Nat) : Int) = 1 then ((zti P k i (j + f) a).1 + 1, if (zti P k i (j + f) a).1 = k then 7 * i + ((j + f : Nat) : Int) else (zti P k i (j + f) a).2) else zti P k i (j + f) a).1
    split
    · refine ⟨?_, ?_⟩
      · show (if (zti P k i (j + f) a).1 = k then 7 * i + ((j + f : Nat) : Int) else (zti P k i (j + f) a).2) = _
        rw [if_neg (by omega)]; exact ih.1
      · show k < (zti P k i (j + f) a).1 + 1
        omega
    · exact ih
theorem ztt_keep (P : Int → Int → Int) (k : Int) (J : Nat) : ∀ (i f : Nat), k < (ztt P k J i).1 → (ztt P k J (i + f)).2 = (ztt P k J i).2 ∧ k < (ztt P k J (i + f)).1
  | i, 0, h => ⟨rfl, h⟩
  | i, f + 1, h => by
    have ih := ztt_keep P k J i f h
    have h2 := zti_keep P k ((i + f : Nat) : Int) (ztt P k J (i + f)) 0 J ih.2
    rw [Nat.zero_add] at h2
    exact ⟨h2.1.trans ih.1, h2.2⟩
theorem ztt_fin (P : Int → Int → Int) (k : Int) {J i j : Nat} (hi : i < J) (hj : j < J) (hP : P i j = 1) (hk : (zti P k i j (ztt P k J i)).1 = k) : (ztt P k J J).2 = 7 * i + j := by
  have e1 : zti P k i (j + 1) (ztt P k J i) = ((zti P k i j (ztt P k J i)).1 + 1, if (zti P k i j (ztt P k J i)).1 = k then 7 * (i : Int) + (j : Int) else (zti P k i j (ztt P k J i)).2) := if_pos hP
  rw [if_pos hk] at e1
  have h1 : k < (zti P k i (j + 1) (ztt P k J i)).1 := by rw [e1]; show k < (zti P k i j (ztt P k J i)).1 + 1; omega
  have h2 := zti_keep P k i (ztt P k J i) (j + 1) (J - (j + 1)) h1
  rw [show j + 1 + (J - (j + 1)) = J by omega] at h2
  have h3 := ztt_keep P k J (i + 1) (J - (i + 1)) h2.2
  rw [show i + 1 + (J - (i + 1)) = J by omega] at h3
  rw [h3.1, show (ztt P k J (i + 1)).2 = (zti P k i J (ztt P k J i)).2 from rfl, h2.1, e1]
theorem lj_X5_two {l : Launch} {d : Nat} {σ σc : zMem} {N : zR} (hC : zCh σ 2 N) (hV : zVN N) (hd : 6 ≤ d) {a b k : Int} (ha : 0 ≤ a ∧ a ≤ N 48 - 1) (hb : 0 ≤ b ∧ b ≤ N 48 - 1) (hk : -1 ≤ k ∧ k < 2147483648) (g1 : ∀ x, x ≠ 116 → x ≠ 117 → σc x = σ x) (g2 : ∀ s, 0 ≤ s → s < N 33 → σc 116 s = ztk N N a s) (g3 : ∀ s, 0 ≤ s → s < N 33 → σc 117 s = ztk N N b s) {i : Nat} (hi : i < (N 33).toNat) (kk : (ztt (zP2 N a b) k (N 33).toNat (i + 1)).2 = -5 → zw l d mX5_two 189 [some (.ref 1), some (.int (zI a)), some (.int (zI b)), some (.int (zI k)), some (.int (zI ((ztt (zP2 N a b) k (N 33).toNat (i + 1)).1))), some (.int (zI ((i : Int)))), none] [] σc (fun a0 σ' => a0 = some (.int (zI (z2v N a b k))) ∧ zNS σ σ')) : ∀ (m j : Nat), j + m = (N 33).toNat → (zti (zP2 N a b) k i j (ztt (zP2 N a b) k (N 33).toNat i)).2 = -5 → zw l d mX5_two 123 [some (.ref 1), some (.int (zI a)), some (.int (zI b)), some (.int (zI k)), some (.int (zI ((zti (zP2 N a b) k i j (ztt (zP2 N a b) k (N 33).toNat i)).1))), some (.int (zI ((i : Int)))), some (.int (zI ((j : Int))))] [] σc (fun a0 σ' => a0 = some (.int (zI (z2v N a b k))) ∧ zNS σ σ') := by
  have hs := hV.1
  have hv := hV.2.1
  have hy := hV.2.2.1
  have hB := zVN_bd hV
  have gN := hs.1
  have gC := hs.2.1
  have c0 : σ 2 0 = N 33 := hC.1.1.1
  have c1 : σ 2 1 = N 48 := hC.1.1.2.1
  have c2 : ∀ s, 0 ≤ s → s < N 33 → σ 3 s = N (34 + s) ∧ σ 4 s = N (41 + s) := hC.1.1.2.2.1
  have c3 : ∀ c, 0 ≤ c → c < N 48 → σ 5 c = N (49 + c) ∧ σ 6 c = N (54 + c) ∧ σ 7 c = zhv (N (49 + c)) (N (54 + c)) := hC.1.1.2.2.2
  have c4 : zSc σ 8 N := hC.1.2.1
  have c41 : ∀ c, 0 ≤ c → c < 5 → σ 9 c = N c := c4.1
  have c42 : ∀ i, 0 ≤ i → i < 20 → σ 10 i = N (5 + i) := c4.2.1
  have c43 : ∀ s, 0 ≤ s → s < 7 → σ 11 s = N (25 + s) := c4.2.2.1
  have c44 : σ 8 0 = N 32 := c4.2.2.2
  have c5 : zRo σ 13 3 59 N := hC.1.2.2.1
  have c6 : zRo σ 15 5 78 N := hC.1.2.2.2.1
  have c7 : zRo σ 17 4 109 N := hC.1.2.2.2.2
  have c8 : σ 2 2 = N 134 := hC.2.1
  have hb5 : ∀ c, 0 ≤ c → c < 5 → -1 ≤ N c ∧ N c < 1000 := fun c h0 h1 => by have := hv.1 c h0 h1; omega
  have hcc : zCh σc 2 N := zCh_fr (fun x x0 x1 => g1 x (by omega) (by omega)) hC
  have e0 : σc 2 0 = N 33 := hcc.1.1.1
  intro m
  induction m with
  | zero =>
    intro j hj hz
    obtain rfl : j = (N 33).toNat := by omega
    have kk2 := kk hz
    rw [show (ztt (zP2 N a b) k (N 33).toNat (i + 1)) = (zti (zP2 N a b) k i (N 33).toNat (ztt (zP2 N a b) k (N 33).toNat i)) from rfl] at kk2
    rw [show (((((N 33).toNat) : Nat) : Int)) = N 33 by omega]
    refine zw_iload 125 dX5_two_123 rfl rfl ?_
    refine zw_aload_n 126 dX5_two_125 rfl rfl ?_
    refine zw_getr 129 (2) (o := 1) dX5_two_126 rfl fX5_10 (by decide) rfl rfl ly1 ?_
    refine zw_gti 132 0 dX5_two_129 rfl fX5_93 (by decide) rfl rfl ly2 ?_
    rw [e0]
    refine zw_icmp_ge 189 135 dX5_two_132 (by decide) rfl (by omega) (by omega) (fun h132 => ?_) (fun h132 => ?_)
    · refine zw_loc [true, true, true, true, true, true, false] rfl ?_
      exact kk2
    · exfalso; omega
  | succ m ih =>
    intro j hj hz
    have tb := ztt_b (zP2 N a b) k (N 33).toNat (by omega) i (by omega)
    have zb := zti_b (zP2 N a b) k i (by omega) _ tb j (by omega)
    have sa := zst_b N a i j
    have sb := zst_b N b j i
    have ep : zP2 N a b i j = if zst N a i j = 1 ∧ zst N b j i = 1 then 1 else 0 := rfl
    have es : zti (zP2 N a b) k i (j + 1) (ztt (zP2 N a b) k (N 33).toNat i) = if (zP2 N a b) i j = 1 then ((zti (zP2 N a b) k i j (ztt (zP2 N a b) k (N 33).toNat i)).1 + 1, if (zti (zP2 N a b) k i j (ztt (zP2 N a b) k (N 33).toNat i)).1 = k then 7 * (i : Int) + (j : Int) else (zti (zP2 N a b) k i j (ztt (zP2 N a b) k (N 33).toNat i)).2) else (zti (zP2 N a b) k i j (ztt (zP2 N a b) k (N 33).toNat i)) := rfl
    have ih2 := ih (j + 1) (by omega)
    rw [show (((j + 1 : Nat) : Int)) = (j : Int) + 1 by omega, es] at ih2
    refine zw_iload 125 dX5_two_123 rfl rfl ?_
    refine zw_aload_n 126 dX5_two_125 rfl rfl ?_
    refine zw_getr 129 (2) (o := 1) dX5_two_126 rfl fX5_10 (by decide) rfl rfl ly1 ?_
    refine zw_gti 132 0 dX5_two_129 rfl fX5_93 (by decide) rfl rfl ly2 ?_
    rw [e0]
    refine zw_icmp_ge 189 135 dX5_two_132 (by decide) rfl (by omega) (by omega) (fun h132 => ?_) (fun h132 => ?_)
    · exfalso; omega
    · refine zw_aload_n 136 dX5_two_135 rfl rfl ?_
      refine zw_aload_n 137 dX5_two_136 rfl rfl ?_
      refine zw_getr 140 (116) (o := 115) dX5_two_137 rfl fX5_55 (by decide) rfl rfl ly1 ?_
      refine zw_iload 142 dX5_two_140 rfl rfl ?_
      refine zw_iload 144 dX5_two_142 rfl rfl ?_
      refine zw_callV 147 _ _ dX5_two_144 rfl kX5_274 qX5_isContent ly1 ⟨_, rfl, rfl⟩ (by decide) (sp_X5_isContent (d := d - 1) hcc hV ly116 (c := a) (by omega) g2 (i := (i : Int)) (o := (j : Int)) (by omega) (by omega)) (by omega) rfl rfl (Nat.le_of_ble_eq_true rfl) (fun r σ' hq => ?_)
      obtain ⟨rfl, rfl⟩ := hq
      refine zw_if_eq 183 150 dX5_two_147 (by decide) rfl (by omega) (fun h147 => ?_) (fun h147 => ?_)
      · refine zw_iinc 186 dX5_two_183 rfl (by decide) rfl ?_
        refine zw_goto 123 dX5_two_186 (by decide) ?_
        refine zw_loc [true, true, true, true, true, true, true] rfl ?_
        first
          | (rw [if_pos (show zP2 N a b i j = 1 by rw [ep, if_pos ⟨by omega, by omega⟩]), if_neg (by omega)] at ih2
             exact ih2 hz)
          | (rw [if_neg (show ¬ zP2 N a b i j = 1 by rw [ep, if_neg (by omega)]; omega)] at ih2
             exact ih2 hz)
      · refine zw_aload_n 151 dX5_two_150 rfl rfl ?_
        refine zw_aload_n 152 dX5_two_151 rfl rfl ?_
        refine zw_getr 155 (117) (o := 116) dX5_two_152 rfl fX5_58 (by decide) rfl rfl ly1 ?_
        refine zw_iload 157 dX5_two_155 rfl rfl ?_
        refine zw_iload 159 dX5_two_157 rfl rfl ?_
        refine zw_callV 162 _ _ dX5_two_159 rfl kX5_274 qX5_isContent ly1 ⟨_, rfl, rfl⟩ (by decide) (sp_X5_isContent (d := d - 1) hcc hV ly117 (c := b) (by omega) g3 (i := (j : Int)) (o := (i : Int)) (by omega) (by omega)) (by omega) rfl rfl (Nat.le_of_ble_eq_true rfl) (fun r σ' hq => ?_)
        obtain ⟨rfl, rfl⟩ := hq
        refine zw_if_eq 183 165 dX5_two_162 (by decide) rfl (by omega) (fun h162 => ?_) (fun h162 => ?_)
        · refine zw_iinc 186 dX5_two_183 rfl (by decide) rfl ?_
          refine zw_goto 123 dX5_two_186 (by decide) ?_
          refine zw_loc [true, true, true, true, true, true, true] rfl ?_
          first
            | (rw [if_pos (show zP2 N a b i j = 1 by rw [ep, if_pos ⟨by omega, by omega⟩]), if_neg (by omega)] at ih2
               exact ih2 hz)
            | (rw [if_neg (show ¬ zP2 N a b i j = 1 by rw [ep, if_neg (by omega)]; omega)] at ih2
               exact ih2 hz)
        · refine zw_iload 167 dX5_two_165 rfl rfl ?_
          refine zw_iload_n 168 dX5_two_167 rfl rfl ?_
          refine zw_icmp_ne 180 171 dX5_two_168 (by decide) rfl (by omega) (by omega) (fun h168 => ?_) (fun h168 => ?_)
          · refine zw_iinc 183 dX5_two_180 rfl (by decide) rfl ?_
            refine zw_iinc 186 dX5_two_183 rfl (by decide) rfl ?_
            refine zw_goto 123 dX5_two_186 (by decide) ?_
            refine zw_loc [true, true, true, true, true, true, true] rfl ?_
            first
              | (rw [if_pos (show zP2 N a b i j = 1 by rw [ep, if_pos ⟨by omega, by omega⟩]), if_neg (by omega)] at ih2
                 exact ih2 hz)
              | (rw [if_neg (show ¬ zP2 N a b i j = 1 by rw [ep, if_neg (by omega)]; omega)] at ih2
                 exact ih2 hz)
          · refine zw_bipush 173 dX5_two_171 rfl (by decide) ?_
            refine zw_iload 175 dX5_two_173 rfl rfl ?_
            refine zw_imul 176 dX5_two_175 rfl ?_
            refine zw_iload 178 dX5_two_176 rfl rfl ?_
            refine zw_iadd 179 dX5_two_178 rfl ?_
            refine zw_iret dX5_two_179 rfl ?_
            have hP : zP2 N a b i j = 1 := by rw [ep, if_pos ⟨by omega, by omega⟩]
            have hf := ztt_fin (zP2 N a b) k hi (show j < (N 33).toNat by omega) hP (by omega)
            refine ⟨?_, zNc.ns (fun x x0 x1 => g1 x (by omega) (by omega))⟩
            unfold z2v
            rw [if_neg (by omega), hf]
theorem lo_X5_two {l : Launch} {d : Nat} {σ σc : zMem} {N : zR} (hC : zCh σ 2 N) (hV : zVN N) (hd : 6 ≤ d) {a b k : Int} (ha : 0 ≤ a ∧ a ≤ N 48 - 1) (hb : 0 ≤ b ∧ b ≤ N 48 - 1) (hk : -1 ≤ k ∧ k < 2147483648) (g1 : ∀ x, x ≠ 116 → x ≠ 117 → σc x = σ x) (g2 : ∀ s, 0 ≤ s → s < N 33 → σc 116 s = ztk N N a s) (g3 : ∀ s, 0 ≤ s → s < N 33 → σc 117 s = ztk N N b s) : ∀ (m i : Nat), i + m = (N 33).toNat → (ztt (zP2 N a b) k (N 33).toNat i).2 = -5 → zw l d mX5_two 108 [some (.ref 1), some (.int (zI a)), some (.int (zI b)), some (.int (zI k)), some (.int (zI ((ztt (zP2 N a b) k (N 33).toNat i).1))), some (.int (zI ((i : Int)))), none] [] σc (fun a0 σ' => a0 = some (.int (zI (z2v N a b k))) ∧ zNS σ σ') := by
  have hs := hV.1
  have hv := hV.2.1
  have hy := hV.2.2.1
  have hB := zVN_bd hV
  have gN := hs.1
  have gC := hs.2.1
  have c0 : σ 2 0 = N 33 := hC.1.1.1
  have c1 : σ 2 1 = N 48 := hC.1.1.2.1
  have c2 : ∀ s, 0 ≤ s → s < N 33 → σ 3 s = N (34 + s) ∧ σ 4 s = N (41 + s) := hC.1.1.2.2.1
  have c3 : ∀ c, 0 ≤ c → c < N 48 → σ 5 c = N (49 + c) ∧ σ 6 c = N (54 + c) ∧ σ 7 c = zhv (N (49 + c)) (N (54 + c)) := hC.1.1.2.2.2
  have c4 : zSc σ 8 N := hC.1.2.1
  have c41 : ∀ c, 0 ≤ c → c < 5 → σ 9 c = N c := c4.1
  have c42 : ∀ i, 0 ≤ i → i < 20 → σ 10 i = N (5 + i) := c4.2.1
  have c43 : ∀ s, 0 ≤ s → s < 7 → σ 11 s = N (25 + s) := c4.2.2.1
  have c44 : σ 8 0 = N 32 := c4.2.2.2
  have c5 : zRo σ 13 3 59 N := hC.1.2.2.1
  have c6 : zRo σ 15 5 78 N := hC.1.2.2.2.1
  have c7 : zRo σ 17 4 109 N := hC.1.2.2.2.2
  have c8 : σ 2 2 = N 134 := hC.2.1
  have hb5 : ∀ c, 0 ≤ c → c < 5 → -1 ≤ N c ∧ N c < 1000 := fun c h0 h1 => by have := hv.1 c h0 h1; omega
  have hcc : zCh σc 2 N := zCh_fr (fun x x0 x1 => g1 x (by omega) (by omega)) hC
  have e0 : σc 2 0 = N 33 := hcc.1.1.1
  intro m
  induction m with
  | zero =>
    intro i hi hz
    obtain rfl : i = (N 33).toNat := by omega
    have tb := ztt_b (zP2 N a b) k (N 33).toNat (by omega) (N 33).toNat (by omega)
    rw [show (((((N 33).toNat) : Nat) : Int)) = N 33 by omega]
    refine zw_iload 110 dX5_two_108 rfl rfl ?_
    refine zw_aload_n 111 dX5_two_110 rfl rfl ?_
    refine zw_getr 114 (2) (o := 1) dX5_two_111 rfl fX5_10 (by decide) rfl rfl ly1 ?_
    refine zw_gti 117 0 dX5_two_114 rfl fX5_93 (by decide) rfl rfl ly2 ?_
    rw [e0]
    refine zw_icmp_ge 195 120 dX5_two_117 (by decide) rfl (by omega) (by omega) (fun h117 => ?_) (fun h117 => ?_)
    · refine zw_iload_n 196 dX5_two_195 rfl rfl ?_
      refine zw_iconst 197 dX5_two_196 rfl ?_
      refine zw_icmp_ne 205 200 dX5_two_197 (by decide) rfl (by omega) (by omega) (fun h197 => ?_) (fun h197 => ?_)
      · refine zw_bipush 207 dX5_two_205 rfl (by decide) ?_
        refine zw_iret dX5_two_207 rfl ?_
        refine ⟨?_, zNc.ns (fun x x0 x1 => g1 x (by omega) (by omega))⟩
        unfold z2v
        first | rw [if_pos (by omega)] | rw [if_neg (by omega), hz]
      · refine zw_iload 202 dX5_two_200 rfl rfl ?_
        refine zw_goto 207 dX5_two_202 (by decide) ?_
        refine zw_iret dX5_two_207 rfl ?_
        refine ⟨?_, zNc.ns (fun x x0 x1 => g1 x (by omega) (by omega))⟩
        unfold z2v
        first | rw [if_pos (by omega)] | rw [if_neg (by omega), hz]
    · exfalso; omega
  | succ m ih =>
    intro i hi hz
    have tb := ztt_b (zP2 N a b) k (N 33).toNat (by omega) i (by omega)
    have ih2 := ih (i + 1) (by omega)
    rw [show (((i + 1 : Nat) : Int)) = (i : Int) + 1 by omega] at ih2
    have kk : (ztt (zP2 N a b) k (N 33).toNat (i + 1)).2 = -5 → zw l d mX5_two 189 [some (.ref 1), some (.int (zI a)), some (.int (zI b)), some (.int (zI k)), some (.int (zI ((ztt (zP2 N a b) k (N 33).toNat (i + 1)).1))), some (.int (zI ((i : Int)))), none] [] σc (fun a0 σ' => a0 = some (.int (zI (z2v N a b k))) ∧ zNS σ σ') := fun hz2 => by
      refine zw_iinc 192 dX5_two_189 rfl (by decide) rfl ?_
      refine zw_goto 108 dX5_two_192 (by decide) ?_
      refine zw_loc [true, true, true, true, true, true, false] rfl ?_
      exact ih2 hz2
    have hl := lj_X5_two (l := l) hC hV hd ha hb hk g1 g2 g3 (i := i) (by omega) kk (N 33).toNat 0 (by omega) hz
    rw [show zti (zP2 N a b) k i 0 (ztt (zP2 N a b) k (N 33).toNat i) = ztt (zP2 N a b) k (N 33).toNat i from rfl, show (((0 : Nat) : Int)) = 0 from rfl] at hl
    refine zw_iload 110 dX5_two_108 rfl rfl ?_
    refine zw_aload_n 111 dX5_two_110 rfl rfl ?_
    refine zw_getr 114 (2) (o := 1) dX5_two_111 rfl fX5_10 (by decide) rfl rfl ly1 ?_
    refine zw_gti 117 0 dX5_two_114 rfl fX5_93 (by decide) rfl rfl ly2 ?_
    rw [e0]
    refine zw_icmp_ge 195 120 dX5_two_117 (by decide) rfl (by omega) (by omega) (fun h117 => ?_) (fun h117 => ?_)
    · exfalso; omega
    · refine zw_iconst 121 dX5_two_120 rfl ?_
      refine zw_istore 123 dX5_two_121 rfl (by decide) ?_
      exact hl
theorem lf_X5_two {l : Launch} {d : Nat} {σ : zMem} {N : zR} (hC : zCh σ 2 N) (hV : zVN N) (hd : 6 ≤ d) {a b k : Int} (ha : 0 ≤ a ∧ a ≤ N 48 - 1) (hb : 0 ≤ b ∧ b ≤ N 48 - 1) (hk : -1 ≤ k ∧ k < 2147483648) : ∀ (m : Nat) (s : Int) (σc : zMem), s + m = N 33 → 0 ≤ s → (∀ x, x ≠ 116 → x ≠ 117 → σc x = σ x) → (∀ j, 0 ≤ j → j < s → σc 116 j = ztk N N a j ∧ σc 117 j = ztk N N b j) → zw l d mX5_two 36 [some (.ref 1), some (.int (zI a)), some (.int (zI b)), some (.int (zI k)), some (.int (zI s)), none, none] [] σc (fun a0 σ' => a0 = some (.int (zI (z2v N a b k))) ∧ zNS σ σ') := by
  have hs := hV.1
  have hv := hV.2.1
  have hy := hV.2.2.1
  have hB := zVN_bd hV
  have gN := hs.1
  have gC := hs.2.1
  have c0 : σ 2 0 = N 33 := hC.1.1.1
  have c1 : σ 2 1 = N 48 := hC.1.1.2.1
  have c2 : ∀ s, 0 ≤ s → s < N 33 → σ 3 s = N (34 + s) ∧ σ 4 s = N (41 + s) := hC.1.1.2.2.1
  have c3 : ∀ c, 0 ≤ c → c < N 48 → σ 5 c = N (49 + c) ∧ σ 6 c = N (54 + c) ∧ σ 7 c = zhv (N (49 + c)) (N (54 + c)) := hC.1.1.2.2.2
  have c4 : zSc σ 8 N := hC.1.2.1
  have c41 : ∀ c, 0 ≤ c → c < 5 → σ 9 c = N c := c4.1
  have c42 : ∀ i, 0 ≤ i → i < 20 → σ 10 i = N (5 + i) := c4.2.1
  have c43 : ∀ s, 0 ≤ s → s < 7 → σ 11 s = N (25 + s) := c4.2.2.1
  have c44 : σ 8 0 = N 32 := c4.2.2.2
  have c5 : zRo σ 13 3 59 N := hC.1.2.2.1
  have c6 : zRo σ 15 5 78 N := hC.1.2.2.2.1
  have c7 : zRo σ 17 4 109 N := hC.1.2.2.2.2
  have c8 : σ 2 2 = N 134 := hC.2.1
  have hb5 : ∀ c, 0 ≤ c → c < 5 → -1 ≤ N c ∧ N c < 1000 := fun c h0 h1 => by have := hv.1 c h0 h1; omega
  intro m
  induction m with
  | zero =>
    intro s σc hs2 hs0 g1 g2
    have hcc : zCh σc 2 N := zCh_fr (fun x x0 x1 => g1 x (by omega) (by omega)) hC
    have e0 : σc 2 0 = N 33 := hcc.1.1.1
    refine zw_iload 38 dX5_two_36 rfl rfl ?_
    refine zw_aload_n 39 dX5_two_38 rfl rfl ?_
    refine zw_getr 42 (2) (o := 1) dX5_two_39 rfl fX5_10 (by decide) rfl rfl ly1 ?_
    refine zw_gti 45 0 dX5_two_42 rfl fX5_93 (by decide) rfl rfl ly2 ?_
    rw [e0]
    refine zw_icmp_ge 102 48 dX5_two_45 (by decide) rfl (by omega) (by omega) (fun h45 => ?_) (fun h45 => ?_)
    · refine zw_iconst 103 dX5_two_102 rfl ?_
      refine zw_istore 105 dX5_two_103 rfl (by decide) ?_
      refine zw_iconst 106 dX5_two_105 rfl ?_
      refine zw_istore 108 dX5_two_106 rfl (by decide) ?_
      exact lo_X5_two hC hV hd ha hb hk g1 (fun j j0 j1 => (g2 j j0 (by omega)).1) (fun j j0 j1 => (g2 j j0 (by omega)).2) (N 33).toNat 0 (by omega) rfl
    · exfalso; omega
  | succ m ih =>
    intro s σc hs2 hs0 g1 g2
    have hcc : zCh σc 2 N := zCh_fr (fun x x0 x1 => g1 x (by omega) (by omega)) hC
    have e0 : σc 2 0 = N 33 := hcc.1.1.1
    refine zw_iload 38 dX5_two_36 rfl rfl ?_
    refine zw_aload_n 39 dX5_two_38 rfl rfl ?_
    refine zw_getr 42 (2) (o := 1) dX5_two_39 rfl fX5_10 (by decide) rfl rfl ly1 ?_
    refine zw_gti 45 0 dX5_two_42 rfl fX5_93 (by decide) rfl rfl ly2 ?_
    rw [e0]
    refine zw_icmp_ge 102 48 dX5_two_45 (by decide) rfl (by omega) (by omega) (fun h45 => ?_) (fun h45 => ?_)
    · exfalso; omega
    · refine zw_aload_n 49 dX5_two_48 rfl rfl ?_
      refine zw_getr 52 (116) (o := 115) dX5_two_49 rfl fX5_55 (by decide) rfl rfl ly1 ?_
      refine zw_iload 54 dX5_two_52 rfl rfl ?_
      refine zw_aload_n 55 dX5_two_54 rfl rfl ?_
      refine zw_getr 58 (2) (o := 1) dX5_two_55 rfl fX5_10 (by decide) rfl rfl ly1 ?_
      refine zw_aload_n 59 dX5_two_58 rfl rfl ?_
      refine zw_getr 62 (2) (o := 1) dX5_two_59 rfl fX5_10 (by decide) rfl rfl ly1 ?_
      refine zw_getr 65 (8) (o := 6) dX5_two_62 rfl fX5_131 (by decide) rfl rfl ly2 ?_
      refine zw_iload_n 66 dX5_two_65 rfl rfl ?_
      refine zw_iload 68 dX5_two_66 rfl rfl ?_
      refine zw_callV 71 _ _ dX5_two_68 rfl kX5_195 qX0_wouldTake ly2 ⟨_, rfl, rfl⟩ (by decide) (sp_X0_wouldTake (d := d - 1) (by omega) ly2 ly8 hcc.1.1 hcc.1.2.1 hs (c := a) (hv.w (by omega)) (by omega) (by omega) (s := s) (by omega)) (by omega) rfl rfl (Nat.le_of_ble_eq_true rfl) (fun r σ' hq => ?_)
      obtain ⟨rfl, rfl⟩ := hq
      refine zw_iast 72 dX5_two_71 rfl ly116 (by omega) ?_
      refine zw_aload_n 73 dX5_two_72 rfl rfl ?_
      refine zw_getr 76 (117) (o := 116) dX5_two_73 rfl fX5_58 (by decide) rfl rfl ly1 ?_
      refine zw_iload 78 dX5_two_76 rfl rfl ?_
      refine zw_aload_n 79 dX5_two_78 rfl rfl ?_
      refine zw_getr 82 (2) (o := 1) dX5_two_79 rfl fX5_10 (by decide) rfl rfl ly1 ?_
      refine zw_aload_n 83 dX5_two_82 rfl rfl ?_
      refine zw_getr 86 (2) (o := 1) dX5_two_83 rfl fX5_10 (by decide) rfl rfl ly1 ?_
      refine zw_getr 89 (8) (o := 6) dX5_two_86 rfl fX5_131 (by decide) rfl rfl ly2 ?_
      refine zw_iload_n 90 dX5_two_89 rfl rfl ?_
      refine zw_iload 92 dX5_two_90 rfl rfl ?_
      refine zw_callV 95 _ _ dX5_two_92 rfl kX5_195 qX0_wouldTake ly2 ⟨_, rfl, rfl⟩ (by decide) (sp_X0_wouldTake (d := d - 1) (by omega) ly2 ly8 (zCs_fr (fun x x0 x1 => zwr_ne _ _ _ (by omega)) hcc.1.1) (zSc_fr (fun x x0 x1 => zwr_ne _ _ _ (by omega)) hcc.1.2.1) hs (c := b) (hv.w (by omega)) (by omega) (by omega) (s := s) (by omega)) (by omega) rfl rfl (Nat.le_of_ble_eq_true rfl) (fun r σ' hq => ?_)
      obtain ⟨rfl, rfl⟩ := hq
      refine zw_iast 96 dX5_two_95 rfl ly117 (by omega) ?_
      refine zw_iinc 99 dX5_two_96 rfl (by decide) rfl ?_
      refine zw_goto 36 dX5_two_99 (by decide) ?_
      refine zw_loc [true, true, true, true, true, false, false] rfl ?_
      refine ih (s + 1) _ (by omega) (by omega) (fun x x0 x1 => by rw [zwr_ne _ _ _ x1, zwr_ne _ _ _ x0]; exact g1 x x0 x1) (fun j j0 j1 => ?_)
      rw [zwr_ne _ _ _ (by decide : (116 : Nat) ≠ 117)]
      by_cases q : j = s
      · rw [q, zwr_same, zwr_same]; exact ⟨rfl, rfl⟩
      · rw [zwr_ni _ _ _ q, zwr_ni _ _ _ q, zwr_ne _ _ _ (by decide : (117 : Nat) ≠ 116)]; exact g2 j j0 (by omega)
theorem sp_X5_two {l : Launch} {d : Nat} {σ : zMem} (hd : 8 ≤ d) {N : zR} (hC : zCh σ 2 N) (hV : zVN N) {a b k : Int} (ha : -2147483648 ≤ a ∧ a < 2147483648) (hb : -2147483648 ≤ b ∧ b < 2147483648) (hk : -2147483648 ≤ k ∧ k < 2147483648)  : zSp l d mX5_two [.ref 1, .int (zI a), .int (zI b), .int (zI k)] σ (zAn 118 ((0 ≤ a ∧ a ≤ N 48 - 1) ∧ (0 ≤ b ∧ b ≤ N 48 - 1) ∧ a ≠ b ∧ -1 ≤ k) (z2v N a b k) 0 (-10) σ) := by
  refine zSp_of oX5_two (Nat.le_of_ble_eq_true rfl) ?_
  show zw l d mX5_two 0 [some (.ref 1), some (.int (zI a)), some (.int (zI b)), some (.int (zI k)), none, none, none] [] σ _
  have hs := hV.1
  have hv := hV.2.1
  have hy := hV.2.2.1
  have hB := zVN_bd hV
  have gN := hs.1
  have gC := hs.2.1
  have c0 : σ 2 0 = N 33 := hC.1.1.1
  have c1 : σ 2 1 = N 48 := hC.1.1.2.1
  have c2 : ∀ s, 0 ≤ s → s < N 33 → σ 3 s = N (34 + s) ∧ σ 4 s = N (41 + s) := hC.1.1.2.2.1
  have c3 : ∀ c, 0 ≤ c → c < N 48 → σ 5 c = N (49 + c) ∧ σ 6 c = N (54 + c) ∧ σ 7 c = zhv (N (49 + c)) (N (54 + c)) := hC.1.1.2.2.2
  have c4 : zSc σ 8 N := hC.1.2.1
  have c41 : ∀ c, 0 ≤ c → c < 5 → σ 9 c = N c := c4.1
  have c42 : ∀ i, 0 ≤ i → i < 20 → σ 10 i = N (5 + i) := c4.2.1
  have c43 : ∀ s, 0 ≤ s → s < 7 → σ 11 s = N (25 + s) := c4.2.2.1
  have c44 : σ 8 0 = N 32 := c4.2.2.2
  have c5 : zRo σ 13 3 59 N := hC.1.2.2.1
  have c6 : zRo σ 15 5 78 N := hC.1.2.2.2.1
  have c7 : zRo σ 17 4 109 N := hC.1.2.2.2.2
  have c8 : σ 2 2 = N 134 := hC.2.1
  have hb5 : ∀ c, 0 ≤ c → c < 5 → -1 ≤ N c ∧ N c < 1000 := fun c h0 h1 => by have := hv.1 c h0 h1; omega
  refine zw_aload_n 1 dX5_two_0 rfl rfl ?_
  refine zw_iload_n 2 dX5_two_1 rfl rfl ?_
  refine zw_callV 5 _ _ dX5_two_2 rfl kX5_122 qX5_isCanon ly1 ⟨_, rfl, rfl⟩ (by decide) (sp_X5_isCanon (d := d - 1) (by omega) hC.1.1 (by omega) (by omega)) (by omega) rfl rfl (Nat.le_of_ble_eq_true rfl) (fun r σ' hq => ?_)
  obtain ⟨rfl, rfl⟩ := hq
  refine zw_if_eq 26 8 dX5_two_5 (by decide) rfl (by omega) (fun h5 => ?_) (fun h5 => ?_)
  · refine zw_aload_n 27 dX5_two_26 rfl rfl ?_
    refine zw_bipush 29 dX5_two_27 rfl (by decide) ?_
    refine zw_callV 32 _ _ dX5_two_29 rfl kX5_128 qX5_refuseAs ly1 ⟨_, rfl, rfl⟩ (by decide) (sp_X5_refuseAs (d := d - 1)) (by omega) rfl rfl (Nat.le_of_ble_eq_true rfl) (fun r σ' hq => ?_)
    obtain ⟨rfl, rfl⟩ := hq
    refine zw_iret dX5_two_32 rfl ?_
    exact zAn_f (by omega)
  · refine zw_aload_n 9 dX5_two_8 rfl rfl ?_
    refine zw_iload_n 10 dX5_two_9 rfl rfl ?_
    refine zw_callV 13 _ _ dX5_two_10 rfl kX5_122 qX5_isCanon ly1 ⟨_, rfl, rfl⟩ (by decide) (sp_X5_isCanon (d := d - 1) (by omega) hC.1.1 (by omega) (by omega)) (by omega) rfl rfl (Nat.le_of_ble_eq_true rfl) (fun r σ' hq => ?_)
    obtain ⟨rfl, rfl⟩ := hq
    refine zw_if_eq 26 16 dX5_two_13 (by decide) rfl (by omega) (fun h13 => ?_) (fun h13 => ?_)
    · refine zw_aload_n 27 dX5_two_26 rfl rfl ?_
      refine zw_bipush 29 dX5_two_27 rfl (by decide) ?_
      refine zw_callV 32 _ _ dX5_two_29 rfl kX5_128 qX5_refuseAs ly1 ⟨_, rfl, rfl⟩ (by decide) (sp_X5_refuseAs (d := d - 1)) (by omega) rfl rfl (Nat.le_of_ble_eq_true rfl) (fun r σ' hq => ?_)
      obtain ⟨rfl, rfl⟩ := hq
      refine zw_iret dX5_two_32 rfl ?_
      exact zAn_f (by omega)
    · refine zw_iload_n 17 dX5_two_16 rfl rfl ?_
      refine zw_iload_n 18 dX5_two_17 rfl rfl ?_
      refine zw_icmp_eq 26 21 dX5_two_18 (by decide) rfl (by omega) (by omega) (fun h18 => ?_) (fun h18 => ?_)
      · refine zw_aload_n 27 dX5_two_26 rfl rfl ?_
        refine zw_bipush 29 dX5_two_27 rfl (by decide) ?_
        refine zw_callV 32 _ _ dX5_two_29 rfl kX5_128 qX5_refuseAs ly1 ⟨_, rfl, rfl⟩ (by decide) (sp_X5_refuseAs (d := d - 1)) (by omega) rfl rfl (Nat.le_of_ble_eq_true rfl) (fun r σ' hq => ?_)
        obtain ⟨rfl, rfl⟩ := hq
        refine zw_iret dX5_two_32 rfl ?_
        exact zAn_f (by omega)
      · refine zw_iload_n 22 dX5_two_21 rfl rfl ?_
        refine zw_iconst 23 dX5_two_22 rfl ?_
        refine zw_icmp_ge 33 26 dX5_two_23 (by decide) rfl (by omega) (by omega) (fun h23 => ?_) (fun h23 => ?_)
        · refine zw_iconst 34 dX5_two_33 rfl ?_
          refine zw_istore 36 dX5_two_34 rfl (by decide) ?_
          refine zw_mono (lf_X5_two hC hV (by omega) (a := a) (b := b) (k := k) (by omega) (by omega) (by omega) (N 33).toNat 0 σ (by omega) (by omega) (fun _ _ _ => rfl) (fun j j0 j1 => by omega)) (fun a0 σ2 hq => ⟨fun _ => hq, fun q => absurd (show (0 ≤ a ∧ a ≤ N 48 - 1) ∧ (0 ≤ b ∧ b ≤ N 48 - 1) ∧ a ≠ b ∧ -1 ≤ k by omega) q⟩)
        · refine zw_aload_n 27 dX5_two_26 rfl rfl ?_
          refine zw_bipush 29 dX5_two_27 rfl (by decide) ?_
          refine zw_callV 32 _ _ dX5_two_29 rfl kX5_128 qX5_refuseAs ly1 ⟨_, rfl, rfl⟩ (by decide) (sp_X5_refuseAs (d := d - 1)) (by omega) rfl rfl (Nat.le_of_ble_eq_true rfl) (fun r σ' hq => ?_)
          obtain ⟨rfl, rfl⟩ := hq
          refine zw_iret dX5_two_32 rfl ?_
          exact zAn_f (by omega)
