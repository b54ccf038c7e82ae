theorem zVs_congr {N N' : zR} (h : ∀ i, 33 ≤ i → N' i = N i) (hs : zVs N) : zVs N' := by
  refine ⟨by rw [h 33 (by omega)]; exact hs.1, by rw [h 48 (by omega)]; exact hs.2.1, fun s h0 h1 => ?_, fun c h0 h1 => ?_⟩
  · rw [h (34 + s) (by omega), h (41 + s) (by omega)]; exact hs.2.2.1 s h0 h1
  · rw [h (49 + c) (by omega), h (54 + c) (by omega)]; exact hs.2.2.2 c h0 h1
theorem zVr_congr {N N' t : zR} (h : ∀ i, 33 ≤ i → N' i = N i) (hv : zVr N t) : zVr N' t := by
  unfold zVr
  rw [h 33 (by omega), h 48 (by omega)]; exact hv
/-- what the loops over a row find: the row, and the chapter's standing numbers -/
theorem zstep {σ σc : zMem} {r : Nat} {T : zR} (e : σc = zwa σ r T) (hT : ∀ i, 33 ≤ i → T i = σ r i) (hs : zVs (σ 218)) (hv : zVr (σ 218) T) : σc r = T ∧ (∀ i, 33 ≤ i → σc 218 i = σ 218 i) ∧ zVs (σc 218) ∧ zVr (σc 218) (σc r) := by
  have a1 : σc r = T := by rw [e, zwa_same]
  have a2 : ∀ i, 33 ≤ i → σc 218 i = σ 218 i := fun i hi => by
    by_cases h : r = 218
    · subst h; rw [a1]; exact hT i hi
    · rw [e, zwa_ne _ _ (fun q => h q.symm)]
  exact ⟨a1, a2, zVs_congr a2 hs, by rw [a1]; exact zVr_congr a2 hv⟩
theorem zyw_step {σ σc : zMem} {r : Nat} {T : zR} {c v : Int} (e : σc = zwa σ r T) (a2 : ∀ i, 33 ≤ i → σc 218 i = σ 218 i) (h0 : 0 ≤ c) (h1 : -1 ≤ σc r c) (h2 : ¬ σc r c = -1) (hv : v = max (σc r (25 + σc r c) - zww (σc 218) c (σc r c)) 0) : zwr σc r (25 + σc r c) v = zwa σ r (z1w (σ 218) (σc r) c) := by
  rw [← z1w_congr a2 h0 h1, show z1w (σc 218) (σc r) c = zup _ _ _ from if_neg h2, ← hv]
  unfold zwr
  rw [e, zwa_twice]
theorem zfd_s (f : zR → Int → zR) (t : zR) {c : Int} (h : 0 ≤ c) : zfd f (c + 1).toNat t = f (zfd f c.toNat t) c := by
  have e : (c + 1).toNat = c.toNat + 1 := by omega
  have e2 : ((c.toNat : Nat) : Int) = c := by omega
  rw [e, zfd, e2]
theorem lp2_X6_yearGoes {l : Launch} {d : Nat} {σ : zMem} (hd : 4 ≤ d) {r n : Nat} (hr : zly r = some (100, n)) (hn : 33 ≤ n) (hs : zVs (σ 218)) (hv : zVr (σ 218) (σ r)) (hy : 0 ≤ σ r 32 ∧ σ r 32 < 5000) : ∀ (m : Nat) (c : Int) (σc : zMem), c + m = σ 218 48 → 0 ≤ c → σc = zwa σ r (zfd (z1w (σ 218)) c.toNat (zfd (z1t (σ 218)) (σ 218 48).toNat (σ r))) → zw l d mX6_yearGoes 27 [some (.ref 217), some (.ref r), some (.int (zI c)), none, none] [] σc (zRv (zwa σ r (zyr (σ 218) (σ r)))) := by
  intro m
  induction m with
  | zero =>
    intro c σc hk hk0 hσ
    have g9 := hs.2.1
    have g8 : zVr (σ 218) (zfd (z1w (σ 218)) c.toNat (zfd (z1t (σ 218)) (σ 218 48).toNat (σ r))) := zfw_V hs (zft_V hs hv _ (by omega)) _ (by omega)
    obtain ⟨a1, a2, a3, a4⟩ := zstep hσ (fun i hi => by rw [zfw_hi hs (zft_V hs hv _ (by omega)) (by omega) _ (by omega), zft_hi hs hv (by omega) _ (by omega)]) hs g8
    have a5 := a2 48 (by omega)
    have a6 : σc r 32 = σ r 32 := by rw [a1]; rw [zfw_hi hs (zft_V hs hv _ (by omega)) (by omega) _ (by omega), zft_hi hs hv (by omega) _ (by omega)]
    refine zw_iload_n 28 dX6_yearGoes_27 rfl rfl ?_
    refine zw_aload_n 29 dX6_yearGoes_28 rfl rfl ?_
    refine zw_getr 32 (218) (o := 1) dX6_yearGoes_29 rfl fX6_7 (by decide) rfl rfl ly217 ?_
    refine zw_bipush 34 dX6_yearGoes_32 rfl (by decide) ?_
    refine zw_iald 35 dX6_yearGoes_34 rfl ly218 (by omega) ?_
    refine zw_icmp_ge 114 38 dX6_yearGoes_35 (by decide) rfl (by omega) (by omega) (fun h35 => ?_) (fun h35 => ?_)
    · refine zw_aload_n 115 dX6_yearGoes_114 rfl rfl ?_
      refine zw_bipush 117 dX6_yearGoes_115 rfl (by decide) ?_
      refine zw_dup2_11 118 dX6_yearGoes_117 rfl rfl rfl ?_
      refine zw_iald 119 dX6_yearGoes_118 rfl hr (by omega) ?_
      refine zw_iconst 120 dX6_yearGoes_119 rfl ?_
      refine zw_iadd 121 dX6_yearGoes_120 rfl ?_
      refine zw_iast 122 dX6_yearGoes_121 rfl hr (by omega) ?_
      refine zw_vret dX6_yearGoes_122 rfl ?_
      obtain rfl : c = σ 218 48 := by omega
      refine ⟨rfl, ?_⟩
      rw [show zyr (σ 218) (σ r) = zup (σc r) 32 (σc r 32 + 1) from by rw [a1]; rfl]
      unfold zwr
      rw [hσ, zwa_twice, zwa_same]
    · exfalso; omega
  | succ m ih =>
    intro c σc hk hk0 hσ
    have g9 := hs.2.1
    have g8 : zVr (σ 218) (zfd (z1w (σ 218)) c.toNat (zfd (z1t (σ 218)) (σ 218 48).toNat (σ r))) := zfw_V hs (zft_V hs hv _ (by omega)) _ (by omega)
    obtain ⟨a1, a2, a3, a4⟩ := zstep hσ (fun i hi => by rw [zfw_hi hs (zft_V hs hv _ (by omega)) (by omega) _ (by omega), zft_hi hs hv (by omega) _ (by omega)]) hs g8
    have a5 := a2 48 (by omega)
    have a6 : σc r 32 = σ r 32 := by rw [a1]; rw [zfw_hi hs (zft_V hs hv _ (by omega)) (by omega) _ (by omega), zft_hi hs hv (by omega) _ (by omega)]
    refine zw_iload_n 28 dX6_yearGoes_27 rfl rfl ?_
    refine zw_aload_n 29 dX6_yearGoes_28 rfl rfl ?_
    refine zw_getr 32 (218) (o := 1) dX6_yearGoes_29 rfl fX6_7 (by decide) rfl rfl ly217 ?_
    refine zw_bipush 34 dX6_yearGoes_32 rfl (by decide) ?_
    refine zw_iald 35 dX6_yearGoes_34 rfl ly218 (by omega) ?_
    refine zw_icmp_ge 114 38 dX6_yearGoes_35 (by decide) rfl (by omega) (by omega) (fun h35 => ?_) (fun h35 => ?_)
    · refine zw_aload_n 115 dX6_yearGoes_114 rfl rfl ?_
      refine zw_bipush 117 dX6_yearGoes_115 rfl (by decide) ?_
      refine zw_dup2_11 118 dX6_yearGoes_117 rfl rfl rfl ?_
      refine zw_iald 119 dX6_yearGoes_118 rfl hr (by omega) ?_
      refine zw_iconst 120 dX6_yearGoes_119 rfl ?_
      refine zw_iadd 121 dX6_yearGoes_120 rfl ?_
      refine zw_iast 122 dX6_yearGoes_121 rfl hr (by omega) ?_
      refine zw_vret dX6_yearGoes_122 rfl ?_
      exfalso; omega
    · have b0 := a4.1 c (by omega) (by omega)
      have b1 := a3.1
      refine zw_aload_n 39 dX6_yearGoes_38 rfl rfl ?_
      refine zw_iconst 40 dX6_yearGoes_39 rfl ?_
      refine zw_iload_n 41 dX6_yearGoes_40 rfl rfl ?_
      refine zw_iadd0 42 dX6_yearGoes_41 rfl ?_
      refine zw_iald 43 dX6_yearGoes_42 rfl hr (by omega) ?_
      refine zw_istore_n 44 dX6_yearGoes_43 rfl (by decide) ?_
      refine zw_iload_n 45 dX6_yearGoes_44 rfl rfl ?_
      refine zw_iconst 46 dX6_yearGoes_45 rfl ?_
      refine zw_icmp_eq 108 49 dX6_yearGoes_46 (by decide) rfl (by omega) (by omega) (fun h46 => ?_) (fun h46 => ?_)
      · refine zw_iinc 111 dX6_yearGoes_108 rfl (by decide) rfl ?_
        refine zw_goto 27 dX6_yearGoes_111 (by decide) ?_
        refine zw_loc [true, true, true, false, false] rfl ?_
        refine ih (c + 1) _ (by omega) (by omega) ?_
        first | (rw [zfd_s _ _ hk0, ← a1]; done) | (rw [zfd_s _ _ hk0, ← a1, show z1w (σ 218) (σc r) c = σc r from if_pos h46, a1]; exact hσ)
      · have b2 := a3.s (s := σc r c) (by omega) (by omega)
        have b3 := a3.c (c := c) (by omega) (by omega)
        have b4 := a4.2.2.1 (σc r c) (by omega) (by omega)
        have b5 := zhv_b (k := σc 218 (49 + c)) b3.2
        have b6 := zww_b a3 (σc r c) (c := c) (by omega)
        refine zw_aload_n 50 dX6_yearGoes_49 rfl rfl ?_
        refine zw_bipush 52 dX6_yearGoes_50 rfl (by decide) ?_
        refine zw_iload_n 53 dX6_yearGoes_52 rfl rfl ?_
        refine zw_iadd 54 dX6_yearGoes_53 rfl ?_
        refine zw_iald 55 dX6_yearGoes_54 rfl hr (by omega) ?_
        refine zw_aload_n 56 dX6_yearGoes_55 rfl rfl ?_
        refine zw_getr 59 (218) (o := 1) dX6_yearGoes_56 rfl fX6_7 (by decide) rfl rfl ly217 ?_
        refine zw_bipush 61 dX6_yearGoes_59 rfl (by decide) ?_
        refine zw_iload_n 62 dX6_yearGoes_61 rfl rfl ?_
        refine zw_iadd 63 dX6_yearGoes_62 rfl ?_
        refine zw_iald 64 dX6_yearGoes_63 rfl ly218 (by omega) ?_
        refine zw_aload_n 65 dX6_yearGoes_64 rfl rfl ?_
        refine zw_getr 68 (218) (o := 1) dX6_yearGoes_65 rfl fX6_7 (by decide) rfl rfl ly217 ?_
        refine zw_bipush 70 dX6_yearGoes_68 rfl (by decide) ?_
        refine zw_iload_n 71 dX6_yearGoes_70 rfl rfl ?_
        refine zw_iadd 72 dX6_yearGoes_71 rfl ?_
        refine zw_iald 73 dX6_yearGoes_72 rfl ly218 (by omega) ?_
        refine zw_aload_n 74 dX6_yearGoes_73 rfl rfl ?_
        refine zw_getr 77 (218) (o := 1) dX6_yearGoes_74 rfl fX6_7 (by decide) rfl rfl ly217 ?_
        refine zw_bipush 79 dX6_yearGoes_77 rfl (by decide) ?_
        refine zw_iload_n 80 dX6_yearGoes_79 rfl rfl ?_
        refine zw_iadd 81 dX6_yearGoes_80 rfl ?_
        refine zw_iald 82 dX6_yearGoes_81 rfl ly218 (by omega) ?_
        refine zw_callS 85 _ _ dX6_yearGoes_82 rfl kX6_72 qX6_heavy (sp_X6_heavy (d := d - 1) (by omega) (by omega)) (by omega) rfl rfl (Nat.le_of_ble_eq_true rfl) (fun r σ' hq => ?_)
        obtain ⟨rfl, rfl⟩ := hq
        refine zw_callS 88 _ _ dX6_yearGoes_85 rfl kX6_75 qX6_worn (sp_X6_worn (d := d - 1) (by omega) (by omega)) (by omega) rfl rfl (Nat.le_of_ble_eq_true rfl) (fun r σ' hq => ?_)
        obtain ⟨rfl, rfl⟩ := hq
        refine zw_isub 89 dX6_yearGoes_88 rfl ?_
        refine zw_istore 91 dX6_yearGoes_89 rfl (by decide) ?_
        refine zw_aload_n 92 dX6_yearGoes_91 rfl rfl ?_
        refine zw_bipush 94 dX6_yearGoes_92 rfl (by decide) ?_
        refine zw_iload_n 95 dX6_yearGoes_94 rfl rfl ?_
        refine zw_iadd 96 dX6_yearGoes_95 rfl ?_
        refine zw_iload 98 dX6_yearGoes_96 rfl rfl ?_
        refine zw_if_ge 105 101 dX6_yearGoes_98 (by decide) rfl (by unfold zww at b6; omega) (fun h98 => ?_) (fun h98 => ?_)
        · refine zw_iload 107 dX6_yearGoes_105 rfl rfl ?_
          refine zw_iast 108 dX6_yearGoes_107 rfl hr (by omega) ?_
          rw [zyw_step hσ a2 hk0 b0.1 h46 (by unfold zww; omega)]
          refine zw_iinc 111 dX6_yearGoes_108 rfl (by decide) rfl ?_
          refine zw_goto 27 dX6_yearGoes_111 (by decide) ?_
          refine zw_loc [true, true, true, false, false] rfl ?_
          refine ih (c + 1) _ (by omega) (by omega) ?_
          first | (rw [zfd_s _ _ hk0, ← a1]; done) | (rw [zfd_s _ _ hk0, ← a1, show z1w (σ 218) (σc r) c = σc r from if_pos h46, a1]; exact hσ)
        · refine zw_iconst 102 dX6_yearGoes_101 rfl ?_
          refine zw_goto 107 dX6_yearGoes_102 (by decide) ?_
          refine zw_iast 108 dX6_yearGoes_107 rfl hr (by omega) ?_
          rw [zyw_step hσ a2 hk0 b0.1 h46 (by unfold zww; omega)]
          refine zw_iinc 111 dX6_yearGoes_108 rfl (by decide) rfl ?_
          refine zw_goto 27 dX6_yearGoes_111 (by decide) ?_
          refine zw_loc [true, true, true, false, false] rfl ?_
          refine ih (c + 1) _ (by omega) (by omega) ?_
          first | (rw [zfd_s _ _ hk0, ← a1]; done) | (rw [zfd_s _ _ hk0, ← a1, show z1w (σ 218) (σc r) c = σc r from if_pos h46, a1]; exact hσ)
theorem lp1_X6_yearGoes {l : Launch} {d : Nat} {σ : zMem} (hd : 4 ≤ d) {r n : Nat} (hr : zly r = some (100, n)) (hn : 33 ≤ n) (hs : zVs (σ 218)) (hv : zVr (σ 218) (σ r)) (hy : 0 ≤ σ r 32 ∧ σ r 32 < 5000) : ∀ (m : Nat) (c : Int) (σc : zMem), c + m = σ 218 48 → 0 ≤ c → σc = zwa σ r (zfd (z1t (σ 218)) c.toNat (σ r)) → zw l d mX6_yearGoes 2 [some (.ref 217), some (.ref r), some (.int (zI c)), none, none] [] σc (zRv (zwa σ r (zyr (σ 218) (σ r)))) := by
  intro m
  induction m with
  | zero =>
    intro c σc hk hk0 hσ
    have g9 := hs.2.1
    have g8 : zVr (σ 218) (zfd (z1t (σ 218)) c.toNat (σ r)) := zft_V hs hv _ (by omega)
    obtain ⟨a1, a2, a3, a4⟩ := zstep hσ (fun i hi => by rw [zft_hi hs hv (by omega) _ (by omega)]) hs g8
    have a5 := a2 48 (by omega)
    have a6 : σc r 32 = σ r 32 := by rw [a1]; rw [zft_hi hs hv (by omega) _ (by omega)]
    refine zw_iload_n 3 dX6_yearGoes_2 rfl rfl ?_
    refine zw_aload_n 4 dX6_yearGoes_3 rfl rfl ?_
    refine zw_getr 7 (218) (o := 1) dX6_yearGoes_4 rfl fX6_7 (by decide) rfl rfl ly217 ?_
    refine zw_bipush 9 dX6_yearGoes_7 rfl (by decide) ?_
    refine zw_iald 10 dX6_yearGoes_9 rfl ly218 (by omega) ?_
    refine zw_icmp_ge 25 13 dX6_yearGoes_10 (by decide) rfl (by omega) (by omega) (fun h10 => ?_) (fun h10 => ?_)
    · refine zw_iconst 26 dX6_yearGoes_25 rfl ?_
      refine zw_istore_n 27 dX6_yearGoes_26 rfl (by decide) ?_
      refine zw_loc [true, true, true, false, false] rfl ?_
      obtain rfl : c = σ 218 48 := by omega
      exact lp2_X6_yearGoes hd hr hn hs hv hy (σ 218 48).toNat 0 σc (by omega) (by omega) hσ
    · exfalso; omega
  | succ m ih =>
    intro c σc hk hk0 hσ
    have g9 := hs.2.1
    have g8 : zVr (σ 218) (zfd (z1t (σ 218)) c.toNat (σ r)) := zft_V hs hv _ (by omega)
    obtain ⟨a1, a2, a3, a4⟩ := zstep hσ (fun i hi => by rw [zft_hi hs hv (by omega) _ (by omega)]) hs g8
    have a5 := a2 48 (by omega)
    have a6 : σc r 32 = σ r 32 := by rw [a1]; rw [zft_hi hs hv (by omega) _ (by omega)]
    refine zw_iload_n 3 dX6_yearGoes_2 rfl rfl ?_
    refine zw_aload_n 4 dX6_yearGoes_3 rfl rfl ?_
    refine zw_getr 7 (218) (o := 1) dX6_yearGoes_4 rfl fX6_7 (by decide) rfl rfl ly217 ?_
    refine zw_bipush 9 dX6_yearGoes_7 rfl (by decide) ?_
    refine zw_iald 10 dX6_yearGoes_9 rfl ly218 (by omega) ?_
    refine zw_icmp_ge 25 13 dX6_yearGoes_10 (by decide) rfl (by omega) (by omega) (fun h10 => ?_) (fun h10 => ?_)
    · refine zw_iconst 26 dX6_yearGoes_25 rfl ?_
      refine zw_istore_n 27 dX6_yearGoes_26 rfl (by decide) ?_
      refine zw_loc [true, true, true, false, false] rfl ?_
      obtain rfl : c = σ 218 48 := by omega
      exact lp2_X6_yearGoes hd hr hn hs hv hy (σ 218 48).toNat 0 σc (by omega) (by omega) hσ
    · refine zw_aload_n 14 dX6_yearGoes_13 rfl rfl ?_
      refine zw_aload_n 15 dX6_yearGoes_14 rfl rfl ?_
      refine zw_iload_n 16 dX6_yearGoes_15 rfl rfl ?_
      refine zw_callV 19 _ _ dX6_yearGoes_16 rfl kX6_68 qX6_oneTakes ly217 ⟨_, rfl, rfl⟩ (by decide) (sp_X6_oneTakes (d := d - 1) (by omega) hr hn a3 a4 (by omega) (by omega)) (by omega) rfl rfl (Nat.le_of_ble_eq_true rfl) (fun r σ' hq => ?_)
      obtain ⟨rfl, rfl⟩ := hq
      refine zw_iinc 22 dX6_yearGoes_19 rfl (by decide) rfl ?_
      refine zw_goto 2 dX6_yearGoes_22 (by decide) ?_
      refine zw_loc [true, true, true, false, false] rfl ?_
      refine ih (c + 1) _ (by omega) (by omega) ?_
      rw [zfd_s _ _ hk0, hσ, zwa_twice, zwa_same, ← hσ, z1t_congr a2 hk0 (by rw [← a1]; exact (a4.1 c (by omega) (by omega)).1)]
theorem sp_X6_yearGoes {l : Launch} {d : Nat} {σ : zMem} (hd : 4 ≤ d) {r n : Nat} (hr : zly r = some (100, n)) (hn : 33 ≤ n) (hs : zVs (σ 218)) (hv : zVr (σ 218) (σ r)) (hy : 0 ≤ σ r 32 ∧ σ r 32 < 5000) : zSp l d mX6_yearGoes [.ref 217, .ref r] σ (zRv (zwa σ r (zyr (σ 218) (σ r)))) := by
  refine zSp_of oX6_yearGoes (Nat.le_of_ble_eq_true rfl) ?_
  show zw l d mX6_yearGoes 0 [some (.ref 217), some (.ref r), none, none, none] [] σ _
  have g9 := hs.2.1
  refine zw_iconst 1 dX6_yearGoes_0 rfl ?_
  refine zw_istore_n 2 dX6_yearGoes_1 rfl (by decide) ?_
  exact lp1_X6_yearGoes hd hr hn hs hv hy (σ 218 48).toNat 0 σ (by omega) (by omega) (zwa_id σ r).symm
theorem lp_X6_does {l : Launch} {d : Nat} {σ : zMem} {r n : Nat} (hr : zly r = some (100, n)) (hn : 33 ≤ n) {c : Int} (hc : 0 ≤ c ∧ c < 5) (hv : ∀ k, 0 ≤ k → k < 4 → 0 ≤ σ r (5 + 4 * c + k) ∧ σ r (5 + 4 * c + k) ≤ 99) : ∀ (m : Nat) (k : Int), k + m = 4 → 0 ≤ k → 1 ≤ k → zw l d mX6_does 4 [some (.ref r), some (.int (zI c)), some (.int (zI (zbs (σ r) c (k - 1).toNat))), some (.int (zI k))] [] σ (zRi (zdo (σ r) c) σ) := by
  intro m
  induction m with
  | zero =>
    intro k hk hk0 hk1
    have z1 := zbs_b (σ r) c (k - 1).toNat
    have z2 := hv (zbs (σ r) c (k - 1).toNat) (by omega) (by omega)
    have z3 := fun h => hv k (by omega) h
    refine zw_iload_n 5 dX6_does_4 rfl rfl ?_
    refine zw_iconst 6 dX6_does_5 rfl ?_
    refine zw_icmp_ge 42 9 dX6_does_6 (by decide) rfl (by omega) (by omega) (fun h6 => ?_) (fun h6 => ?_)
    · refine zw_aload_n 43 dX6_does_42 rfl rfl ?_
      refine zw_iconst 44 dX6_does_43 rfl ?_
      refine zw_iconst 45 dX6_does_44 rfl ?_
      refine zw_iload_n 46 dX6_does_45 rfl rfl ?_
      refine zw_imul 47 dX6_does_46 rfl ?_
      refine zw_iadd 48 dX6_does_47 rfl ?_
      refine zw_iload_n 49 dX6_does_48 rfl rfl ?_
      refine zw_iadd 50 dX6_does_49 rfl ?_
      refine zw_iald 51 dX6_does_50 rfl hr (by omega) ?_
      refine zw_bipush 53 dX6_does_51 rfl (by decide) ?_
      refine zw_icmp_ge 60 56 dX6_does_53 (by decide) rfl (by omega) (by omega) (fun h53 => ?_) (fun h53 => ?_)
      · refine zw_iload_n 61 dX6_does_60 rfl rfl ?_
        refine zw_iret dX6_does_61 rfl ?_
        obtain rfl : k = 4 := by omega
        exact zRi_of (by first | exact (if_pos h53).symm | exact (if_neg (Int.not_lt.mpr h53)).symm)
      · refine zw_iconst 57 dX6_does_56 rfl ?_
        refine zw_goto 61 dX6_does_57 (by decide) ?_
        refine zw_iret dX6_does_61 rfl ?_
        obtain rfl : k = 4 := by omega
        exact zRi_of (by first | exact (if_pos h53).symm | exact (if_neg (Int.not_lt.mpr h53)).symm)
    · exfalso; omega
  | succ m ih =>
    intro k hk hk0 hk1
    have z1 := zbs_b (σ r) c (k - 1).toNat
    have z2 := hv (zbs (σ r) c (k - 1).toNat) (by omega) (by omega)
    have z3 := fun h => hv k (by omega) h
    refine zw_iload_n 5 dX6_does_4 rfl rfl ?_
    refine zw_iconst 6 dX6_does_5 rfl ?_
    refine zw_icmp_ge 42 9 dX6_does_6 (by decide) rfl (by omega) (by omega) (fun h6 => ?_) (fun h6 => ?_)
    · refine zw_aload_n 43 dX6_does_42 rfl rfl ?_
      refine zw_iconst 44 dX6_does_43 rfl ?_
      refine zw_iconst 45 dX6_does_44 rfl ?_
      refine zw_iload_n 46 dX6_does_45 rfl rfl ?_
      refine zw_imul 47 dX6_does_46 rfl ?_
      refine zw_iadd 48 dX6_does_47 rfl ?_
      refine zw_iload_n 49 dX6_does_48 rfl rfl ?_
      refine zw_iadd 50 dX6_does_49 rfl ?_
      refine zw_iald 51 dX6_does_50 rfl hr (by omega) ?_
      refine zw_bipush 53 dX6_does_51 rfl (by decide) ?_
      refine zw_icmp_ge 60 56 dX6_does_53 (by decide) rfl (by omega) (by omega) (fun h53 => ?_) (fun h53 => ?_)
      · refine zw_iload_n 61 dX6_does_60 rfl rfl ?_
        refine zw_iret dX6_does_61 rfl ?_
        exfalso; omega
      · refine zw_iconst 57 dX6_does_56 rfl ?_
        refine zw_goto 61 dX6_does_57 (by decide) ?_
        refine zw_iret dX6_does_61 rfl ?_
        exfalso; omega
    · have z4 := z3 (by omega)
      refine zw_aload_n 10 dX6_does_9 rfl rfl ?_
      refine zw_iconst 11 dX6_does_10 rfl ?_
      refine zw_iconst 12 dX6_does_11 rfl ?_
      refine zw_iload_n 13 dX6_does_12 rfl rfl ?_
      refine zw_imul 14 dX6_does_13 rfl ?_
      refine zw_iadd 15 dX6_does_14 rfl ?_
      refine zw_iload_n 16 dX6_does_15 rfl rfl ?_
      refine zw_iadd 17 dX6_does_16 rfl ?_
      refine zw_iald 18 dX6_does_17 rfl hr (by omega) ?_
      refine zw_aload_n 19 dX6_does_18 rfl rfl ?_
      refine zw_iconst 20 dX6_does_19 rfl ?_
      refine zw_iconst 21 dX6_does_20 rfl ?_
      refine zw_iload_n 22 dX6_does_21 rfl rfl ?_
      refine zw_imul 23 dX6_does_22 rfl ?_
      refine zw_iadd 24 dX6_does_23 rfl ?_
      refine zw_iload_n 25 dX6_does_24 rfl rfl ?_
      refine zw_iadd 26 dX6_does_25 rfl ?_
      refine zw_iald 27 dX6_does_26 rfl hr (by omega) ?_
      refine zw_icmp_le 34 30 dX6_does_27 (by decide) rfl (by omega) (by omega) (fun h27 => ?_) (fun h27 => ?_)
      · refine zw_iload_n 35 dX6_does_34 rfl rfl ?_
        refine zw_istore_n 36 dX6_does_35 rfl (by decide) ?_
        refine zw_iinc 39 dX6_does_36 rfl (by decide) rfl ?_
        refine zw_goto 4 dX6_does_39 (by decide) ?_
        refine zw_loc [true, true, true, true] rfl ?_
        have e3 := zbs_s (σ r) c (k := k) (by omega)
        have ih2 := ih (k + 1) (by omega) (by omega) (by omega)
        first | (rw [e3, if_pos h27] at ih2; exact ih2) | (rw [e3, if_neg (Int.not_lt.mpr h27)] at ih2; exact ih2)
      · refine zw_iload_n 31 dX6_does_30 rfl rfl ?_
        refine zw_goto 35 dX6_does_31 (by decide) ?_
        refine zw_istore_n 36 dX6_does_35 rfl (by decide) ?_
        refine zw_iinc 39 dX6_does_36 rfl (by decide) rfl ?_
        refine zw_goto 4 dX6_does_39 (by decide) ?_
        refine zw_loc [true, true, true, true] rfl ?_
        have e3 := zbs_s (σ r) c (k := k) (by omega)
        have ih2 := ih (k + 1) (by omega) (by omega) (by omega)
        first | (rw [e3, if_pos h27] at ih2; exact ih2) | (rw [e3, if_neg (Int.not_lt.mpr h27)] at ih2; exact ih2)
theorem sp_X6_does {l : Launch} {d : Nat} {σ : zMem} {r n : Nat} (hr : zly r = some (100, n)) (hn : 33 ≤ n) {c : Int} (hc : 0 ≤ c ∧ c < 5) (hv : ∀ k, 0 ≤ k → k < 4 → 0 ≤ σ r (5 + 4 * c + k) ∧ σ r (5 + 4 * c + k) ≤ 99) : zSp l d mX6_does [.ref r, .int (zI c)] σ (zRi (zdo (σ r) c) σ) := by
  refine zSp_of oX6_does (Nat.le_of_ble_eq_true rfl) ?_
  show zw l d mX6_does 0 [some (.ref r), some (.int (zI c)), none, none] [] σ _
  refine zw_iconst 1 dX6_does_0 rfl ?_
  refine zw_istore_n 2 dX6_does_1 rfl (by decide) ?_
  refine zw_iconst 3 dX6_does_2 rfl ?_
  refine zw_istore_n 4 dX6_does_3 rfl (by decide) ?_
  exact lp_X6_does hr hn hc hv 3 1 (by omega) (by omega) (by omega)
theorem lp_X6_whoOn {l : Launch} {d : Nat} {σ : zMem} {r n : Nat} (hr : zly r = some (100, n)) (hn : 33 ≤ n) {s : Int} (hs0 : -1 ≤ s ∧ s < 1000) (hv : ∀ c, 0 ≤ c → c < 5 → -1 ≤ σ r c ∧ σ r c < 1000) : ∀ (m : Nat) (k : Int), k + m = 5 → 0 ≤ k → zw l d mX6_whoOn 4 [some (.ref r), some (.int (zI s)), some (.int (zI (zwf (σ r) s k.toNat))), some (.int (zI (4 - k)))] [] σ (zRi (zwo (σ r) s) σ) := by
  intro m
  induction m with
  | zero =>
    intro k hk hk0
    have z1 := zwf_spec (σ r) s k.toNat
    have z3 := fun h => hv (4 - k) h (by omega)
    refine zw_iload_n 5 dX6_whoOn_4 rfl rfl ?_
    refine zw_if_lt 29 8 dX6_whoOn_5 (by decide) rfl (by omega) (fun h5 => ?_) (fun h5 => ?_)
    · refine zw_iload_n 30 dX6_whoOn_29 rfl rfl ?_
      refine zw_iret dX6_whoOn_30 rfl ?_
      obtain rfl : k = 5 := by omega
      exact zRi_of rfl
    · exfalso; omega
  | succ m ih =>
    intro k hk hk0
    have z1 := zwf_spec (σ r) s k.toNat
    have z3 := fun h => hv (4 - k) h (by omega)
    refine zw_iload_n 5 dX6_whoOn_4 rfl rfl ?_
    refine zw_if_lt 29 8 dX6_whoOn_5 (by decide) rfl (by omega) (fun h5 => ?_) (fun h5 => ?_)
    · refine zw_iload_n 30 dX6_whoOn_29 rfl rfl ?_
      refine zw_iret dX6_whoOn_30 rfl ?_
      exfalso; omega
    · have z4 := z3 (by omega)
      refine zw_aload_n 9 dX6_whoOn_8 rfl rfl ?_
      refine zw_iconst 10 dX6_whoOn_9 rfl ?_
      refine zw_iload_n 11 dX6_whoOn_10 rfl rfl ?_
      refine zw_iadd0 12 dX6_whoOn_11 rfl ?_
      refine zw_iald 13 dX6_whoOn_12 rfl hr (by omega) ?_
      refine zw_iload_n 14 dX6_whoOn_13 rfl rfl ?_
      refine zw_icmp_ne 21 17 dX6_whoOn_14 (by decide) rfl (by omega) (by omega) (fun h14 => ?_) (fun h14 => ?_)
      · refine zw_iload_n 22 dX6_whoOn_21 rfl rfl ?_
        refine zw_istore_n 23 dX6_whoOn_22 rfl (by decide) ?_
        refine zw_iinc 26 dX6_whoOn_23 rfl (by decide) rfl ?_
        refine zw_goto 4 dX6_whoOn_26 (by decide) ?_
        refine zw_loc [true, true, true, true] rfl ?_
        have e3 := zwf_s (σ r) s (k := k) hk0
        have ih2 := ih (k + 1) (by omega) (by omega)
        rw [show 4 - (k + 1) = 4 - k + -1 by omega] at ih2
        first | (rw [e3, if_pos h14] at ih2; exact ih2) | (rw [e3, if_neg h14] at ih2; exact ih2)
      · refine zw_iload_n 18 dX6_whoOn_17 rfl rfl ?_
        refine zw_goto 22 dX6_whoOn_18 (by decide) ?_
        refine zw_istore_n 23 dX6_whoOn_22 rfl (by decide) ?_
        refine zw_iinc 26 dX6_whoOn_23 rfl (by decide) rfl ?_
        refine zw_goto 4 dX6_whoOn_26 (by decide) ?_
        refine zw_loc [true, true, true, true] rfl ?_
        have e3 := zwf_s (σ r) s (k := k) hk0
        have ih2 := ih (k + 1) (by omega) (by omega)
        rw [show 4 - (k + 1) = 4 - k + -1 by omega] at ih2
        first | (rw [e3, if_pos h14] at ih2; exact ih2) | (rw [e3, if_neg h14] at ih2; exact ih2)
theorem sp_X6_whoOn {l : Launch} {d : Nat} {σ : zMem} {r n : Nat} (hr : zly r = some (100, n)) (hn : 33 ≤ n) {s : Int} (hs0 : -1 ≤ s ∧ s < 1000) (hv : ∀ c, 0 ≤ c → c < 5 → -1 ≤ σ r c ∧ σ r c < 1000) : zSp l d mX6_whoOn [.ref r, .int (zI s)] σ (zRi (zwo (σ r) s) σ) := by
  refine zSp_of oX6_whoOn (Nat.le_of_ble_eq_true rfl) ?_
  show zw l d mX6_whoOn 0 [some (.ref r), some (.int (zI s)), none, none] [] σ _
  refine zw_iconst 1 dX6_whoOn_0 rfl ?_
  refine zw_istore_n 2 dX6_whoOn_1 rfl (by decide) ?_
  refine zw_iconst 3 dX6_whoOn_2 rfl ?_
  refine zw_istore_n 4 dX6_whoOn_3 rfl (by decide) ?_
  exact lp_X6_whoOn hr hn hs0 hv 5 0 (by omega) (by omega)
theorem lp_X6_whoDo {l : Launch} {d : Nat} {σ : zMem} (hd : 1 ≤ d) {r n : Nat} (hr : zly r = some (100, n)) (hn : 33 ≤ n) (hc : 0 ≤ σ 218 48 ∧ σ 218 48 ≤ 5) (hv : ∀ i, 0 ≤ i → i < 20 → 0 ≤ σ r (5 + i) ∧ σ r (5 + i) ≤ 99) : ∀ (m : Nat) (c : Int), c + m = σ 218 48 → 0 ≤ c → zw l d mX6_whoDo 4 [some (.ref 217), some (.ref r), some (.int (zI (zwd (σ r) c.toNat))), some (.int (zI c))] [] σ (zRi (zwd (σ r) (σ 218 48).toNat) σ) := by
  intro m
  induction m with
  | zero =>
    intro c hk hk0
    have z1 := zwd_b (σ r) c.toNat
    refine zw_iload_n 5 dX6_whoDo_4 rfl rfl ?_
    refine zw_aload_n 6 dX6_whoDo_5 rfl rfl ?_
    refine zw_getr 9 (218) (o := 1) dX6_whoDo_6 rfl fX6_7 (by decide) rfl rfl ly217 ?_
    refine zw_bipush 11 dX6_whoDo_9 rfl (by decide) ?_
    refine zw_iald 12 dX6_whoDo_11 rfl ly218 (by omega) ?_
    refine zw_icmp_ge 38 15 dX6_whoDo_12 (by decide) rfl (by omega) (by omega) (fun h12 => ?_) (fun h12 => ?_)
    · refine zw_iload_n 39 dX6_whoDo_38 rfl rfl ?_
      refine zw_iret dX6_whoDo_39 rfl ?_
      have e5 : c = σ 218 48 := by omega
      exact zRi_of (by rw [e5])
    · exfalso; omega
  | succ m ih =>
    intro c hk hk0
    have z1 := zwd_b (σ r) c.toNat
    refine zw_iload_n 5 dX6_whoDo_4 rfl rfl ?_
    refine zw_aload_n 6 dX6_whoDo_5 rfl rfl ?_
    refine zw_getr 9 (218) (o := 1) dX6_whoDo_6 rfl fX6_7 (by decide) rfl rfl ly217 ?_
    refine zw_bipush 11 dX6_whoDo_9 rfl (by decide) ?_
    refine zw_iald 12 dX6_whoDo_11 rfl ly218 (by omega) ?_
    refine zw_icmp_ge 38 15 dX6_whoDo_12 (by decide) rfl (by omega) (by omega) (fun h12 => ?_) (fun h12 => ?_)
    · refine zw_iload_n 39 dX6_whoDo_38 rfl rfl ?_
      refine zw_iret dX6_whoDo_39 rfl ?_
      exfalso; omega
    · refine zw_iload_n 16 dX6_whoDo_15 rfl rfl ?_
      refine zw_aload_n 17 dX6_whoDo_16 rfl rfl ?_
      refine zw_iload_n 18 dX6_whoDo_17 rfl rfl ?_
      refine zw_callS 21 _ _ dX6_whoDo_18 rfl kX6_78 qX6_does (sp_X6_does (d := d - 1) hr hn (by omega) (fun k h0 h1 => by have := hv (4 * c + k) (by omega) (by omega); rwa [show 5 + (4 * c + k) = 5 + 4 * c + k by omega] at this)) (by omega) rfl rfl (Nat.le_of_ble_eq_true rfl) (fun r σ' hq => ?_)
      obtain ⟨rfl, rfl⟩ := hq
      have z5 : -1 ≤ zdo (σ r) c ∧ zdo (σ r) c < 4 := by have := zbs_b (σ r) c 3; unfold zdo; omega
      refine zw_iconst 22 dX6_whoDo_21 rfl ?_
      refine zw_icmp_ne 29 25 dX6_whoDo_22 (by decide) rfl (by omega) (by omega) (fun h22 => ?_) (fun h22 => ?_)
      · refine zw_iconst 30 dX6_whoDo_29 rfl ?_
        refine zw_iadd 31 dX6_whoDo_30 rfl ?_
        refine zw_istore_n 32 dX6_whoDo_31 rfl (by decide) ?_
        refine zw_iinc 35 dX6_whoDo_32 rfl (by decide) rfl ?_
        refine zw_goto 4 dX6_whoDo_35 (by decide) ?_
        refine zw_loc [true, true, true, true] rfl ?_
        have e3 := zwd_s (σ r) (c := c) hk0
        have ih2 := ih (c + 1) (by omega) (by omega)
        first | (rw [e3, if_pos h22] at ih2; exact ih2) | (rw [e3, if_neg h22] at ih2; exact ih2)
      · refine zw_iconst 26 dX6_whoDo_25 rfl ?_
        refine zw_goto 30 dX6_whoDo_26 (by decide) ?_
        refine zw_iadd 31 dX6_whoDo_30 rfl ?_
        refine zw_istore_n 32 dX6_whoDo_31 rfl (by decide) ?_
        refine zw_iinc 35 dX6_whoDo_32 rfl (by decide) rfl ?_
        refine zw_goto 4 dX6_whoDo_35 (by decide) ?_
        refine zw_loc [true, true, true, true] rfl ?_
        have e3 := zwd_s (σ r) (c := c) hk0
        have ih2 := ih (c + 1) (by omega) (by omega)
        first | (rw [e3, if_pos h22] at ih2; exact ih2) | (rw [e3, if_neg h22] at ih2; exact ih2)
theorem sp_X6_whoDo {l : Launch} {d : Nat} {σ : zMem} (hd : 1 ≤ d) {r n : Nat} (hr : zly r = some (100, n)) (hn : 33 ≤ n) (hc : 0 ≤ σ 218 48 ∧ σ 218 48 ≤ 5) (hv : ∀ i, 0 ≤ i → i < 20 → 0 ≤ σ r (5 + i) ∧ σ r (5 + i) ≤ 99) : zSp l d mX6_whoDo [.ref 217, .ref r] σ (zRi (zwd (σ r) (σ 218 48).toNat) σ) := by
  refine zSp_of oX6_whoDo (Nat.le_of_ble_eq_true rfl) ?_
  show zw l d mX6_whoDo 0 [some (.ref 217), some (.ref r), none, none] [] σ _
  refine zw_iconst 1 dX6_whoDo_0 rfl ?_
  refine zw_istore_n 2 dX6_whoDo_1 rfl (by decide) ?_
  refine zw_iconst 3 dX6_whoDo_2 rfl ?_
  refine zw_istore_n 4 dX6_whoDo_3 rfl (by decide) ?_
  exact lp_X6_whoDo hd hr hn hc hv (σ 218 48).toNat 0 (by omega) (by omega)
