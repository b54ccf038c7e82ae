theorem sw_X6_takesOn {l : Launch} {d : Nat} {σ : zMem} (hd : 2 ≤ d) {r n : Nat} (hr : zly r = some (100, n)) (hn : 33 ≤ n) {c : Int} (hs : zVs (σ 218)) (hv : zVw (σ 218) (σ r) c) (hy : 0 ≤ σ r 32 ∧ σ r 32 < 5000) (hc : 0 ≤ c ∧ c < 5) {s : Int} (hs0 : 0 ≤ s ∧ s < 7) : zSp l d mX6_takesOn [.ref 217, .ref r, .int (zI c), .int (zI s)] σ (zRi (ztk (σ 218) (σ r) c s) σ) := by
  refine zSp_of oX6_takesOn (Nat.le_of_ble_eq_true rfl) ?_
  show zw l d mX6_takesOn 0 [some (.ref 217), some (.ref r), some (.int (zI c)), some (.int (zI s)), none] [] σ _
  have g1 := hs.s hs0.1 hs0.2
  have g2 := hs.c hc.1 hc.2
  have g3 := zVw.tk hs hv hc hs0
  have g4 := hv.2.2 s hs0.1 hs0.2
  have g5 := zgv_b (k := σ 218 (34 + s)) (y := σ r 32) g4 g3
  refine zw_aload_n 1 dX6_takesOn_0 rfl rfl ?_
  refine zw_iconst 2 dX6_takesOn_1 rfl ?_
  refine zw_iconst 3 dX6_takesOn_2 rfl ?_
  refine zw_iload_n 4 dX6_takesOn_3 rfl rfl ?_
  refine zw_imul 5 dX6_takesOn_4 rfl ?_
  refine zw_iadd 6 dX6_takesOn_5 rfl ?_
  refine zw_aload_n 7 dX6_takesOn_6 rfl rfl ?_
  refine zw_getr 10 (218) (o := 1) dX6_takesOn_7 rfl fX6_7 (by decide) rfl rfl ly217 ?_
  refine zw_bipush 12 dX6_takesOn_10 rfl (by decide) ?_
  refine zw_iload_n 13 dX6_takesOn_12 rfl rfl ?_
  refine zw_iadd 14 dX6_takesOn_13 rfl ?_
  refine zw_iald 15 dX6_takesOn_14 rfl ly218 (by omega) ?_
  refine zw_iadd 16 dX6_takesOn_15 rfl ?_
  refine zw_iald 17 dX6_takesOn_16 rfl hr (by omega) ?_
  refine zw_istore 19 dX6_takesOn_17 rfl (by decide) ?_
  refine zw_aload_n 20 dX6_takesOn_19 rfl rfl ?_
  refine zw_getr 23 (218) (o := 1) dX6_takesOn_20 rfl fX6_7 (by decide) rfl rfl ly217 ?_
  refine zw_bipush 25 dX6_takesOn_23 rfl (by decide) ?_
  refine zw_iload_n 26 dX6_takesOn_25 rfl rfl ?_
  refine zw_iadd 27 dX6_takesOn_26 rfl ?_
  refine zw_iald 28 dX6_takesOn_27 rfl ly218 (by omega) ?_
  refine zw_aload_n 29 dX6_takesOn_28 rfl rfl ?_
  refine zw_getr 32 (218) (o := 1) dX6_takesOn_29 rfl fX6_7 (by decide) rfl rfl ly217 ?_
  refine zw_bipush 34 dX6_takesOn_32 rfl (by decide) ?_
  refine zw_iload_n 35 dX6_takesOn_34 rfl rfl ?_
  refine zw_iadd 36 dX6_takesOn_35 rfl ?_
  refine zw_iald 37 dX6_takesOn_36 rfl ly218 (by omega) ?_
  refine zw_aload_n 38 dX6_takesOn_37 rfl rfl ?_
  refine zw_bipush 40 dX6_takesOn_38 rfl (by decide) ?_
  refine zw_iload_n 41 dX6_takesOn_40 rfl rfl ?_
  refine zw_iadd 42 dX6_takesOn_41 rfl ?_
  refine zw_iald 43 dX6_takesOn_42 rfl hr (by omega) ?_
  refine zw_iload 45 dX6_takesOn_43 rfl rfl ?_
  refine zw_aload_n 46 dX6_takesOn_45 rfl rfl ?_
  refine zw_bipush 48 dX6_takesOn_46 rfl (by decide) ?_
  refine zw_iald 49 dX6_takesOn_48 rfl hr (by omega) ?_
  refine zw_callS 52 _ _ dX6_takesOn_49 rfl kX6_56 qX6_gives (sp_X6_gives (d := d - 1) (by omega) (by omega) (by omega) (by omega) (by omega)) (by omega) rfl rfl (Nat.le_of_ble_eq_true rfl) (fun r σ' hq => ?_)
  obtain ⟨rfl, rfl⟩ := hq
  refine zw_iload 54 dX6_takesOn_52 rfl rfl ?_
  refine zw_callS 57 _ _ dX6_takesOn_54 rfl kX6_60 qX6_takesOf (sp_X6_takesOf (d := d - 1) (by omega) (by omega) (by omega)) (by omega) rfl rfl (Nat.le_of_ble_eq_true rfl) (fun r σ' hq => ?_)
  obtain ⟨rfl, rfl⟩ := hq
  refine zw_iret dX6_takesOn_57 rfl ?_
  exact ⟨rfl, rfl⟩
theorem sw_X6_oneTakes {l : Launch} {d : Nat} {σ : zMem} (hd : 3 ≤ d) {r n : Nat} (hr : zly r = some (100, n)) (hn : 33 ≤ n) {c : Int} (hs : zVs (σ 218)) (hv : zVw (σ 218) (σ r) c) (hy : 0 ≤ σ r 32 ∧ σ r 32 < 5000) (hc : 0 ≤ c ∧ c < 5) : zSp l d mX6_oneTakes [.ref 217, .ref r, .int (zI c)] σ (zRv (zwa σ r (z1t (σ 218) (σ r) c))) := by
  refine zSp_of oX6_oneTakes (Nat.le_of_ble_eq_true rfl) ?_
  show zw l d mX6_oneTakes 0 [some (.ref 217), some (.ref r), some (.int (zI c)), none, none, none] [] σ _
  have g0 := hv.1
  have gN := hs.1
  refine zw_aload_n 1 dX6_oneTakes_0 rfl rfl ?_
  refine zw_iconst 2 dX6_oneTakes_1 rfl ?_
  refine zw_iload_n 3 dX6_oneTakes_2 rfl rfl ?_
  refine zw_iadd0 4 dX6_oneTakes_3 rfl ?_
  refine zw_iald 5 dX6_oneTakes_4 rfl hr (by omega) ?_
  refine zw_istore_n 6 dX6_oneTakes_5 rfl (by decide) ?_
  refine zw_iload_n 7 dX6_oneTakes_6 rfl rfl ?_
  refine zw_iconst 8 dX6_oneTakes_7 rfl ?_
  refine zw_icmp_eq 60 11 dX6_oneTakes_8 (by decide) rfl (by omega) (by omega) (fun h8 => ?_) (fun h8 => ?_)
  · refine zw_vret dX6_oneTakes_60 rfl ?_
    exact ⟨rfl, by first | rw [show z1t (σ 218) (σ r) c = σ r from if_pos h8, zwa_id] | (rw [show z1t (σ 218) (σ r) c = zup _ _ _ from if_neg h8, Int.min_eq_left h49]; rfl) | (rw [show z1t (σ 218) (σ r) c = zup _ _ _ from if_neg h8, Int.min_eq_right (Int.le_of_lt h49)]; rfl)⟩
  · have g1 := hs.s (s := σ r c) (by omega) (by omega)
    have g3 := zVw.tk hs hv hc (s := σ r c) (by omega)
    have g6 := ztk_bw hs hv hc (s := σ r c) (by omega)
    refine zw_iconst 12 dX6_oneTakes_11 rfl ?_
    refine zw_iconst 13 dX6_oneTakes_12 rfl ?_
    refine zw_iload_n 14 dX6_oneTakes_13 rfl rfl ?_
    refine zw_imul 15 dX6_oneTakes_14 rfl ?_
    refine zw_iadd 16 dX6_oneTakes_15 rfl ?_
    refine zw_aload_n 17 dX6_oneTakes_16 rfl rfl ?_
    refine zw_getr 20 (218) (o := 1) dX6_oneTakes_17 rfl fX6_7 (by decide) rfl rfl ly217 ?_
    refine zw_bipush 22 dX6_oneTakes_20 rfl (by decide) ?_
    refine zw_iload_n 23 dX6_oneTakes_22 rfl rfl ?_
    refine zw_iadd 24 dX6_oneTakes_23 rfl ?_
    refine zw_iald 25 dX6_oneTakes_24 rfl ly218 (by omega) ?_
    refine zw_iadd 26 dX6_oneTakes_25 rfl ?_
    refine zw_istore 28 dX6_oneTakes_26 rfl (by decide) ?_
    refine zw_aload_n 29 dX6_oneTakes_28 rfl rfl ?_
    refine zw_iload 31 dX6_oneTakes_29 rfl rfl ?_
    refine zw_iald 32 dX6_oneTakes_31 rfl hr (by omega) ?_
    refine zw_aload_n 33 dX6_oneTakes_32 rfl rfl ?_
    refine zw_aload_n 34 dX6_oneTakes_33 rfl rfl ?_
    refine zw_iload_n 35 dX6_oneTakes_34 rfl rfl ?_
    refine zw_iload_n 36 dX6_oneTakes_35 rfl rfl ?_
    refine zw_callV 39 _ _ dX6_oneTakes_36 rfl kX6_64 qX6_takesOn ly217 ⟨_, rfl, rfl⟩ (by decide) (sw_X6_takesOn (d := d - 1) (by omega) hr hn hs hv hy hc (by omega)) (by omega) rfl rfl (Nat.le_of_ble_eq_true rfl) (fun r σ' hq => ?_)
    obtain ⟨rfl, rfl⟩ := hq
    refine zw_iadd 40 dX6_oneTakes_39 rfl ?_
    refine zw_istore 42 dX6_oneTakes_40 rfl (by decide) ?_
    refine zw_aload_n 43 dX6_oneTakes_42 rfl rfl ?_
    refine zw_iload 45 dX6_oneTakes_43 rfl rfl ?_
    refine zw_iload 47 dX6_oneTakes_45 rfl rfl ?_
    refine zw_bipush 49 dX6_oneTakes_47 rfl (by decide) ?_
    refine zw_icmp_le 57 52 dX6_oneTakes_49 (by decide) rfl (by omega) (by omega) (fun h49 => ?_) (fun h49 => ?_)
    · refine zw_iload 59 dX6_oneTakes_57 rfl rfl ?_
      refine zw_iast 60 dX6_oneTakes_59 rfl hr (by omega) ?_
      refine zw_vret dX6_oneTakes_60 rfl ?_
      exact ⟨rfl, by first | rw [show z1t (σ 218) (σ r) c = σ r from if_pos h8, zwa_id] | (rw [show z1t (σ 218) (σ r) c = zup _ _ _ from if_neg h8, Int.min_eq_left h49]; rfl) | (rw [show z1t (σ 218) (σ r) c = zup _ _ _ from if_neg h8, Int.min_eq_right (Int.le_of_lt h49)]; rfl)⟩
    · refine zw_bipush 54 dX6_oneTakes_52 rfl (by decide) ?_
      refine zw_goto 59 dX6_oneTakes_54 (by decide) ?_
      refine zw_iast 60 dX6_oneTakes_59 rfl hr (by omega) ?_
      refine zw_vret dX6_oneTakes_60 rfl ?_
      exact ⟨rfl, by first | rw [show z1t (σ 218) (σ r) c = σ r from if_pos h8, zwa_id] | (rw [show z1t (σ 218) (σ r) c = zup _ _ _ from if_neg h8, Int.min_eq_left h49]; rfl) | (rw [show z1t (σ 218) (σ r) c = zup _ _ _ from if_neg h8, Int.min_eq_right (Int.le_of_lt h49)]; rfl)⟩
theorem sp_X6_aloneGoes {l : Launch} {d : Nat} {σ : zMem} (hd : 4 ≤ d) {c : Int} (hs : zVs (σ 218)) (hv : zVw (σ 218) (σ 220) c) (hy : 0 ≤ σ 220 32 ∧ σ 220 32 < 5000) (hc : 0 ≤ c ∧ c < 5) : zSp l d mX6_aloneGoes [.ref 217, .int (zI c)] σ (zRv (zwa σ 220 (za1 (σ 218) c (σ 220)))) := by
  refine zSp_of oX6_aloneGoes (Nat.le_of_ble_eq_true rfl) ?_
  show zw l d mX6_aloneGoes 0 [some (.ref 217), some (.int (zI c)), none, none] [] σ _
  have g0 := hv.1
  have gN := hs.1
  have t1 := z1t_Vw hs hv hc
  have t2 : z1t (σ 218) (σ 220) c c = σ 220 c := z1t_lo hs hv hc (by omega)
  have t3 : ∀ s, 0 ≤ s → z1t (σ 218) (σ 220) c (25 + s) = σ 220 (25 + s) := fun s h => z1t_lo hs hv hc (by omega)
  refine zw_aload_n 1 dX6_aloneGoes_0 rfl rfl ?_
  refine zw_getr 4 (220) (o := 3) dX6_aloneGoes_1 rfl fX6_16 (by decide) rfl rfl ly217 ?_
  refine zw_iconst 5 dX6_aloneGoes_4 rfl ?_
  refine zw_iload_n 6 dX6_aloneGoes_5 rfl rfl ?_
  refine zw_iadd0 7 dX6_aloneGoes_6 rfl ?_
  refine zw_iald 8 dX6_aloneGoes_7 rfl ly220 (by omega) ?_
  refine zw_istore_n 9 dX6_aloneGoes_8 rfl (by decide) ?_
  refine zw_aload_n 10 dX6_aloneGoes_9 rfl rfl ?_
  refine zw_aload_n 11 dX6_aloneGoes_10 rfl rfl ?_
  refine zw_getr 14 (220) (o := 3) dX6_aloneGoes_11 rfl fX6_16 (by decide) rfl rfl ly217 ?_
  refine zw_iload_n 15 dX6_aloneGoes_14 rfl rfl ?_
  refine zw_callV 18 _ _ dX6_aloneGoes_15 rfl kX6_68 qX6_oneTakes ly217 ⟨_, rfl, rfl⟩ (by decide) (sw_X6_oneTakes (d := d - 1) (by omega) ly220 (by decide) hs hv hy hc) (by omega) rfl rfl (Nat.le_of_ble_eq_true rfl) (fun r σ' hq => ?_)
  obtain ⟨rfl, rfl⟩ := hq
  have a1 : zwa σ 220 (z1t (σ 218) (σ 220) c) 220 = z1t (σ 218) (σ 220) c := zwa_same _ _ _
  have a2 : zwa σ 220 (z1t (σ 218) (σ 220) c) 218 = σ 218 := zwa_ne _ _ (by decide)
  have a3 : ∀ f, zwa (zwa σ 220 (z1t (σ 218) (σ 220) c)) 220 f = zwa σ 220 f := fun f => zwa_twice _ _ _ _
  generalize zwa σ 220 (z1t (σ 218) (σ 220) c) = σc at a1 a2 a3 ⊢
  refine zw_iload_n 19 dX6_aloneGoes_18 rfl rfl ?_
  refine zw_iconst 20 dX6_aloneGoes_19 rfl ?_
  refine zw_icmp_eq 85 23 dX6_aloneGoes_20 (by decide) rfl (by omega) (by omega) (fun h20 => ?_) (fun h20 => ?_)
  · first
      | (have e9 : zps (σ 218) (σ 220) c = σc 220 := by unfold zps; rw [a1, show z1w (σ 218) (z1t (σ 218) (σ 220) c) c = z1t (σ 218) (σ 220) c from if_pos (by rw [t2]; exact h20)])
      | skip
    refine zw_aload_n 86 dX6_aloneGoes_85 rfl rfl ?_
    refine zw_getr 89 (220) (o := 3) dX6_aloneGoes_86 rfl fX6_16 (by decide) rfl rfl ly217 ?_
    refine zw_bipush 91 dX6_aloneGoes_89 rfl (by decide) ?_
    refine zw_dup2_11 92 dX6_aloneGoes_91 rfl rfl rfl ?_
    refine zw_iald 93 dX6_aloneGoes_92 rfl ly220 (by omega) ?_
    refine zw_iconst 94 dX6_aloneGoes_93 rfl ?_
    refine zw_iadd 95 dX6_aloneGoes_94 rfl ?_
    refine zw_iast 96 dX6_aloneGoes_95 rfl ly220 (by omega) ?_
    refine zw_vret dX6_aloneGoes_96 rfl ?_
    first
      | exact ⟨rfl, by unfold za1 zwr; rw [zwa_same, zwa_twice]⟩
      | exact ⟨rfl, by unfold za1 zwr; rw [e9, a3]⟩
  · have g1 := hs.s (s := σ 220 c) (by omega) (by omega)
    have g2 := hs.c (c := c) (by omega) (by omega)
    have g3 := hv.2.2 (σ 220 c) (by omega) (by omega)
    have g4 := zhv_b (k := σ 218 (49 + c)) g2.2
    have g5 := zww_b hs (σ 220 c) hc
    have g6 := t3 (σ 220 c) (by omega)
    unfold zww at g5
    refine zw_aload_n 24 dX6_aloneGoes_23 rfl rfl ?_
    refine zw_getr 27 (220) (o := 3) dX6_aloneGoes_24 rfl fX6_16 (by decide) rfl rfl ly217 ?_
    refine zw_bipush 29 dX6_aloneGoes_27 rfl (by decide) ?_
    refine zw_iload_n 30 dX6_aloneGoes_29 rfl rfl ?_
    refine zw_iadd 31 dX6_aloneGoes_30 rfl ?_
    refine zw_iald 32 dX6_aloneGoes_31 rfl ly220 (by omega) ?_
    rw [a1, g6]
    refine zw_aload_n 33 dX6_aloneGoes_32 rfl rfl ?_
    refine zw_getr 36 (218) (o := 1) dX6_aloneGoes_33 rfl fX6_7 (by decide) rfl rfl ly217 ?_
    refine zw_bipush 38 dX6_aloneGoes_36 rfl (by decide) ?_
    refine zw_iload_n 39 dX6_aloneGoes_38 rfl rfl ?_
    refine zw_iadd 40 dX6_aloneGoes_39 rfl ?_
    refine zw_iald 41 dX6_aloneGoes_40 rfl ly218 (by omega) ?_
    rw [a2]
    refine zw_aload_n 42 dX6_aloneGoes_41 rfl rfl ?_
    refine zw_getr 45 (218) (o := 1) dX6_aloneGoes_42 rfl fX6_7 (by decide) rfl rfl ly217 ?_
    refine zw_bipush 47 dX6_aloneGoes_45 rfl (by decide) ?_
    refine zw_iload_n 48 dX6_aloneGoes_47 rfl rfl ?_
    refine zw_iadd 49 dX6_aloneGoes_48 rfl ?_
    refine zw_iald 50 dX6_aloneGoes_49 rfl ly218 (by omega) ?_
    rw [a2]
    refine zw_aload_n 51 dX6_aloneGoes_50 rfl rfl ?_
    refine zw_getr 54 (218) (o := 1) dX6_aloneGoes_51 rfl fX6_7 (by decide) rfl rfl ly217 ?_
    refine zw_bipush 56 dX6_aloneGoes_54 rfl (by decide) ?_
    refine zw_iload_n 57 dX6_aloneGoes_56 rfl rfl ?_
    refine zw_iadd 58 dX6_aloneGoes_57 rfl ?_
    refine zw_iald 59 dX6_aloneGoes_58 rfl ly218 (by omega) ?_
    rw [a2]
    refine zw_callS 62 _ _ dX6_aloneGoes_59 rfl kX6_72 qX6_heavy (sp_X6_heavy (d := d - 1) (by omega) (by omega)) (by omega) rfl rfl (Nat.le_of_ble_eq_true rfl) (fun r σ' hq => ?_)
    obtain ⟨rfl, rfl⟩ := hq
    refine zw_callS 65 _ _ dX6_aloneGoes_62 rfl kX6_75 qX6_worn (sp_X6_worn (d := d - 1) (by omega) (by omega)) (by omega) rfl rfl (Nat.le_of_ble_eq_true rfl) (fun r σ' hq => ?_)
    obtain ⟨rfl, rfl⟩ := hq
    refine zw_isub 66 dX6_aloneGoes_65 rfl ?_
    refine zw_istore_n 67 dX6_aloneGoes_66 rfl (by decide) ?_
    refine zw_aload_n 68 dX6_aloneGoes_67 rfl rfl ?_
    refine zw_getr 71 (220) (o := 3) dX6_aloneGoes_68 rfl fX6_16 (by decide) rfl rfl ly217 ?_
    refine zw_bipush 73 dX6_aloneGoes_71 rfl (by decide) ?_
    refine zw_iload_n 74 dX6_aloneGoes_73 rfl rfl ?_
    refine zw_iadd 75 dX6_aloneGoes_74 rfl ?_
    refine zw_iload_n 76 dX6_aloneGoes_75 rfl rfl ?_
    refine zw_if_ge 83 79 dX6_aloneGoes_76 (by decide) rfl (by omega) (fun h76 => ?_) (fun h76 => ?_)
    · refine zw_iload_n 84 dX6_aloneGoes_83 rfl rfl ?_
      refine zw_iast 85 dX6_aloneGoes_84 rfl ly220 (by omega) ?_
      have e9 : ∀ v, v = max (σ 220 (25 + σ 220 c) - zwn (σ 218 (34 + σ 220 c)) (zhv (σ 218 (49 + c)) (σ 218 (54 + c)))) 0 → zwr σc 220 (25 + σ 220 c) v = zwa σ 220 (zps (σ 218) (σ 220) c) := fun v hv9 => by
        unfold zps
        rw [show z1w (σ 218) (z1t (σ 218) (σ 220) c) c = zup _ _ _ from if_neg (by rw [t2]; exact h20), t2, g6]
        unfold zww
        rw [← hv9]
        unfold zwr
        rw [a3, a1]
      rw [e9 _ (by omega)]
      first
        | (have e9 : zps (σ 218) (σ 220) c = σc 220 := by unfold zps; rw [a1, show z1w (σ 218) (z1t (σ 218) (σ 220) c) c = z1t (σ 218) (σ 220) c from if_pos (by rw [t2]; exact h20)])
        | skip
      refine zw_aload_n 86 dX6_aloneGoes_85 rfl rfl ?_
      refine zw_getr 89 (220) (o := 3) dX6_aloneGoes_86 rfl fX6_16 (by decide) rfl rfl ly217 ?_
      refine zw_bipush 91 dX6_aloneGoes_89 rfl (by decide) ?_
      refine zw_dup2_11 92 dX6_aloneGoes_91 rfl rfl rfl ?_
      refine zw_iald 93 dX6_aloneGoes_92 rfl ly220 (by omega) ?_
      refine zw_iconst 94 dX6_aloneGoes_93 rfl ?_
      refine zw_iadd 95 dX6_aloneGoes_94 rfl ?_
      refine zw_iast 96 dX6_aloneGoes_95 rfl ly220 (by omega) ?_
      refine zw_vret dX6_aloneGoes_96 rfl ?_
      first
        | exact ⟨rfl, by unfold za1 zwr; rw [zwa_same, zwa_twice]⟩
        | exact ⟨rfl, by unfold za1 zwr; rw [e9, a3]⟩
    · refine zw_iconst 80 dX6_aloneGoes_79 rfl ?_
      refine zw_goto 84 dX6_aloneGoes_80 (by decide) ?_
      refine zw_iast 85 dX6_aloneGoes_84 rfl ly220 (by omega) ?_
      have e9 : ∀ v, v = max (σ 220 (25 + σ 220 c) - zwn (σ 218 (34 + σ 220 c)) (zhv (σ 218 (49 + c)) (σ 218 (54 + c)))) 0 → zwr σc 220 (25 + σ 220 c) v = zwa σ 220 (zps (σ 218) (σ 220) c) := fun v hv9 => by
        unfold zps
        rw [show z1w (σ 218) (z1t (σ 218) (σ 220) c) c = zup _ _ _ from if_neg (by rw [t2]; exact h20), t2, g6]
        unfold zww
        rw [← hv9]
        unfold zwr
        rw [a3, a1]
      rw [e9 _ (by omega)]
      first
        | (have e9 : zps (σ 218) (σ 220) c = σc 220 := by unfold zps; rw [a1, show z1w (σ 218) (z1t (σ 218) (σ 220) c) c = z1t (σ 218) (σ 220) c from if_pos (by rw [t2]; exact h20)])
        | skip
      refine zw_aload_n 86 dX6_aloneGoes_85 rfl rfl ?_
      refine zw_getr 89 (220) (o := 3) dX6_aloneGoes_86 rfl fX6_16 (by decide) rfl rfl ly217 ?_
      refine zw_bipush 91 dX6_aloneGoes_89 rfl (by decide) ?_
      refine zw_dup2_11 92 dX6_aloneGoes_91 rfl rfl rfl ?_
      refine zw_iald 93 dX6_aloneGoes_92 rfl ly220 (by omega) ?_
      refine zw_iconst 94 dX6_aloneGoes_93 rfl ?_
      refine zw_iadd 95 dX6_aloneGoes_94 rfl ?_
      refine zw_iast 96 dX6_aloneGoes_95 rfl ly220 (by omega) ?_
      refine zw_vret dX6_aloneGoes_96 rfl ?_
      first
        | exact ⟨rfl, by unfold za1 zwr; rw [zwa_same, zwa_twice]⟩
        | exact ⟨rfl, by unfold za1 zwr; rw [e9, a3]⟩
theorem zVw_put {N t : zR} {c s : Int} (hv : zVw N t c) (hc : 0 ≤ c ∧ c < 5) (hs0 : -1 ≤ s ∧ s < N 33) : zVw N (zup t c s) c := by
  have o : ∀ j, 5 ≤ j → zup t c s j = t j := fun j hj => zup_ne _ _ (by omega)
  exact ⟨by rw [zup_same]; exact hs0, fun i h0 h1 => by rw [o _ (by omega)]; exact hv.2.1 i h0 h1, fun q h0 h1 => by rw [o _ (by omega)]; exact hv.2.2 q h0 h1⟩
theorem lp2_X6_fulfilled {l : Launch} {d : Nat} {σ σc : zMem} (hd : 5 ≤ d) {c s n : Int} (hc : 0 ≤ c ∧ c < σ 218 48) (hs0 : -1 ≤ s ∧ s < σ 218 33) (hn : 0 ≤ n ∧ n ≤ 12) (hV : zVN (σ 218))  : ∀ (m : Nat) (j : Int) (m0 : Int), j + m = σ 218 59 → 0 ≤ j → σc = zwa σ 220 (zan (σ 218) c n.toNat (zup (zcy (σ 218) (σ 220) 0 0 33) c s)) → m0 = zct (zfj (σ 218) c s n.toNat) j.toNat → zw l d mX6_fulfilled 40 [some (.ref 217), some (.int (zI c)), some (.int (zI s)), some (.int (zI n)), some (.int (zI m0)), some (.int (zI (60 + 3 * j)))] [] σc (zRw (zfu (σ 218) n.toNat c s) σ 220) := by
  intro m
  induction m with
  | zero =>
    intro j m0 hk hk0 hσ hm
    have hs := hV.1
    have hv := hV.2.1
    have hy0 := hV.2.2.1
    have gN := hs.1
    have gC := hs.2.1
    have gW := hV.2.2.2.1.1
    have g0 : zag (zup (zcy (σ 218) (σ 220) 0 0 33) c s) (zup (σ 218) c s) := zup_ag (zcy_ag _ _) _ _
    have w0 : zVw (σ 218) (zup (σ 218) c s) c := zVw_put (hv.w ⟨hc.1, by omega⟩) ⟨hc.1, by omega⟩ hs0
    have wA : zVw (σ 218) (zup (zcy (σ 218) (σ 220) 0 0 33) c s) c := ⟨by rw [g0 c (by omega) (by omega)]; exact w0.1, fun i h0 h1 => by rw [g0 _ (by omega) (by omega)]; exact w0.2.1 i h0 h1, fun i h0 h1 => by rw [g0 _ (by omega) (by omega)]; exact w0.2.2 i h0 h1⟩
    have a1 : σc 220 = zan (σ 218) c n.toNat (zup (zcy (σ 218) (σ 220) 0 0 33) c s) := by rw [hσ, zwa_same]
    have a7 : σc 218 = σ 218 := by rw [hσ, zwa_ne _ _ (by decide)]
    have a4 : zVw (σ 218) (σc 220) c := by rw [a1]; exact zan_Vw hs wA ⟨hc.1, by omega⟩ _
    have ag : zag (σc 220) (zan (σ 218) c n.toNat (zup (σ 218) c s)) := by rw [a1]; exact (zan_ag hs w0 (fun j h0 h1 => (g0 j h0 h1).symm) ⟨hc.1, by omega⟩ _).symm
    have a6 : σc 220 32 = σ 218 32 + n := by rw [ag 32 (by omega) (by omega), zan_32 hs w0 ⟨hc.1, by omega⟩, zup_ne _ _ (by omega)]; omega
    have a5 : σc 218 48 = σ 218 48 := by rw [a7]
    have a9 : σc 218 33 = σ 218 33 := by rw [a7]
    have a10 : σc 218 59 = σ 218 59 := by rw [a7]
    refine zw_iload 42 dX6_fulfilled_40 rfl rfl ?_
    refine zw_bipush 44 dX6_fulfilled_42 rfl (by decide) ?_
    refine zw_iconst 45 dX6_fulfilled_44 rfl ?_
    refine zw_aload_n 46 dX6_fulfilled_45 rfl rfl ?_
    refine zw_getr 49 (218) (o := 1) dX6_fulfilled_46 rfl fX6_7 (by decide) rfl rfl ly217 ?_
    refine zw_bipush 51 dX6_fulfilled_49 rfl (by decide) ?_
    refine zw_iald 52 dX6_fulfilled_51 rfl ly218 (by omega) ?_
    rw [a7]
    refine zw_imul 53 dX6_fulfilled_52 rfl ?_
    refine zw_iadd 54 dX6_fulfilled_53 rfl ?_
    refine zw_icmp_ge 116 57 dX6_fulfilled_54 (by decide) rfl (by omega) (by omega) (fun h54 => ?_) (fun h54 => ?_)
    · refine zw_iload 118 dX6_fulfilled_116 rfl rfl ?_
      refine zw_iret dX6_fulfilled_118 rfl ?_
      have ej : j = σ 218 59 := by omega
      subst ej
      exact ⟨by rw [hm]; rfl, _, hσ.symm⟩
    · exfalso; omega
  | succ m ih =>
    intro j m0 hk hk0 hσ hm
    have hs := hV.1
    have hv := hV.2.1
    have hy0 := hV.2.2.1
    have gN := hs.1
    have gC := hs.2.1
    have gW := hV.2.2.2.1.1
    have g0 : zag (zup (zcy (σ 218) (σ 220) 0 0 33) c s) (zup (σ 218) c s) := zup_ag (zcy_ag _ _) _ _
    have w0 : zVw (σ 218) (zup (σ 218) c s) c := zVw_put (hv.w ⟨hc.1, by omega⟩) ⟨hc.1, by omega⟩ hs0
    have wA : zVw (σ 218) (zup (zcy (σ 218) (σ 220) 0 0 33) c s) c := ⟨by rw [g0 c (by omega) (by omega)]; exact w0.1, fun i h0 h1 => by rw [g0 _ (by omega) (by omega)]; exact w0.2.1 i h0 h1, fun i h0 h1 => by rw [g0 _ (by omega) (by omega)]; exact w0.2.2 i h0 h1⟩
    have a1 : σc 220 = zan (σ 218) c n.toNat (zup (zcy (σ 218) (σ 220) 0 0 33) c s) := by rw [hσ, zwa_same]
    have a7 : σc 218 = σ 218 := by rw [hσ, zwa_ne _ _ (by decide)]
    have a4 : zVw (σ 218) (σc 220) c := by rw [a1]; exact zan_Vw hs wA ⟨hc.1, by omega⟩ _
    have ag : zag (σc 220) (zan (σ 218) c n.toNat (zup (σ 218) c s)) := by rw [a1]; exact (zan_ag hs w0 (fun j h0 h1 => (g0 j h0 h1).symm) ⟨hc.1, by omega⟩ _).symm
    have a6 : σc 220 32 = σ 218 32 + n := by rw [ag 32 (by omega) (by omega), zan_32 hs w0 ⟨hc.1, by omega⟩, zup_ne _ _ (by omega)]; omega
    have a5 : σc 218 48 = σ 218 48 := by rw [a7]
    have a9 : σc 218 33 = σ 218 33 := by rw [a7]
    have a10 : σc 218 59 = σ 218 59 := by rw [a7]
    refine zw_iload 42 dX6_fulfilled_40 rfl rfl ?_
    refine zw_bipush 44 dX6_fulfilled_42 rfl (by decide) ?_
    refine zw_iconst 45 dX6_fulfilled_44 rfl ?_
    refine zw_aload_n 46 dX6_fulfilled_45 rfl rfl ?_
    refine zw_getr 49 (218) (o := 1) dX6_fulfilled_46 rfl fX6_7 (by decide) rfl rfl ly217 ?_
    refine zw_bipush 51 dX6_fulfilled_49 rfl (by decide) ?_
    refine zw_iald 52 dX6_fulfilled_51 rfl ly218 (by omega) ?_
    rw [a7]
    refine zw_imul 53 dX6_fulfilled_52 rfl ?_
    refine zw_iadd 54 dX6_fulfilled_53 rfl ?_
    refine zw_icmp_ge 116 57 dX6_fulfilled_54 (by decide) rfl (by omega) (by omega) (fun h54 => ?_) (fun h54 => ?_)
    · refine zw_iload 118 dX6_fulfilled_116 rfl rfl ?_
      refine zw_iret dX6_fulfilled_118 rfl ?_
      exfalso; omega
    · have gw := hV.2.2.2.1.2 j (by omega) (by omega)
      have g8 := a4.tk2 (k := σ 218 (60 + 3 * j + 1)) ⟨hc.1, by omega⟩ (by omega)
      have g9 := ag (5 + 4 * c + σ 218 (60 + 3 * j + 1)) (by omega) (by omega)
      refine zw_iload 59 dX6_fulfilled_57 rfl rfl ?_
      refine zw_aload_n 60 dX6_fulfilled_59 rfl rfl ?_
      refine zw_getr 63 (218) (o := 1) dX6_fulfilled_60 rfl fX6_7 (by decide) rfl rfl ly217 ?_
      refine zw_iload 65 dX6_fulfilled_63 rfl rfl ?_
      refine zw_iald 66 dX6_fulfilled_65 rfl ly218 (by omega) ?_
      rw [a7]
      refine zw_iload_n 67 dX6_fulfilled_66 rfl rfl ?_
      refine zw_icmp_ne 106 70 dX6_fulfilled_67 (by decide) rfl (by omega) (by omega) (fun h67 => ?_) (fun h67 => ?_)
      · refine zw_iconst 107 dX6_fulfilled_106 rfl ?_
        refine zw_iadd 108 dX6_fulfilled_107 rfl ?_
        refine zw_istore 110 dX6_fulfilled_108 rfl (by decide) ?_
        refine zw_iinc 113 dX6_fulfilled_110 rfl (by decide) rfl ?_
        refine zw_goto 40 dX6_fulfilled_113 (by decide) ?_
        refine zw_loc [true, true, true, true, true, true] rfl ?_
        have ih2 := fun h => ih (j + 1) (zct (zfj (σ 218) c s n.toNat) (j + 1).toNat) (by omega) (by omega) h rfl
        rw [show 60 + 3 * (j + 1) = 60 + 3 * j + 3 by omega] at ih2
        first
          | exact (by rw [zct_s _ hk0, ← hm, show zfj (σ 218) c s n.toNat j = 1 by unfold zfj; rw [if_pos]; omega] at ih2; exact ih2 hσ)
          | exact (by rw [zct_s _ hk0, ← hm, show zfj (σ 218) c s n.toNat j = 0 by unfold zfj; rw [if_neg]; omega] at ih2; exact ih2 hσ)
      · refine zw_aload_n 71 dX6_fulfilled_70 rfl rfl ?_
        refine zw_getr 74 (220) (o := 3) dX6_fulfilled_71 rfl fX6_16 (by decide) rfl rfl ly217 ?_
        refine zw_iconst 75 dX6_fulfilled_74 rfl ?_
        refine zw_iconst 76 dX6_fulfilled_75 rfl ?_
        refine zw_iload_n 77 dX6_fulfilled_76 rfl rfl ?_
        refine zw_imul 78 dX6_fulfilled_77 rfl ?_
        refine zw_iadd 79 dX6_fulfilled_78 rfl ?_
        refine zw_aload_n 80 dX6_fulfilled_79 rfl rfl ?_
        refine zw_getr 83 (218) (o := 1) dX6_fulfilled_80 rfl fX6_7 (by decide) rfl rfl ly217 ?_
        refine zw_iload 85 dX6_fulfilled_83 rfl rfl ?_
        refine zw_iconst 86 dX6_fulfilled_85 rfl ?_
        refine zw_iadd 87 dX6_fulfilled_86 rfl ?_
        refine zw_iald 88 dX6_fulfilled_87 rfl ly218 (by omega) ?_
        rw [a7]
        refine zw_iadd 89 dX6_fulfilled_88 rfl ?_
        refine zw_iald 90 dX6_fulfilled_89 rfl ly220 (by omega) ?_
        refine zw_aload_n 91 dX6_fulfilled_90 rfl rfl ?_
        refine zw_getr 94 (218) (o := 1) dX6_fulfilled_91 rfl fX6_7 (by decide) rfl rfl ly217 ?_
        refine zw_iload 96 dX6_fulfilled_94 rfl rfl ?_
        refine zw_iconst 97 dX6_fulfilled_96 rfl ?_
        refine zw_iadd 98 dX6_fulfilled_97 rfl ?_
        refine zw_iald 99 dX6_fulfilled_98 rfl ly218 (by omega) ?_
        rw [a7]
        refine zw_icmp_lt 106 102 dX6_fulfilled_99 (by decide) rfl (by omega) (by omega) (fun h99 => ?_) (fun h99 => ?_)
        · refine zw_iconst 107 dX6_fulfilled_106 rfl ?_
          refine zw_iadd 108 dX6_fulfilled_107 rfl ?_
          refine zw_istore 110 dX6_fulfilled_108 rfl (by decide) ?_
          refine zw_iinc 113 dX6_fulfilled_110 rfl (by decide) rfl ?_
          refine zw_goto 40 dX6_fulfilled_113 (by decide) ?_
          refine zw_loc [true, true, true, true, true, true] rfl ?_
          have ih2 := fun h => ih (j + 1) (zct (zfj (σ 218) c s n.toNat) (j + 1).toNat) (by omega) (by omega) h rfl
          rw [show 60 + 3 * (j + 1) = 60 + 3 * j + 3 by omega] at ih2
          first
            | exact (by rw [zct_s _ hk0, ← hm, show zfj (σ 218) c s n.toNat j = 1 by unfold zfj; rw [if_pos]; omega] at ih2; exact ih2 hσ)
            | exact (by rw [zct_s _ hk0, ← hm, show zfj (σ 218) c s n.toNat j = 0 by unfold zfj; rw [if_neg]; omega] at ih2; exact ih2 hσ)
        · refine zw_iconst 103 dX6_fulfilled_102 rfl ?_
          refine zw_goto 107 dX6_fulfilled_103 (by decide) ?_
          refine zw_iadd 108 dX6_fulfilled_107 rfl ?_
          refine zw_istore 110 dX6_fulfilled_108 rfl (by decide) ?_
          refine zw_iinc 113 dX6_fulfilled_110 rfl (by decide) rfl ?_
          refine zw_goto 40 dX6_fulfilled_113 (by decide) ?_
          refine zw_loc [true, true, true, true, true, true] rfl ?_
          have ih2 := fun h => ih (j + 1) (zct (zfj (σ 218) c s n.toNat) (j + 1).toNat) (by omega) (by omega) h rfl
          rw [show 60 + 3 * (j + 1) = 60 + 3 * j + 3 by omega] at ih2
          first
            | exact (by rw [zct_s _ hk0, ← hm, show zfj (σ 218) c s n.toNat j = 1 by unfold zfj; rw [if_pos]; omega] at ih2; exact ih2 hσ)
            | exact (by rw [zct_s _ hk0, ← hm, show zfj (σ 218) c s n.toNat j = 0 by unfold zfj; rw [if_neg]; omega] at ih2; exact ih2 hσ)
theorem lp1_X6_fulfilled {l : Launch} {d : Nat} {σ : zMem} (hd : 5 ≤ d) {c s n : Int} (hc : 0 ≤ c ∧ c < σ 218 48) (hs0 : -1 ≤ s ∧ s < σ 218 33) (hn : 0 ≤ n ∧ n ≤ 12) (hV : zVN (σ 218))  : ∀ (m : Nat) (k : Int) (σc : zMem), k + m = n → 0 ≤ k → σc = zwa σ 220 (zan (σ 218) c k.toNat (zup (zcy (σ 218) (σ 220) 0 0 33) c s)) → zw l d mX6_fulfilled 16 [some (.ref 217), some (.int (zI c)), some (.int (zI s)), some (.int (zI n)), some (.int (zI k)), none] [] σc (zRw (zfu (σ 218) n.toNat c s) σ 220) := by
  intro m
  induction m with
  | zero =>
    intro k σc hk hk0 hσ
    have hs := hV.1
    have hv := hV.2.1
    have hy0 := hV.2.2.1
    have gN := hs.1
    have gC := hs.2.1
    have gW := hV.2.2.2.1.1
    have g0 : zag (zup (zcy (σ 218) (σ 220) 0 0 33) c s) (zup (σ 218) c s) := zup_ag (zcy_ag _ _) _ _
    have w0 : zVw (σ 218) (zup (σ 218) c s) c := zVw_put (hv.w ⟨hc.1, by omega⟩) ⟨hc.1, by omega⟩ hs0
    have wA : zVw (σ 218) (zup (zcy (σ 218) (σ 220) 0 0 33) c s) c := ⟨by rw [g0 c (by omega) (by omega)]; exact w0.1, fun i h0 h1 => by rw [g0 _ (by omega) (by omega)]; exact w0.2.1 i h0 h1, fun i h0 h1 => by rw [g0 _ (by omega) (by omega)]; exact w0.2.2 i h0 h1⟩
    have a1 : σc 220 = zan (σ 218) c k.toNat (zup (zcy (σ 218) (σ 220) 0 0 33) c s) := by rw [hσ, zwa_same]
    have a7 : σc 218 = σ 218 := by rw [hσ, zwa_ne _ _ (by decide)]
    have a4 : zVw (σ 218) (σc 220) c := by rw [a1]; exact zan_Vw hs wA ⟨hc.1, by omega⟩ _
    have ag : zag (σc 220) (zan (σ 218) c k.toNat (zup (σ 218) c s)) := by rw [a1]; exact (zan_ag hs w0 (fun j h0 h1 => (g0 j h0 h1).symm) ⟨hc.1, by omega⟩ _).symm
    have a6 : σc 220 32 = σ 218 32 + k := by rw [ag 32 (by omega) (by omega), zan_32 hs w0 ⟨hc.1, by omega⟩, zup_ne _ _ (by omega)]; omega
    have a5 : σc 218 48 = σ 218 48 := by rw [a7]
    have a9 : σc 218 33 = σ 218 33 := by rw [a7]
    have a10 : σc 218 59 = σ 218 59 := by rw [a7]
    refine zw_iload 18 dX6_fulfilled_16 rfl rfl ?_
    refine zw_iload_n 19 dX6_fulfilled_18 rfl rfl ?_
    refine zw_icmp_ge 33 22 dX6_fulfilled_19 (by decide) rfl (by omega) (by omega) (fun h19 => ?_) (fun h19 => ?_)
    · refine zw_iconst 34 dX6_fulfilled_33 rfl ?_
      refine zw_istore 36 dX6_fulfilled_34 rfl (by decide) ?_
      refine zw_bipush 38 dX6_fulfilled_36 rfl (by decide) ?_
      refine zw_istore 40 dX6_fulfilled_38 rfl (by decide) ?_
      obtain rfl : k = n := by omega
      refine zw_loc [true, true, true, true, true, true] rfl ?_
      exact lp2_X6_fulfilled (σ := σ) hd hc hs0 hn hV (σ 218 59).toNat 0 0 (by omega) (by omega) hσ rfl
    · exfalso; omega
  | succ m ih =>
    intro k σc hk hk0 hσ
    have hs := hV.1
    have hv := hV.2.1
    have hy0 := hV.2.2.1
    have gN := hs.1
    have gC := hs.2.1
    have gW := hV.2.2.2.1.1
    have g0 : zag (zup (zcy (σ 218) (σ 220) 0 0 33) c s) (zup (σ 218) c s) := zup_ag (zcy_ag _ _) _ _
    have w0 : zVw (σ 218) (zup (σ 218) c s) c := zVw_put (hv.w ⟨hc.1, by omega⟩) ⟨hc.1, by omega⟩ hs0
    have wA : zVw (σ 218) (zup (zcy (σ 218) (σ 220) 0 0 33) c s) c := ⟨by rw [g0 c (by omega) (by omega)]; exact w0.1, fun i h0 h1 => by rw [g0 _ (by omega) (by omega)]; exact w0.2.1 i h0 h1, fun i h0 h1 => by rw [g0 _ (by omega) (by omega)]; exact w0.2.2 i h0 h1⟩
    have a1 : σc 220 = zan (σ 218) c k.toNat (zup (zcy (σ 218) (σ 220) 0 0 33) c s) := by rw [hσ, zwa_same]
    have a7 : σc 218 = σ 218 := by rw [hσ, zwa_ne _ _ (by decide)]
    have a4 : zVw (σ 218) (σc 220) c := by rw [a1]; exact zan_Vw hs wA ⟨hc.1, by omega⟩ _
    have ag : zag (σc 220) (zan (σ 218) c k.toNat (zup (σ 218) c s)) := by rw [a1]; exact (zan_ag hs w0 (fun j h0 h1 => (g0 j h0 h1).symm) ⟨hc.1, by omega⟩ _).symm
    have a6 : σc 220 32 = σ 218 32 + k := by rw [ag 32 (by omega) (by omega), zan_32 hs w0 ⟨hc.1, by omega⟩, zup_ne _ _ (by omega)]; omega
    have a5 : σc 218 48 = σ 218 48 := by rw [a7]
    have a9 : σc 218 33 = σ 218 33 := by rw [a7]
    have a10 : σc 218 59 = σ 218 59 := by rw [a7]
    refine zw_iload 18 dX6_fulfilled_16 rfl rfl ?_
    refine zw_iload_n 19 dX6_fulfilled_18 rfl rfl ?_
    refine zw_icmp_ge 33 22 dX6_fulfilled_19 (by decide) rfl (by omega) (by omega) (fun h19 => ?_) (fun h19 => ?_)
    · refine zw_iconst 34 dX6_fulfilled_33 rfl ?_
      refine zw_istore 36 dX6_fulfilled_34 rfl (by decide) ?_
      refine zw_bipush 38 dX6_fulfilled_36 rfl (by decide) ?_
      refine zw_istore 40 dX6_fulfilled_38 rfl (by decide) ?_
      obtain rfl : k = n := by omega
      refine zw_loc [true, true, true, true, true, true] rfl ?_
      exact lp2_X6_fulfilled (σ := σ) hd hc hs0 hn hV (σ 218 59).toNat 0 0 (by omega) (by omega) hσ rfl
    · refine zw_aload_n 23 dX6_fulfilled_22 rfl rfl ?_
      refine zw_iload_n 24 dX6_fulfilled_23 rfl rfl ?_
      refine zw_callV 27 _ _ dX6_fulfilled_24 rfl kX6_231 qX6_aloneGoes ly217 ⟨_, rfl, rfl⟩ (by decide) (sp_X6_aloneGoes (d := d - 1) (by omega) (by rw [a7]; exact hs) (by rw [a7]; exact a4) (by omega) (by omega)) (by omega) rfl rfl (Nat.le_of_ble_eq_true rfl) (fun r σ' hq => ?_)
      obtain ⟨rfl, rfl⟩ := hq
      refine zw_iinc 30 dX6_fulfilled_27 rfl (by decide) rfl ?_
      refine zw_goto 16 dX6_fulfilled_30 (by decide) ?_
      refine zw_loc [true, true, true, true, true, false] rfl ?_
      refine ih (k + 1) _ (by omega) (by omega) ?_
      rw [zan_s _ _ _ hk0, ← a1, ← a7, hσ, zwa_twice]
theorem sp_X6_fulfilled {l : Launch} {d : Nat} {σ : zMem} (hd : 5 ≤ d) {c s n : Int} (hc : 0 ≤ c ∧ c < σ 218 48) (hs0 : -1 ≤ s ∧ s < σ 218 33) (hn : 0 ≤ n ∧ n ≤ 12) (hV : zVN (σ 218))  : zSp l d mX6_fulfilled [.ref 217, .int (zI c), .int (zI s), .int (zI n)] σ (zRw (zfu (σ 218) n.toNat c s) σ 220) := by
  refine zSp_of oX6_fulfilled (Nat.le_of_ble_eq_true rfl) ?_
  show zw l d mX6_fulfilled 0 [some (.ref 217), some (.int (zI c)), some (.int (zI s)), some (.int (zI n)), none, none] [] σ _
  have gC := hV.1.2.1
  refine zw_aload_n 1 dX6_fulfilled_0 rfl rfl ?_
  refine zw_callV 4 _ _ dX6_fulfilled_1 rfl kX6_216 qX6_layAside ly217 ⟨_, rfl, rfl⟩ (by decide) (sp_X6_layAside (d := d - 1) (by omega)) (by omega) rfl rfl (Nat.le_of_ble_eq_true rfl) (fun r σ' hq => ?_)
  obtain ⟨rfl, rfl⟩ := hq
  refine zw_aload_n 5 dX6_fulfilled_4 rfl rfl ?_
  refine zw_getr 8 (220) (o := 3) dX6_fulfilled_5 rfl fX6_16 (by decide) rfl rfl ly217 ?_
  refine zw_iconst 9 dX6_fulfilled_8 rfl ?_
  refine zw_iload_n 10 dX6_fulfilled_9 rfl rfl ?_
  refine zw_iadd0 11 dX6_fulfilled_10 rfl ?_
  refine zw_iload_n 12 dX6_fulfilled_11 rfl rfl ?_
  refine zw_iast 13 dX6_fulfilled_12 rfl ly220 (by omega) ?_
  rw [zwr_wa]
  refine zw_iconst 14 dX6_fulfilled_13 rfl ?_
  refine zw_istore 16 dX6_fulfilled_14 rfl (by decide) ?_
  exact lp1_X6_fulfilled (σ := σ) hd hc hs0 hn hV n.toNat 0 _ (by omega) (by omega) rfl
def zib (f : zR) (c : Int) : Nat → Int
  | 0 => 0
  | n + 1 => if zib f c n = 1 ∨ f n = f c then 1 else 0
theorem zib_s (f : zR) (c : Int) {k : Int} (h : 0 ≤ k) : zib f c (k + 1).toNat = if zib f c k.toNat = 1 ∨ f k = f c then 1 else 0 := by
  have e : (k + 1).toNat = k.toNat + 1 := by omega
  have e2 : ((k.toNat : Nat) : Int) = k := by omega
  rw [e, zib, e2]
theorem zib_b (f : zR) (c : Int) : ∀ n, zib f c n = 0 ∨ zib f c n = 1
  | 0 => Or.inl rfl
  | n + 1 => by unfold zib; omega
theorem lp_X6_isBefore {l : Launch} {d : Nat} {σ : zMem} {c : Int} (hc : 0 ≤ c ∧ c < 7) (hr : ∀ k, 0 ≤ k → k ≤ c → -2147483648 ≤ σ 226 k ∧ σ 226 k < 2147483648)  : ∀ (m : Nat) (k : Int) (b : Int), k + m = c → 0 ≤ k → b = zib (σ 226) c k.toNat → zw l d mX6_isBefore 4 [some (.ref 217), some (.int (zI c)), some (.int (zI b)), some (.int (zI k))] [] σ (zRi (zib (σ 226) c c.toNat) σ) := by
  intro m
  induction m with
  | zero =>
    intro k b hk hk0 hb
    have b1 := zib_b (σ 226) c k.toNat
    rw [← hb] at b1
    have r1 := hr c hc.1 (Int.le_refl _)
    have r2 := hr k hk0 (by omega)
    refine zw_iload_n 5 dX6_isBefore_4 rfl rfl ?_
    refine zw_iload_n 6 dX6_isBefore_5 rfl rfl ?_
    refine zw_icmp_ge 40 9 dX6_isBefore_6 (by decide) rfl (by omega) (by omega) (fun h6 => ?_) (fun h6 => ?_)
    · refine zw_iload_n 41 dX6_isBefore_40 rfl rfl ?_
      refine zw_zret dX6_isBefore_41 rfl (by omega) ?_
      have ek : k = c := by omega
      subst ek
      exact zRi_of hb
    · exfalso; omega
  | succ m ih =>
    intro k b hk hk0 hb
    have b1 := zib_b (σ 226) c k.toNat
    rw [← hb] at b1
    have r1 := hr c hc.1 (Int.le_refl _)
    have r2 := hr k hk0 (by omega)
    refine zw_iload_n 5 dX6_isBefore_4 rfl rfl ?_
    refine zw_iload_n 6 dX6_isBefore_5 rfl rfl ?_
    refine zw_icmp_ge 40 9 dX6_isBefore_6 (by decide) rfl (by omega) (by omega) (fun h6 => ?_) (fun h6 => ?_)
    · refine zw_iload_n 41 dX6_isBefore_40 rfl rfl ?_
      refine zw_zret dX6_isBefore_41 rfl (by omega) ?_
      exfalso; omega
    · refine zw_iload_n 10 dX6_isBefore_9 rfl rfl ?_
      refine zw_if_ne 28 13 dX6_isBefore_10 (by decide) rfl (by omega) (fun h10 => ?_) (fun h10 => ?_)
      · refine zw_iconst 29 dX6_isBefore_28 rfl ?_
        refine zw_goto 33 dX6_isBefore_29 (by decide) ?_
        refine zw_istore_n 34 dX6_isBefore_33 rfl (by decide) ?_
        refine zw_iinc 37 dX6_isBefore_34 rfl (by decide) rfl ?_
        refine zw_goto 4 dX6_isBefore_37 (by decide) ?_
        refine zw_loc [true, true, true, true] rfl ?_
        have ih2 := ih (k + 1) (if b = 1 ∨ σ 226 k = σ 226 c then 1 else 0) (by omega) (by omega) (by rw [zib_s _ _ hk0, hb])
        first | (rw [if_pos (show b = 1 ∨ σ 226 k = σ 226 c by omega)] at ih2; exact ih2) | (rw [if_neg (show ¬ (b = 1 ∨ σ 226 k = σ 226 c) by omega)] at ih2; exact ih2)
      · refine zw_aload_n 14 dX6_isBefore_13 rfl rfl ?_
        refine zw_getr 17 (226) (o := 9) dX6_isBefore_14 rfl fX6_39 (by decide) rfl rfl ly217 ?_
        refine zw_iload_n 18 dX6_isBefore_17 rfl rfl ?_
        refine zw_iald 19 dX6_isBefore_18 rfl ly226 (by omega) ?_
        refine zw_aload_n 20 dX6_isBefore_19 rfl rfl ?_
        refine zw_getr 23 (226) (o := 9) dX6_isBefore_20 rfl fX6_39 (by decide) rfl rfl ly217 ?_
        refine zw_iload_n 24 dX6_isBefore_23 rfl rfl ?_
        refine zw_iald 25 dX6_isBefore_24 rfl ly226 (by omega) ?_
        refine zw_icmp_ne 32 28 dX6_isBefore_25 (by decide) rfl (by omega) (by omega) (fun h25 => ?_) (fun h25 => ?_)
        · refine zw_iconst 33 dX6_isBefore_32 rfl ?_
          refine zw_istore_n 34 dX6_isBefore_33 rfl (by decide) ?_
          refine zw_iinc 37 dX6_isBefore_34 rfl (by decide) rfl ?_
          refine zw_goto 4 dX6_isBefore_37 (by decide) ?_
          refine zw_loc [true, true, true, true] rfl ?_
          have ih2 := ih (k + 1) (if b = 1 ∨ σ 226 k = σ 226 c then 1 else 0) (by omega) (by omega) (by rw [zib_s _ _ hk0, hb])
          first | (rw [if_pos (show b = 1 ∨ σ 226 k = σ 226 c by omega)] at ih2; exact ih2) | (rw [if_neg (show ¬ (b = 1 ∨ σ 226 k = σ 226 c) by omega)] at ih2; exact ih2)
        · refine zw_iconst 29 dX6_isBefore_28 rfl ?_
          refine zw_goto 33 dX6_isBefore_29 (by decide) ?_
          refine zw_istore_n 34 dX6_isBefore_33 rfl (by decide) ?_
          refine zw_iinc 37 dX6_isBefore_34 rfl (by decide) rfl ?_
          refine zw_goto 4 dX6_isBefore_37 (by decide) ?_
          refine zw_loc [true, true, true, true] rfl ?_
          have ih2 := ih (k + 1) (if b = 1 ∨ σ 226 k = σ 226 c then 1 else 0) (by omega) (by omega) (by rw [zib_s _ _ hk0, hb])
          first | (rw [if_pos (show b = 1 ∨ σ 226 k = σ 226 c by omega)] at ih2; exact ih2) | (rw [if_neg (show ¬ (b = 1 ∨ σ 226 k = σ 226 c) by omega)] at ih2; exact ih2)
theorem sp_X6_isBefore {l : Launch} {d : Nat} {σ : zMem} {c : Int} (hc : 0 ≤ c ∧ c < 7) (hr : ∀ k, 0 ≤ k → k ≤ c → -2147483648 ≤ σ 226 k ∧ σ 226 k < 2147483648)  : zSp l d mX6_isBefore [.ref 217, .int (zI c)] σ (zRi (zib (σ 226) c c.toNat) σ) := by
  refine zSp_of oX6_isBefore (Nat.le_of_ble_eq_true rfl) ?_
  show zw l d mX6_isBefore 0 [some (.ref 217), some (.int (zI c)), none, none] [] σ _
  refine zw_iconst 1 dX6_isBefore_0 rfl ?_
  refine zw_istore_n 2 dX6_isBefore_1 rfl (by decide) ?_
  refine zw_iconst 3 dX6_isBefore_2 rfl ?_
  refine zw_istore_n 4 dX6_isBefore_3 rfl (by decide) ?_
  exact lp_X6_isBefore hc hr c.toNat 0 0 (by omega) (by omega) rfl
