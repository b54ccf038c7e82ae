theorem l2_X3_wishesCome {l : Launch} {d : Nat} {σ : zMem} {N : zR} (hC : zCh σ 2 N) (hV : zVN N) (hd : 5 ≤ d) {c s n : Int} (hc : 0 ≤ c ∧ c < N 48) (hs0 : -1 ≤ s ∧ s < N 33) (hn : 0 ≤ n ∧ n ≤ 12) : ∀ (m k : Nat), k + m = (N 59).toNat → ∀ σc : zMem, zSc σc 102 (zan N c n.toNat (zup N c s)) → (∀ r, ¬ (102 ≤ r ∧ r ≤ 105) → σc r = σ r) → zw l d mX3_wishesCome 53 [some (.ref 2), some (.ref 102), some (.int (zI c)), some (.int (zI s)), some (.int (zI n)), some (.int (zI ((zct (zfj N c s n.toNat) k)))), some (.int (zI ((k : Int)))), none] [] σc (fun v σ1 => v = some (.int (zI (zfu N n.toNat c s))) ∧ ∀ r, ¬ (102 ≤ r ∧ r ≤ 105) → σ1 r = σ r) := by
  have hs := hV.1
  have hv := hV.2.1
  have hy := hV.2.2.1
  have hB := zVN_bd hV
  have gN := hs.1
  have gC := hs.2.1
  have c0 : σ 2 0 = N 33 := hC.1.1.1
  have c1 : σ 2 1 = N 48 := hC.1.1.2.1
  have c2 : ∀ s, 0 ≤ s → s < N 33 → σ 3 s = N (34 + s) ∧ σ 4 s = N (41 + s) := hC.1.1.2.2.1
  have c3 : ∀ c, 0 ≤ c → c < N 48 → σ 5 c = N (49 + c) ∧ σ 6 c = N (54 + c) ∧ σ 7 c = zhv (N (49 + c)) (N (54 + c)) := hC.1.1.2.2.2
  have c4 : zSc σ 8 N := hC.1.2.1
  have c41 : ∀ c, 0 ≤ c → c < 5 → σ 9 c = N c := c4.1
  have c42 : ∀ i, 0 ≤ i → i < 20 → σ 10 i = N (5 + i) := c4.2.1
  have c43 : ∀ s, 0 ≤ s → s < 7 → σ 11 s = N (25 + s) := c4.2.2.1
  have c44 : σ 8 0 = N 32 := c4.2.2.2
  have c5 : zRo σ 13 3 59 N := hC.1.2.2.1
  have c6 : zRo σ 15 5 78 N := hC.1.2.2.2.1
  have c7 : zRo σ 17 4 109 N := hC.1.2.2.2.2
  have c8 : σ 2 2 = N 134 := hC.2.1
  have hb5 : ∀ c, 0 ≤ c → c < 5 → -1 ≤ N c ∧ N c < 1000 := fun c h0 h1 => by have := hv.1 c h0 h1; omega
  have h48 := gC
  have gW := hV.2.2.2.1
  have hvw : zVw N (zup N c s) c := ⟨by rw [zup_same]; exact hs0, fun i i0 i1 => by rw [zup_ne _ _ (by omega)]; exact hv.2.1 i i0 i1, fun i i0 i1 => by rw [zup_ne _ _ (by omega)]; exact hv.2.2.1 i i0 i1⟩
  have hvn := zan_Vw hs hvw (c := c) (by omega) n.toNat
  intro m
  induction m with
  | zero =>
    intro k hk σc g1 g2
    have e : k = (N 59).toNat := by omega
    have e14 : σc 13 = σ 13 := g2 13 (by omega)
    refine zw_iload 55 dX3_wishesCome_53 rfl rfl ?_
    refine zw_aload_n 56 dX3_wishesCome_55 rfl rfl ?_
    refine zw_getr 59 (13) (o := 11) dX3_wishesCome_56 rfl fX3_72 (by decide) rfl rfl ly2 ?_
    refine zw_gti 62 1 dX3_wishesCome_59 rfl fX3_76 (by decide) rfl rfl ly13 ?_
    rw [e14, c5.2.1]
    refine zw_icmp_ge 135 65 dX3_wishesCome_62 (by decide) rfl (by omega) (by omega) (fun h62 => ?_) (fun h62 => ?_)
    · refine zw_iload 137 dX3_wishesCome_135 rfl rfl ?_
      refine zw_iret dX3_wishesCome_137 rfl ?_
      exact ⟨by unfold zfu; rw [e], g2⟩
    · exfalso; omega
  | succ m ih =>
    intro k hk σc g1 g2
    have e13 : σc 13 = σ 13 := g2 13 (by omega)
    have e14 : σc 14 = σ 14 := g2 14 (by omega)
    have gb := gW.2 k (by omega) (by omega)
    have n0 : σc (13 + 1) (5 * (k : Int) + 0) = N (60 + 3 * k) := by
      rw [show σc (13 + 1) = σ (13 + 1) from e14, c5.2.2 k 0 (by omega) (by omega) (by omega) (by omega)]; congr 1 <;> omega
    have n1 : σc (13 + 1) (5 * (k : Int) + 1) = N (60 + 3 * k + 1) := by
      rw [show σc (13 + 1) = σ (13 + 1) from e14, c5.2.2 k 1 (by omega) (by omega) (by omega) (by omega)]; congr 1 <;> omega
    have n2 : σc (13 + 1) (5 * (k : Int) + 2) = N (60 + 3 * k + 2) := by
      rw [show σc (13 + 1) = σ (13 + 1) from e14, c5.2.2 k 2 (by omega) (by omega) (by omega) (by omega)]; congr 1 <;> omega
    have gt := hvn.tk2 (c := c) (k := N (60 + 3 * k + 1)) (by omega) (by omega)
    have ih2 := ih (k + 1) (by omega)
    rw [show (((k + 1 : Nat) : Int)) = (k : Int) + 1 by omega, show zct (zfj N c s n.toNat) (k + 1) = zct (zfj N c s n.toNat) k + zfj N c s n.toNat k from rfl] at ih2
    have ef : zfj N c s n.toNat k = if N (60 + 3 * (k : Int)) = c ∧ N (60 + 3 * (k : Int) + 2) ≤ zan N c n.toNat (zup N c s) (5 + 4 * c + N (60 + 3 * (k : Int) + 1)) then 1 else 0 := rfl
    refine zw_iload 55 dX3_wishesCome_53 rfl rfl ?_
    refine zw_aload_n 56 dX3_wishesCome_55 rfl rfl ?_
    refine zw_getr 59 (13) (o := 11) dX3_wishesCome_56 rfl fX3_72 (by decide) rfl rfl ly2 ?_
    refine zw_gti 62 1 dX3_wishesCome_59 rfl fX3_76 (by decide) rfl rfl ly13 ?_
    rw [e13, c5.2.1]
    refine zw_icmp_ge 135 65 dX3_wishesCome_62 (by decide) rfl (by omega) (by omega) (fun h62 => ?_) (fun h62 => ?_)
    · exfalso; omega
    · refine zw_aload_n 66 dX3_wishesCome_65 rfl rfl ?_
      refine zw_getr 69 (13) (o := 11) dX3_wishesCome_66 rfl fX3_72 (by decide) rfl rfl ly2 ?_
      refine zw_iload 71 dX3_wishesCome_69 rfl rfl ?_
      refine zw_iconst 72 dX3_wishesCome_71 rfl ?_
      refine zw_callV 75 _ _ dX3_wishesCome_72 rfl kX3_81 qX1_at ly13 ⟨_, rfl, rfl⟩ (by decide) (sp_X1_at (d := d - 1) ly13 (i := (k : Int)) (j := 0) (by omega) (by omega)) (by omega) rfl rfl (Nat.le_of_ble_eq_true rfl) (fun r σ' hq => ?_)
      obtain ⟨rfl, rfl⟩ := hq
      rw [n0]
      refine zw_iload_n 76 dX3_wishesCome_75 rfl rfl ?_
      refine zw_icmp_ne 83 79 dX3_wishesCome_76 (by decide) rfl (by omega) (by omega) (fun h76 => ?_) (fun h76 => ?_)
      · refine zw_iconst 84 dX3_wishesCome_83 rfl ?_
        refine zw_istore 86 dX3_wishesCome_84 rfl (by decide) ?_
        refine zw_iload 88 dX3_wishesCome_86 rfl rfl ?_
        refine zw_iload 90 dX3_wishesCome_88 rfl rfl ?_
        refine zw_if_eq 125 93 dX3_wishesCome_90 (by decide) rfl (by omega) (fun h90 => ?_) (fun h90 => ?_)
        · refine zw_iconst 126 dX3_wishesCome_125 rfl ?_
          refine zw_iadd 127 dX3_wishesCome_126 rfl ?_
          refine zw_istore 129 dX3_wishesCome_127 rfl (by decide) ?_
          refine zw_iinc 132 dX3_wishesCome_129 rfl (by decide) rfl ?_
          refine zw_goto 53 dX3_wishesCome_132 (by decide) ?_
          refine zw_loc [true, true, true, true, true, true, true, false] rfl ?_
          first
            | (rw [ef, if_pos (by omega)] at ih2; exact ih2 _ g1 g2)
            | (rw [ef, if_neg (by omega)] at ih2; exact ih2 _ g1 g2)
        · exact absurd h90 (by decide)
      · refine zw_iconst 80 dX3_wishesCome_79 rfl ?_
        refine zw_goto 84 dX3_wishesCome_80 (by decide) ?_
        refine zw_istore 86 dX3_wishesCome_84 rfl (by decide) ?_
        refine zw_iload 88 dX3_wishesCome_86 rfl rfl ?_
        refine zw_iload 90 dX3_wishesCome_88 rfl rfl ?_
        refine zw_if_eq 125 93 dX3_wishesCome_90 (by decide) rfl (by omega) (fun h90 => ?_) (fun h90 => ?_)
        · exact absurd h90 (by decide)
        · refine zw_aload_n 94 dX3_wishesCome_93 rfl rfl ?_
          refine zw_iload_n 95 dX3_wishesCome_94 rfl rfl ?_
          refine zw_aload_n 96 dX3_wishesCome_95 rfl rfl ?_
          refine zw_getr 99 (13) (o := 11) dX3_wishesCome_96 rfl fX3_72 (by decide) rfl rfl ly2 ?_
          refine zw_iload 101 dX3_wishesCome_99 rfl rfl ?_
          refine zw_iconst 102 dX3_wishesCome_101 rfl ?_
          refine zw_callV 105 _ _ dX3_wishesCome_102 rfl kX3_81 qX1_at ly13 ⟨_, rfl, rfl⟩ (by decide) (sp_X1_at (d := d - 1) ly13 (i := (k : Int)) (j := 1) (by omega) (by omega)) (by omega) rfl rfl (Nat.le_of_ble_eq_true rfl) (fun r σ' hq => ?_)
          obtain ⟨rfl, rfl⟩ := hq
          rw [n1]
          refine zw_callV 108 _ _ dX3_wishesCome_105 rfl kX3_84 qX2_takenOf ly102 ⟨_, rfl, rfl⟩ (by decide) (sp_X2_takenOf (d := d - 1) ly102 g1 (c := c) (x := N (60 + 3 * (k : Int) + 1)) (by omega) (by omega)) (by omega) rfl rfl (Nat.le_of_ble_eq_true rfl) (fun r σ' hq => ?_)
          obtain ⟨rfl, rfl⟩ := hq
          refine zw_aload_n 109 dX3_wishesCome_108 rfl rfl ?_
          refine zw_getr 112 (13) (o := 11) dX3_wishesCome_109 rfl fX3_72 (by decide) rfl rfl ly2 ?_
          refine zw_iload 114 dX3_wishesCome_112 rfl rfl ?_
          refine zw_iconst 115 dX3_wishesCome_114 rfl ?_
          refine zw_callV 118 _ _ dX3_wishesCome_115 rfl kX3_81 qX1_at ly13 ⟨_, rfl, rfl⟩ (by decide) (sp_X1_at (d := d - 1) ly13 (i := (k : Int)) (j := 2) (by omega) (by omega)) (by omega) rfl rfl (Nat.le_of_ble_eq_true rfl) (fun r σ' hq => ?_)
          obtain ⟨rfl, rfl⟩ := hq
          rw [n2]
          refine zw_icmp_lt 125 121 dX3_wishesCome_118 (by decide) rfl (by omega) (by omega) (fun h118 => ?_) (fun h118 => ?_)
          · refine zw_iconst 126 dX3_wishesCome_125 rfl ?_
            refine zw_iadd 127 dX3_wishesCome_126 rfl ?_
            refine zw_istore 129 dX3_wishesCome_127 rfl (by decide) ?_
            refine zw_iinc 132 dX3_wishesCome_129 rfl (by decide) rfl ?_
            refine zw_goto 53 dX3_wishesCome_132 (by decide) ?_
            refine zw_loc [true, true, true, true, true, true, true, false] rfl ?_
            first
              | (rw [ef, if_pos (by omega)] at ih2; exact ih2 _ g1 g2)
              | (rw [ef, if_neg (by omega)] at ih2; exact ih2 _ g1 g2)
          · refine zw_iconst 122 dX3_wishesCome_121 rfl ?_
            refine zw_goto 126 dX3_wishesCome_122 (by decide) ?_
            refine zw_iadd 127 dX3_wishesCome_126 rfl ?_
            refine zw_istore 129 dX3_wishesCome_127 rfl (by decide) ?_
            refine zw_iinc 132 dX3_wishesCome_129 rfl (by decide) rfl ?_
            refine zw_goto 53 dX3_wishesCome_132 (by decide) ?_
            refine zw_loc [true, true, true, true, true, true, true, false] rfl ?_
            first
              | (rw [ef, if_pos (by omega)] at ih2; exact ih2 _ g1 g2)
              | (rw [ef, if_neg (by omega)] at ih2; exact ih2 _ g1 g2)
theorem l1_X3_wishesCome {l : Launch} {d : Nat} {σ : zMem} {N : zR} (hC : zCh σ 2 N) (hV : zVN N) (hd : 5 ≤ d) {c s n : Int} (hc : 0 ≤ c ∧ c < N 48) (hs0 : -1 ≤ s ∧ s < N 33) (hn : 0 ≤ n ∧ n ≤ 12) {Q : Option Value → zMem → Prop} (kk : ∀ σq : zMem, zSc σq 102 (zan N c n.toNat (zup N c s)) → (∀ r, ¬ (102 ≤ r ∧ r ≤ 105) → σq r = σ r) → zw l d mX3_wishesCome 53 [some (.ref 2), some (.ref 102), some (.int (zI c)), some (.int (zI s)), some (.int (zI n)), some (.int (zI 0)), some (.int (zI 0)), none] [] σq Q) : ∀ (m k : Nat), (k : Int) + m = n → ∀ σc : zMem, zSc σc 102 (zan N c k (zup N c s)) → (∀ r, ¬ (102 ≤ r ∧ r ≤ 105) → σc r = σ r) → zw l d mX3_wishesCome 18 [some (.ref 2), some (.ref 102), some (.int (zI c)), some (.int (zI s)), some (.int (zI n)), some (.int (zI ((k : Int)))), none, none] [] σc Q := by
  have hs := hV.1
  have hv := hV.2.1
  have hy := hV.2.2.1
  have hB := zVN_bd hV
  have gN := hs.1
  have gC := hs.2.1
  have c0 : σ 2 0 = N 33 := hC.1.1.1
  have c1 : σ 2 1 = N 48 := hC.1.1.2.1
  have c2 : ∀ s, 0 ≤ s → s < N 33 → σ 3 s = N (34 + s) ∧ σ 4 s = N (41 + s) := hC.1.1.2.2.1
  have c3 : ∀ c, 0 ≤ c → c < N 48 → σ 5 c = N (49 + c) ∧ σ 6 c = N (54 + c) ∧ σ 7 c = zhv (N (49 + c)) (N (54 + c)) := hC.1.1.2.2.2
  have c4 : zSc σ 8 N := hC.1.2.1
  have c41 : ∀ c, 0 ≤ c → c < 5 → σ 9 c = N c := c4.1
  have c42 : ∀ i, 0 ≤ i → i < 20 → σ 10 i = N (5 + i) := c4.2.1
  have c43 : ∀ s, 0 ≤ s → s < 7 → σ 11 s = N (25 + s) := c4.2.2.1
  have c44 : σ 8 0 = N 32 := c4.2.2.2
  have c5 : zRo σ 13 3 59 N := hC.1.2.2.1
  have c6 : zRo σ 15 5 78 N := hC.1.2.2.2.1
  have c7 : zRo σ 17 4 109 N := hC.1.2.2.2.2
  have c8 : σ 2 2 = N 134 := hC.2.1
  have hb5 : ∀ c, 0 ≤ c → c < 5 → -1 ≤ N c ∧ N c < 1000 := fun c h0 h1 => by have := hv.1 c h0 h1; omega
  have h48 := gC
  have gW := hV.2.2.2.1
  have hvw : zVw N (zup N c s) c := ⟨by rw [zup_same]; exact hs0, fun i i0 i1 => by rw [zup_ne _ _ (by omega)]; exact hv.2.1 i i0 i1, fun i i0 i1 => by rw [zup_ne _ _ (by omega)]; exact hv.2.2.1 i i0 i1⟩
  intro m
  induction m with
  | zero =>
    intro k hk σc g1 g2
    obtain rfl : n = (k : Int) := by omega
    rw [Int.toNat_natCast] at kk
    refine zw_iload 20 dX3_wishesCome_18 rfl rfl ?_
    refine zw_iload 22 dX3_wishesCome_20 rfl rfl ?_
    refine zw_icmp_ge 47 25 dX3_wishesCome_22 (by decide) rfl (by omega) (by omega) (fun h22 => ?_) (fun h22 => ?_)
    · refine zw_iconst 48 dX3_wishesCome_47 rfl ?_
      refine zw_istore 50 dX3_wishesCome_48 rfl (by decide) ?_
      refine zw_iconst 51 dX3_wishesCome_50 rfl ?_
      refine zw_istore 53 dX3_wishesCome_51 rfl (by decide) ?_
      refine zw_loc [true, true, true, true, true, true, true, false] rfl ?_
      exact kk _ g1 g2
    · exfalso; omega
  | succ m ih =>
    intro k hk σc g1 g2
    have hvk := zan_Vw hs hvw (c := c) (by omega) k
    have h32 := zan_32 hs hvw (c := c) (by omega) k
    rw [zup_ne _ _ (by omega)] at h32
    have ih2 := ih (k + 1) (by omega)
    rw [show (((k + 1 : Nat) : Int)) = (k : Int) + 1 by omega] at ih2
    refine zw_iload 20 dX3_wishesCome_18 rfl rfl ?_
    refine zw_iload 22 dX3_wishesCome_20 rfl rfl ?_
    refine zw_icmp_ge 47 25 dX3_wishesCome_22 (by decide) rfl (by omega) (by omega) (fun h22 => ?_) (fun h22 => ?_)
    · exfalso; omega
    · refine zw_aload_n 26 dX3_wishesCome_25 rfl rfl ?_
      refine zw_aload_n 27 dX3_wishesCome_26 rfl rfl ?_
      refine zw_iload_n 28 dX3_wishesCome_27 rfl rfl ?_
      refine zw_callV 31 _ _ dX3_wishesCome_28 rfl kX3_65 qX0_passFor ly2 ⟨_, rfl, rfl⟩ (by decide) (sp_X0_passFor (d := d - 1) (by omega) ly2 ly102 (zCs_fr (fun b b0 b1 => g2 b (by omega)) hC.1.1) g1 hs hvk (by omega) hc (by omega)) (by omega) rfl rfl (Nat.le_of_ble_eq_true rfl) (fun r σ' hq => ?_)
      obtain ⟨rfl, q1, q2⟩ := hq
      refine zw_aload_n 32 dX3_wishesCome_31 rfl rfl ?_
      refine zw_dup 33 dX3_wishesCome_32 rfl rfl ?_
      refine zw_gti 36 0 dX3_wishesCome_33 rfl fX3_69 (by decide) rfl rfl ly102 ?_
      rw [q1.2.2.2]
      refine zw_iconst 37 dX3_wishesCome_36 rfl ?_
      refine zw_iadd 38 dX3_wishesCome_37 rfl ?_
      refine zw_pti 41 0 dX3_wishesCome_38 rfl pX3_69 (by decide) rfl rfl ly102 ?_
      refine zw_iinc 44 dX3_wishesCome_41 rfl (by decide) rfl ?_
      refine zw_goto 18 dX3_wishesCome_44 (by decide) ?_
      refine zw_loc [true, true, true, true, true, true, false, false] rfl ?_
      refine ih2 _ ?_ (fun r hr => (zwr_ne _ _ _ (by omega)).trans ((q2 r (by omega)).trans (g2 r hr)))
      show zSc _ 102 (za1 N c (zan N c k (zup N c s)))
      obtain ⟨s1, s2, s3, s4⟩ := q1
      unfold za1
      refine ⟨fun x x0 x1 => ?_, fun x x0 x1 => ?_, fun x x0 x1 => ?_, ?_⟩
      · rw [zwr_ne _ _ _ (by decide), zup_ne _ _ (by omega)]; exact s1 x x0 x1
      · rw [zwr_ne _ _ _ (by decide), zup_ne _ _ (by omega)]; exact s2 x x0 x1
      · rw [zwr_ne _ _ _ (by decide), zup_ne _ _ (by omega)]; exact s3 x x0 x1
      · rw [zwr_same, zup_same]
theorem sp_X3_wishesCome {l : Launch} {d : Nat} {σ : zMem} {N : zR} (hC : zCh σ 2 N) (hV : zVN N) (hd : 5 ≤ d) {c s n : Int} (hc : 0 ≤ c ∧ c < N 48) (hs0 : -1 ≤ s ∧ s < N 33) (hn : 0 ≤ n ∧ n ≤ 12)  : zSp l d mX3_wishesCome [.ref 2, .ref 102, .int (zI c), .int (zI s), .int (zI n)] σ (fun v σ1 => v = some (.int (zI (zfu N n.toNat c s))) ∧ ∀ r, ¬ (102 ≤ r ∧ r ≤ 105) → σ1 r = σ r) := by
  refine zSp_of oX3_wishesCome (Nat.le_of_ble_eq_true rfl) ?_
  show zw l d mX3_wishesCome 0 [some (.ref 2), some (.ref 102), some (.int (zI c)), some (.int (zI s)), some (.int (zI n)), none, none, none] [] σ _
  have hs := hV.1
  have hv := hV.2.1
  have hy := hV.2.2.1
  have hB := zVN_bd hV
  have gN := hs.1
  have gC := hs.2.1
  have c0 : σ 2 0 = N 33 := hC.1.1.1
  have c1 : σ 2 1 = N 48 := hC.1.1.2.1
  have c2 : ∀ s, 0 ≤ s → s < N 33 → σ 3 s = N (34 + s) ∧ σ 4 s = N (41 + s) := hC.1.1.2.2.1
  have c3 : ∀ c, 0 ≤ c → c < N 48 → σ 5 c = N (49 + c) ∧ σ 6 c = N (54 + c) ∧ σ 7 c = zhv (N (49 + c)) (N (54 + c)) := hC.1.1.2.2.2
  have c4 : zSc σ 8 N := hC.1.2.1
  have c41 : ∀ c, 0 ≤ c → c < 5 → σ 9 c = N c := c4.1
  have c42 : ∀ i, 0 ≤ i → i < 20 → σ 10 i = N (5 + i) := c4.2.1
  have c43 : ∀ s, 0 ≤ s → s < 7 → σ 11 s = N (25 + s) := c4.2.2.1
  have c44 : σ 8 0 = N 32 := c4.2.2.2
  have c5 : zRo σ 13 3 59 N := hC.1.2.2.1
  have c6 : zRo σ 15 5 78 N := hC.1.2.2.2.1
  have c7 : zRo σ 17 4 109 N := hC.1.2.2.2.2
  have c8 : σ 2 2 = N 134 := hC.2.1
  have hb5 : ∀ c, 0 ≤ c → c < 5 → -1 ≤ N c ∧ N c < 1000 := fun c h0 h1 => by have := hv.1 c h0 h1; omega
  refine zw_aload_n 1 dX3_wishesCome_0 rfl rfl ?_
  refine zw_aload_n 2 dX3_wishesCome_1 rfl rfl ?_
  refine zw_getr 5 (8) (o := 6) dX3_wishesCome_2 rfl fX3_52 (by decide) rfl rfl ly2 ?_
  refine zw_callV 8 _ _ dX3_wishesCome_5 rfl kX3_56 qX2_become ly102 ⟨_, rfl, rfl⟩ (by decide) (sp_X2_become (d := d - 1) (by omega) ly102 ly8 (by omega) c4) (by omega) rfl rfl (Nat.le_of_ble_eq_true rfl) (fun r σ' hq => ?_)
  obtain ⟨rfl, q1, q2⟩ := hq
  refine zw_aload_n 9 dX3_wishesCome_8 rfl rfl ?_
  refine zw_getr 12 (103) (o := 1) dX3_wishesCome_9 rfl fX3_62 (by decide) rfl rfl ly102 ?_
  refine zw_iload_n 13 dX3_wishesCome_12 rfl rfl ?_
  refine zw_iload_n 14 dX3_wishesCome_13 rfl rfl ?_
  refine zw_iast 15 dX3_wishesCome_14 rfl ly103 (by omega) ?_
  refine zw_iconst 16 dX3_wishesCome_15 rfl ?_
  refine zw_istore 18 dX3_wishesCome_16 rfl (by decide) ?_
  refine l1_X3_wishesCome hC hV hd hc hs0 hn (fun σq h1 h2 => l2_X3_wishesCome hC hV hd hc hs0 hn (N 59).toNat 0 (by omega) σq h1 h2) n.toNat 0 (by omega) _ ?_ (fun r hr => (zwr_ne _ _ _ (by omega)).trans (q2 r (by omega)))
  show zSc _ 102 (zup N c s)
  obtain ⟨s1, s2, s3, s4⟩ := q1
  refine ⟨fun x x0 x1 => ?_, fun x x0 x1 => ?_, fun x x0 x1 => ?_, ?_⟩
  · unfold zwr
    rw [zwa_same]; unfold zup
    by_cases q : x = c
    · rw [if_pos q, if_pos q]
    · rw [if_neg q, if_neg q]; exact s1 x x0 x1
  · rw [zwr_ne _ _ _ (by decide), zup_ne _ _ (by omega)]; exact s2 x x0 x1
  · rw [zwr_ne _ _ _ (by decide), zup_ne _ _ (by omega)]; exact s3 x x0 x1
  · rw [zwr_ne _ _ _ (by decide), zup_ne _ _ (by omega)]; exact s4
/-- the table of the search: seats, canons, what each brings, what is to be hoped for -/
def zTB (σ : zMem) (N : zR) (n S C : Nat) : Prop := σ 109 0 = (S : Int) ∧ σ 109 1 = (C : Int) ∧ (∀ c k : Nat, c < C → k ≤ S → σ 112 (8 * (c : Int) + k) = zfu N n c ((k : Int) - 1)) ∧ ∀ r : Nat, r ≤ C → σ 113 ((C : Int) - r) = zhp N n S C r
/-- the best so far -/
def zTS (σ : zMem) (C : Nat) (a : Int × List Nat) : Prop := σ 109 2 = a.1 ∧ (a.1 ≠ -1 → zrl C a.2 (σ 110)) ∧ -1 ≤ a.1 ∧ a.1 ≤ 36
def zTR (σ σ1 : zMem) (c : Nat) : Prop := (∀ b, b ≠ 109 → b ≠ 110 → b ≠ 111 → σ1 b = σ b) ∧ σ1 109 0 = σ 109 0 ∧ σ1 109 1 = σ 109 1 ∧ ∀ k, 0 ≤ k → k < (c : Int) → σ1 111 k = σ 111 k
theorem zTR_refl (σ : zMem) (c : Nat) : zTR σ σ c := ⟨fun _ _ _ _ => rfl, rfl, rfl, fun _ _ _ => rfl⟩
theorem zTR.trans {σ σ1 σ2 : zMem} {c c' : Nat} (h : zTR σ σ1 c) (h' : zTR σ1 σ2 c') (hc : c ≤ c') : zTR σ σ2 c := ⟨fun b a1 a2 a3 => (h'.1 b a1 a2 a3).trans (h.1 b a1 a2 a3), h'.2.1.trans h.2.1, h'.2.2.1.trans h.2.2.1, fun k k0 k1 => (h'.2.2.2 k k0 (by omega)).trans (h.2.2.2 k k0 k1)⟩
theorem zTB_mv {σ σ1 : zMem} {N : zR} {n S C c : Nat} (h : zTB σ N n S C) (hr : zTR σ σ1 c) : zTB σ1 N n S C := by
  unfold zTB
  rw [hr.2.1, hr.2.2.1, hr.1 112 (by decide) (by decide) (by decide), hr.1 113 (by decide) (by decide) (by decide)]
  exact h
theorem t79_X3_tryFrom {l : Launch} {d : Nat} (hd : 1 ≤ d) {N : zR} {n S C : Nat} (hN : 0 ≤ N 59 ∧ N 59 ≤ 6) (hS : S ≤ 7) (hC5 : C ≤ 5) {r : Nat} {σ : zMem} {pre : List Nat} {u : Nat} {a : Int × List Nat} (hl : pre.length + (r + 1) = C) (hpS : ∀ v, v ∈ pre → v ≤ S) (hb : zbb u pre) (hT : zTB σ N n S C) (hw : zrl pre.length pre (σ 111)) (ih : ∀ (σ0 : zMem) (pre0 : List Nat) (u0 : Nat) (a0 : Int × List Nat), pre0.length + r = C → (∀ v, v ∈ pre0 → v ≤ S) → zbb u0 pre0 → zTB σ0 N n S C → zTS σ0 C a0 → zrl pre0.length pre0 (σ0 111) → zSp l (d - 1) mX3_tryFrom [.ref 109, .int (zI (pre0.length : Int)), .int (zI (u0 : Int)), .int (zI (zpt N n pre0))] σ0 (fun v σ1 => v = none ∧ zTR σ0 σ1 pre0.length ∧ zTS σ1 C (zbest (zpt N n) (zdf S r pre0) a0))) {v : Nat} (hv : v ≤ S) {B : Int} {u2 : Nat} (hor : zI (u : Int) ||| zI B = zI (u2 : Int)) (hb2 : zbb u2 (v :: pre)) {σc : zMem} (hR : zTR σ σc pre.length) {a2 : Int × List Nat} (hA : zTS σc C a2) {Q : Option Value → zMem → Prop} (kk : ∀ σq, zTR σ σq pre.length → zTS σq C (zbest (zpt N n) (zdf S r (v :: pre)) a2) → zw l d mX3_tryFrom 114 [some (.ref 109), some (.int (zI ((pre.length : Int)))), some (.int (zI ((u : Int)))), some (.int (zI ((zpt N n pre)))), some (.int (zI ((v : Int) - 1))), none] [] σq Q) : zw l d mX3_tryFrom 79 [some (.ref 109), some (.int (zI ((pre.length : Int)))), some (.int (zI ((u : Int)))), some (.int (zI ((zpt N n pre)))), some (.int (zI ((v : Int) - 1))), some (.int (zI B))] [] σc Q := by
  have hTc := zTB_mv hT hR
  have hgain : σc 112 ((pre.length : Int) * 8 + ((v : Int) - 1) + 1) = zfu N n (pre.length : Int) ((v : Int) - 1) := by
    rw [← hTc.2.2.1 pre.length v (by omega) hv]; congr 1; omega
  have hw2 : zrl (v :: pre).length (v :: pre) (zwr σc 111 (pre.length : Int) ((v : Int) - 1) 111) := by
    rw [List.length_cons]
    refine zrl_cons hw (zwr_same _ _ _ _) (fun k k0 k1 => ?_) (by omega)
    rw [zwr_ni _ _ _ (by omega)]; exact hR.2.2.2 k k0 k1
  have hTw : zTB (zwr σc 111 (pre.length : Int) ((v : Int) - 1)) N n S C := by
    unfold zTB
    rw [zwr_ne _ _ _ (by decide), zwr_ne _ _ _ (by decide), zwr_ne _ _ _ (by decide)]; exact hTc
  have hAw : zTS (zwr σc 111 (pre.length : Int) ((v : Int) - 1)) C a2 := by
    unfold zTS
    rw [zwr_ne _ _ _ (by decide), zwr_ne _ _ _ (by decide)]; exact hA
  have hsp := ih _ (v :: pre) u2 a2 (by rw [List.length_cons]; omega) (fun x hx => by
    rcases List.mem_cons.mp hx with q | q
    · rw [q]; exact hv
    · exact hpS x q) hb2 hTw hAw hw2
  rw [show (((v :: pre).length : Nat) : Int) = (pre.length : Int) + 1 by rw [List.length_cons]; omega, show zpt N n (v :: pre) = zpt N n pre + zfu N n (pre.length : Int) ((v : Int) - 1) from rfl] at hsp
  refine zw_aload_n 80 dX3_tryFrom_79 rfl rfl ?_
  refine zw_getr 83 (111) (o := 2) dX3_tryFrom_80 rfl fX3_15 (by decide) rfl rfl ly109 ?_
  refine zw_iload_n 84 dX3_tryFrom_83 rfl rfl ?_
  refine zw_iload 86 dX3_tryFrom_84 rfl rfl ?_
  refine zw_iast 87 dX3_tryFrom_86 rfl ly111 (by omega) ?_
  refine zw_aload_n 88 dX3_tryFrom_87 rfl rfl ?_
  refine zw_iload_n 89 dX3_tryFrom_88 rfl rfl ?_
  refine zw_iconst 90 dX3_tryFrom_89 rfl ?_
  refine zw_iadd 91 dX3_tryFrom_90 rfl ?_
  refine zw_iload_n 92 dX3_tryFrom_91 rfl rfl ?_
  refine zw_iload 94 dX3_tryFrom_92 rfl rfl ?_
  refine zw_ior 95 _ dX3_tryFrom_94 rfl hor ?_
  refine zw_iload_n 96 dX3_tryFrom_95 rfl rfl ?_
  refine zw_aload_n 97 dX3_tryFrom_96 rfl rfl ?_
  refine zw_getr 100 (112) (o := 3) dX3_tryFrom_97 rfl fX3_18 (by decide) rfl rfl ly109 ?_
  refine zw_iload_n 101 dX3_tryFrom_100 rfl rfl ?_
  refine zw_bipush 103 dX3_tryFrom_101 rfl (by decide) ?_
  refine zw_imul 104 dX3_tryFrom_103 rfl ?_
  refine zw_iload 106 dX3_tryFrom_104 rfl rfl ?_
  refine zw_iadd 107 dX3_tryFrom_106 rfl ?_
  refine zw_iconst 108 dX3_tryFrom_107 rfl ?_
  refine zw_iadd 109 dX3_tryFrom_108 rfl ?_
  refine zw_iald 110 dX3_tryFrom_109 rfl ly112 (by omega) ?_
  rw [zwr_ne _ _ _ (by decide), hgain]
  refine zw_iadd 111 dX3_tryFrom_110 rfl ?_
  refine zw_callS 114 _ _ dX3_tryFrom_111 rfl kX3_48 qX3_tryFrom (hsp) (by omega) rfl rfl (Nat.le_of_ble_eq_true rfl) (fun r σ' hq => ?_)
  obtain ⟨rfl, q1, q2⟩ := hq
  refine zw_loc [true, true, true, true, true, false] rfl ?_
  refine kk _ ⟨fun b b1 b2 b3 => ?_, ?_, ?_, fun k k0 k1 => ?_⟩ q2
  · rw [q1.1 b b1 b2 b3, zwr_ne _ _ _ b3]; exact hR.1 b b1 b2 b3
  · rw [q1.2.1, zwr_ne _ _ _ (by decide)]; exact hR.2.1
  · rw [q1.2.2.1, zwr_ne _ _ _ (by decide)]; exact hR.2.2.1
  · rw [q1.2.2.2 k k0 (by rw [List.length_cons]; omega), zwr_ni _ _ _ (by omega)]; exact hR.2.2.2 k k0 k1
theorem lp_X3_tryFrom {l : Launch} {d : Nat} (hd : 1 ≤ d) {N : zR} {n S C : Nat} (hN : 0 ≤ N 59 ∧ N 59 ≤ 6) (hS : S ≤ 7) (hC5 : C ≤ 5) {r : Nat} {σ : zMem} {pre : List Nat} {u : Nat} {a : Int × List Nat} (hl : pre.length + (r + 1) = C) (hpS : ∀ v, v ∈ pre → v ≤ S) (hb : zbb u pre) (hT : zTB σ N n S C) (hw : zrl pre.length pre (σ 111)) (ih : ∀ (σ0 : zMem) (pre0 : List Nat) (u0 : Nat) (a0 : Int × List Nat), pre0.length + r = C → (∀ v, v ∈ pre0 → v ≤ S) → zbb u0 pre0 → zTB σ0 N n S C → zTS σ0 C a0 → zrl pre0.length pre0 (σ0 111) → zSp l (d - 1) mX3_tryFrom [.ref 109, .int (zI (pre0.length : Int)), .int (zI (u0 : Int)), .int (zI (zpt N n pre0))] σ0 (fun v σ1 => v = none ∧ zTR σ0 σ1 pre0.length ∧ zTS σ1 C (zbest (zpt N n) (zdf S r pre0) a0))) : ∀ (mm v : Nat), v + mm = S + 1 → ∀ σc : zMem, zTR σ σc pre.length → zTS σc C (zbest (zpt N n) ((List.range v).flatMap (zbk S r pre)) a) → zw l d mX3_tryFrom 47 [some (.ref 109), some (.int (zI ((pre.length : Int)))), some (.int (zI ((u : Int)))), some (.int (zI ((zpt N n pre)))), some (.int (zI ((v : Int) - 1))), none] [] σc (fun v σ1 => v = none ∧ zTR σ σ1 pre.length ∧ zTS σ1 C (zbest (zpt N n) (zdf S (r + 1) pre) a)) := by
  intro mm
  induction mm with
  | zero =>
    intro v hv σc hR hA
    obtain rfl : v = S + 1 := by omega
    have e0 := (zTB_mv hT hR).1
    refine zw_iload 49 dX3_tryFrom_47 rfl rfl ?_
    refine zw_aload_n 50 dX3_tryFrom_49 rfl rfl ?_
    refine zw_gti 53 0 dX3_tryFrom_50 rfl fX3_30 (by decide) rfl rfl ly109 ?_
    rw [e0]
    refine zw_icmp_ge 120 56 dX3_tryFrom_53 (by decide) rfl (by omega) (by omega) (fun h53 => ?_) (fun h53 => ?_)
    · refine zw_vret dX3_tryFrom_120 rfl ?_
      exact ⟨rfl, hR, hA⟩
    · exfalso; omega
  | succ mm ihm =>
    intro v hv σc hR hA
    have e0 := (zTB_mv hT hR).1
    have k114 : ∀ σq, zTR σ σq pre.length → zTS σq C (zbest (zpt N n) ((List.range (v + 1)).flatMap (zbk S r pre)) a) → zw l d mX3_tryFrom 114 [some (.ref 109), some (.int (zI ((pre.length : Int)))), some (.int (zI ((u : Int)))), some (.int (zI ((zpt N n pre)))), some (.int (zI ((v : Int) - 1))), none] [] σq (fun v σ1 => v = none ∧ zTR σ σ1 pre.length ∧ zTS σ1 C (zbest (zpt N n) (zdf S (r + 1) pre) a)) := by
      intro σq h1 h2
      have ih2 := ihm (v + 1) (by omega) σq h1 h2
      rw [show (((v + 1 : Nat) : Int)) - 1 = (v : Int) - 1 + 1 by omega] at ih2
      refine zw_iinc 117 dX3_tryFrom_114 rfl (by decide) rfl ?_
      refine zw_goto 47 dX3_tryFrom_117 (by decide) ?_
      refine zw_loc [true, true, true, true, true, false] rfl ?_
      exact ih2
    by_cases hv0 : v = 0
    · subst hv0
      have z0 := zu0_ok u hb.1
      have hk : zbk S r pre 0 = zdf S r (0 :: pre) := if_pos (Or.inl rfl)
      have ks : ∀ σq, zTR σ σq pre.length → zTS σq C (zbest (zpt N n) (zdf S r (0 :: pre)) (zbest (zpt N n) ((List.range 0).flatMap (zbk S r pre)) a)) → zw l d mX3_tryFrom 114 [some (.ref 109), some (.int (zI ((pre.length : Int)))), some (.int (zI ((u : Int)))), some (.int (zI ((zpt N n pre)))), some (.int (zI (((0 : Nat) : Int) - 1))), none] [] σq (fun v σ1 => v = none ∧ zTR σ σ1 pre.length ∧ zTS σ1 C (zbest (zpt N n) (zdf S (r + 1) pre) a)) := fun σq h1 h2 => k114 σq h1 (by rw [zbk_s, zbest_app, hk]; exact h2)
      refine zw_iload 49 dX3_tryFrom_47 rfl rfl ?_
      refine zw_aload_n 50 dX3_tryFrom_49 rfl rfl ?_
      refine zw_gti 53 0 dX3_tryFrom_50 rfl fX3_30 (by decide) rfl rfl ly109 ?_
      rw [e0]
      refine zw_icmp_ge 120 56 dX3_tryFrom_53 (by decide) rfl (by omega) (by omega) (fun hz53 => ?_) (fun hz53 => ?_)
      · exfalso; omega
      · refine zw_iload 58 dX3_tryFrom_56 rfl rfl ?_
        refine zw_iconst 59 dX3_tryFrom_58 rfl ?_
        refine zw_icmp_ne 66 62 dX3_tryFrom_59 (by decide) rfl (by omega) (by omega) (fun hz59 => ?_) (fun hz59 => ?_)
        · exfalso; omega
        · refine zw_iconst 63 dX3_tryFrom_62 rfl ?_
          refine zw_goto 70 dX3_tryFrom_63 (by decide) ?_
          refine zw_istore 72 dX3_tryFrom_70 rfl (by decide) ?_
          refine zw_iload_n 73 dX3_tryFrom_72 rfl rfl ?_
          refine zw_iload 75 dX3_tryFrom_73 rfl rfl ?_
          refine zw_iand 76 0 dX3_tryFrom_75 rfl z0.1 ?_
          refine zw_if_ne 114 79 dX3_tryFrom_76 (by decide) rfl (by omega) (fun hz76 => ?_) (fun hz76 => ?_)
          · exfalso; omega
          · exact t79_X3_tryFrom (a := a) hd hN hS hC5 hl hpS hb hT hw ih (v := 0) (by omega) (B := 0) (u2 := u) z0.2 (zbb_0 hb) hR hA ks
    · obtain ⟨s, rfl⟩ : ∃ s, v = s + 1 := ⟨v - 1, by omega⟩
      have es : (((s + 1 : Nat)) : Int) - 1 = (s : Int) := by omega
      have zs := zsh1_ok s (by omega)
      have za := zua_ok u hb.1 s (by omega)
      have h2s : ((2 ^ s : Nat) : Int) ≤ 64 ∧ 1 ≤ ((2 ^ s : Nat) : Int) := by
        have key : ∀ n : Nat, n < 7 → ((2 ^ n : Nat) : Int) ≤ 64 ∧ 1 ≤ ((2 ^ n : Nat) : Int) := by decide
        exact key s (by omega)
      have hpm := hb.2 s (by omega)
      have hcm : pre.contains (s + 1) = true ↔ (s + 1) ∈ pre := List.contains_iff_mem
      rw [es] at k114 ⊢
      by_cases hm : u / 2 ^ s % 2 = 1
      · have hk : zbk S r pre (s + 1) = [] := by
          unfold zbk
          rw [if_neg]
          intro z
          rcases z with z | z
          · omega
          · rw [hcm.mpr (hpm.mp hm)] at z; cases z
        rw [if_pos hm] at za
        have k2 := k114 σc hR (by rw [zbk_s, zbest_app, hk]; exact hA)
        refine zw_iload 49 dX3_tryFrom_47 rfl rfl ?_
        refine zw_aload_n 50 dX3_tryFrom_49 rfl rfl ?_
        refine zw_gti 53 0 dX3_tryFrom_50 rfl fX3_30 (by decide) rfl rfl ly109 ?_
        rw [e0]
        refine zw_icmp_ge 120 56 dX3_tryFrom_53 (by decide) rfl (by omega) (by omega) (fun hz53 => ?_) (fun hz53 => ?_)
        · exfalso; omega
        · refine zw_iload 58 dX3_tryFrom_56 rfl rfl ?_
          refine zw_iconst 59 dX3_tryFrom_58 rfl ?_
          refine zw_icmp_ne 66 62 dX3_tryFrom_59 (by decide) rfl (by omega) (by omega) (fun hz59 => ?_) (fun hz59 => ?_)
          · refine zw_iconst 67 dX3_tryFrom_66 rfl ?_
            refine zw_iload 69 dX3_tryFrom_67 rfl rfl ?_
            refine zw_ishl 70 _ dX3_tryFrom_69 rfl zs ?_
            refine zw_istore 72 dX3_tryFrom_70 rfl (by decide) ?_
            refine zw_iload_n 73 dX3_tryFrom_72 rfl rfl ?_
            refine zw_iload 75 dX3_tryFrom_73 rfl rfl ?_
            refine zw_iand 76 _ dX3_tryFrom_75 rfl za ?_
            refine zw_if_ne 114 79 dX3_tryFrom_76 (by decide) rfl (by omega) (fun hz76 => ?_) (fun hz76 => ?_)
            · refine zw_loc [true, true, true, true, true, false] rfl ?_
              exact k2
            · exfalso; omega
          · exfalso; omega
      · have hm0 : u / 2 ^ s % 2 = 0 := by omega
        have hk : zbk S r pre (s + 1) = zdf S r ((s + 1) :: pre) := by
          unfold zbk
          rw [if_pos]
          refine Or.inr ?_
          cases hcc : pre.contains (s + 1) with
          | false => rfl
          | true => exact absurd (hpm.mpr (hcm.mp hcc)) hm
        rw [if_neg hm] at za
        have zo := zuo_ok u hb.1 s (by omega) hm0
        have ks : ∀ σq, zTR σ σq pre.length → zTS σq C (zbest (zpt N n) (zdf S r ((s + 1) :: pre)) (zbest (zpt N n) ((List.range (s + 1)).flatMap (zbk S r pre)) a)) → zw l d mX3_tryFrom 114 [some (.ref 109), some (.int (zI ((pre.length : Int)))), some (.int (zI ((u : Int)))), some (.int (zI ((zpt N n pre)))), some (.int (zI (((s + 1 : Nat) : Int) - 1))), none] [] σq (fun v σ1 => v = none ∧ zTR σ σ1 pre.length ∧ zTS σ1 C (zbest (zpt N n) (zdf S (r + 1) pre) a)) := fun σq h1 h2 => by
          have := k114 σq h1 (by rw [zbk_s, zbest_app, hk]; exact h2)
          rw [es]; exact this
        have kt := t79_X3_tryFrom (a := a) (l := l) hd hN hS hC5 hl hpS hb hT hw ih (v := s + 1) (by omega) (B := ((2 ^ s : Nat) : Int)) (u2 := u + 2 ^ s) zo.1 (zbb_add hb (by omega) hm0) hR hA ks
        rw [es] at kt
        refine zw_iload 49 dX3_tryFrom_47 rfl rfl ?_
        refine zw_aload_n 50 dX3_tryFrom_49 rfl rfl ?_
        refine zw_gti 53 0 dX3_tryFrom_50 rfl fX3_30 (by decide) rfl rfl ly109 ?_
        rw [e0]
        refine zw_icmp_ge 120 56 dX3_tryFrom_53 (by decide) rfl (by omega) (by omega) (fun hz53 => ?_) (fun hz53 => ?_)
        · exfalso; omega
        · refine zw_iload 58 dX3_tryFrom_56 rfl rfl ?_
          refine zw_iconst 59 dX3_tryFrom_58 rfl ?_
          refine zw_icmp_ne 66 62 dX3_tryFrom_59 (by decide) rfl (by omega) (by omega) (fun hz59 => ?_) (fun hz59 => ?_)
          · refine zw_iconst 67 dX3_tryFrom_66 rfl ?_
            refine zw_iload 69 dX3_tryFrom_67 rfl rfl ?_
            refine zw_ishl 70 _ dX3_tryFrom_69 rfl zs ?_
            refine zw_istore 72 dX3_tryFrom_70 rfl (by decide) ?_
            refine zw_iload_n 73 dX3_tryFrom_72 rfl rfl ?_
            refine zw_iload 75 dX3_tryFrom_73 rfl rfl ?_
            refine zw_iand 76 _ dX3_tryFrom_75 rfl za ?_
            refine zw_if_ne 114 79 dX3_tryFrom_76 (by decide) rfl (by omega) (fun hz76 => ?_) (fun hz76 => ?_)
            · exfalso; omega
            · exact kt
          · exfalso; omega
theorem sp_X3_tryFrom {l : Launch} {N : zR} {n S C : Nat} (hN : 0 ≤ N 59 ∧ N 59 ≤ 6) (hS : S ≤ 7) (hC5 : C ≤ 5) : ∀ (r : Nat) {d : Nat} (hd : r + 2 ≤ d) (σ : zMem) (pre : List Nat) (u : Nat) (a : Int × List Nat), pre.length + r = C → (∀ v, v ∈ pre → v ≤ S) → zbb u pre → zTB σ N n S C → zTS σ C a → zrl pre.length pre (σ 111) → zSp l d mX3_tryFrom [.ref 109, .int (zI (pre.length : Int)), .int (zI (u : Int)), .int (zI (zpt N n pre))] σ (fun v σ1 => v = none ∧ zTR σ σ1 pre.length ∧ zTS σ1 C (zbest (zpt N n) (zdf S r pre) a)) := by
  intro r
  induction r with
  | zero =>
    intro d hd σ pre u a hl hpS hb hT hA hw
    have hpb := zpt_b hN n pre
    have hh := hT.2.2.2 0 (by omega)
    rw [show (C : Int) - ((0 : Nat) : Int) = (pre.length : Int) by omega, show zhp N n S C 0 = 0 from rfl] at hh
    have hle := hA.2.2
    refine zSp_of oX3_tryFrom (Nat.le_of_ble_eq_true rfl) ?_
    show zw l d mX3_tryFrom 0 [some (.ref 109), some (.int (zI ((pre.length : Int)))), some (.int (zI ((u : Int)))), some (.int (zI ((zpt N n pre)))), none, none] [] σ _
    refine zw_iload_n 1 dX3_tryFrom_0 rfl rfl ?_
    refine zw_aload_n 2 dX3_tryFrom_1 rfl rfl ?_
    refine zw_getr 5 (113) (o := 4) dX3_tryFrom_2 rfl fX3_21 (by decide) rfl rfl ly109 ?_
    refine zw_iload_n 6 dX3_tryFrom_5 rfl rfl ?_
    refine zw_iald 7 dX3_tryFrom_6 rfl ly113 (by omega) ?_
    rw [hh]
    refine zw_iadd 8 dX3_tryFrom_7 rfl ?_
    refine zw_aload_n 9 dX3_tryFrom_8 rfl rfl ?_
    refine zw_gti 12 2 dX3_tryFrom_9 rfl fX3_45 (by decide) rfl rfl ly109 ?_
    rw [hA.1]
    refine zw_icmp_gt 16 15 dX3_tryFrom_12 (by decide) rfl (by omega) (by omega) (fun h12 => ?_) (fun h12 => ?_)
    · refine zw_iload_n 17 dX3_tryFrom_16 rfl rfl ?_
      refine zw_aload_n 18 dX3_tryFrom_17 rfl rfl ?_
      refine zw_gti 21 1 dX3_tryFrom_18 rfl fX3_34 (by decide) rfl rfl ly109 ?_
      rw [hT.2.1]
      refine zw_icmp_lt 44 24 dX3_tryFrom_21 (by decide) rfl (by omega) (by omega) (fun h21 => ?_) (fun h21 => ?_)
      · exfalso; omega
      · refine zw_aload_n 25 dX3_tryFrom_24 rfl rfl ?_
        refine zw_iload_n 26 dX3_tryFrom_25 rfl rfl ?_
        refine zw_pti 29 2 dX3_tryFrom_26 rfl pX3_45 (by decide) rfl rfl ly109 ?_
        refine zw_aload_n 30 dX3_tryFrom_29 rfl rfl ?_
        refine zw_getr 33 (111) (o := 2) dX3_tryFrom_30 rfl fX3_15 (by decide) rfl rfl ly109 ?_
        refine zw_iconst 34 dX3_tryFrom_33 rfl ?_
        refine zw_aload_n 35 dX3_tryFrom_34 rfl rfl ?_
        refine zw_getr 38 (110) (o := 1) dX3_tryFrom_35 rfl fX3_9 (by decide) rfl rfl ly109 ?_
        refine zw_iconst 39 dX3_tryFrom_38 rfl ?_
        refine zw_iconst 40 dX3_tryFrom_39 rfl ?_
        refine zw_copy 43 dX3_tryFrom_40 rfl kX3_87 ly111 ly110 (by omega) rfl (by omega) ?_
        refine zw_vret dX3_tryFrom_43 rfl ?_
        first
          | (refine ⟨rfl, zTR_refl _ _, ?_⟩
             rw [zbest_no _ _ _ (fun x hx => by rw [List.mem_singleton.mp hx]; omega)]
             exact hA)
          | (have e : zbest (zpt N n) (zdf S 0 pre) a = (zpt N n pre, pre) := by
               show (if a.1 < zpt N n pre then (zpt N n pre, pre) else a) = _
               rw [if_pos (by omega)]
             refine ⟨rfl, ⟨fun b b1 b2 b3 => by rw [zwa_ne _ _ b2, zwr_ne _ _ _ b1], by rw [zwa_ne _ _ (by decide), zwr_ni _ _ _ (by decide)], by rw [zwa_ne _ _ (by decide), zwr_ni _ _ _ (by decide)], fun k k0 k1 => by rw [zwa_ne _ _ (by decide), zwr_ne _ _ _ (by decide)]⟩, ?_⟩
             rw [e]
             refine ⟨by rw [zwa_ne _ _ (by decide), zwr_same], fun _ => ?_, by show -1 ≤ zpt N n pre; omega, by show zpt N n pre ≤ 36; omega⟩
             have h3 := zrl_mv (f' := zwa (zwr σ 109 2 (zpt N n pre)) 110 (zcp (zwr σ 109 2 (zpt N n pre) 111) (zwr σ 109 2 (zpt N n pre) 110) 5) 110) hw (fun k k0 k1 => by
               rw [zwa_same]; unfold zcp; rw [if_pos (by omega), zwr_ne _ _ _ (by decide)])
             rw [show pre.length = C by omega] at h3
             exact h3)
    · refine zw_vret dX3_tryFrom_15 rfl ?_
      first
        | (refine ⟨rfl, zTR_refl _ _, ?_⟩
           rw [zbest_no _ _ _ (fun x hx => by rw [List.mem_singleton.mp hx]; omega)]
           exact hA)
        | (have e : zbest (zpt N n) (zdf S 0 pre) a = (zpt N n pre, pre) := by
             show (if a.1 < zpt N n pre then (zpt N n pre, pre) else a) = _
             rw [if_pos (by omega)]
           refine ⟨rfl, ⟨fun b b1 b2 b3 => by rw [zwa_ne _ _ b2, zwr_ne _ _ _ b1], by rw [zwa_ne _ _ (by decide), zwr_ni _ _ _ (by decide)], by rw [zwa_ne _ _ (by decide), zwr_ni _ _ _ (by decide)], fun k k0 k1 => by rw [zwa_ne _ _ (by decide), zwr_ne _ _ _ (by decide)]⟩, ?_⟩
           rw [e]
           refine ⟨by rw [zwa_ne _ _ (by decide), zwr_same], fun _ => ?_, by show -1 ≤ zpt N n pre; omega, by show zpt N n pre ≤ 36; omega⟩
           have h3 := zrl_mv (f' := zwa (zwr σ 109 2 (zpt N n pre)) 110 (zcp (zwr σ 109 2 (zpt N n pre) 111) (zwr σ 109 2 (zpt N n pre) 110) 5) 110) hw (fun k k0 k1 => by
             rw [zwa_same]; unfold zcp; rw [if_pos (by omega), zwr_ne _ _ _ (by decide)])
           rw [show pre.length = C by omega] at h3
           exact h3)
  | succ r ihr =>
    intro d hd σ pre u a hl hpS hb hT hA hw
    have hpb := zpt_b hN n pre
    have hh := hT.2.2.2 (r + 1) (by omega)
    rw [show (C : Int) - ((r + 1 : Nat) : Int) = (pre.length : Int) by omega] at hh
    have hhb := zhp_b hN n S C (r + 1)
    have hle := hA.2.2
    have hlp := lp_X3_tryFrom (l := l) (d := d) (by omega) hN hS hC5 hl hpS hb hT hw (a := a) (fun σ0 pre0 u0 a0 => ihr (d := d - 1) (by omega) σ0 pre0 u0 a0) (S + 1) 0 (by omega) σ (zTR_refl _ _) hA
    rw [show ((0 : Nat) : Int) - 1 = -1 from rfl] at hlp
    refine zSp_of oX3_tryFrom (Nat.le_of_ble_eq_true rfl) ?_
    show zw l d mX3_tryFrom 0 [some (.ref 109), some (.int (zI ((pre.length : Int)))), some (.int (zI ((u : Int)))), some (.int (zI ((zpt N n pre)))), none, none] [] σ _
    refine zw_iload_n 1 dX3_tryFrom_0 rfl rfl ?_
    refine zw_aload_n 2 dX3_tryFrom_1 rfl rfl ?_
    refine zw_getr 5 (113) (o := 4) dX3_tryFrom_2 rfl fX3_21 (by decide) rfl rfl ly109 ?_
    refine zw_iload_n 6 dX3_tryFrom_5 rfl rfl ?_
    refine zw_iald 7 dX3_tryFrom_6 rfl ly113 (by omega) ?_
    rw [hh]
    refine zw_iadd 8 dX3_tryFrom_7 rfl ?_
    refine zw_aload_n 9 dX3_tryFrom_8 rfl rfl ?_
    refine zw_gti 12 2 dX3_tryFrom_9 rfl fX3_45 (by decide) rfl rfl ly109 ?_
    rw [hA.1]
    refine zw_icmp_gt 16 15 dX3_tryFrom_12 (by decide) rfl (by omega) (by omega) (fun h12 => ?_) (fun h12 => ?_)
    · refine zw_iload_n 17 dX3_tryFrom_16 rfl rfl ?_
      refine zw_aload_n 18 dX3_tryFrom_17 rfl rfl ?_
      refine zw_gti 21 1 dX3_tryFrom_18 rfl fX3_34 (by decide) rfl rfl ly109 ?_
      rw [hT.2.1]
      refine zw_icmp_lt 44 24 dX3_tryFrom_21 (by decide) rfl (by omega) (by omega) (fun h21 => ?_) (fun h21 => ?_)
      · refine zw_iconst 45 dX3_tryFrom_44 rfl ?_
        refine zw_istore 47 dX3_tryFrom_45 rfl (by decide) ?_
        exact hlp
      · exfalso; omega
    · refine zw_vret dX3_tryFrom_15 rfl ?_
      refine ⟨rfl, zTR_refl _ _, ?_⟩
      rw [zbest_no _ _ _ (fun x hx => by have := zpt_le N n S C (r + 1) pre x hl hx; omega)]
      exact hA
