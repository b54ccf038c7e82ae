theorem sq_X1_become {l : Launch} {d : Nat} {σ : zMem} (hd : 1 ≤ d) {a b : Nat} (ha : zly a = some (1, 3)) (hb : zly b = some (1, 3)) (hab : a + 2 ≤ b ∨ b + 2 ≤ a) {w m : Int} {N : zR} (hw : σ a 0 = w) (hm : N m ≤ 6) (hw5 : w ≤ 5) (hR : zRo σ b w m N) : zSp l d mX1_become [.ref a, .ref b] σ (fun v σ1 => v = none ∧ zRo σ1 a w m N ∧ ∀ r, ¬ (a ≤ r ∧ r ≤ a + 1) → σ1 r = σ r) :=
  zSp_mono (sp_X1_become hd ha hb hab) (fun v σ1 hq => by
    obtain ⟨rfl, rfl⟩ := hq
    exact ⟨rfl, zRo_become hab hw hm hw5 hR, fun r hr => by rw [zwa_ne _ _ (by omega), zwr_ne _ _ _ (by omega)]⟩)
/-- ahead of the past scenes: what has come over -/
def zCc (σ σc : zMem) (a : Nat) (N : zR) (p : Nat → Nat) (n : Nat) : Prop := (∀ r, ¬ (a ≤ r ∧ r ≤ a + 9) → ¬ (a + 17 ≤ r ∧ r ≤ a + 48) → σc r = σ r) ∧ zCs σc a N ∧ zSc σc (a + 6) N ∧ σc a 2 = N 134 ∧ ∀ i : Nat, i < n → zSc σc (a + 17 + 4 * p i) (zPt N i)
theorem lp_X0_become {l : Launch} {d : Nat} {σ : zMem} (hd : 2 ≤ d) {a b : Nat} (ha : zly a = some (0, 13)) (hb : zly b = some (0, 13)) (hab : a + 49 ≤ b ∨ b + 49 ≤ a) {N : zR} (hC : zCh σ b N) (hB : zBd N) (h0 : 0 ≤ N 134) (hw : zWd σ a) {p p2 : Nat → Nat} (hp : zPa σ a p) (hp2 : zPa σ b p2) (hcp : zCp σ b p2 N) : ∀ (m n : Nat), ((n : Nat) : Int) + m = N 134 → ∀ σc : zMem, zCc σ σc a N p n → zw l d mX0_become 109 [some (.ref a), some (.ref b), some (.int (zI ((n : Int))))] [] σc (fun v σ1 => v = none ∧ zCh σ1 a N ∧ ∀ r, ¬ (a ≤ r ∧ r ≤ a + 48) → σ1 r = σ r) := by
  intro m
  obtain ⟨b1, b2, b3, b4, b5, b6⟩ := id hB
  induction m with
  | zero =>
    intro n h1 σc hc
    obtain ⟨f1, f2, f3, f4, f5⟩ := hc
    obtain ⟨w1, w2, w3⟩ := hw
    obtain ⟨-, -, r1, r2, r3⟩ := hC.1
    refine zw_iload_n 110 dX0_become_109 rfl rfl ?_
    refine zw_aload_n 111 dX0_become_110 rfl rfl ?_
    refine zw_gti 114 2 dX0_become_111 rfl fX0_60 (by decide) rfl rfl ha ?_
    rw [f4]
    refine zw_icmp_ge 138 117 dX0_become_114 (by decide) rfl (by omega) (by omega) (fun h114 => ?_) (fun h114 => ?_)
    · refine zw_aload_n 139 dX0_become_138 rfl rfl ?_
      refine zw_getr 142 (a + 11) (o := 11) dX0_become_139 rfl fX0_43 (by decide) rfl rfl ha ?_
      refine zw_aload_n 143 dX0_become_142 rfl rfl ?_
      refine zw_getr 146 (b + 11) (o := 11) dX0_become_143 rfl fX0_43 (by decide) rfl rfl hb ?_
      refine zw_callV 149 _ _ dX0_become_146 rfl kX0_79 qX1_become (zl_sub ha 0 11 rfl rfl) ⟨_, rfl, rfl⟩ (by decide) (sq_X1_become (d := d - 1) (by omega) (zl_sub ha 0 11 rfl rfl) (zl_sub hb 0 11 rfl rfl) (by omega) (w := 3) (m := 59) (N := N) (by rw [f1 _ (by omega) (by omega)]; exact w1) b3 (by omega) (zRo_fr (f1 _ (by omega) (by omega)) (f1 _ (by omega) (by omega)) r1)) (by omega) rfl rfl (Nat.le_of_ble_eq_true rfl) (fun r σ' hq => ?_)
      obtain ⟨rfl, q1, q2⟩ := hq
      refine zw_aload_n 150 dX0_become_149 rfl rfl ?_
      refine zw_getr 153 (a + 13) (o := 13) dX0_become_150 rfl fX0_47 (by decide) rfl rfl ha ?_
      refine zw_aload_n 154 dX0_become_153 rfl rfl ?_
      refine zw_getr 157 (b + 13) (o := 13) dX0_become_154 rfl fX0_47 (by decide) rfl rfl hb ?_
      refine zw_callV 160 _ _ dX0_become_157 rfl kX0_79 qX1_become (zl_sub ha 0 13 rfl rfl) ⟨_, rfl, rfl⟩ (by decide) (sq_X1_become (d := d - 1) (by omega) (zl_sub ha 0 13 rfl rfl) (zl_sub hb 0 13 rfl rfl) (by omega) (w := 5) (m := 78) (N := N) (by rw [q2 _ (by omega), f1 _ (by omega) (by omega)]; exact w2) b4 (by omega) (zRo_fr (by rw [q2 _ (by omega), f1 _ (by omega) (by omega)]) (by rw [q2 _ (by omega), f1 _ (by omega) (by omega)]) r2)) (by omega) rfl rfl (Nat.le_of_ble_eq_true rfl) (fun r σ' hq => ?_)
      obtain ⟨rfl, q3, q4⟩ := hq
      refine zw_aload_n 161 dX0_become_160 rfl rfl ?_
      refine zw_getr 164 (a + 15) (o := 15) dX0_become_161 rfl fX0_50 (by decide) rfl rfl ha ?_
      refine zw_aload_n 165 dX0_become_164 rfl rfl ?_
      refine zw_getr 168 (b + 15) (o := 15) dX0_become_165 rfl fX0_50 (by decide) rfl rfl hb ?_
      refine zw_callV 171 _ _ dX0_become_168 rfl kX0_79 qX1_become (zl_sub ha 0 15 rfl rfl) ⟨_, rfl, rfl⟩ (by decide) (sq_X1_become (d := d - 1) (by omega) (zl_sub ha 0 15 rfl rfl) (zl_sub hb 0 15 rfl rfl) (by omega) (w := 4) (m := 109) (N := N) (by rw [q4 _ (by omega), q2 _ (by omega), f1 _ (by omega) (by omega)]; exact w3) b5 (by omega) (zRo_fr (by rw [q4 _ (by omega), q2 _ (by omega), f1 _ (by omega) (by omega)]) (by rw [q4 _ (by omega), q2 _ (by omega), f1 _ (by omega) (by omega)]) r3)) (by omega) rfl rfl (Nat.le_of_ble_eq_true rfl) (fun r σ' hq => ?_)
      obtain ⟨rfl, q5, q6⟩ := hq
      refine zw_vret dX0_become_171 rfl ?_
      have q7 : ∀ r, ¬ (a + 11 ≤ r ∧ r ≤ a + 16) → σ' r = σc r := fun r hr => by rw [q6 r (by omega), q4 r (by omega), q2 r (by omega)]
      refine ⟨rfl, ⟨⟨zCs_fr (fun x h0 h1 => q7 x (by omega)) f2, zSc_fr (fun x h0 h1 => q7 x (by omega)) f3, zRo_fr (by rw [q6 _ (by omega), q4 _ (by omega)]) (by rw [q6 _ (by omega), q4 _ (by omega)]) q1, zRo_fr (by rw [q6 _ (by omega)]) (by rw [q6 _ (by omega)]) q3, q5⟩, by rw [q7 a (by omega)]; exact f4, p, zPa_fr (by rw [q7 _ (by omega), f1 _ (by omega) (by omega)]) hp, fun i hi hi2 => ?_⟩, fun r hr => by rw [q7 r (by omega), f1 r (by omega) (by omega)]⟩
      have g := (hp.1 i hi).1
      exact zSc_fr (fun x h0 h1 => q7 x (by omega)) (f5 i (by omega))
    · exfalso; omega
  | succ m ih =>
    intro n h1 σc hc
    obtain ⟨f1, f2, f3, f4, f5⟩ := hc
    have hn8 : n < 8 := by omega
    have g1 := (hp.1 n hn8).1
    have g2 := (hp2.1 n hn8).1
    have k1 : σc (a + 10) (n : Int) = ((a + 17 + 4 * p n : Nat) : Int) := by rw [f1 _ (by omega) (by omega)]; exact (hp.1 n hn8).2
    have k2 : σc (b + 10) (n : Int) = ((b + 17 + 4 * p2 n : Nat) : Int) := by rw [f1 _ (by omega) (by omega)]; exact (hp2.1 n hn8).2
    have ih2 := ih (n + 1) (by omega)
    rw [show (((n + 1 : Nat) : Int)) = (n : Int) + 1 by omega] at ih2
    refine zw_iload_n 110 dX0_become_109 rfl rfl ?_
    refine zw_aload_n 111 dX0_become_110 rfl rfl ?_
    refine zw_gti 114 2 dX0_become_111 rfl fX0_60 (by decide) rfl rfl ha ?_
    rw [f4]
    refine zw_icmp_ge 138 117 dX0_become_114 (by decide) rfl (by omega) (by omega) (fun h114 => ?_) (fun h114 => ?_)
    · exfalso; omega
    · refine zw_aload_n 118 dX0_become_117 rfl rfl ?_
      refine zw_getr 121 (a + 10) (o := 10) dX0_become_118 rfl fX0_34 (by decide) rfl rfl ha ?_
      refine zw_iload_n 122 dX0_become_121 rfl rfl ?_
      refine zw_aald 123 (a + 17 + 4 * p n) dX0_become_122 rfl (zl_sub ha 0 10 rfl rfl) (by decide) (by omega) k1 ?_
      refine zw_aload_n 124 dX0_become_123 rfl rfl ?_
      refine zw_getr 127 (b + 10) (o := 10) dX0_become_124 rfl fX0_34 (by decide) rfl rfl hb ?_
      refine zw_iload_n 128 dX0_become_127 rfl rfl ?_
      refine zw_aald 129 (b + 17 + 4 * p2 n) dX0_become_128 rfl (zl_sub hb 0 10 rfl rfl) (by decide) (by omega) k2 ?_
      refine zw_callV 132 _ _ dX0_become_129 rfl kX0_75 qX2_become (zl_past ha (hp.1 n (by omega)).1) ⟨_, rfl, rfl⟩ (by decide) (sp_X2_become (d := d - 1) (by omega) (zl_past ha g1) (zl_past hb g2) (by omega) (t := zPt N n) (zSc_fr (fun x h0 h1 => f1 x (by omega) (by omega)) (hcp n hn8 (by omega)))) (by omega) rfl rfl (Nat.le_of_ble_eq_true rfl) (fun r σ' hq => ?_)
      obtain ⟨rfl, q1, q2⟩ := hq
      refine zw_iinc 135 dX0_become_132 rfl (by decide) rfl ?_
      refine zw_goto 109 dX0_become_135 (by decide) ?_
      refine zw_loc [true, true, true] rfl ?_
      refine ih2 _ ⟨fun r h0 h1 => (q2 r (by omega)).trans (f1 r h0 h1), zCs_fr (fun x h0 h1 => q2 x (by omega)) f2, zSc_fr (fun x h0 h1 => q2 x (by omega)) f3, by rw [q2 a (by omega)]; exact f4, fun i hi => ?_⟩
      by_cases q : i = n
      · subst q; exact q1
      · have g3 := (hp.1 i (by omega)).1
        have g4 : p i ≠ p n := fun e => q (hp.2 i n (by omega) hn8 e)
        exact zSc_fr (fun x h0 h1 => q2 x (by omega)) (f5 i (by omega))
theorem sp_X0_become {l : Launch} {d : Nat} {σ : zMem} (hd : 2 ≤ d) {a b : Nat} (ha : zly a = some (0, 13)) (hb : zly b = some (0, 13)) (hab : a + 49 ≤ b ∨ b + 49 ≤ a) {N : zR} (hC : zCh σ b N) (hB : zBd N) (h0 : 0 ≤ N 134) (hst : zSF σ a)  : zSp l d mX0_become [.ref a, .ref b] σ (fun v σ1 => v = none ∧ zCh σ1 a N ∧ ∀ r, ¬ (a ≤ r ∧ r ≤ a + 48) → σ1 r = σ r) := by
  refine zSp_of oX0_become (Nat.le_of_ble_eq_true rfl) ?_
  show zw l d mX0_become 0 [some (.ref a), some (.ref b), none] [] σ _
  obtain ⟨⟨p, hp⟩, hw⟩ := hst
  obtain ⟨p2, hp2, hcp⟩ := id hC.2.2
  obtain ⟨⟨c0, c1, c2, c3⟩, c4, -, -, -⟩ := id hC.1
  have c5 := hC.2.1
  obtain ⟨b1, b2, b3, b4, b5, b6⟩ := id hB
  refine zw_aload_n 1 dX0_become_0 rfl rfl ?_
  refine zw_aload_n 2 dX0_become_1 rfl rfl ?_
  refine zw_gti 5 0 dX0_become_2 rfl fX0_53 (by decide) rfl rfl hb ?_
  rw [c0]
  refine zw_pti 8 0 dX0_become_5 rfl pX0_53 (by decide) rfl rfl ha ?_
  refine zw_aload_n 9 dX0_become_8 rfl rfl ?_
  refine zw_aload_n 10 dX0_become_9 rfl rfl ?_
  refine zw_gti 13 1 dX0_become_10 rfl fX0_57 (by decide) rfl rfl hb ?_
  rw [zwr_ne _ _ _ (by omega), c1]
  refine zw_pti 16 1 dX0_become_13 rfl pX0_57 (by decide) rfl rfl ha ?_
  refine zw_aload_n 17 dX0_become_16 rfl rfl ?_
  refine zw_aload_n 18 dX0_become_17 rfl rfl ?_
  refine zw_gti 21 2 dX0_become_18 rfl fX0_60 (by decide) rfl rfl hb ?_
  rw [zwr_ne _ _ _ (by omega), zwr_ne _ _ _ (by omega), c5]
  refine zw_pti 24 2 dX0_become_21 rfl pX0_60 (by decide) rfl rfl ha ?_
  refine zw_aload_n 25 dX0_become_24 rfl rfl ?_
  refine zw_getr 28 (b + 1) (o := 1) dX0_become_25 rfl fX0_9 (by decide) rfl rfl hb ?_
  refine zw_iconst 29 dX0_become_28 rfl ?_
  refine zw_aload_n 30 dX0_become_29 rfl rfl ?_
  refine zw_getr 33 (a + 1) (o := 1) dX0_become_30 rfl fX0_9 (by decide) rfl rfl ha ?_
  refine zw_iconst 34 dX0_become_33 rfl ?_
  refine zw_bipush 36 dX0_become_34 rfl (by decide) ?_
  refine zw_copy 39 dX0_become_36 rfl kX0_69 (zl_sub hb 0 1 rfl rfl) (zl_sub ha 0 1 rfl rfl) (by omega) rfl (by omega) ?_
  refine zw_aload_n 40 dX0_become_39 rfl rfl ?_
  refine zw_getr 43 (b + 2) (o := 2) dX0_become_40 rfl fX0_15 (by decide) rfl rfl hb ?_
  refine zw_iconst 44 dX0_become_43 rfl ?_
  refine zw_aload_n 45 dX0_become_44 rfl rfl ?_
  refine zw_getr 48 (a + 2) (o := 2) dX0_become_45 rfl fX0_15 (by decide) rfl rfl ha ?_
  refine zw_iconst 49 dX0_become_48 rfl ?_
  refine zw_bipush 51 dX0_become_49 rfl (by decide) ?_
  refine zw_copy 54 dX0_become_51 rfl kX0_69 (zl_sub hb 0 2 rfl rfl) (zl_sub ha 0 2 rfl rfl) (by omega) rfl (by omega) ?_
  refine zw_aload_n 55 dX0_become_54 rfl rfl ?_
  refine zw_getr 58 (b + 3) (o := 3) dX0_become_55 rfl fX0_18 (by decide) rfl rfl hb ?_
  refine zw_iconst 59 dX0_become_58 rfl ?_
  refine zw_aload_n 60 dX0_become_59 rfl rfl ?_
  refine zw_getr 63 (a + 3) (o := 3) dX0_become_60 rfl fX0_18 (by decide) rfl rfl ha ?_
  refine zw_iconst 64 dX0_become_63 rfl ?_
  refine zw_iconst 65 dX0_become_64 rfl ?_
  refine zw_copy 68 dX0_become_65 rfl kX0_69 (zl_sub hb 0 3 rfl rfl) (zl_sub ha 0 3 rfl rfl) (by omega) rfl (by omega) ?_
  refine zw_aload_n 69 dX0_become_68 rfl rfl ?_
  refine zw_getr 72 (b + 4) (o := 4) dX0_become_69 rfl fX0_21 (by decide) rfl rfl hb ?_
  refine zw_iconst 73 dX0_become_72 rfl ?_
  refine zw_aload_n 74 dX0_become_73 rfl rfl ?_
  refine zw_getr 77 (a + 4) (o := 4) dX0_become_74 rfl fX0_21 (by decide) rfl rfl ha ?_
  refine zw_iconst 78 dX0_become_77 rfl ?_
  refine zw_iconst 79 dX0_become_78 rfl ?_
  refine zw_copy 82 dX0_become_79 rfl kX0_69 (zl_sub hb 0 4 rfl rfl) (zl_sub ha 0 4 rfl rfl) (by omega) rfl (by omega) ?_
  refine zw_aload_n 83 dX0_become_82 rfl rfl ?_
  refine zw_getr 86 (b + 5) (o := 5) dX0_become_83 rfl fX0_24 (by decide) rfl rfl hb ?_
  refine zw_iconst 87 dX0_become_86 rfl ?_
  refine zw_aload_n 88 dX0_become_87 rfl rfl ?_
  refine zw_getr 91 (a + 5) (o := 5) dX0_become_88 rfl fX0_24 (by decide) rfl rfl ha ?_
  refine zw_iconst 92 dX0_become_91 rfl ?_
  refine zw_iconst 93 dX0_become_92 rfl ?_
  refine zw_copy 96 dX0_become_93 rfl kX0_69 (zl_sub hb 0 5 rfl rfl) (zl_sub ha 0 5 rfl rfl) (by omega) rfl (by omega) ?_
  refine zw_aload_n 97 dX0_become_96 rfl rfl ?_
  refine zw_getr 100 (a + 6) (o := 6) dX0_become_97 rfl fX0_30 (by decide) rfl rfl ha ?_
  refine zw_aload_n 101 dX0_become_100 rfl rfl ?_
  refine zw_getr 104 (b + 6) (o := 6) dX0_become_101 rfl fX0_30 (by decide) rfl rfl hb ?_
  refine zw_callV 107 _ _ dX0_become_104 rfl kX0_75 qX2_become (zl_sub ha 0 6 rfl rfl) ⟨_, rfl, rfl⟩ (by decide) (sp_X2_become (d := d - 1) (by omega) (zl_sub ha 0 6 rfl rfl) (zl_sub hb 0 6 rfl rfl) (by omega) (t := N) (zSc_fr (fun x h0 h1 => by simp (disch := omega) only [zwr_ne, zwa_ne]) c4)) (by omega) rfl rfl (Nat.le_of_ble_eq_true rfl) (fun r σ' hq => ?_)
  obtain ⟨rfl, q1, q2⟩ := hq
  refine zw_iconst 108 dX0_become_107 rfl ?_
  refine zw_istore_n 109 dX0_become_108 rfl (by decide) ?_
  refine lp_X0_become hd ha hb hab hC hB h0 hw hp hp2 hcp (N 134).toNat 0 (by omega) _ ⟨fun r h0 h1 => ?_, ⟨?_, ?_, fun s h0 h1 => ?_, fun c h0 h1 => ?_⟩, q1, ?_, fun i hi => absurd hi (by omega)⟩
  · rw [q2 r (by omega)]; simp (disch := omega) only [zwr_ne, zwa_ne]
  · rw [q2 a (by omega)]; simp (disch := omega) only [zwr_ne, zwr_ni, zwr_same, zwa_ne, zwa_same]
  · rw [q2 a (by omega)]; simp (disch := omega) only [zwr_ne, zwr_ni, zwr_same, zwa_ne, zwa_same]
  · have := c2 s h0 h1
    rw [q2 (a + 1) (by omega), q2 (a + 2) (by omega)]; simp (disch := omega) only [zwr_ne, zwr_ni, zwr_same, zwa_ne, zwa_same]; unfold zcp; rw [if_pos (by omega), if_pos (by omega)]; exact this
  · have := c3 c h0 h1
    rw [q2 (a + 3) (by omega), q2 (a + 4) (by omega), q2 (a + 5) (by omega)]; simp (disch := omega) only [zwr_ne, zwr_ni, zwr_same, zwa_ne, zwa_same]; unfold zcp; rw [if_pos (by omega), if_pos (by omega), if_pos (by omega)]; exact this
  · rw [q2 a (by omega)]; simp (disch := omega) only [zwr_ne, zwr_ni, zwr_same, zwa_ne, zwa_same]
