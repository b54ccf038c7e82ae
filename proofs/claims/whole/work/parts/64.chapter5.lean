theorem sq_X1_mix_3 {l : Launch} {d : Nat} {σ : zMem} (hd : 1 ≤ d) {b : Nat} (hb : zly b = some (1, 3)) {N : zR} (hR : zRo σ b 3 59 N) (hN : 0 ≤ N 59 ∧ N 59 ≤ 6) (hB : ∀ x, 0 ≤ x → x < 3 * N 59 → -2147483648 ≤ N (60 + x) ∧ N (60 + x) < 2147483648) {h : Int} : zSp l d mX1_mix [.ref b, .long (zL h)] σ (zRl (zdg N 60 (3 * N 59).toNat h) σ) := by
  have q : (59 : Int) + 1 = 60 := rfl
  have h2 := sp_X1_mix_3 (l := l) (d := d) hd hb hR hN (by rw [q]; exact hB) (h := h)
  rw [q] at h2
  exact h2
theorem sq_X1_mix_5 {l : Launch} {d : Nat} {σ : zMem} (hd : 1 ≤ d) {b : Nat} (hb : zly b = some (1, 3)) {N : zR} (hR : zRo σ b 5 78 N) (hN : 0 ≤ N 78 ∧ N 78 ≤ 6) (hB : ∀ x, 0 ≤ x → x < 5 * N 78 → -2147483648 ≤ N (79 + x) ∧ N (79 + x) < 2147483648) {h : Int} : zSp l d mX1_mix [.ref b, .long (zL h)] σ (zRl (zdg N 79 (5 * N 78).toNat h) σ) := by
  have q : (78 : Int) + 1 = 79 := rfl
  have h2 := sp_X1_mix_5 (l := l) (d := d) hd hb hR hN (by rw [q]; exact hB) (h := h)
  rw [q] at h2
  exact h2
theorem sq_X1_mix_4 {l : Launch} {d : Nat} {σ : zMem} (hd : 1 ≤ d) {b : Nat} (hb : zly b = some (1, 3)) {N : zR} (hR : zRo σ b 4 109 N) (hN : 0 ≤ N 109 ∧ N 109 ≤ 6) (hB : ∀ x, 0 ≤ x → x < 4 * N 109 → -2147483648 ≤ N (110 + x) ∧ N (110 + x) < 2147483648) {h : Int} : zSp l d mX1_mix [.ref b, .long (zL h)] σ (zRl (zdg N 110 (4 * N 109).toNat h) σ) := by
  have q : (109 : Int) + 1 = 110 := rfl
  have h2 := sp_X1_mix_4 (l := l) (d := d) hd hb hR hN (by rw [q]; exact hB) (h := h)
  rw [q] at h2
  exact h2
theorem le_X0_mix {l : Launch} {d : Nat} {σ : zMem} (hd : 2 ≤ d) {a : Nat} (ha : zly a = some (0, 13)) {N : zR} (hC : zCb σ a N) (hV : zVN N) {h : Int} : zw l d mX0_mix 168 [some (.ref a), some (.long (zL h)), none, some (.long (zL ((zdc N (N 48).toNat (zds N (N 33).toNat h))))), none, none, none] [] σ (zRl (zdg N 110 (4 * N 109).toNat (zdg N 79 (5 * N 78).toNat (zdg N 60 (3 * N 59).toNat (zdc N (N 48).toNat (zds N (N 33).toNat h))))) σ) := by
  have hs := hV.1
  have hv := hV.2.1
  obtain ⟨⟨c0, c1, c2, c3⟩, c4, c5, c6, c7⟩ := id hC
  obtain ⟨-, -, v1, v2, v3, v4, v5⟩ := hV
  refine zw_aload_n 169 dX0_mix_168 rfl rfl ?_
  refine zw_getr 172 (a + 15) (o := 15) dX0_mix_169 rfl fX0_50 (by decide) rfl rfl ha ?_
  refine zw_aload_n 173 dX0_mix_172 rfl rfl ?_
  refine zw_getr 176 (a + 13) (o := 13) dX0_mix_173 rfl fX0_47 (by decide) rfl rfl ha ?_
  refine zw_aload_n 177 dX0_mix_176 rfl rfl ?_
  refine zw_getr 180 (a + 11) (o := 11) dX0_mix_177 rfl fX0_43 (by decide) rfl rfl ha ?_
  refine zw_lload_n 181 dX0_mix_180 rfl rfl ?_
  refine zw_callV 184 _ _ dX0_mix_181 rfl kX0_133 qX1_mix (zl_sub ha 0 11 rfl rfl) ⟨_, rfl, rfl⟩ (by decide) (sq_X1_mix_3 (d := d - 1) (by omega) (zl_sub ha 0 11 rfl rfl) c5 v2.1 (fun x x0 x1 => by
      have g := v2.2 (x / 3) (by omega) (by omega)
      have e : 60 + x = 60 + 3 * (x / 3) ∨ 60 + x = 60 + 3 * (x / 3) + 1 ∨ 60 + x = 60 + 3 * (x / 3) + 2 := by omega
      have := hs.2.1
      rcases e with e | e | e <;> rw [e] <;> omega)) (by omega) rfl rfl (Nat.le_of_ble_eq_true rfl) (fun r σ' hq => ?_)
  obtain ⟨rfl, rfl⟩ := hq
  refine zw_callV 187 _ _ dX0_mix_184 rfl kX0_133 qX1_mix (zl_sub ha 0 13 rfl rfl) ⟨_, rfl, rfl⟩ (by decide) (sq_X1_mix_5 (d := d - 1) (by omega) (zl_sub ha 0 13 rfl rfl) c6 v3.1 (fun x x0 x1 => by
      have g := v3.2 (x / 5) (by omega) (by omega)
      have e : 79 + x = 79 + 5 * (x / 5) ∨ 79 + x = 79 + 5 * (x / 5) + 1 ∨ 79 + x = 79 + 5 * (x / 5) + 2 ∨ 79 + x = 79 + 5 * (x / 5) + 3 ∨ 79 + x = 79 + 5 * (x / 5) + 4 := by omega
      have := hs.1
      rcases e with e | e | e | e | e <;> rw [e] <;> omega)) (by omega) rfl rfl (Nat.le_of_ble_eq_true rfl) (fun r σ' hq => ?_)
  obtain ⟨rfl, rfl⟩ := hq
  refine zw_callV 190 _ _ dX0_mix_187 rfl kX0_133 qX1_mix (zl_sub ha 0 15 rfl rfl) ⟨_, rfl, rfl⟩ (by decide) (sq_X1_mix_4 (d := d - 1) (by omega) (zl_sub ha 0 15 rfl rfl) c7 v4.1 (fun x x0 x1 => by
      have g := v4.2 (x / 4) (by omega) (by omega)
      have e : 110 + x = 110 + 4 * (x / 4) ∨ 110 + x = 110 + 4 * (x / 4) + 1 ∨ 110 + x = 110 + 4 * (x / 4) + 2 ∨ 110 + x = 110 + 4 * (x / 4) + 3 := by omega
      have := hs.2.1
      rcases e with e | e | e | e <;> rw [e] <;> omega)) (by omega) rfl rfl (Nat.le_of_ble_eq_true rfl) (fun r σ' hq => ?_)
  obtain ⟨rfl, rfl⟩ := hq
  refine zw_lret dX0_mix_190 rfl ?_
  exact ⟨rfl, rfl⟩
theorem li_X0_mix {l : Launch} {d : Nat} {σ : zMem} (hd : 2 ≤ d) {a : Nat} (ha : zly a = some (0, 13)) {N : zR} (hC : zCb σ a N) (hV : zVN N) {h : Int} {c : Int} (hc : 0 ≤ c ∧ c < N 48) (kk : zw l d mX0_mix 71 [some (.ref a), some (.long (zL h)), none, some (.long (zL ((zdc N (c + 1).toNat (zds N (N 33).toNat h))))), none, some (.int (zI (c + 1))), none] [] σ (zRl (zdg N 110 (4 * N 109).toNat (zdg N 79 (5 * N 78).toNat (zdg N 60 (3 * N 59).toNat (zdc N (N 48).toNat (zds N (N 33).toNat h))))) σ)) : ∀ (m : Nat) (t : Int), t + m = 4 → 0 ≤ t → zw l d mX0_mix 131 [some (.ref a), some (.long (zL h)), none, some (.long (zL ((zdg N (5 + 4 * c) t.toNat (31 * (31 * (31 * zdc N c.toNat (zds N (N 33).toNat h) + N (49 + c)) + N (54 + c)) + N c))))), none, some (.int (zI c)), some (.int (zI t))] [] σ (zRl (zdg N 110 (4 * N 109).toNat (zdg N 79 (5 * N 78).toNat (zdg N 60 (3 * N 59).toNat (zdc N (N 48).toNat (zds N (N 33).toNat h))))) σ) := by
  have hs := hV.1
  have hv := hV.2.1
  obtain ⟨⟨c0, c1, c2, c3⟩, c4, c5, c6, c7⟩ := id hC
  obtain ⟨-, -, v1, v2, v3, v4, v5⟩ := hV
  rw [zdc_s _ _ hc.1] at kk
  have hc5 := hs.2.1
  intro m
  induction m with
  | zero =>
    intro t hk hk0
    obtain rfl : t = 4 := by omega
    rw [show (4 : Int).toNat = 4 from rfl]
    refine zw_iload 133 dX0_mix_131 rfl rfl ?_
    refine zw_iconst 134 dX0_mix_133 rfl ?_
    refine zw_icmp_ge 162 137 dX0_mix_134 (by decide) rfl (by omega) (by omega) (fun h134 => ?_) (fun h134 => ?_)
    · refine zw_iinc 165 dX0_mix_162 rfl (by decide) rfl ?_
      refine zw_goto 71 dX0_mix_165 (by decide) ?_
      refine zw_loc [true, true, false, true, false, true, false] rfl ?_
      exact kk
    · exfalso; omega
  | succ m ih =>
    intro t hk hk0
    have g1 := hv.tk2 (c := c) (k := t) (by omega) (by omega)
    have ih2 := ih (t + 1) (by omega) (by omega)
    rw [zdg_s _ _ _ hk0] at ih2
    refine zw_iload 133 dX0_mix_131 rfl rfl ?_
    refine zw_iconst 134 dX0_mix_133 rfl ?_
    refine zw_icmp_ge 162 137 dX0_mix_134 (by decide) rfl (by omega) (by omega) (fun h134 => ?_) (fun h134 => ?_)
    · exfalso; omega
    · refine zw_ldc2 140 (31) dX0_mix_137 rfl cX0_131 ?_
      refine zw_lload_n 141 dX0_mix_140 rfl rfl ?_
      refine zw_lmul 142 dX0_mix_141 rfl ?_
      refine zw_aload_n 143 dX0_mix_142 rfl rfl ?_
      refine zw_getr 146 (a + 6) (o := 6) dX0_mix_143 rfl fX0_30 (by decide) rfl rfl ha ?_
      refine zw_iload 148 dX0_mix_146 rfl rfl ?_
      refine zw_iload 150 dX0_mix_148 rfl rfl ?_
      refine zw_callV 153 _ _ dX0_mix_150 rfl kX0_89 qX2_takenOf (zl_sub ha 0 6 rfl rfl) ⟨_, rfl, rfl⟩ (by decide) (sp_X2_takenOf (d := d - 1) (zl_sub ha 0 6 rfl rfl) c4 (c := c) (x := t) (by omega) (by omega)) (by omega) rfl rfl (Nat.le_of_ble_eq_true rfl) (fun r σ' hq => ?_)
      obtain ⟨rfl, rfl⟩ := hq
      refine zw_i2l 154 dX0_mix_153 rfl (by omega) ?_
      refine zw_ladd 155 dX0_mix_154 rfl ?_
      refine zw_lstore_n 156 dX0_mix_155 rfl (by decide) ?_
      refine zw_iinc 159 dX0_mix_156 rfl (by decide) rfl ?_
      refine zw_goto 131 dX0_mix_159 (by decide) ?_
      refine zw_loc [true, true, false, true, false, true, true] rfl ?_
      exact ih2
theorem lc_X0_mix {l : Launch} {d : Nat} {σ : zMem} (hd : 2 ≤ d) {a : Nat} (ha : zly a = some (0, 13)) {N : zR} (hC : zCb σ a N) (hV : zVN N) {h : Int} : ∀ (m : Nat) (c : Int), c + m = N 48 → 0 ≤ c → zw l d mX0_mix 71 [some (.ref a), some (.long (zL h)), none, some (.long (zL ((zdc N c.toNat (zds N (N 33).toNat h))))), none, some (.int (zI c)), none] [] σ (zRl (zdg N 110 (4 * N 109).toNat (zdg N 79 (5 * N 78).toNat (zdg N 60 (3 * N 59).toNat (zdc N (N 48).toNat (zds N (N 33).toNat h))))) σ) := by
  have hs := hV.1
  have hv := hV.2.1
  obtain ⟨⟨c0, c1, c2, c3⟩, c4, c5, c6, c7⟩ := id hC
  obtain ⟨-, -, v1, v2, v3, v4, v5⟩ := hV
  have hc5 := hs.2.1
  have ke := le_X0_mix (l := l) (d := d) (σ := σ) hd ha hC (h := h) ⟨hs, hv, v1, v2, v3, v4, v5⟩
  intro m
  induction m with
  | zero =>
    intro c hk hk0
    obtain rfl : c = N 48 := by omega
    refine zw_iload 73 dX0_mix_71 rfl rfl ?_
    refine zw_aload_n 74 dX0_mix_73 rfl rfl ?_
    refine zw_gti 77 1 dX0_mix_74 rfl fX0_57 (by decide) rfl rfl ha ?_
    rw [c1]
    refine zw_icmp_ge 168 80 dX0_mix_77 (by decide) rfl (by omega) (by omega) (fun h77 => ?_) (fun h77 => ?_)
    · refine zw_loc [true, true, false, true, false, false, false] rfl ?_
      exact ke
    · exfalso; omega
  | succ m ih =>
    intro c hk hk0
    have k2 := c3 c hk0 (by omega)
    have g5 := hs.c hk0 (by omega : c < 5)
    have k3 := c4.1 c hk0 (by omega)
    have g6 := hv.1 c hk0 (by omega)
    have g7 := hs.1
    have kk := li_X0_mix (l := l) (d := d) (σ := σ) hd ha hC ⟨hs, hv, v1, v2, v3, v4, v5⟩ (h := h) (c := c) (by omega) (ih (c + 1) (by omega) (by omega)) 4 0 (by omega) (by omega)
    rw [show (0 : Int).toNat = 0 from rfl, show ∀ x, zdg N (5 + 4 * c) 0 x = x from fun _ => rfl] at kk
    refine zw_iload 73 dX0_mix_71 rfl rfl ?_
    refine zw_aload_n 74 dX0_mix_73 rfl rfl ?_
    refine zw_gti 77 1 dX0_mix_74 rfl fX0_57 (by decide) rfl rfl ha ?_
    rw [c1]
    refine zw_icmp_ge 168 80 dX0_mix_77 (by decide) rfl (by omega) (by omega) (fun h77 => ?_) (fun h77 => ?_)
    · exfalso; omega
    · refine zw_ldc2 83 (31) dX0_mix_80 rfl cX0_131 ?_
      refine zw_lload_n 84 dX0_mix_83 rfl rfl ?_
      refine zw_lmul 85 dX0_mix_84 rfl ?_
      refine zw_aload_n 86 dX0_mix_85 rfl rfl ?_
      refine zw_getr 89 (a + 3) (o := 3) dX0_mix_86 rfl fX0_18 (by decide) rfl rfl ha ?_
      refine zw_iload 91 dX0_mix_89 rfl rfl ?_
      refine zw_iald 92 dX0_mix_91 rfl (zl_sub ha 0 3 rfl rfl) (by omega) ?_
      rw [k2.1]
      refine zw_i2l 93 dX0_mix_92 rfl (by omega) ?_
      refine zw_ladd 94 dX0_mix_93 rfl ?_
      refine zw_lstore_n 95 dX0_mix_94 rfl (by decide) ?_
      refine zw_ldc2 98 (31) dX0_mix_95 rfl cX0_131 ?_
      refine zw_lload_n 99 dX0_mix_98 rfl rfl ?_
      refine zw_lmul 100 dX0_mix_99 rfl ?_
      refine zw_aload_n 101 dX0_mix_100 rfl rfl ?_
      refine zw_getr 104 (a + 4) (o := 4) dX0_mix_101 rfl fX0_21 (by decide) rfl rfl ha ?_
      refine zw_iload 106 dX0_mix_104 rfl rfl ?_
      refine zw_iald 107 dX0_mix_106 rfl (zl_sub ha 0 4 rfl rfl) (by omega) ?_
      rw [k2.2.1]
      refine zw_i2l 108 dX0_mix_107 rfl (by omega) ?_
      refine zw_ladd 109 dX0_mix_108 rfl ?_
      refine zw_lstore_n 110 dX0_mix_109 rfl (by decide) ?_
      refine zw_ldc2 113 (31) dX0_mix_110 rfl cX0_131 ?_
      refine zw_lload_n 114 dX0_mix_113 rfl rfl ?_
      refine zw_lmul 115 dX0_mix_114 rfl ?_
      refine zw_aload_n 116 dX0_mix_115 rfl rfl ?_
      refine zw_getr 119 (a + 6) (o := 6) dX0_mix_116 rfl fX0_30 (by decide) rfl rfl ha ?_
      refine zw_getr 122 (a + 7) (o := 1) dX0_mix_119 rfl fX0_103 (by decide) rfl rfl (zl_sub ha 0 6 rfl rfl) ?_
      refine zw_iload 124 dX0_mix_122 rfl rfl ?_
      refine zw_iald 125 dX0_mix_124 rfl (zl_sub ha 0 7 rfl rfl) (by omega) ?_
      rw [k3]
      refine zw_i2l 126 dX0_mix_125 rfl (by omega) ?_
      refine zw_ladd 127 dX0_mix_126 rfl ?_
      refine zw_lstore_n 128 dX0_mix_127 rfl (by decide) ?_
      refine zw_iconst 129 dX0_mix_128 rfl ?_
      refine zw_istore 131 dX0_mix_129 rfl (by decide) ?_
      exact kk
theorem ls_X0_mix {l : Launch} {d : Nat} {σ : zMem} (hd : 2 ≤ d) {a : Nat} (ha : zly a = some (0, 13)) {N : zR} (hC : zCb σ a N) (hV : zVN N) {h : Int} : ∀ (m : Nat) (s : Int), s + m = N 33 → 0 ≤ s → zw l d mX0_mix 5 [some (.ref a), some (.long (zL h)), none, some (.long (zL ((zds N s.toNat h)))), none, some (.int (zI s)), none] [] σ (zRl (zdg N 110 (4 * N 109).toNat (zdg N 79 (5 * N 78).toNat (zdg N 60 (3 * N 59).toNat (zdc N (N 48).toNat (zds N (N 33).toNat h))))) σ) := by
  have hs := hV.1
  have hv := hV.2.1
  obtain ⟨⟨c0, c1, c2, c3⟩, c4, c5, c6, c7⟩ := id hC
  obtain ⟨-, -, v1, v2, v3, v4, v5⟩ := hV
  have hs7 := hs.1
  have ke := lc_X0_mix (l := l) (d := d) (σ := σ) hd ha hC (h := h) ⟨hs, hv, v1, v2, v3, v4, v5⟩ (N 48).toNat 0 (by have := hs.2.1; omega) (by omega)
  rw [show (0 : Int).toNat = 0 from rfl, show ∀ x, zdc N 0 x = x from fun _ => rfl] at ke
  intro m
  induction m with
  | zero =>
    intro s hk hk0
    obtain rfl : s = N 33 := by omega
    refine zw_iload 7 dX0_mix_5 rfl rfl ?_
    refine zw_aload_n 8 dX0_mix_7 rfl rfl ?_
    refine zw_gti 11 0 dX0_mix_8 rfl fX0_53 (by decide) rfl rfl ha ?_
    rw [c0]
    refine zw_icmp_ge 68 14 dX0_mix_11 (by decide) rfl (by omega) (by omega) (fun h11 => ?_) (fun h11 => ?_)
    · refine zw_iconst 69 dX0_mix_68 rfl ?_
      refine zw_istore 71 dX0_mix_69 rfl (by decide) ?_
      exact ke
    · exfalso; omega
  | succ m ih =>
    intro s hk hk0
    have k1 := c2 s hk0 (by omega)
    have g5 := hs.s hk0 (by omega : s < 7)
    have k3 := c4.2.2.1 s hk0 (by omega)
    have g6 := hv.2.2.1 s hk0 (by omega)
    have ih2 := ih (s + 1) (by omega) (by omega)
    rw [zds_s _ _ hk0] at ih2
    refine zw_iload 7 dX0_mix_5 rfl rfl ?_
    refine zw_aload_n 8 dX0_mix_7 rfl rfl ?_
    refine zw_gti 11 0 dX0_mix_8 rfl fX0_53 (by decide) rfl rfl ha ?_
    rw [c0]
    refine zw_icmp_ge 68 14 dX0_mix_11 (by decide) rfl (by omega) (by omega) (fun h11 => ?_) (fun h11 => ?_)
    · exfalso; omega
    · refine zw_ldc2 17 (31) dX0_mix_14 rfl cX0_131 ?_
      refine zw_lload_n 18 dX0_mix_17 rfl rfl ?_
      refine zw_lmul 19 dX0_mix_18 rfl ?_
      refine zw_aload_n 20 dX0_mix_19 rfl rfl ?_
      refine zw_getr 23 (a + 1) (o := 1) dX0_mix_20 rfl fX0_9 (by decide) rfl rfl ha ?_
      refine zw_iload 25 dX0_mix_23 rfl rfl ?_
      refine zw_iald 26 dX0_mix_25 rfl (zl_sub ha 0 1 rfl rfl) (by omega) ?_
      rw [k1.1]
      refine zw_i2l 27 dX0_mix_26 rfl (by omega) ?_
      refine zw_ladd 28 dX0_mix_27 rfl ?_
      refine zw_lstore_n 29 dX0_mix_28 rfl (by decide) ?_
      refine zw_ldc2 32 (31) dX0_mix_29 rfl cX0_131 ?_
      refine zw_lload_n 33 dX0_mix_32 rfl rfl ?_
      refine zw_lmul 34 dX0_mix_33 rfl ?_
      refine zw_aload_n 35 dX0_mix_34 rfl rfl ?_
      refine zw_getr 38 (a + 2) (o := 2) dX0_mix_35 rfl fX0_15 (by decide) rfl rfl ha ?_
      refine zw_iload 40 dX0_mix_38 rfl rfl ?_
      refine zw_iald 41 dX0_mix_40 rfl (zl_sub ha 0 2 rfl rfl) (by omega) ?_
      rw [k1.2]
      refine zw_i2l 42 dX0_mix_41 rfl (by omega) ?_
      refine zw_ladd 43 dX0_mix_42 rfl ?_
      refine zw_lstore_n 44 dX0_mix_43 rfl (by decide) ?_
      refine zw_ldc2 47 (31) dX0_mix_44 rfl cX0_131 ?_
      refine zw_lload_n 48 dX0_mix_47 rfl rfl ?_
      refine zw_lmul 49 dX0_mix_48 rfl ?_
      refine zw_aload_n 50 dX0_mix_49 rfl rfl ?_
      refine zw_getr 53 (a + 6) (o := 6) dX0_mix_50 rfl fX0_30 (by decide) rfl rfl ha ?_
      refine zw_getr 56 (a + 9) (o := 3) dX0_mix_53 rfl fX0_82 (by decide) rfl rfl (zl_sub ha 0 6 rfl rfl) ?_
      refine zw_iload 58 dX0_mix_56 rfl rfl ?_
      refine zw_iald 59 dX0_mix_58 rfl (zl_sub ha 0 9 rfl rfl) (by omega) ?_
      rw [k3]
      refine zw_i2l 60 dX0_mix_59 rfl (by omega) ?_
      refine zw_ladd 61 dX0_mix_60 rfl ?_
      refine zw_lstore_n 62 dX0_mix_61 rfl (by decide) ?_
      refine zw_iinc 65 dX0_mix_62 rfl (by decide) rfl ?_
      refine zw_goto 5 dX0_mix_65 (by decide) ?_
      refine zw_loc [true, true, false, true, false, true, false] rfl ?_
      exact ih2
theorem sp_X0_mix {l : Launch} {d : Nat} {σ : zMem} (hd : 2 ≤ d) {a : Nat} (ha : zly a = some (0, 13)) {N : zR} (hC : zCb σ a N) (hV : zVN N) {h : Int}  : zSp l d mX0_mix [.ref a, .long (zL h)] σ (zRl (zdg N 110 (4 * N 109).toNat (zdg N 79 (5 * N 78).toNat (zdg N 60 (3 * N 59).toNat (zdc N (N 48).toNat (zds N (N 33).toNat h))))) σ) := by
  refine zSp_of oX0_mix (Nat.le_of_ble_eq_true rfl) ?_
  show zw l d mX0_mix 0 [some (.ref a), some (.long (zL h)), none, none, none, none, none] [] σ _
  have ke := ls_X0_mix (l := l) (d := d) (σ := σ) hd ha hC (h := h) hV (N 33).toNat 0 (by have := hV.1.1; omega) (by omega)
  rw [show (0 : Int).toNat = 0 from rfl, show ∀ x, zds N 0 x = x from fun _ => rfl] at ke
  refine zw_lload_n 1 dX0_mix_0 rfl rfl ?_
  refine zw_lstore_n 2 dX0_mix_1 rfl (by decide) ?_
  refine zw_iconst 3 dX0_mix_2 rfl ?_
  refine zw_istore 5 dX0_mix_3 rfl (by decide) ?_
  exact ke
