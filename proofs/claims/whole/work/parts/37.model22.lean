/-- a word read from b on -/
def zLO (tx g0 : zR) (n b : Int) (k : Nat) (g : zR) : Prop := (∀ i, i ≠ 10 → i ≠ 13 → i ≠ 15 → i ≠ 16 → i ≠ 17 → g i = g0 i) ∧ g 10 = b + k ∧ g 13 = zlt tx b (min k 6) ∧ (7 ≤ k → g 16 = tx (b + 6)) ∧ g 17 = k ∧ b + k = zwe tx n (n - b).toNat b ∧ b + k ≤ n
def zFI (tx g0 : zR) (b : Int) (k : Nat) (g : zR) : Prop := (∀ i, i ≠ 10 → i ≠ 14 → g i = g0 i) ∧ g 10 = b + k ∧ g 14 = zvl tx b k ∧ 0 ≤ g 14 ∧ g 14 ≤ 999
/-- one step of the reader: from g0 to g -/
def zSu (tx g0 : zR) (n : Int) (g : zR) : Prop := ∃ b, b = zsk tx n (n - g0 10).toNat (g0 10) ∧ (∀ i, i < 10 ∨ 17 < i → g i = g0 i) ∧ g 11 = b ∧ 0 ≤ b ∧ b ≤ n ∧ b ≤ g 10 ∧ g 10 ≤ n ∧
  ((b = n ∧ g 10 = n ∧ g 12 = 0) ∨
   (b < n ∧ zil tx n b = 1 ∧ g 12 = 1 ∧ ∃ k : Nat, g 10 = b + k ∧ g 13 = zlt tx b (min k 6) ∧ (7 ≤ k → g 16 = tx (b + 6)) ∧ g 17 = k ∧ b + k = zwe tx n (n - b).toNat b) ∨
   (b < n ∧ zil tx n b = 0 ∧ zig tx n b = 1 ∧ ∃ k : Nat, g 10 = b + k ∧ g 14 = zvl tx b k ∧ (0 ≤ g 14 ∧ g 14 ≤ 999) ∧ b + k = zge tx n (n - b).toNat b ∧ g 12 = if 2 < (k : Int) then 4 else 2) ∨
   (b < n ∧ zil tx n b = 0 ∧ zig tx n b = 0 ∧ g 10 = b + 1 ∧ g 12 = if tx b = 59 then 3 else 4))
theorem zsk_b (tx : zR) (n : Int) : ∀ (m : Nat) (i : Int), i ≤ n → i ≤ zsk tx n m i ∧ zsk tx n m i ≤ n
  | 0, i, h => ⟨Int.le_refl _, h⟩
  | m + 1, i, h => by
    unfold zsk
    by_cases q : i < n ∧ tx i = 32
    · rw [if_pos q]; have := zsk_b tx n m (i + 1) (by omega); omega
    · rw [if_neg q]; omega
theorem zFI_next {tx g0 : zR} {b : Int} {k : Nat} {g : zR} {y : Int} (h : zFI tx g0 b k g) (ht : 48 ≤ tx (b + k) ∧ tx (b + k) ≤ 57) (hy : (99 < g 14 → y = g 14) ∧ (¬ 99 < g 14 → y = 10 * g 14 + tx (g 10) - 48)) : zFI tx g0 b (k + 1) (zup (zup g 14 y) 10 (g 10 + 1)) := by
  obtain ⟨h1, h2, h3, h4⟩ := h
  refine ⟨fun i i1 i2 => ?_, ?_, ?_, ?_⟩
  · rw [zup_ne _ _ i1, zup_ne _ _ i2]; exact h1 i i1 i2
  · rw [zup_same]; omega
  · simp (disch := decide) only [zup_same, zup_ne]
    rw [zvl, ← h3]
    by_cases q : 99 < g 14
    · rw [hy.1 q, if_pos q]
    · rw [hy.2 q, if_neg q, h2]
  · simp (disch := decide) only [zup_same, zup_ne]
    rw [h2] at hy
    by_cases q : 99 < g 14
    · rw [hy.1 q]; omega
    · rw [hy.2 q]; omega
theorem sp_X6_readsLetters {l : Launch} {d : Nat} {σ : zMem} {g0 : zR} {n b : Int} (hd : 2 ≤ d) (hx : ztx (σ 223) n) (hb : g0 11 = b) (hb1 : g0 10 = b) (h13 : g0 13 = 0) (hb0 : 0 ≤ b ∧ b ≤ n) (h60 : g0 6 = n) : zSp l d mX6_readsLetters [.ref 217] (zwa σ 217 g0) (fun a σ1 => ∃ (k : Nat) (g : zR), a = none ∧ σ1 = zwa σ 217 g ∧ zLO (σ 223) g0 n b k g) := by
  refine zSp_of oX6_readsLetters (Nat.le_of_ble_eq_true rfl) ?_
  show zw l d mX6_readsLetters 0 [some (.ref 217)] [] (zwa σ 217 g0) _
  have a9 : zwa σ 217 g0 217 = g0 := zwa_same _ _ _
  have a8 : zwa σ 217 g0 223 = σ 223 := zwa_ne _ _ (by decide)
  have hn := hx.1
  refine zw_aload_n 1 dX6_readsLetters_0 rfl rfl ?_
  refine zw_iconst 2 dX6_readsLetters_1 rfl ?_
  refine zw_ptz 5 15 dX6_readsLetters_2 rfl pX6_145 (by decide) rfl rfl ly217 (by omega) ?_
  try simp (disch := decide) only [zwr_wa, zwa_same, zup_same, zup_ne, zwa_ne]
  refine lpL_X6_readsLetters (σ := σ) (g0 := g0) (n := n) (b := b) (E := zwe (σ 223) n (n - b).toNat b) hd hx hb hb0.1 h60 (fun k g h1 h2 h3 => ?_) (n - b).toNat 0 _ (by omega) ⟨fun i i1 i2 i3 i4 => zup_ne _ _ i3, ?_, ?_, fun q => by omega, Or.inl (zup_same _ _ _), fun j hj => by omega⟩ (by rw [show b + ((0 : Nat) : Int) = b by omega])
  · have h11 : g 11 = b := by rw [h1.1 11 (by decide) (by decide) (by decide) (by decide)]; exact hb
    have h10 := h1.2.1
    refine zw_aload_n 135 dX6_readsLetters_134 rfl rfl ?_
    refine zw_aload_n 136 dX6_readsLetters_135 rfl rfl ?_
    refine zw_gti 139 10 dX6_readsLetters_136 rfl fX6_112 (by decide) rfl rfl ly217 ?_
    try simp (disch := decide) only [zwr_wa, zwa_same, zup_same, zup_ne, zwa_ne]
    refine zw_aload_n 140 dX6_readsLetters_139 rfl rfl ?_
    refine zw_gti 143 11 dX6_readsLetters_140 rfl fX6_123 (by decide) rfl rfl ly217 ?_
    try simp (disch := decide) only [zwr_wa, zwa_same, zup_same, zup_ne, zwa_ne]
    refine zw_isub 144 dX6_readsLetters_143 rfl ?_
    refine zw_pti 147 17 dX6_readsLetters_144 rfl pX6_152 (by decide) rfl rfl ly217 ?_
    try simp (disch := decide) only [zwr_wa, zwa_same, zup_same, zup_ne, zwa_ne]
    refine zw_vret dX6_readsLetters_147 rfl ?_
    exact ⟨k, _, rfl, rfl, fun i i1 i2 i3 i4 i5 => (zup_ne _ _ i5).trans (h1.1 i i1 i2 i3 i4), (zup_ne _ _ (by decide)).trans h10, (zup_ne _ _ (by decide)).trans h1.2.2.1, fun q => (zup_ne _ _ (by decide)).trans (h1.2.2.2.1 q), by rw [zup_same]; omega, h2, by omega⟩
  · rw [zup_ne _ _ (by decide)]; omega
  · rw [zup_ne _ _ (by decide), h13]; rfl
theorem lpF_X6_step {l : Launch} {d : Nat} {σ : zMem} {g0 : zR} {n b : Int} (hd : 2 ≤ d) (hx : ztx (σ 223) n) (hb0 : 0 ≤ b) (h60 : g0 6 = n) {E : Int} {Q : Option Value → zMem → Prop} (hQ : ∀ (k : Nat) (g : zR), zFI (σ 223) g0 b k g → b + k = E → E ≤ n → zw l d mX6_step 166 [some (.ref 217)] [] (zwa σ 217 g) Q) : ∀ (m k : Nat) (g : zR), b + k + m = n → zFI (σ 223) g0 b k g → zge (σ 223) n m (b + k) = E → zw l d mX6_step 106 [some (.ref 217)] [] (zwa σ 217 g) Q := by
  have hn := hx.1
  intro m
  induction m with
  | zero =>
    intro k g h1 h2 h3
    have a9 : zwa σ 217 g 217 = g := zwa_same _ _ _
    have a8 : zwa σ 217 g 223 = σ 223 := zwa_ne _ _ (by decide)
    have h6 : g 6 = n := by rw [h2.1 6 (by decide) (by decide)]; exact h60
    have h10 := h2.2.1
    have h14 := h2.2.2.2
    have zb := zig_b (σ 223) n (g 10)
    unfold zge at h3
    have z0 : zig (σ 223) n (g 10) = 0 := if_neg (by omega)
    refine zw_aload_n 107 dX6_step_106 rfl rfl ?_
    refine zw_callV 110 _ _ dX6_step_107 rfl kX6_142 qX6_isFigure ly217 ⟨_, rfl, rfl⟩ (by decide) (sp_X6_isFigure (d := d - 1) (σ := zwa σ 217 g) (by omega) (by rw [a9, a8, h6]; exact hx) (by rw [a9]; omega)) (by omega) rfl rfl (Nat.le_of_ble_eq_true rfl) (fun r σ' hq => ?_)
    obtain ⟨rfl, rfl⟩ := hq
    rw [a9, a8, h6]
    refine zw_if_eq 166 113 dX6_step_110 (by decide) rfl (by omega) (fun h110 => ?_) (fun h110 => ?_)
    · exact hQ k g h2 h3 (by omega)
    · exfalso; omega
  | succ m ih =>
    intro k g h1 h2 h3
    have a9 : zwa σ 217 g 217 = g := zwa_same _ _ _
    have a8 : zwa σ 217 g 223 = σ 223 := zwa_ne _ _ (by decide)
    have h6 : g 6 = n := by rw [h2.1 6 (by decide) (by decide)]; exact h60
    have h10 := h2.2.1
    have h14 := h2.2.2.2
    have zb := zig_b (σ 223) n (g 10)
    unfold zge at h3
    refine zw_aload_n 107 dX6_step_106 rfl rfl ?_
    refine zw_callV 110 _ _ dX6_step_107 rfl kX6_142 qX6_isFigure ly217 ⟨_, rfl, rfl⟩ (by decide) (sp_X6_isFigure (d := d - 1) (σ := zwa σ 217 g) (by omega) (by rw [a9, a8, h6]; exact hx) (by rw [a9]; omega)) (by omega) rfl rfl (Nat.le_of_ble_eq_true rfl) (fun r σ' hq => ?_)
    obtain ⟨rfl, rfl⟩ := hq
    rw [a9, a8, h6]
    refine zw_if_eq 166 113 dX6_step_110 (by decide) rfl (by omega) (fun h110 => ?_) (fun h110 => ?_)
    · rw [if_neg (by rw [← h10]; omega)] at h3
      exact hQ k g h2 h3 (by omega)
    · have z1 : zig (σ 223) n (g 10) = 1 := by omega
      have z2 : g 10 < n ∧ 48 ≤ σ 223 (g 10) ∧ σ 223 (g 10) ≤ 57 := by
        by_cases q : g 10 < n ∧ 48 ≤ σ 223 (g 10) ∧ σ 223 (g 10) ≤ 57
        · exact q
        · unfold zig at z1; rw [if_neg q] at z1; omega
      refine zw_aload_n 114 dX6_step_113 rfl rfl ?_
      refine zw_aload_n 115 dX6_step_114 rfl rfl ?_
      refine zw_gti 118 14 dX6_step_115 rfl fX6_129 (by decide) rfl rfl ly217 ?_
      try simp (disch := decide) only [zwr_wa, zwa_same, zup_same, zup_ne, zwa_ne]
      refine zw_bipush 120 dX6_step_118 rfl (by decide) ?_
      refine zw_icmp_le 130 123 dX6_step_120 (by decide) rfl (by omega) (by omega) (fun h120 => ?_) (fun h120 => ?_)
      · refine zw_bipush 132 dX6_step_130 rfl (by decide) ?_
        refine zw_aload_n 133 dX6_step_132 rfl rfl ?_
        refine zw_gti 136 14 dX6_step_133 rfl fX6_129 (by decide) rfl rfl ly217 ?_
        try simp (disch := decide) only [zwr_wa, zwa_same, zup_same, zup_ne, zwa_ne]
        refine zw_imul 137 dX6_step_136 rfl ?_
        refine zw_aload_n 138 dX6_step_137 rfl rfl ?_
        refine zw_getr 141 (223) (o := 6) dX6_step_138 rfl fX6_26 (by decide) rfl rfl ly217 ?_
        refine zw_aload_n 142 dX6_step_141 rfl rfl ?_
        refine zw_gti 145 10 dX6_step_142 rfl fX6_112 (by decide) rfl rfl ly217 ?_
        try simp (disch := decide) only [zwr_wa, zwa_same, zup_same, zup_ne, zwa_ne]
        refine zw_iald 146 dX6_step_145 rfl ly223 (by omega) ?_
        try simp (disch := decide) only [zwr_wa, zwa_same, zup_same, zup_ne, zwa_ne]
        refine zw_iadd 147 dX6_step_146 rfl ?_
        refine zw_bipush 149 dX6_step_147 rfl (by decide) ?_
        refine zw_isub 150 dX6_step_149 rfl ?_
        refine zw_pti 153 14 dX6_step_150 rfl pX6_129 (by decide) rfl rfl ly217 ?_
        try simp (disch := decide) only [zwr_wa, zwa_same, zup_same, zup_ne, zwa_ne]
        refine zw_aload_n 154 dX6_step_153 rfl rfl ?_
        refine zw_dup 155 dX6_step_154 rfl rfl ?_
        refine zw_gti 158 10 dX6_step_155 rfl fX6_112 (by decide) rfl rfl ly217 ?_
        try simp (disch := decide) only [zwr_wa, zwa_same, zup_same, zup_ne, zwa_ne]
        refine zw_iconst 159 dX6_step_158 rfl ?_
        refine zw_iadd 160 dX6_step_159 rfl ?_
        refine zw_pti 163 10 dX6_step_160 rfl pX6_112 (by decide) rfl rfl ly217 ?_
        try simp (disch := decide) only [zwr_wa, zwa_same, zup_same, zup_ne, zwa_ne]
        refine zw_goto 106 dX6_step_163 (by decide) ?_
        rw [if_pos (by rw [← h10]; exact z1)] at h3
        exact ih (k + 1) _ (by omega) (zFI_next h2 (by rw [← h10]; exact z2.2) ⟨fun _ => by omega, fun _ => by omega⟩) (by rw [show b + ((k + 1 : Nat) : Int) = b + k + 1 by omega]; exact h3)
      · refine zw_aload_n 124 dX6_step_123 rfl rfl ?_
        refine zw_gti 127 14 dX6_step_124 rfl fX6_129 (by decide) rfl rfl ly217 ?_
        try simp (disch := decide) only [zwr_wa, zwa_same, zup_same, zup_ne, zwa_ne]
        refine zw_goto 150 dX6_step_127 (by decide) ?_
        refine zw_pti 153 14 dX6_step_150 rfl pX6_129 (by decide) rfl rfl ly217 ?_
        try simp (disch := decide) only [zwr_wa, zwa_same, zup_same, zup_ne, zwa_ne]
        refine zw_aload_n 154 dX6_step_153 rfl rfl ?_
        refine zw_dup 155 dX6_step_154 rfl rfl ?_
        refine zw_gti 158 10 dX6_step_155 rfl fX6_112 (by decide) rfl rfl ly217 ?_
        try simp (disch := decide) only [zwr_wa, zwa_same, zup_same, zup_ne, zwa_ne]
        refine zw_iconst 159 dX6_step_158 rfl ?_
        refine zw_iadd 160 dX6_step_159 rfl ?_
        refine zw_pti 163 10 dX6_step_160 rfl pX6_112 (by decide) rfl rfl ly217 ?_
        try simp (disch := decide) only [zwr_wa, zwa_same, zup_same, zup_ne, zwa_ne]
        refine zw_goto 106 dX6_step_163 (by decide) ?_
        rw [if_pos (by rw [← h10]; exact z1)] at h3
        exact ih (k + 1) _ (by omega) (zFI_next h2 (by rw [← h10]; exact z2.2) ⟨fun _ => by omega, fun _ => by omega⟩) (by rw [show b + ((k + 1 : Nat) : Int) = b + k + 1 by omega]; exact h3)
