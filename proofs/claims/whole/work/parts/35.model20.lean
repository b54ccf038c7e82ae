def zil (tx : zR) (n i : Int) : Int := if i < n ∧ 97 ≤ tx i ∧ tx i ≤ 122 then 1 else 0
def zig (tx : zR) (n i : Int) : Int := if i < n ∧ 48 ≤ tx i ∧ tx i ≤ 57 then 1 else 0
/-- past the blanks / the letters / the figures -/
def zsk (tx : zR) (n : Int) : Nat → Int → Int
  | 0, i => i
  | m + 1, i => if i < n ∧ tx i = 32 then zsk tx n m (i + 1) else i
def zwe (tx : zR) (n : Int) : Nat → Int → Int
  | 0, i => i
  | m + 1, i => if zil tx n i = 1 then zwe tx n m (i + 1) else i
def zge (tx : zR) (n : Int) : Nat → Int → Int
  | 0, i => i
  | m + 1, i => if zig tx n i = 1 then zge tx n m (i + 1) else i
/-- the first k letters / figures from b, as a number -/
def zlt (tx : zR) (b : Int) : Nat → Int
  | 0 => 0
  | k + 1 => 32 * zlt tx b k + tx (b + k) - 96
def zvl (tx : zR) (b : Int) : Nat → Int
  | 0 => 0
  | k + 1 => if 99 < zvl tx b k then zvl tx b k else 10 * zvl tx b k + tx (b + k) - 48
/-- a text of n characters -/
def ztx (tx : zR) (n : Int) : Prop := (0 ≤ n ∧ n ≤ 150) ∧ ∀ i, 0 ≤ i → i < n → 0 ≤ tx i ∧ tx i ≤ 127
theorem zil_b (tx : zR) (n i : Int) : zil tx n i = 0 ∨ zil tx n i = 1 := by unfold zil; split <;> simp
theorem zig_b (tx : zR) (n i : Int) : zig tx n i = 0 ∨ zig tx n i = 1 := by unfold zig; split <;> simp
theorem sp_X6_isLetter {l : Launch} {d : Nat} {σ : zMem} (hd : 1 ≤ d) (hx : ztx (σ 223) (σ 217 6)) (hi : 0 ≤ σ 217 10 ∧ σ 217 10 ≤ σ 217 6)  : zSp l d mX6_isLetter [.ref 217] σ (zRi (zil (σ 223) (σ 217 6) (σ 217 10)) σ) := by
  refine zSp_of oX6_isLetter (Nat.le_of_ble_eq_true rfl) ?_
  show zw l d mX6_isLetter 0 [some (.ref 217)] [] σ _
  have hn := hx.1
  refine zw_aload_n 1 dX6_isLetter_0 rfl rfl ?_
  refine zw_gti 4 10 dX6_isLetter_1 rfl fX6_112 (by decide) rfl rfl ly217 ?_
  refine zw_aload_n 5 dX6_isLetter_4 rfl rfl ?_
  refine zw_gti 8 6 dX6_isLetter_5 rfl fX6_108 (by decide) rfl rfl ly217 ?_
  refine zw_icmp_ge 37 11 dX6_isLetter_8 (by decide) rfl (by omega) (by omega) (fun h8 => ?_) (fun h8 => ?_)
  · refine zw_iconst 38 dX6_isLetter_37 rfl ?_
    refine zw_zret dX6_isLetter_38 rfl (by omega) ?_
    first
      | exact ⟨by rw [show zil (σ 223) (σ 217 6) (σ 217 10) = 1 from if_pos (by omega)], rfl⟩
      | exact ⟨by rw [show zil (σ 223) (σ 217 6) (σ 217 10) = 0 from if_neg (by omega)], rfl⟩
  · have ht := hx.2 (σ 217 10) (by omega) (by omega)
    refine zw_aload_n 12 dX6_isLetter_11 rfl rfl ?_
    refine zw_getr 15 (223) (o := 6) dX6_isLetter_12 rfl fX6_26 (by decide) rfl rfl ly217 ?_
    refine zw_aload_n 16 dX6_isLetter_15 rfl rfl ?_
    refine zw_gti 19 10 dX6_isLetter_16 rfl fX6_112 (by decide) rfl rfl ly217 ?_
    refine zw_iald 20 dX6_isLetter_19 rfl ly223 (by omega) ?_
    refine zw_i2l 21 dX6_isLetter_20 rfl (by omega) ?_
    refine zw_ldc2 24 (97) dX6_isLetter_21 rfl cX6_115 ?_
    refine zw_ldc2 27 (122) dX6_isLetter_24 rfl cX6_117 ?_
    refine zw_callS 30 _ _ dX6_isLetter_27 rfl kX6_86 qX6_in (sp_X6_in (d := d - 1) (by omega) (by omega) (by omega)) (by omega) rfl rfl (Nat.le_of_ble_eq_true rfl) (fun r σ' hq => ?_)
    obtain ⟨rfl, rfl⟩ := hq
    refine zw_if_eq 37 33 dX6_isLetter_30 (by decide) rfl (by omega) (fun h30 => ?_) (fun h30 => ?_)
    · refine zw_iconst 38 dX6_isLetter_37 rfl ?_
      refine zw_zret dX6_isLetter_38 rfl (by omega) ?_
      first
        | exact ⟨by rw [show zil (σ 223) (σ 217 6) (σ 217 10) = 1 from if_pos (by omega)], rfl⟩
        | exact ⟨by rw [show zil (σ 223) (σ 217 6) (σ 217 10) = 0 from if_neg (by omega)], rfl⟩
    · refine zw_iconst 34 dX6_isLetter_33 rfl ?_
      refine zw_goto 38 dX6_isLetter_34 (by decide) ?_
      refine zw_zret dX6_isLetter_38 rfl (by omega) ?_
      first
        | exact ⟨by rw [show zil (σ 223) (σ 217 6) (σ 217 10) = 1 from if_pos (by omega)], rfl⟩
        | exact ⟨by rw [show zil (σ 223) (σ 217 6) (σ 217 10) = 0 from if_neg (by omega)], rfl⟩
theorem sp_X6_isFigure {l : Launch} {d : Nat} {σ : zMem} (hd : 1 ≤ d) (hx : ztx (σ 223) (σ 217 6)) (hi : 0 ≤ σ 217 10 ∧ σ 217 10 ≤ σ 217 6)  : zSp l d mX6_isFigure [.ref 217] σ (zRi (zig (σ 223) (σ 217 6) (σ 217 10)) σ) := by
  refine zSp_of oX6_isFigure (Nat.le_of_ble_eq_true rfl) ?_
  show zw l d mX6_isFigure 0 [some (.ref 217)] [] σ _
  have hn := hx.1
  refine zw_aload_n 1 dX6_isFigure_0 rfl rfl ?_
  refine zw_gti 4 10 dX6_isFigure_1 rfl fX6_112 (by decide) rfl rfl ly217 ?_
  refine zw_aload_n 5 dX6_isFigure_4 rfl rfl ?_
  refine zw_gti 8 6 dX6_isFigure_5 rfl fX6_108 (by decide) rfl rfl ly217 ?_
  refine zw_icmp_ge 37 11 dX6_isFigure_8 (by decide) rfl (by omega) (by omega) (fun h8 => ?_) (fun h8 => ?_)
  · refine zw_iconst 38 dX6_isFigure_37 rfl ?_
    refine zw_zret dX6_isFigure_38 rfl (by omega) ?_
    first
      | exact ⟨by rw [show zig (σ 223) (σ 217 6) (σ 217 10) = 1 from if_pos (by omega)], rfl⟩
      | exact ⟨by rw [show zig (σ 223) (σ 217 6) (σ 217 10) = 0 from if_neg (by omega)], rfl⟩
  · have ht := hx.2 (σ 217 10) (by omega) (by omega)
    refine zw_aload_n 12 dX6_isFigure_11 rfl rfl ?_
    refine zw_getr 15 (223) (o := 6) dX6_isFigure_12 rfl fX6_26 (by decide) rfl rfl ly217 ?_
    refine zw_aload_n 16 dX6_isFigure_15 rfl rfl ?_
    refine zw_gti 19 10 dX6_isFigure_16 rfl fX6_112 (by decide) rfl rfl ly217 ?_
    refine zw_iald 20 dX6_isFigure_19 rfl ly223 (by omega) ?_
    refine zw_i2l 21 dX6_isFigure_20 rfl (by omega) ?_
    refine zw_ldc2 24 (48) dX6_isFigure_21 rfl cX6_119 ?_
    refine zw_ldc2 27 (57) dX6_isFigure_24 rfl cX6_121 ?_
    refine zw_callS 30 _ _ dX6_isFigure_27 rfl kX6_86 qX6_in (sp_X6_in (d := d - 1) (by omega) (by omega) (by omega)) (by omega) rfl rfl (Nat.le_of_ble_eq_true rfl) (fun r σ' hq => ?_)
    obtain ⟨rfl, rfl⟩ := hq
    refine zw_if_eq 37 33 dX6_isFigure_30 (by decide) rfl (by omega) (fun h30 => ?_) (fun h30 => ?_)
    · refine zw_iconst 38 dX6_isFigure_37 rfl ?_
      refine zw_zret dX6_isFigure_38 rfl (by omega) ?_
      first
        | exact ⟨by rw [show zig (σ 223) (σ 217 6) (σ 217 10) = 1 from if_pos (by omega)], rfl⟩
        | exact ⟨by rw [show zig (σ 223) (σ 217 6) (σ 217 10) = 0 from if_neg (by omega)], rfl⟩
    · refine zw_iconst 34 dX6_isFigure_33 rfl ?_
      refine zw_goto 38 dX6_isFigure_34 (by decide) ?_
      refine zw_zret dX6_isFigure_38 rfl (by omega) ?_
      first
        | exact ⟨by rw [show zig (σ 223) (σ 217 6) (σ 217 10) = 1 from if_pos (by omega)], rfl⟩
        | exact ⟨by rw [show zig (σ 223) (σ 217 6) (σ 217 10) = 0 from if_neg (by omega)], rfl⟩
theorem lpS_X6_step {l : Launch} {d : Nat} {σ : zMem} {g0 : zR} {n : Int} (hx : ztx (σ 223) n) {E : Int} {Q : Option Value → zMem → Prop} (hQ : ∀ g : zR, (∀ i, i ≠ 10 → g i = g0 i) → g 10 = E → zw l d mX6_step 38 [some (.ref 217)] [] (zwa σ 217 g) Q) : ∀ (m : Nat) (g : zR), g 10 + m = n → 0 ≤ g 10 → g 6 = n → (∀ i, i ≠ 10 → g i = g0 i) → zsk (σ 223) n m (g 10) = E → zw l d mX6_step 0 [some (.ref 217)] [] (zwa σ 217 g) Q := by
  have hn := hx.1
  intro m
  induction m with
  | zero =>
    intro g h1 h2 h3 h4 h5
    unfold zsk at h5
    refine zw_aload_n 1 dX6_step_0 rfl rfl ?_
    refine zw_gti 4 10 dX6_step_1 rfl fX6_112 (by decide) rfl rfl ly217 ?_
    try simp (disch := decide) only [zwr_wa, zwa_same, zup_same, zup_ne, zwa_ne]
    refine zw_aload_n 5 dX6_step_4 rfl rfl ?_
    refine zw_gti 8 6 dX6_step_5 rfl fX6_108 (by decide) rfl rfl ly217 ?_
    try simp (disch := decide) only [zwr_wa, zwa_same, zup_same, zup_ne, zwa_ne]
    refine zw_icmp_ge 38 11 dX6_step_8 (by decide) rfl (by omega) (by omega) (fun h8 => ?_) (fun h8 => ?_)
    · exact hQ g h4 h5
    · exfalso; omega
  | succ m ih =>
    intro g h1 h2 h3 h4 h5
    have ht := hx.2 (g 10) h2 (by omega)
    unfold zsk at h5
    refine zw_aload_n 1 dX6_step_0 rfl rfl ?_
    refine zw_gti 4 10 dX6_step_1 rfl fX6_112 (by decide) rfl rfl ly217 ?_
    try simp (disch := decide) only [zwr_wa, zwa_same, zup_same, zup_ne, zwa_ne]
    refine zw_aload_n 5 dX6_step_4 rfl rfl ?_
    refine zw_gti 8 6 dX6_step_5 rfl fX6_108 (by decide) rfl rfl ly217 ?_
    try simp (disch := decide) only [zwr_wa, zwa_same, zup_same, zup_ne, zwa_ne]
    refine zw_icmp_ge 38 11 dX6_step_8 (by decide) rfl (by omega) (by omega) (fun h8 => ?_) (fun h8 => ?_)
    · first
        | (exfalso; omega)
        | (rw [if_neg (by intro q; exact absurd q.2 (by assumption))] at h5; exact hQ g h4 h5)
    · refine zw_aload_n 12 dX6_step_11 rfl rfl ?_
      refine zw_getr 15 (223) (o := 6) dX6_step_12 rfl fX6_26 (by decide) rfl rfl ly217 ?_
      refine zw_aload_n 16 dX6_step_15 rfl rfl ?_
      refine zw_gti 19 10 dX6_step_16 rfl fX6_112 (by decide) rfl rfl ly217 ?_
      try simp (disch := decide) only [zwr_wa, zwa_same, zup_same, zup_ne, zwa_ne]
      refine zw_iald 20 dX6_step_19 rfl ly223 (by omega) ?_
      try simp (disch := decide) only [zwr_wa, zwa_same, zup_same, zup_ne, zwa_ne]
      refine zw_bipush 22 dX6_step_20 rfl (by decide) ?_
      refine zw_icmp_ne 38 25 dX6_step_22 (by decide) rfl (by omega) (by omega) (fun h22 => ?_) (fun h22 => ?_)
      · first
          | (exfalso; omega)
          | (rw [if_neg (by intro q; exact absurd q.2 (by assumption))] at h5; exact hQ g h4 h5)
      · refine zw_aload_n 26 dX6_step_25 rfl rfl ?_
        refine zw_dup 27 dX6_step_26 rfl rfl ?_
        refine zw_gti 30 10 dX6_step_27 rfl fX6_112 (by decide) rfl rfl ly217 ?_
        try simp (disch := decide) only [zwr_wa, zwa_same, zup_same, zup_ne, zwa_ne]
        refine zw_iconst 31 dX6_step_30 rfl ?_
        refine zw_iadd 32 dX6_step_31 rfl ?_
        refine zw_pti 35 10 dX6_step_32 rfl pX6_112 (by decide) rfl rfl ly217 ?_
        try simp (disch := decide) only [zwr_wa, zwa_same, zup_same, zup_ne, zwa_ne]
        refine zw_goto 0 dX6_step_35 (by decide) ?_
        rw [if_pos (show g 10 < n ∧ σ 223 (g 10) = 32 from ⟨by omega, by omega⟩)] at h5
        exact ih _ (by rw [zup_same]; omega) (by rw [zup_same]; omega) (by rw [zup_ne _ _ (by decide)]; exact h3) (fun i hi => by rw [zup_ne _ _ hi]; exact h4 i hi) (by rw [zup_same]; exact h5)
