theorem zup_id {f : zR} {i x : Int} (h : f i = x) : zup f i x = f := by
  funext j; unfold zup; split
  · rename_i e; rw [e, h]
  · rfl
theorem zup_twice (f : zR) (i x y : Int) : zup (zup f i x) i y = zup f i y := by
  funext j; unfold zup; split <;> rfl
/-- the reader's cell after the token at i -/
def zCo (tx : zR) (n i : Int) (g0 g : zR) : Prop := (∀ j, j < 2 ∨ 5 < j → g j = g0 j) ∧ g 2 = zTb tx n i ∧ g 3 = zTe tx n i ∧ g 4 = zTk tx n i ∧ (zTk tx n i = 2 → g 5 = zTv tx n i ∧ 0 ≤ g 5 ∧ g 5 ≤ 999)
/-- the text that the class holds -/
def zt7 (σ : zMem) (tx : zR) (n : Int) : Prop := ∀ i, 0 ≤ i → i < n → σ 107 i = tx i
theorem sp_X4_isLetter {l : Launch} {d : Nat} {σ : zMem} {i v : Int} (hi : 0 ≤ i ∧ i < 150) (hv : σ 107 i = v) (hb : 0 ≤ v ∧ v ≤ 127)  : zSp l d mX4_isLetter [.ref 106, .int (zI i)] σ (zRi (if 97 ≤ v ∧ v ≤ 122 then 1 else 0) σ) := by
  refine zSp_of oX4_isLetter (Nat.le_of_ble_eq_true rfl) ?_
  show zw l d mX4_isLetter 0 [some (.ref 106), some (.int (zI i))] [] σ _
  refine zw_aload_n 1 dX4_isLetter_0 rfl rfl ?_
  refine zw_getr 4 (107) (o := 1) dX4_isLetter_1 rfl fX4_11 (by decide) rfl rfl ly106 ?_
  refine zw_iload_n 5 dX4_isLetter_4 rfl rfl ?_
  refine zw_bald 6 dX4_isLetter_5 rfl ly107 (by omega) ?_
  rw [hv]
  refine zw_bipush 8 dX4_isLetter_6 rfl (by decide) ?_
  refine zw_icmp_lt 26 11 dX4_isLetter_8 (by decide) rfl (by omega) (by omega) (fun h8 => ?_) (fun h8 => ?_)
  · refine zw_iconst 27 dX4_isLetter_26 rfl ?_
    refine zw_zret dX4_isLetter_27 rfl (by omega) ?_
    first
      | exact zRi_of (by rw [if_pos (by omega)])
      | exact zRi_of (by rw [if_neg (by omega)])
  · refine zw_aload_n 12 dX4_isLetter_11 rfl rfl ?_
    refine zw_getr 15 (107) (o := 1) dX4_isLetter_12 rfl fX4_11 (by decide) rfl rfl ly106 ?_
    refine zw_iload_n 16 dX4_isLetter_15 rfl rfl ?_
    refine zw_bald 17 dX4_isLetter_16 rfl ly107 (by omega) ?_
    rw [hv]
    refine zw_bipush 19 dX4_isLetter_17 rfl (by decide) ?_
    refine zw_icmp_gt 26 22 dX4_isLetter_19 (by decide) rfl (by omega) (by omega) (fun h19 => ?_) (fun h19 => ?_)
    · refine zw_iconst 27 dX4_isLetter_26 rfl ?_
      refine zw_zret dX4_isLetter_27 rfl (by omega) ?_
      first
        | exact zRi_of (by rw [if_pos (by omega)])
        | exact zRi_of (by rw [if_neg (by omega)])
    · refine zw_iconst 23 dX4_isLetter_22 rfl ?_
      refine zw_goto 27 dX4_isLetter_23 (by decide) ?_
      refine zw_zret dX4_isLetter_27 rfl (by omega) ?_
      first
        | exact zRi_of (by rw [if_pos (by omega)])
        | exact zRi_of (by rw [if_neg (by omega)])
theorem sp_X4_isFigure {l : Launch} {d : Nat} {σ : zMem} {i v : Int} (hi : 0 ≤ i ∧ i < 150) (hv : σ 107 i = v) (hb : 0 ≤ v ∧ v ≤ 127)  : zSp l d mX4_isFigure [.ref 106, .int (zI i)] σ (zRi (if 48 ≤ v ∧ v ≤ 57 then 1 else 0) σ) := by
  refine zSp_of oX4_isFigure (Nat.le_of_ble_eq_true rfl) ?_
  show zw l d mX4_isFigure 0 [some (.ref 106), some (.int (zI i))] [] σ _
  refine zw_aload_n 1 dX4_isFigure_0 rfl rfl ?_
  refine zw_getr 4 (107) (o := 1) dX4_isFigure_1 rfl fX4_11 (by decide) rfl rfl ly106 ?_
  refine zw_iload_n 5 dX4_isFigure_4 rfl rfl ?_
  refine zw_bald 6 dX4_isFigure_5 rfl ly107 (by omega) ?_
  rw [hv]
  refine zw_bipush 8 dX4_isFigure_6 rfl (by decide) ?_
  refine zw_icmp_lt 26 11 dX4_isFigure_8 (by decide) rfl (by omega) (by omega) (fun h8 => ?_) (fun h8 => ?_)
  · refine zw_iconst 27 dX4_isFigure_26 rfl ?_
    refine zw_zret dX4_isFigure_27 rfl (by omega) ?_
    first
      | exact zRi_of (by rw [if_pos (by omega)])
      | exact zRi_of (by rw [if_neg (by omega)])
  · refine zw_aload_n 12 dX4_isFigure_11 rfl rfl ?_
    refine zw_getr 15 (107) (o := 1) dX4_isFigure_12 rfl fX4_11 (by decide) rfl rfl ly106 ?_
    refine zw_iload_n 16 dX4_isFigure_15 rfl rfl ?_
    refine zw_bald 17 dX4_isFigure_16 rfl ly107 (by omega) ?_
    rw [hv]
    refine zw_bipush 19 dX4_isFigure_17 rfl (by decide) ?_
    refine zw_icmp_gt 26 22 dX4_isFigure_19 (by decide) rfl (by omega) (by omega) (fun h19 => ?_) (fun h19 => ?_)
    · refine zw_iconst 27 dX4_isFigure_26 rfl ?_
      refine zw_zret dX4_isFigure_27 rfl (by omega) ?_
      first
        | exact zRi_of (by rw [if_pos (by omega)])
        | exact zRi_of (by rw [if_neg (by omega)])
    · refine zw_iconst 23 dX4_isFigure_22 rfl ?_
      refine zw_goto 27 dX4_isFigure_23 (by decide) ?_
      refine zw_zret dX4_isFigure_27 rfl (by omega) ?_
      first
        | exact zRi_of (by rw [if_pos (by omega)])
        | exact zRi_of (by rw [if_neg (by omega)])
theorem lp_X4_stepWord {l : Launch} {d : Nat} {σ : zMem} (hd : 1 ≤ d) {tx : zR} {n : Int} (hx : ztx tx n) (h7 : zt7 σ tx n) : ∀ (m : Nat) (e : Int) (g : zR), e + m = n → 0 ≤ e → g 3 = e → g 1 = n → zw l d mX4_stepWord 0 [some (.ref 106)] [] (zwa σ 106 g) (zRv (zwa σ 106 (zup (zup g 3 (zwe tx n m e)) 4 1))) := by
  intro m
  have hn := hx.1
  induction m with
  | zero =>
    intro e g hk h0 h3 h1
    refine zw_aload_n 1 dX4_stepWord_0 rfl rfl ?_
    refine zw_gti 4 3 dX4_stepWord_1 rfl fX4_24 (by decide) rfl rfl ly106 ?_
    rw [zwa_same, h3]
    refine zw_aload_n 5 dX4_stepWord_4 rfl rfl ?_
    refine zw_gti 8 1 dX4_stepWord_5 rfl fX4_93 (by decide) rfl rfl ly106 ?_
    rw [zwa_same, h1]
    refine zw_icmp_ge 35 11 dX4_stepWord_8 (by decide) rfl (by omega) (by omega) (fun h8 => ?_) (fun h8 => ?_)
    · refine zw_aload_n 36 dX4_stepWord_35 rfl rfl ?_
      refine zw_iconst 37 dX4_stepWord_36 rfl ?_
      refine zw_pti 40 4 dX4_stepWord_37 rfl pX4_31 (by decide) rfl rfl ly106 ?_
      rw [zwr_wa]
      refine zw_vret dX4_stepWord_40 rfl ?_
      exact ⟨rfl, by unfold zwe; rw [zup_id h3]⟩
    · exfalso; omega
  | succ m ih =>
    intro e g hk h0 h3 h1
    have hb := hx.2 e h0 (by omega)
    refine zw_aload_n 1 dX4_stepWord_0 rfl rfl ?_
    refine zw_gti 4 3 dX4_stepWord_1 rfl fX4_24 (by decide) rfl rfl ly106 ?_
    rw [zwa_same, h3]
    refine zw_aload_n 5 dX4_stepWord_4 rfl rfl ?_
    refine zw_gti 8 1 dX4_stepWord_5 rfl fX4_93 (by decide) rfl rfl ly106 ?_
    rw [zwa_same, h1]
    refine zw_icmp_ge 35 11 dX4_stepWord_8 (by decide) rfl (by omega) (by omega) (fun h8 => ?_) (fun h8 => ?_)
    · refine zw_aload_n 36 dX4_stepWord_35 rfl rfl ?_
      refine zw_iconst 37 dX4_stepWord_36 rfl ?_
      refine zw_pti 40 4 dX4_stepWord_37 rfl pX4_31 (by decide) rfl rfl ly106 ?_
      rw [zwr_wa]
      refine zw_vret dX4_stepWord_40 rfl ?_
      first
        | (exfalso; omega)
        | (have q : ¬ zil tx n e = 1 := by
             unfold zil; rw [if_neg (by omega)]; omega
           exact ⟨rfl, by rw [show zwe tx n (m + 1) e = e from if_neg q, zup_id h3]⟩)
    · refine zw_aload_n 12 dX4_stepWord_11 rfl rfl ?_
      refine zw_aload_n 13 dX4_stepWord_12 rfl rfl ?_
      refine zw_gti 16 3 dX4_stepWord_13 rfl fX4_24 (by decide) rfl rfl ly106 ?_
      rw [zwa_same, h3]
      refine zw_callV 19 _ _ dX4_stepWord_16 rfl kX4_96 qX4_isLetter ly106 ⟨_, rfl, rfl⟩ (by decide) (sp_X4_isLetter (d := d - 1) (i := e) (v := tx (e)) (by omega) (by rw [zwa_ne _ _ (by decide)]; exact h7 _ (by omega) (by omega)) (hx.2 _ (by omega) (by omega))) (by omega) rfl rfl (Nat.le_of_ble_eq_true rfl) (fun r σ' hq => ?_)
      obtain ⟨rfl, rfl⟩ := hq
      refine zw_if_eq 35 22 dX4_stepWord_19 (by decide) rfl (by omega) (fun h19 => ?_) (fun h19 => ?_)
      · refine zw_aload_n 36 dX4_stepWord_35 rfl rfl ?_
        refine zw_iconst 37 dX4_stepWord_36 rfl ?_
        refine zw_pti 40 4 dX4_stepWord_37 rfl pX4_31 (by decide) rfl rfl ly106 ?_
        rw [zwr_wa]
        refine zw_vret dX4_stepWord_40 rfl ?_
        first
          | (exfalso; omega)
          | (have q : ¬ zil tx n e = 1 := by
               unfold zil; rw [if_neg (by omega)]; omega
             exact ⟨rfl, by rw [show zwe tx n (m + 1) e = e from if_neg q, zup_id h3]⟩)
      · refine zw_aload_n 23 dX4_stepWord_22 rfl rfl ?_
        refine zw_dup 24 dX4_stepWord_23 rfl rfl ?_
        refine zw_gti 27 3 dX4_stepWord_24 rfl fX4_24 (by decide) rfl rfl ly106 ?_
        rw [zwa_same, h3]
        refine zw_iconst 28 dX4_stepWord_27 rfl ?_
        refine zw_iadd 29 dX4_stepWord_28 rfl ?_
        refine zw_pti 32 3 dX4_stepWord_29 rfl pX4_24 (by decide) rfl rfl ly106 ?_
        rw [zwr_wa]
        refine zw_goto 0 dX4_stepWord_32 (by decide) ?_
        have q : zil tx n e = 1 := by unfold zil; rw [if_pos (by omega)]
        have ih2 := ih (e + 1) (zup g 3 (e + 1)) (by omega) (by omega) (zup_same _ _ _) ((zup_ne _ _ (by decide)).trans h1)
        rw [zup_twice] at ih2
        rw [show zwe tx n (m + 1) e = zwe tx n m (e + 1) from if_pos q]
        exact ih2
theorem zvl_2 {tx : zR} {b : Int} {k : Nat} (hk : k ≤ 2) (h : ∀ j : Nat, j < k → 48 ≤ tx (b + j) ∧ tx (b + j) ≤ 57) : 0 ≤ zvl tx b k ∧ zvl tx b k ≤ 99 ∧ (k ≤ 1 → zvl tx b k ≤ 9) := by
  rcases (by omega : k = 0 ∨ k = 1 ∨ k = 2) with rfl | rfl | rfl
  · show (0 : Int) ≤ 0 ∧ (0 : Int) ≤ 99 ∧ _
    exact ⟨by omega, by omega, fun _ => by show (0 : Int) ≤ 9; omega⟩
  · have h0 := h 0 (by omega)
    have e : zvl tx b 1 = 10 * 0 + tx (b + (0 : Nat)) - 48 := rfl
    omega
  · have h0 := h 0 (by omega)
    have h1 := h 1 (by omega)
    have e1 : zvl tx b 1 = 10 * 0 + tx (b + (0 : Nat)) - 48 := rfl
    have e : zvl tx b 2 = if 99 < zvl tx b 1 then zvl tx b 1 else 10 * zvl tx b 1 + tx (b + (1 : Nat)) - 48 := rfl
    rw [if_neg (by omega)] at e
    omega
theorem zvl_s {tx : zR} {b : Int} {k : Nat} (hk : k ≤ 1) (h : ∀ j : Nat, j < k → 48 ≤ tx (b + j) ∧ tx (b + j) ≤ 57) : zvl tx b (k + 1) = zvl tx b k * 10 + tx (b + k) - 48 := by
  have := zvl_2 (by omega) h
  show (if 99 < zvl tx b k then zvl tx b k else 10 * zvl tx b k + tx (b + k) - 48) = _
  rw [if_neg (by omega)]; omega
theorem lp_X4_stepNumber {l : Launch} {d : Nat} {σ : zMem} (hd : 1 ≤ d) {tx : zR} {n : Int} (hx : ztx tx n) (h7 : zt7 σ tx n) {g0 : zR} {b E : Int} : ∀ (m k : Nat) (g : zR), b + k + m = n → 0 ≤ b → zge tx n m (b + k) = E → g 3 = b + k → g 2 = b → g 1 = n → (∀ j, j ≠ 3 → j ≠ 5 → j ≠ 4 → g j = g0 j) → (∀ j : Nat, j < k → 48 ≤ tx (b + j) ∧ tx (b + j) ≤ 57) → (k ≤ 2 → g 5 = zvl tx b k) → zw l d mX4_stepNumber 5 [some (.ref 106)] [] (zwa σ 106 g) (fun a σ1 => ∃ g', a = none ∧ σ1 = zwa σ 106 g' ∧ (∀ j, j ≠ 3 → j ≠ 4 → j ≠ 5 → g' j = g0 j) ∧ g' 3 = E ∧ g' 4 = (if 2 < E - b then 4 else 2) ∧ (¬ 2 < E - b → g' 5 = zvl tx b (E - b).toNat ∧ 0 ≤ g' 5 ∧ g' 5 ≤ 999)) := by
  intro m
  have hn := hx.1
  induction m with
  | zero =>
    intro k g hk h0 hE h3 h2 h1 hf0 hd2 hv
    have hf : ∀ j, j ≠ 3 → j ≠ 5 → g j = g j := fun _ _ _ => rfl
    have hw2 : k ≤ 2 → 0 ≤ zvl tx b k ∧ zvl tx b k ≤ 999 := fun q => by have := zvl_2 q hd2; omega
    have hE2 : E = b + (k : Int) := by rw [← hE]; rfl
    subst hE2
    refine zw_aload_n 6 dX4_stepNumber_5 rfl rfl ?_
    refine zw_gti 9 3 dX4_stepNumber_6 rfl fX4_24 (by decide) rfl rfl ly106 ?_
    rw [zwa_same, h3]
    refine zw_aload_n 10 dX4_stepNumber_9 rfl rfl ?_
    refine zw_gti 13 1 dX4_stepNumber_10 rfl fX4_93 (by decide) rfl rfl ly106 ?_
    rw [zwa_same, h1]
    refine zw_icmp_ge 81 16 dX4_stepNumber_13 (by decide) rfl (by omega) (by omega) (fun h13 => ?_) (fun h13 => ?_)
    · refine zw_aload_n 82 dX4_stepNumber_81 rfl rfl ?_
      refine zw_aload_n 83 dX4_stepNumber_82 rfl rfl ?_
      refine zw_gti 86 3 dX4_stepNumber_83 rfl fX4_24 (by decide) rfl rfl ly106 ?_
      rw [zwa_same, h3]
      refine zw_aload_n 87 dX4_stepNumber_86 rfl rfl ?_
      refine zw_gti 90 2 dX4_stepNumber_87 rfl fX4_90 (by decide) rfl rfl ly106 ?_
      rw [zwa_same, h2]
      refine zw_isub 91 dX4_stepNumber_90 rfl ?_
      refine zw_iconst 92 dX4_stepNumber_91 rfl ?_
      refine zw_icmp_gt 99 95 dX4_stepNumber_92 (by decide) rfl (by omega) (by omega) (fun h92 => ?_) (fun h92 => ?_)
      · refine zw_iconst 100 dX4_stepNumber_99 rfl ?_
        refine zw_pti 103 4 dX4_stepNumber_100 rfl pX4_31 (by decide) rfl rfl ly106 ?_
        rw [zwr_wa]
        refine zw_vret dX4_stepNumber_103 rfl ?_
        refine ⟨_, rfl, rfl, fun j j1 j2 j3 => ?_, ?_, ?_, fun hE => ?_⟩
        · rw [zup_ne _ _ j2]; exact hf0 j j1 j3 j2
        · rw [zup_ne _ _ (by decide), h3, show b + (k : Int) = b + (k : Int) from rfl]
        · rw [zup_same, show b + (k : Int) = b + (k : Int) from rfl]; first | rw [if_pos (by omega)] | rw [if_neg (by omega)]
        · rw [show b + (k : Int) = b + (k : Int) from rfl] at hE ⊢
          have := hv (by omega)
          rw [zup_ne _ _ (by decide), this, show (b + (k : Int) - b).toNat = k by omega]
          exact ⟨rfl, hw2 (by omega)⟩
      · refine zw_iconst 96 dX4_stepNumber_95 rfl ?_
        refine zw_goto 100 dX4_stepNumber_96 (by decide) ?_
        refine zw_pti 103 4 dX4_stepNumber_100 rfl pX4_31 (by decide) rfl rfl ly106 ?_
        rw [zwr_wa]
        refine zw_vret dX4_stepNumber_103 rfl ?_
        refine ⟨_, rfl, rfl, fun j j1 j2 j3 => ?_, ?_, ?_, fun hE => ?_⟩
        · rw [zup_ne _ _ j2]; exact hf0 j j1 j3 j2
        · rw [zup_ne _ _ (by decide), h3, show b + (k : Int) = b + (k : Int) from rfl]
        · rw [zup_same, show b + (k : Int) = b + (k : Int) from rfl]; first | rw [if_pos (by omega)] | rw [if_neg (by omega)]
        · rw [show b + (k : Int) = b + (k : Int) from rfl] at hE ⊢
          have := hv (by omega)
          rw [zup_ne _ _ (by decide), this, show (b + (k : Int) - b).toNat = k by omega]
          exact ⟨rfl, hw2 (by omega)⟩
    · exfalso; omega
  | succ m ih =>
    intro k g hk h0 hE h3 h2 h1 hf0 hd2 hv
    have hb := hx.2 (b + k) (by omega) (by omega)
    have hw2 : k ≤ 2 → 0 ≤ zvl tx b k ∧ zvl tx b k ≤ 999 := fun q => by have := zvl_2 q hd2; omega
    refine zw_aload_n 6 dX4_stepNumber_5 rfl rfl ?_
    refine zw_gti 9 3 dX4_stepNumber_6 rfl fX4_24 (by decide) rfl rfl ly106 ?_
    rw [zwa_same, h3]
    refine zw_aload_n 10 dX4_stepNumber_9 rfl rfl ?_
    refine zw_gti 13 1 dX4_stepNumber_10 rfl fX4_93 (by decide) rfl rfl ly106 ?_
    rw [zwa_same, h1]
    refine zw_icmp_ge 81 16 dX4_stepNumber_13 (by decide) rfl (by omega) (by omega) (fun h13 => ?_) (fun h13 => ?_)
    · refine zw_aload_n 82 dX4_stepNumber_81 rfl rfl ?_
      refine zw_aload_n 83 dX4_stepNumber_82 rfl rfl ?_
      refine zw_gti 86 3 dX4_stepNumber_83 rfl fX4_24 (by decide) rfl rfl ly106 ?_
      rw [zwa_same, h3]
      refine zw_aload_n 87 dX4_stepNumber_86 rfl rfl ?_
      refine zw_gti 90 2 dX4_stepNumber_87 rfl fX4_90 (by decide) rfl rfl ly106 ?_
      rw [zwa_same, h2]
      refine zw_isub 91 dX4_stepNumber_90 rfl ?_
      refine zw_iconst 92 dX4_stepNumber_91 rfl ?_
      refine zw_icmp_gt 99 95 dX4_stepNumber_92 (by decide) rfl (by omega) (by omega) (fun h92 => ?_) (fun h92 => ?_)
      · refine zw_iconst 100 dX4_stepNumber_99 rfl ?_
        refine zw_pti 103 4 dX4_stepNumber_100 rfl pX4_31 (by decide) rfl rfl ly106 ?_
        rw [zwr_wa]
        refine zw_vret dX4_stepNumber_103 rfl ?_
        first
          | (exfalso; omega)
          | (have q : ¬ zig tx n (b + k) = 1 := by
               unfold zig; rw [if_neg (by omega)]; omega
             have hE2 : E = b + (k : Int) := by rw [← hE]; exact if_neg q
             subst hE2
             refine ⟨_, rfl, rfl, fun j j1 j2 j3 => ?_, ?_, ?_, fun hE => ?_⟩
             · rw [zup_ne _ _ j2]; exact hf0 j j1 j3 j2
             · rw [zup_ne _ _ (by decide), h3, show b + (k : Int) = b + (k : Int) from rfl]
             · rw [zup_same, show b + (k : Int) = b + (k : Int) from rfl]; first | rw [if_pos (by omega)] | rw [if_neg (by omega)]
             · rw [show b + (k : Int) = b + (k : Int) from rfl] at hE ⊢
               have := hv (by omega)
               rw [zup_ne _ _ (by decide), this, show (b + (k : Int) - b).toNat = k by omega]
               exact ⟨rfl, hw2 (by omega)⟩)
      · refine zw_iconst 96 dX4_stepNumber_95 rfl ?_
        refine zw_goto 100 dX4_stepNumber_96 (by decide) ?_
        refine zw_pti 103 4 dX4_stepNumber_100 rfl pX4_31 (by decide) rfl rfl ly106 ?_
        rw [zwr_wa]
        refine zw_vret dX4_stepNumber_103 rfl ?_
        first
          | (exfalso; omega)
          | (have q : ¬ zig tx n (b + k) = 1 := by
               unfold zig; rw [if_neg (by omega)]; omega
             have hE2 : E = b + (k : Int) := by rw [← hE]; exact if_neg q
             subst hE2
             refine ⟨_, rfl, rfl, fun j j1 j2 j3 => ?_, ?_, ?_, fun hE => ?_⟩
             · rw [zup_ne _ _ j2]; exact hf0 j j1 j3 j2
             · rw [zup_ne _ _ (by decide), h3, show b + (k : Int) = b + (k : Int) from rfl]
             · rw [zup_same, show b + (k : Int) = b + (k : Int) from rfl]; first | rw [if_pos (by omega)] | rw [if_neg (by omega)]
             · rw [show b + (k : Int) = b + (k : Int) from rfl] at hE ⊢
               have := hv (by omega)
               rw [zup_ne _ _ (by decide), this, show (b + (k : Int) - b).toNat = k by omega]
               exact ⟨rfl, hw2 (by omega)⟩)
    · refine zw_aload_n 17 dX4_stepNumber_16 rfl rfl ?_
      refine zw_aload_n 18 dX4_stepNumber_17 rfl rfl ?_
      refine zw_gti 21 3 dX4_stepNumber_18 rfl fX4_24 (by decide) rfl rfl ly106 ?_
      rw [zwa_same, h3]
      refine zw_callV 24 _ _ dX4_stepNumber_21 rfl kX4_103 qX4_isFigure ly106 ⟨_, rfl, rfl⟩ (by decide) (sp_X4_isFigure (d := d - 1) (i := b + k) (v := tx (b + k)) (by omega) (by rw [zwa_ne _ _ (by decide)]; exact h7 _ (by omega) (by omega)) (hx.2 _ (by omega) (by omega))) (by omega) rfl rfl (Nat.le_of_ble_eq_true rfl) (fun r σ' hq => ?_)
      obtain ⟨rfl, rfl⟩ := hq
      refine zw_if_eq 81 27 dX4_stepNumber_24 (by decide) rfl (by omega) (fun h24 => ?_) (fun h24 => ?_)
      · refine zw_aload_n 82 dX4_stepNumber_81 rfl rfl ?_
        refine zw_aload_n 83 dX4_stepNumber_82 rfl rfl ?_
        refine zw_gti 86 3 dX4_stepNumber_83 rfl fX4_24 (by decide) rfl rfl ly106 ?_
        rw [zwa_same, h3]
        refine zw_aload_n 87 dX4_stepNumber_86 rfl rfl ?_
        refine zw_gti 90 2 dX4_stepNumber_87 rfl fX4_90 (by decide) rfl rfl ly106 ?_
        rw [zwa_same, h2]
        refine zw_isub 91 dX4_stepNumber_90 rfl ?_
        refine zw_iconst 92 dX4_stepNumber_91 rfl ?_
        refine zw_icmp_gt 99 95 dX4_stepNumber_92 (by decide) rfl (by omega) (by omega) (fun h92 => ?_) (fun h92 => ?_)
        · refine zw_iconst 100 dX4_stepNumber_99 rfl ?_
          refine zw_pti 103 4 dX4_stepNumber_100 rfl pX4_31 (by decide) rfl rfl ly106 ?_
          rw [zwr_wa]
          refine zw_vret dX4_stepNumber_103 rfl ?_
          first
            | (exfalso; omega)
            | (have q : ¬ zig tx n (b + k) = 1 := by
                 unfold zig; rw [if_neg (by omega)]; omega
               have hE2 : E = b + (k : Int) := by rw [← hE]; exact if_neg q
               subst hE2
               refine ⟨_, rfl, rfl, fun j j1 j2 j3 => ?_, ?_, ?_, fun hE => ?_⟩
               · rw [zup_ne _ _ j2]; exact hf0 j j1 j3 j2
               · rw [zup_ne _ _ (by decide), h3, show b + (k : Int) = b + (k : Int) from rfl]
               · rw [zup_same, show b + (k : Int) = b + (k : Int) from rfl]; first | rw [if_pos (by omega)] | rw [if_neg (by omega)]
               · rw [show b + (k : Int) = b + (k : Int) from rfl] at hE ⊢
                 have := hv (by omega)
                 rw [zup_ne _ _ (by decide), this, show (b + (k : Int) - b).toNat = k by omega]
                 exact ⟨rfl, hw2 (by omega)⟩)
        · refine zw_iconst 96 dX4_stepNumber_95 rfl ?_
          refine zw_goto 100 dX4_stepNumber_96 (by decide) ?_
          refine zw_pti 103 4 dX4_stepNumber_100 rfl pX4_31 (by decide) rfl rfl ly106 ?_
          rw [zwr_wa]
          refine zw_vret dX4_stepNumber_103 rfl ?_
          first
            | (exfalso; omega)
            | (have q : ¬ zig tx n (b + k) = 1 := by
                 unfold zig; rw [if_neg (by omega)]; omega
               have hE2 : E = b + (k : Int) := by rw [← hE]; exact if_neg q
               subst hE2
               refine ⟨_, rfl, rfl, fun j j1 j2 j3 => ?_, ?_, ?_, fun hE => ?_⟩
               · rw [zup_ne _ _ j2]; exact hf0 j j1 j3 j2
               · rw [zup_ne _ _ (by decide), h3, show b + (k : Int) = b + (k : Int) from rfl]
               · rw [zup_same, show b + (k : Int) = b + (k : Int) from rfl]; first | rw [if_pos (by omega)] | rw [if_neg (by omega)]
               · rw [show b + (k : Int) = b + (k : Int) from rfl] at hE ⊢
                 have := hv (by omega)
                 rw [zup_ne _ _ (by decide), this, show (b + (k : Int) - b).toNat = k by omega]
                 exact ⟨rfl, hw2 (by omega)⟩)
      · refine zw_aload_n 28 dX4_stepNumber_27 rfl rfl ?_
        refine zw_aload_n 29 dX4_stepNumber_28 rfl rfl ?_
        refine zw_gti 32 3 dX4_stepNumber_29 rfl fX4_24 (by decide) rfl rfl ly106 ?_
        rw [zwa_same, h3]
        refine zw_aload_n 33 dX4_stepNumber_32 rfl rfl ?_
        refine zw_gti 36 2 dX4_stepNumber_33 rfl fX4_90 (by decide) rfl rfl ly106 ?_
        rw [zwa_same, h2]
        refine zw_isub 37 dX4_stepNumber_36 rfl ?_
        refine zw_iconst 38 dX4_stepNumber_37 rfl ?_
        refine zw_icmp_ge 64 41 dX4_stepNumber_38 (by decide) rfl (by omega) (by omega) (fun h38 => ?_) (fun h38 => ?_)
        · refine zw_iconst 65 dX4_stepNumber_64 rfl ?_
          have q : zig tx n (b + k) = 1 := by unfold zig; rw [if_pos (by omega)]
          have hE2 : zge tx n m (b + ((k + 1 : Nat) : Int)) = E := by
            rw [← hE, show b + ((k + 1 : Nat) : Int) = b + (k : Int) + 1 by omega]; exact (if_pos q).symm
          have hd3 : ∀ j : Nat, j < k + 1 → 48 ≤ tx (b + j) ∧ tx (b + j) ≤ 57 := fun j hj => by
            by_cases qj : j = k
            · subst qj; omega
            · exact hd2 j (by omega)
          refine zw_pti 68 5 dX4_stepNumber_65 rfl pX4_84 (by decide) rfl rfl ly106 ?_
          rw [zwr_wa]
          refine zw_aload_n 69 dX4_stepNumber_68 rfl rfl ?_
          refine zw_dup 70 dX4_stepNumber_69 rfl rfl ?_
          refine zw_gti 73 3 dX4_stepNumber_70 rfl fX4_24 (by decide) rfl rfl ly106 ?_
          rw [zwa_same, zup_ne _ _ (by decide), h3]
          refine zw_iconst 74 dX4_stepNumber_73 rfl ?_
          refine zw_iadd 75 dX4_stepNumber_74 rfl ?_
          refine zw_pti 78 3 dX4_stepNumber_75 rfl pX4_24 (by decide) rfl rfl ly106 ?_
          rw [zwr_wa]
          refine zw_goto 5 dX4_stepNumber_78 (by decide) ?_
          refine ih (k + 1) _ (by omega) h0 hE2 (by rw [zup_same]; omega) (by rw [zup_ne _ _ (by decide), zup_ne _ _ (by decide)]; exact h2) (by rw [zup_ne _ _ (by decide), zup_ne _ _ (by decide)]; exact h1) (fun j j1 j2 j3 => by rw [zup_ne _ _ j1, zup_ne _ _ j2]; exact hf0 j j1 j2 j3) hd3 (fun q2 => ?_)
          rw [zup_ne _ _ (by decide), zup_same]
          first
            | (rw [zvl_s (by omega) hd2, hv (by omega)]; done)
            | (exfalso; omega)
          
        · refine zw_aload_n 42 dX4_stepNumber_41 rfl rfl ?_
          refine zw_gti 45 5 dX4_stepNumber_42 rfl fX4_84 (by decide) rfl rfl ly106 ?_
          rw [zwa_same]
          refine zw_bipush 47 dX4_stepNumber_45 rfl (by decide) ?_
          refine zw_imul 48 dX4_stepNumber_47 rfl ?_
          refine zw_aload_n 49 dX4_stepNumber_48 rfl rfl ?_
          refine zw_getr 52 (107) (o := 1) dX4_stepNumber_49 rfl fX4_11 (by decide) rfl rfl ly106 ?_
          refine zw_aload_n 53 dX4_stepNumber_52 rfl rfl ?_
          refine zw_gti 56 3 dX4_stepNumber_53 rfl fX4_24 (by decide) rfl rfl ly106 ?_
          rw [zwa_same, h3]
          refine zw_bald 57 dX4_stepNumber_56 rfl ly107 (by omega) ?_
          rw [zwa_ne _ _ (by decide), h7 _ (by omega) (by omega)]
          refine zw_iadd 58 dX4_stepNumber_57 rfl ?_
          refine zw_bipush 60 dX4_stepNumber_58 rfl (by decide) ?_
          refine zw_isub 61 dX4_stepNumber_60 rfl ?_
          refine zw_goto 65 dX4_stepNumber_61 (by decide) ?_
          have q : zig tx n (b + k) = 1 := by unfold zig; rw [if_pos (by omega)]
          have hE2 : zge tx n m (b + ((k + 1 : Nat) : Int)) = E := by
            rw [← hE, show b + ((k + 1 : Nat) : Int) = b + (k : Int) + 1 by omega]; exact (if_pos q).symm
          have hd3 : ∀ j : Nat, j < k + 1 → 48 ≤ tx (b + j) ∧ tx (b + j) ≤ 57 := fun j hj => by
            by_cases qj : j = k
            · subst qj; omega
            · exact hd2 j (by omega)
          refine zw_pti 68 5 dX4_stepNumber_65 rfl pX4_84 (by decide) rfl rfl ly106 ?_
          rw [zwr_wa]
          refine zw_aload_n 69 dX4_stepNumber_68 rfl rfl ?_
          refine zw_dup 70 dX4_stepNumber_69 rfl rfl ?_
          refine zw_gti 73 3 dX4_stepNumber_70 rfl fX4_24 (by decide) rfl rfl ly106 ?_
          rw [zwa_same, zup_ne _ _ (by decide), h3]
          refine zw_iconst 74 dX4_stepNumber_73 rfl ?_
          refine zw_iadd 75 dX4_stepNumber_74 rfl ?_
          refine zw_pti 78 3 dX4_stepNumber_75 rfl pX4_24 (by decide) rfl rfl ly106 ?_
          rw [zwr_wa]
          refine zw_goto 5 dX4_stepNumber_78 (by decide) ?_
          refine ih (k + 1) _ (by omega) h0 hE2 (by rw [zup_same]; omega) (by rw [zup_ne _ _ (by decide), zup_ne _ _ (by decide)]; exact h2) (by rw [zup_ne _ _ (by decide), zup_ne _ _ (by decide)]; exact h1) (fun j j1 j2 j3 => by rw [zup_ne _ _ j1, zup_ne _ _ j2]; exact hf0 j j1 j2 j3) hd3 (fun q2 => ?_)
          rw [zup_ne _ _ (by decide), zup_same]
          first
            | (rw [zvl_s (by omega) hd2, hv (by omega)]; done)
            | (exfalso; omega)
          
theorem sp_X4_stepNumber {l : Launch} {d : Nat} {σ : zMem} (hd : 1 ≤ d) {tx : zR} {n : Int} (hx : ztx tx n) (h7 : zt7 σ tx n) {g0 : zR} {b : Int} (h0 : 0 ≤ b ∧ b ≤ n) (h3 : g0 3 = b) (h2 : g0 2 = b) (h1 : g0 1 = n) : zSp l d mX4_stepNumber [.ref 106] (zwa σ 106 g0) (fun a σ1 => ∃ g', a = none ∧ σ1 = zwa σ 106 g' ∧ (∀ j, j ≠ 3 → j ≠ 4 → j ≠ 5 → g' j = g0 j) ∧ g' 3 = (zge tx n (n - b).toNat b) ∧ g' 4 = (if 2 < (zge tx n (n - b).toNat b) - b then 4 else 2) ∧ (¬ 2 < (zge tx n (n - b).toNat b) - b → g' 5 = zvl tx b ((zge tx n (n - b).toNat b) - b).toNat ∧ 0 ≤ g' 5 ∧ g' 5 ≤ 999)) := by
  refine zSp_of oX4_stepNumber (Nat.le_of_ble_eq_true rfl) ?_
  show zw l d mX4_stepNumber 0 [some (.ref 106)] [] (zwa σ 106 g0) _
  refine zw_aload_n 1 dX4_stepNumber_0 rfl rfl ?_
  refine zw_iconst 2 dX4_stepNumber_1 rfl ?_
  refine zw_pti 5 5 dX4_stepNumber_2 rfl pX4_84 (by decide) rfl rfl ly106 ?_
  rw [zwr_wa]
  refine lp_X4_stepNumber (b := b) (E := zge tx n (n - b).toNat b) hd hx h7 (n - b).toNat 0 (zup g0 5 0) (by omega) h0.1 (by simp) (by rw [zup_ne _ _ (by decide)]; omega) ((zup_ne _ _ (by decide)).trans h2) ((zup_ne _ _ (by decide)).trans h1) (fun j j1 j2 j3 => zup_ne _ _ j2) (fun j hj => by omega) (fun _ => zup_same _ _ _)
theorem lp_X4_step {l : Launch} {d : Nat} {σ : zMem} {Q : Option Value → zMem → Prop} {tx : zR} {n : Int} (hx : ztx tx n) (h7 : zt7 σ tx n) : ∀ (m : Nat) (s : Int) (g : zR), s + m = n → 0 ≤ s → g 2 = s → g 1 = n → zw l d mX4_step 46 [some (.ref 106)] [] (zwa σ 106 (zup g 2 (zsk tx n m s))) Q → zw l d mX4_step 8 [some (.ref 106)] [] (zwa σ 106 g) Q := by
  intro m
  have hn := hx.1
  induction m with
  | zero =>
    intro s g hk h0 h2 h1 kk
    rw [show zsk tx n 0 s = s from rfl, zup_id h2] at kk
    refine zw_aload_n 9 dX4_step_8 rfl rfl ?_
    refine zw_gti 12 2 dX4_step_9 rfl fX4_90 (by decide) rfl rfl ly106 ?_
    rw [zwa_same, h2]
    refine zw_aload_n 13 dX4_step_12 rfl rfl ?_
    refine zw_gti 16 1 dX4_step_13 rfl fX4_93 (by decide) rfl rfl ly106 ?_
    rw [zwa_same, h1]
    refine zw_icmp_ge 46 19 dX4_step_16 (by decide) rfl (by omega) (by omega) (fun h16 => ?_) (fun h16 => ?_)
    · exact kk
    · exfalso; omega
  | succ m ih =>
    intro s g hk h0 h2 h1 kk
    have hb := hx.2 s h0 (by omega)
    refine zw_aload_n 9 dX4_step_8 rfl rfl ?_
    refine zw_gti 12 2 dX4_step_9 rfl fX4_90 (by decide) rfl rfl ly106 ?_
    rw [zwa_same, h2]
    refine zw_aload_n 13 dX4_step_12 rfl rfl ?_
    refine zw_gti 16 1 dX4_step_13 rfl fX4_93 (by decide) rfl rfl ly106 ?_
    rw [zwa_same, h1]
    refine zw_icmp_ge 46 19 dX4_step_16 (by decide) rfl (by omega) (by omega) (fun h16 => ?_) (fun h16 => ?_)
    · first
        | (exfalso; omega)
        | (rw [show zsk tx n (m + 1) s = s from if_neg (by omega), zup_id h2] at kk; exact kk)
    · refine zw_aload_n 20 dX4_step_19 rfl rfl ?_
      refine zw_getr 23 (107) (o := 1) dX4_step_20 rfl fX4_11 (by decide) rfl rfl ly106 ?_
      refine zw_aload_n 24 dX4_step_23 rfl rfl ?_
      refine zw_gti 27 2 dX4_step_24 rfl fX4_90 (by decide) rfl rfl ly106 ?_
      rw [zwa_same, h2]
      refine zw_bald 28 dX4_step_27 rfl ly107 (by omega) ?_
      rw [zwa_ne _ _ (by decide), h7 _ (by omega) (by omega)]
      refine zw_bipush 30 dX4_step_28 rfl (by decide) ?_
      refine zw_icmp_ne 46 33 dX4_step_30 (by decide) rfl (by omega) (by omega) (fun h30 => ?_) (fun h30 => ?_)
      · first
          | (exfalso; omega)
          | (rw [show zsk tx n (m + 1) s = s from if_neg (by omega), zup_id h2] at kk; exact kk)
      · refine zw_aload_n 34 dX4_step_33 rfl rfl ?_
        refine zw_dup 35 dX4_step_34 rfl rfl ?_
        refine zw_gti 38 2 dX4_step_35 rfl fX4_90 (by decide) rfl rfl ly106 ?_
        rw [zwa_same, h2]
        refine zw_iconst 39 dX4_step_38 rfl ?_
        refine zw_iadd 40 dX4_step_39 rfl ?_
        refine zw_pti 43 2 dX4_step_40 rfl pX4_90 (by decide) rfl rfl ly106 ?_
        rw [zwr_wa]
        refine zw_goto 8 dX4_step_43 (by decide) ?_
        have q : zsk tx n (m + 1) s = zsk tx n m (s + 1) := if_pos ⟨by omega, by omega⟩
        rw [q] at kk
        exact ih (s + 1) (zup g 2 (s + 1)) (by omega) (by omega) (zup_same _ _ _) ((zup_ne _ _ (by decide)).trans h1) (by rw [zup_twice]; exact kk)
theorem tl_X4_step {l : Launch} {d : Nat} {σ : zMem} (hd : 2 ≤ d) {tx : zR} {n : Int} (hx : ztx tx n) (h7 : zt7 σ tx n) {g0 g : zR} {i b : Int} (hb : zTb tx n i = b) (hbn : 0 ≤ b ∧ b ≤ n) (h2 : g 2 = b) (h1 : g 1 = n) (hf : ∀ j, j < 2 ∨ 5 < j → g j = g0 j) : zw l d mX4_step 46 [some (.ref 106)] [] (zwa σ 106 g) (fun a σ1 => ∃ g', a = none ∧ σ1 = zwa σ 106 g' ∧ zCo tx n i g0 g') := by
  have hn := hx.1
  have hwb := zwe_b tx n (n - b).toNat b hbn.2
  have hgb := zge_b tx n (n - b).toNat b hbn.2
  refine zw_aload_n 47 dX4_step_46 rfl rfl ?_
  refine zw_aload_n 48 dX4_step_47 rfl rfl ?_
  refine zw_gti 51 2 dX4_step_48 rfl fX4_90 (by decide) rfl rfl ly106 ?_
  rw [zwa_same, h2]
  refine zw_pti 54 3 dX4_step_51 rfl pX4_24 (by decide) rfl rfl ly106 ?_
  rw [zwr_wa]
  refine zw_aload_n 55 dX4_step_54 rfl rfl ?_
  refine zw_gti 58 2 dX4_step_55 rfl fX4_90 (by decide) rfl rfl ly106 ?_
  rw [zwa_same, zup_ne _ _ (by decide), h2]
  refine zw_aload_n 59 dX4_step_58 rfl rfl ?_
  refine zw_gti 62 1 dX4_step_59 rfl fX4_93 (by decide) rfl rfl ly106 ?_
  rw [zwa_same, zup_ne _ _ (by decide), h1]
  refine zw_icmp_lt 73 65 dX4_step_62 (by decide) rfl (by omega) (by omega) (fun h62 => ?_) (fun h62 => ?_)
  · have hbb := hx.2 b hbn.1 (by omega)
    refine zw_aload_n 74 dX4_step_73 rfl rfl ?_
    refine zw_aload_n 75 dX4_step_74 rfl rfl ?_
    refine zw_gti 78 2 dX4_step_75 rfl fX4_90 (by decide) rfl rfl ly106 ?_
    rw [zwa_same, zup_ne _ _ (by decide), h2]
    refine zw_callV 81 _ _ dX4_step_78 rfl kX4_96 qX4_isLetter ly106 ⟨_, rfl, rfl⟩ (by decide) (sp_X4_isLetter (d := d - 1) (i := b) (v := tx (b)) (by omega) (by rw [zwa_ne _ _ (by decide)]; exact h7 _ (by omega) (by omega)) (hx.2 _ (by omega) (by omega))) (by omega) rfl rfl (Nat.le_of_ble_eq_true rfl) (fun r σ' hq => ?_)
    obtain ⟨rfl, rfl⟩ := hq
    refine zw_if_eq 91 84 dX4_step_81 (by decide) rfl (by omega) (fun h81 => ?_) (fun h81 => ?_)
    · refine zw_aload_n 92 dX4_step_91 rfl rfl ?_
      refine zw_aload_n 93 dX4_step_92 rfl rfl ?_
      refine zw_gti 96 2 dX4_step_93 rfl fX4_90 (by decide) rfl rfl ly106 ?_
      rw [zwa_same, zup_ne _ _ (by decide), h2]
      refine zw_callV 99 _ _ dX4_step_96 rfl kX4_103 qX4_isFigure ly106 ⟨_, rfl, rfl⟩ (by decide) (sp_X4_isFigure (d := d - 1) (i := b) (v := tx (b)) (by omega) (by rw [zwa_ne _ _ (by decide)]; exact h7 _ (by omega) (by omega)) (hx.2 _ (by omega) (by omega))) (by omega) rfl rfl (Nat.le_of_ble_eq_true rfl) (fun r σ' hq => ?_)
      obtain ⟨rfl, rfl⟩ := hq
      refine zw_if_eq 109 102 dX4_step_99 (by decide) rfl (by omega) (fun h99 => ?_) (fun h99 => ?_)
      · refine zw_aload_n 110 dX4_step_109 rfl rfl ?_
        refine zw_aload_n 111 dX4_step_110 rfl rfl ?_
        refine zw_getr 114 (107) (o := 1) dX4_step_111 rfl fX4_11 (by decide) rfl rfl ly106 ?_
        refine zw_aload_n 115 dX4_step_114 rfl rfl ?_
        refine zw_gti 118 2 dX4_step_115 rfl fX4_90 (by decide) rfl rfl ly106 ?_
        rw [zwa_same, zup_ne _ _ (by decide), h2]
        refine zw_bald 119 dX4_step_118 rfl ly107 (by omega) ?_
        rw [zwa_ne _ _ (by decide), h7 _ (by omega) (by omega)]
        refine zw_bipush 121 dX4_step_119 rfl (by decide) ?_
        refine zw_icmp_ne 128 124 dX4_step_121 (by decide) rfl (by omega) (by omega) (fun h121 => ?_) (fun h121 => ?_)
        · refine zw_iconst 129 dX4_step_128 rfl ?_
          refine zw_pti 132 4 dX4_step_129 rfl pX4_31 (by decide) rfl rfl ly106 ?_
          rw [zwr_wa]
          refine zw_aload_n 133 dX4_step_132 rfl rfl ?_
          refine zw_aload_n 134 dX4_step_133 rfl rfl ?_
          refine zw_gti 137 2 dX4_step_134 rfl fX4_90 (by decide) rfl rfl ly106 ?_
          rw [zwa_same, zup_ne _ _ (by decide), zup_ne _ _ (by decide), h2]
          refine zw_iconst 138 dX4_step_137 rfl ?_
          refine zw_iadd 139 dX4_step_138 rfl ?_
          refine zw_pti 142 3 dX4_step_139 rfl pX4_24 (by decide) rfl rfl ly106 ?_
          rw [zwr_wa]
          refine zw_vret dX4_step_142 rfl ?_
          unfold zCo zTk zTe zTv zTw zTg
          rw [hb]
          first
            | (have q : b = n := by omega
               rw [if_pos q, if_pos q]
               refine ⟨_, rfl, rfl, fun j hj => ?_, ?_, ?_, ?_, fun hE => by omega⟩
               · rw [zup_ne _ _ (by omega), zup_ne _ _ (by omega)]; exact hf j hj
               · rw [zup_ne _ _ (by decide), zup_ne _ _ (by decide)]; exact h2
               · rw [zup_ne _ _ (by decide), zup_same]; exact q
               · rw [zup_same])
            | (have q : ¬ b = n := by omega
               have q2 : zil tx n b = 1 := by unfold zil; rw [if_pos (by omega)]
               rw [if_neg q, if_neg q, if_pos q2, if_pos q2]
               refine ⟨_, rfl, rfl, fun j hj => ?_, ?_, ?_, ?_, fun hE => by omega⟩
               · rw [zup_ne _ _ (by omega), zup_ne _ _ (by omega), zup_ne _ _ (by omega)]; exact hf j hj
               · rw [zup_ne _ _ (by decide), zup_ne _ _ (by decide), zup_ne _ _ (by decide)]; exact h2
               · rw [zup_ne _ _ (by decide), zup_same]
               · rw [zup_same])
            | (have q : ¬ b = n := by omega
               have q2 : ¬ zil tx n b = 1 := by unfold zil; rw [if_neg (by omega)]; omega
               have q3 : zig tx n b = 1 := by unfold zig; rw [if_pos (by omega)]
               rw [if_neg q, if_neg q, if_neg q2, if_neg q2, if_pos q3, if_pos q3]
               refine ⟨g2, rfl, rfl, fun j hj => ?_, ?_, p2, p3, fun hE => p4 (fun q4 => by rw [if_pos q4] at hE; omega)⟩
               · rw [p1 j (by omega) (by omega) (by omega), zup_ne _ _ (by omega)]; exact hf j hj
               · rw [p1 2 (by omega) (by omega) (by omega), zup_ne _ _ (by decide)]; exact h2)
            | (have q : ¬ b = n := by omega
               have q2 : ¬ zil tx n b = 1 := by unfold zil; rw [if_neg (by omega)]; omega
               have q3 : ¬ zig tx n b = 1 := by unfold zig; rw [if_neg (by omega)]; omega
               rw [if_neg q, if_neg q, if_neg q2, if_neg q2, if_neg q3, if_neg q3]
               refine ⟨_, rfl, rfl, fun j hj => ?_, ?_, ?_, ?_, fun hE => by split at hE <;> omega⟩
               · rw [zup_ne _ _ (by omega), zup_ne _ _ (by omega), zup_ne _ _ (by omega)]; exact hf j hj
               · rw [zup_ne _ _ (by decide), zup_ne _ _ (by decide), zup_ne _ _ (by decide)]; exact h2
               · rw [zup_same]
               · rw [zup_ne _ _ (by decide), zup_same]
                 first | rw [if_pos (by omega)] | rw [if_neg (by omega)])
        · refine zw_iconst 125 dX4_step_124 rfl ?_
          refine zw_goto 129 dX4_step_125 (by decide) ?_
          refine zw_pti 132 4 dX4_step_129 rfl pX4_31 (by decide) rfl rfl ly106 ?_
          rw [zwr_wa]
          refine zw_aload_n 133 dX4_step_132 rfl rfl ?_
          refine zw_aload_n 134 dX4_step_133 rfl rfl ?_
          refine zw_gti 137 2 dX4_step_134 rfl fX4_90 (by decide) rfl rfl ly106 ?_
          rw [zwa_same, zup_ne _ _ (by decide), zup_ne _ _ (by decide), h2]
          refine zw_iconst 138 dX4_step_137 rfl ?_
          refine zw_iadd 139 dX4_step_138 rfl ?_
          refine zw_pti 142 3 dX4_step_139 rfl pX4_24 (by decide) rfl rfl ly106 ?_
          rw [zwr_wa]
          refine zw_vret dX4_step_142 rfl ?_
          unfold zCo zTk zTe zTv zTw zTg
          rw [hb]
          first
            | (have q : b = n := by omega
               rw [if_pos q, if_pos q]
               refine ⟨_, rfl, rfl, fun j hj => ?_, ?_, ?_, ?_, fun hE => by omega⟩
               · rw [zup_ne _ _ (by omega), zup_ne _ _ (by omega)]; exact hf j hj
               · rw [zup_ne _ _ (by decide), zup_ne _ _ (by decide)]; exact h2
               · rw [zup_ne _ _ (by decide), zup_same]; exact q
               · rw [zup_same])
            | (have q : ¬ b = n := by omega
               have q2 : zil tx n b = 1 := by unfold zil; rw [if_pos (by omega)]
               rw [if_neg q, if_neg q, if_pos q2, if_pos q2]
               refine ⟨_, rfl, rfl, fun j hj => ?_, ?_, ?_, ?_, fun hE => by omega⟩
               · rw [zup_ne _ _ (by omega), zup_ne _ _ (by omega), zup_ne _ _ (by omega)]; exact hf j hj
               · rw [zup_ne _ _ (by decide), zup_ne _ _ (by decide), zup_ne _ _ (by decide)]; exact h2
               · rw [zup_ne _ _ (by decide), zup_same]
               · rw [zup_same])
            | (have q : ¬ b = n := by omega
               have q2 : ¬ zil tx n b = 1 := by unfold zil; rw [if_neg (by omega)]; omega
               have q3 : zig tx n b = 1 := by unfold zig; rw [if_pos (by omega)]
               rw [if_neg q, if_neg q, if_neg q2, if_neg q2, if_pos q3, if_pos q3]
               refine ⟨g2, rfl, rfl, fun j hj => ?_, ?_, p2, p3, fun hE => p4 (fun q4 => by rw [if_pos q4] at hE; omega)⟩
               · rw [p1 j (by omega) (by omega) (by omega), zup_ne _ _ (by omega)]; exact hf j hj
               · rw [p1 2 (by omega) (by omega) (by omega), zup_ne _ _ (by decide)]; exact h2)
            | (have q : ¬ b = n := by omega
               have q2 : ¬ zil tx n b = 1 := by unfold zil; rw [if_neg (by omega)]; omega
               have q3 : ¬ zig tx n b = 1 := by unfold zig; rw [if_neg (by omega)]; omega
               rw [if_neg q, if_neg q, if_neg q2, if_neg q2, if_neg q3, if_neg q3]
               refine ⟨_, rfl, rfl, fun j hj => ?_, ?_, ?_, ?_, fun hE => by split at hE <;> omega⟩
               · rw [zup_ne _ _ (by omega), zup_ne _ _ (by omega), zup_ne _ _ (by omega)]; exact hf j hj
               · rw [zup_ne _ _ (by decide), zup_ne _ _ (by decide), zup_ne _ _ (by decide)]; exact h2
               · rw [zup_same]
               · rw [zup_ne _ _ (by decide), zup_same]
                 first | rw [if_pos (by omega)] | rw [if_neg (by omega)])
      · refine zw_aload_n 103 dX4_step_102 rfl rfl ?_
        refine zw_callV 106 _ _ dX4_step_103 rfl kX4_106 qX4_stepNumber ly106 ⟨_, rfl, rfl⟩ (by decide) (sp_X4_stepNumber (d := d - 1) (by omega) hx h7 (g0 := zup g 3 b) (b := b) hbn (zup_same _ _ _) ((zup_ne _ _ (by decide)).trans h2) ((zup_ne _ _ (by decide)).trans h1)) (by omega) rfl rfl (Nat.le_of_ble_eq_true rfl) (fun r σ' hq => ?_)
        obtain ⟨g2, rfl, rfl, p1, p2, p3, p4⟩ := hq
        refine zw_goto 142 dX4_step_106 (by decide) ?_
        refine zw_vret dX4_step_142 rfl ?_
        unfold zCo zTk zTe zTv zTw zTg
        rw [hb]
        first
          | (have q : b = n := by omega
             rw [if_pos q, if_pos q]
             refine ⟨_, rfl, rfl, fun j hj => ?_, ?_, ?_, ?_, fun hE => by omega⟩
             · rw [zup_ne _ _ (by omega), zup_ne _ _ (by omega)]; exact hf j hj
             · rw [zup_ne _ _ (by decide), zup_ne _ _ (by decide)]; exact h2
             · rw [zup_ne _ _ (by decide), zup_same]; exact q
             · rw [zup_same])
          | (have q : ¬ b = n := by omega
             have q2 : zil tx n b = 1 := by unfold zil; rw [if_pos (by omega)]
             rw [if_neg q, if_neg q, if_pos q2, if_pos q2]
             refine ⟨_, rfl, rfl, fun j hj => ?_, ?_, ?_, ?_, fun hE => by omega⟩
             · rw [zup_ne _ _ (by omega), zup_ne _ _ (by omega), zup_ne _ _ (by omega)]; exact hf j hj
             · rw [zup_ne _ _ (by decide), zup_ne _ _ (by decide), zup_ne _ _ (by decide)]; exact h2
             · rw [zup_ne _ _ (by decide), zup_same]
             · rw [zup_same])
          | (have q : ¬ b = n := by omega
             have q2 : ¬ zil tx n b = 1 := by unfold zil; rw [if_neg (by omega)]; omega
             have q3 : zig tx n b = 1 := by unfold zig; rw [if_pos (by omega)]
             rw [if_neg q, if_neg q, if_neg q2, if_neg q2, if_pos q3, if_pos q3]
             refine ⟨g2, rfl, rfl, fun j hj => ?_, ?_, p2, p3, fun hE => p4 (fun q4 => by rw [if_pos q4] at hE; omega)⟩
             · rw [p1 j (by omega) (by omega) (by omega), zup_ne _ _ (by omega)]; exact hf j hj
             · rw [p1 2 (by omega) (by omega) (by omega), zup_ne _ _ (by decide)]; exact h2)
          | (have q : ¬ b = n := by omega
             have q2 : ¬ zil tx n b = 1 := by unfold zil; rw [if_neg (by omega)]; omega
             have q3 : ¬ zig tx n b = 1 := by unfold zig; rw [if_neg (by omega)]; omega
             rw [if_neg q, if_neg q, if_neg q2, if_neg q2, if_neg q3, if_neg q3]
             refine ⟨_, rfl, rfl, fun j hj => ?_, ?_, ?_, ?_, fun hE => by split at hE <;> omega⟩
             · rw [zup_ne _ _ (by omega), zup_ne _ _ (by omega), zup_ne _ _ (by omega)]; exact hf j hj
             · rw [zup_ne _ _ (by decide), zup_ne _ _ (by decide), zup_ne _ _ (by decide)]; exact h2
             · rw [zup_same]
             · rw [zup_ne _ _ (by decide), zup_same]
               first | rw [if_pos (by omega)] | rw [if_neg (by omega)])
    · refine zw_aload_n 85 dX4_step_84 rfl rfl ?_
      refine zw_callV 88 _ _ dX4_step_85 rfl kX4_100 qX4_stepWord ly106 ⟨_, rfl, rfl⟩ (by decide) ((by
            have h := zSp_of (σ := zwa σ 106 (zup g 3 b)) (Q := zRv (zwa σ 106 (zup (zup (zup g 3 b) 3 (zwe tx n (n - b).toNat b)) 4 1))) oX4_stepWord (args := [.ref 106]) (l := l) (d := d - 1) (Nat.le_of_ble_eq_true rfl) (lp_X4_stepWord (by omega) hx h7 (n - b).toNat b (zup g 3 b) (by omega) hbn.1 (zup_same _ _ _) ((zup_ne _ _ (by decide)).trans h1))
            exact h)) (by omega) rfl rfl (Nat.le_of_ble_eq_true rfl) (fun r σ' hq => ?_)
      obtain ⟨rfl, rfl⟩ := hq
      refine zw_goto 142 dX4_step_88 (by decide) ?_
      refine zw_vret dX4_step_142 rfl ?_
      unfold zCo zTk zTe zTv zTw zTg
      rw [hb]
      first
        | (have q : b = n := by omega
           rw [if_pos q, if_pos q]
           refine ⟨_, rfl, rfl, fun j hj => ?_, ?_, ?_, ?_, fun hE => by omega⟩
           · rw [zup_ne _ _ (by omega), zup_ne _ _ (by omega)]; exact hf j hj
           · rw [zup_ne _ _ (by decide), zup_ne _ _ (by decide)]; exact h2
           · rw [zup_ne _ _ (by decide), zup_same]; exact q
           · rw [zup_same])
        | (have q : ¬ b = n := by omega
           have q2 : zil tx n b = 1 := by unfold zil; rw [if_pos (by omega)]
           rw [if_neg q, if_neg q, if_pos q2, if_pos q2]
           refine ⟨_, rfl, rfl, fun j hj => ?_, ?_, ?_, ?_, fun hE => by omega⟩
           · rw [zup_ne _ _ (by omega), zup_ne _ _ (by omega), zup_ne _ _ (by omega)]; exact hf j hj
           · rw [zup_ne _ _ (by decide), zup_ne _ _ (by decide), zup_ne _ _ (by decide)]; exact h2
           · rw [zup_ne _ _ (by decide), zup_same]
           · rw [zup_same])
        | (have q : ¬ b = n := by omega
           have q2 : ¬ zil tx n b = 1 := by unfold zil; rw [if_neg (by omega)]; omega
           have q3 : zig tx n b = 1 := by unfold zig; rw [if_pos (by omega)]
           rw [if_neg q, if_neg q, if_neg q2, if_neg q2, if_pos q3, if_pos q3]
           refine ⟨g2, rfl, rfl, fun j hj => ?_, ?_, p2, p3, fun hE => p4 (fun q4 => by rw [if_pos q4] at hE; omega)⟩
           · rw [p1 j (by omega) (by omega) (by omega), zup_ne _ _ (by omega)]; exact hf j hj
           · rw [p1 2 (by omega) (by omega) (by omega), zup_ne _ _ (by decide)]; exact h2)
        | (have q : ¬ b = n := by omega
           have q2 : ¬ zil tx n b = 1 := by unfold zil; rw [if_neg (by omega)]; omega
           have q3 : ¬ zig tx n b = 1 := by unfold zig; rw [if_neg (by omega)]; omega
           rw [if_neg q, if_neg q, if_neg q2, if_neg q2, if_neg q3, if_neg q3]
           refine ⟨_, rfl, rfl, fun j hj => ?_, ?_, ?_, ?_, fun hE => by split at hE <;> omega⟩
           · rw [zup_ne _ _ (by omega), zup_ne _ _ (by omega), zup_ne _ _ (by omega)]; exact hf j hj
           · rw [zup_ne _ _ (by decide), zup_ne _ _ (by decide), zup_ne _ _ (by decide)]; exact h2
           · rw [zup_same]
           · rw [zup_ne _ _ (by decide), zup_same]
             first | rw [if_pos (by omega)] | rw [if_neg (by omega)])
  · refine zw_aload_n 66 dX4_step_65 rfl rfl ?_
    refine zw_iconst 67 dX4_step_66 rfl ?_
    refine zw_pti 70 4 dX4_step_67 rfl pX4_31 (by decide) rfl rfl ly106 ?_
    rw [zwr_wa]
    refine zw_goto 142 dX4_step_70 (by decide) ?_
    refine zw_vret dX4_step_142 rfl ?_
    unfold zCo zTk zTe zTv zTw zTg
    rw [hb]
    first
      | (have q : b = n := by omega
         rw [if_pos q, if_pos q]
         refine ⟨_, rfl, rfl, fun j hj => ?_, ?_, ?_, ?_, fun hE => by omega⟩
         · rw [zup_ne _ _ (by omega), zup_ne _ _ (by omega)]; exact hf j hj
         · rw [zup_ne _ _ (by decide), zup_ne _ _ (by decide)]; exact h2
         · rw [zup_ne _ _ (by decide), zup_same]; exact q
         · rw [zup_same])
      | (have q : ¬ b = n := by omega
         have q2 : zil tx n b = 1 := by unfold zil; rw [if_pos (by omega)]
         rw [if_neg q, if_neg q, if_pos q2, if_pos q2]
         refine ⟨_, rfl, rfl, fun j hj => ?_, ?_, ?_, ?_, fun hE => by omega⟩
         · rw [zup_ne _ _ (by omega), zup_ne _ _ (by omega), zup_ne _ _ (by omega)]; exact hf j hj
         · rw [zup_ne _ _ (by decide), zup_ne _ _ (by decide), zup_ne _ _ (by decide)]; exact h2
         · rw [zup_ne _ _ (by decide), zup_same]
         · rw [zup_same])
      | (have q : ¬ b = n := by omega
         have q2 : ¬ zil tx n b = 1 := by unfold zil; rw [if_neg (by omega)]; omega
         have q3 : zig tx n b = 1 := by unfold zig; rw [if_pos (by omega)]
         rw [if_neg q, if_neg q, if_neg q2, if_neg q2, if_pos q3, if_pos q3]
         refine ⟨g2, rfl, rfl, fun j hj => ?_, ?_, p2, p3, fun hE => p4 (fun q4 => by rw [if_pos q4] at hE; omega)⟩
         · rw [p1 j (by omega) (by omega) (by omega), zup_ne _ _ (by omega)]; exact hf j hj
         · rw [p1 2 (by omega) (by omega) (by omega), zup_ne _ _ (by decide)]; exact h2)
      | (have q : ¬ b = n := by omega
         have q2 : ¬ zil tx n b = 1 := by unfold zil; rw [if_neg (by omega)]; omega
         have q3 : ¬ zig tx n b = 1 := by unfold zig; rw [if_neg (by omega)]; omega
         rw [if_neg q, if_neg q, if_neg q2, if_neg q2, if_neg q3, if_neg q3]
         refine ⟨_, rfl, rfl, fun j hj => ?_, ?_, ?_, ?_, fun hE => by split at hE <;> omega⟩
         · rw [zup_ne _ _ (by omega), zup_ne _ _ (by omega), zup_ne _ _ (by omega)]; exact hf j hj
         · rw [zup_ne _ _ (by decide), zup_ne _ _ (by decide), zup_ne _ _ (by decide)]; exact h2
         · rw [zup_same]
         · rw [zup_ne _ _ (by decide), zup_same]
           first | rw [if_pos (by omega)] | rw [if_neg (by omega)])
theorem sp_X4_step {l : Launch} {d : Nat} {σ : zMem} (hd : 2 ≤ d) {tx : zR} {n : Int} (hx : ztx tx n) (h7 : zt7 σ tx n) {g0 : zR} {i : Int} (hi : 0 ≤ i ∧ i ≤ n) (h3 : g0 3 = i) (h1 : g0 1 = n) : zSp l d mX4_step [.ref 106] (zwa σ 106 g0) (fun a σ1 => ∃ g', a = none ∧ σ1 = zwa σ 106 g' ∧ zCo tx n i g0 g') := by
  refine zSp_of oX4_step (Nat.le_of_ble_eq_true rfl) ?_
  show zw l d mX4_step 0 [some (.ref 106)] [] (zwa σ 106 g0) _
  have hb := zTb_b tx hi.2
  refine zw_aload_n 1 dX4_step_0 rfl rfl ?_
  refine zw_aload_n 2 dX4_step_1 rfl rfl ?_
  refine zw_gti 5 3 dX4_step_2 rfl fX4_24 (by decide) rfl rfl ly106 ?_
  rw [zwa_same, h3]
  refine zw_pti 8 2 dX4_step_5 rfl pX4_90 (by decide) rfl rfl ly106 ?_
  rw [zwr_wa]
  refine lp_X4_step hx h7 (n - i).toNat i (zup g0 2 i) (by omega) hi.1 (zup_same _ _ _) ((zup_ne _ _ (by decide)).trans h1) ?_
  rw [zup_twice]
  exact tl_X4_step hd hx h7 (i := i) (b := zTb tx n i) rfl (by omega) (zup_same _ _ _) ((zup_ne _ _ (by decide)).trans h1) (fun j hj => zup_ne _ _ (by omega))
theorem sp_X4_takeStop {l : Launch} {d : Nat} {σ : zMem} (hd : 3 ≤ d) {tx : zR} {n : Int} (hx : ztx tx n) (h7 : zt7 σ tx n) {g0 : zR} {i : Int} (hi : 0 ≤ i ∧ i ≤ n) (h3 : g0 3 = i) (h1 : g0 1 = n) : zSp l d mX4_takeStop [.ref 106] (zwa σ 106 g0) (fun a σ1 => ∃ g', a = some (.int (zI (if zTk tx n i = 3 then 1 else 0))) ∧ σ1 = zwa σ 106 g' ∧ zCo tx n i g0 g') := by
  refine zSp_of oX4_takeStop (Nat.le_of_ble_eq_true rfl) ?_
  show zw l d mX4_takeStop 0 [some (.ref 106)] [] (zwa σ 106 g0) _
  have hkb := zTk_b tx n i
  refine zw_aload_n 1 dX4_takeStop_0 rfl rfl ?_
  refine zw_callV 4 _ _ dX4_takeStop_1 rfl kX4_28 qX4_step ly106 ⟨_, rfl, rfl⟩ (by decide) (sp_X4_step (d := d - 1) (by omega) hx h7 (g0 := g0) (i := i) hi h3 h1) (by omega) rfl rfl (Nat.le_of_ble_eq_true rfl) (fun r σ' hq => ?_)
  obtain ⟨g1, rfl, rfl, ho⟩ := hq
  refine zw_aload_n 5 dX4_takeStop_4 rfl rfl ?_
  refine zw_gti 8 4 dX4_takeStop_5 rfl fX4_31 (by decide) rfl rfl ly106 ?_
  rw [zwa_same, ho.2.2.2.1]
  refine zw_iconst 9 dX4_takeStop_8 rfl ?_
  refine zw_icmp_ne 16 12 dX4_takeStop_9 (by decide) rfl (by omega) (by omega) (fun h9 => ?_) (fun h9 => ?_)
  · refine zw_iconst 17 dX4_takeStop_16 rfl ?_
    refine zw_zret dX4_takeStop_17 rfl (by omega) ?_
    first
      | exact ⟨g1, by rw [if_pos (by omega)], rfl, ho⟩
      | exact ⟨g1, by rw [if_neg (by omega)], rfl, ho⟩
  · refine zw_iconst 13 dX4_takeStop_12 rfl ?_
    refine zw_goto 17 dX4_takeStop_13 (by decide) ?_
    refine zw_zret dX4_takeStop_17 rfl (by omega) ?_
    first
      | exact ⟨g1, by rw [if_pos (by omega)], rfl, ho⟩
      | exact ⟨g1, by rw [if_neg (by omega)], rfl, ho⟩
