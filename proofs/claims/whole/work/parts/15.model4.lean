/-- a chapter, whole: what stands, who sits, what is wished, noted, marked, what may be undone -/
def zVN (N : zR) : Prop := zVs N ∧ zVr N N ∧ (0 ≤ N 32 ∧ N 32 ≤ 999) ∧ ((0 ≤ N 59 ∧ N 59 ≤ 6) ∧ ∀ i, 0 ≤ i → i < N 59 → (0 ≤ N (60 + 3 * i) ∧ N (60 + 3 * i) < N 48) ∧ (0 ≤ N (60 + 3 * i + 1) ∧ N (60 + 3 * i + 1) ≤ 3) ∧ 0 ≤ N (60 + 3 * i + 2) ∧ N (60 + 3 * i + 2) ≤ 99) ∧ ((0 ≤ N 78 ∧ N 78 ≤ 6) ∧ ∀ i, 0 ≤ i → i < N 78 → (0 ≤ N (79 + 5 * i) ∧ N (79 + 5 * i) < N 33) ∧ (0 ≤ N (79 + 5 * i + 1) ∧ N (79 + 5 * i + 1) ≤ 40) ∧ (0 ≤ N (79 + 5 * i + 2) ∧ N (79 + 5 * i + 2) ≤ 99) ∧ (0 ≤ N (79 + 5 * i + 3) ∧ N (79 + 5 * i + 3) ≤ 99) ∧ 0 ≤ N (79 + 5 * i + 4) ∧ N (79 + 5 * i + 4) ≤ 40) ∧ ((0 ≤ N 109 ∧ N 109 ≤ 6) ∧ ∀ i, 0 ≤ i → i < N 109 → (0 ≤ N (110 + 4 * i) ∧ N (110 + 4 * i) < N 48) ∧ (0 ≤ N (110 + 4 * i + 1) ∧ N (110 + 4 * i + 1) ≤ 40) ∧ (0 ≤ N (110 + 4 * i + 2) ∧ N (110 + 4 * i + 2) ≤ 99) ∧ 0 ≤ N (110 + 4 * i + 3) ∧ N (110 + 4 * i + 3) ≤ 60) ∧ ((0 ≤ N 134 ∧ N 134 ≤ 8) ∧ ∀ j, 0 ≤ j → j < N 134 → zVr N (fun i => N (135 + 33 * j + i)) ∧ 0 ≤ N (135 + 33 * j + 32) ∧ N (135 + 33 * j + 32) ≤ 999)
/-- an answer, one row changed on the way -/
def zRw (v : Int) (σ : zMem) (b : Nat) : Option Value → zMem → Prop := fun r σ' => r = some (.int (zI v)) ∧ ∃ f, zwa σ b f = σ'
theorem sp_X6_isSeat {l : Launch} {d : Nat} {σ : zMem} (hd : 1 ≤ d) {s : Int} (hN : 0 ≤ σ 218 33 ∧ σ 218 33 ≤ 7) (hs : -2147483648 ≤ s ∧ s < 2147483648) : zSp l d mX6_isSeat [.ref 217, .int (zI s)] σ (zRi (if 0 ≤ s ∧ s ≤ σ 218 33 - 1 then 1 else 0) σ) := by
  refine zSp_of oX6_isSeat (Nat.le_of_ble_eq_true rfl) ?_
  show zw l d mX6_isSeat 0 [some (.ref 217), some (.int (zI s))] [] σ _
  refine zw_iload_n 1 dX6_isSeat_0 rfl rfl ?_
  refine zw_i2l 2 dX6_isSeat_1 rfl (by omega) ?_
  refine zw_lconst 3 0 dX6_isSeat_2 rfl (by decide) ?_
  refine zw_aload_n 4 dX6_isSeat_3 rfl rfl ?_
  refine zw_getr 7 (218) (o := 1) dX6_isSeat_4 rfl fX6_7 (by decide) rfl rfl ly217 ?_
  refine zw_bipush 9 dX6_isSeat_7 rfl (by decide) ?_
  refine zw_iald 10 dX6_isSeat_9 rfl ly218 (by omega) ?_
  refine zw_iconst 11 dX6_isSeat_10 rfl ?_
  refine zw_isub 12 dX6_isSeat_11 rfl ?_
  refine zw_i2l 13 dX6_isSeat_12 rfl (by omega) ?_
  refine zw_callS 16 _ _ dX6_isSeat_13 rfl kX6_86 qX6_in (sp_X6_in (d := d - 1) (by omega) (by omega) (by omega)) (by omega) rfl rfl (Nat.le_of_ble_eq_true rfl) (fun r σ' hq => ?_)
  obtain ⟨rfl, rfl⟩ := hq
  refine zw_zret dX6_isSeat_16 rfl (by omega) ?_
  exact ⟨rfl, rfl⟩
theorem sp_X6_isCanon {l : Launch} {d : Nat} {σ : zMem} (hd : 1 ≤ d) {s : Int} (hN : 0 ≤ σ 218 48 ∧ σ 218 48 ≤ 7) (hs : -2147483648 ≤ s ∧ s < 2147483648) : zSp l d mX6_isCanon [.ref 217, .int (zI s)] σ (zRi (if 0 ≤ s ∧ s ≤ σ 218 48 - 1 then 1 else 0) σ) := by
  refine zSp_of oX6_isCanon (Nat.le_of_ble_eq_true rfl) ?_
  show zw l d mX6_isCanon 0 [some (.ref 217), some (.int (zI s))] [] σ _
  refine zw_iload_n 1 dX6_isCanon_0 rfl rfl ?_
  refine zw_i2l 2 dX6_isCanon_1 rfl (by omega) ?_
  refine zw_lconst 3 0 dX6_isCanon_2 rfl (by decide) ?_
  refine zw_aload_n 4 dX6_isCanon_3 rfl rfl ?_
  refine zw_getr 7 (218) (o := 1) dX6_isCanon_4 rfl fX6_7 (by decide) rfl rfl ly217 ?_
  refine zw_bipush 9 dX6_isCanon_7 rfl (by decide) ?_
  refine zw_iald 10 dX6_isCanon_9 rfl ly218 (by omega) ?_
  refine zw_iconst 11 dX6_isCanon_10 rfl ?_
  refine zw_isub 12 dX6_isCanon_11 rfl ?_
  refine zw_i2l 13 dX6_isCanon_12 rfl (by omega) ?_
  refine zw_callS 16 _ _ dX6_isCanon_13 rfl kX6_86 qX6_in (sp_X6_in (d := d - 1) (by omega) (by omega) (by omega)) (by omega) rfl rfl (Nat.le_of_ble_eq_true rfl) (fun r σ' hq => ?_)
  obtain ⟨rfl, rfl⟩ := hq
  refine zw_zret dX6_isCanon_16 rfl (by omega) ?_
  exact ⟨rfl, rfl⟩
theorem sp_X6_isTrait {l : Launch} {d : Nat} {σ : zMem} (hd : 1 ≤ d) {s : Int} (hs : -2147483648 ≤ s ∧ s < 2147483648) : zSp l d mX6_isTrait [.int (zI s)] σ (zRi (if 0 ≤ s ∧ s ≤ 3 then 1 else 0) σ) := by
  refine zSp_of oX6_isTrait (Nat.le_of_ble_eq_true rfl) ?_
  show zw l d mX6_isTrait 0 [some (.int (zI s))] [] σ _
  refine zw_iload_n 1 dX6_isTrait_0 rfl rfl ?_
  refine zw_i2l 2 dX6_isTrait_1 rfl (by omega) ?_
  refine zw_lconst 3 0 dX6_isTrait_2 rfl (by decide) ?_
  refine zw_ldc2 6 (3) dX6_isTrait_3 rfl cX6_90 ?_
  refine zw_callS 9 _ _ dX6_isTrait_6 rfl kX6_86 qX6_in (sp_X6_in (d := d - 1) (by omega) (by omega) (by omega)) (by omega) rfl rfl (Nat.le_of_ble_eq_true rfl) (fun r σ' hq => ?_)
  obtain ⟨rfl, rfl⟩ := hq
  refine zw_zret dX6_isTrait_9 rfl (by omega) ?_
  exact ⟨rfl, rfl⟩
theorem sp_X6_layAside {l : Launch} {d : Nat} {σ : zMem} (hd : 1 ≤ d) : zSp l d mX6_layAside [.ref 217] σ (zRv (zwa σ 220 (zcy (σ 218) (σ 220) 0 0 33))) := by
  refine zSp_of oX6_layAside (Nat.le_of_ble_eq_true rfl) ?_
  show zw l d mX6_layAside 0 [some (.ref 217)] [] σ _
  refine zw_aload_n 1 dX6_layAside_0 rfl rfl ?_
  refine zw_getr 4 (218) (o := 1) dX6_layAside_1 rfl fX6_7 (by decide) rfl rfl ly217 ?_
  refine zw_iconst 5 dX6_layAside_4 rfl ?_
  refine zw_aload_n 6 dX6_layAside_5 rfl rfl ?_
  refine zw_getr 9 (220) (o := 3) dX6_layAside_6 rfl fX6_16 (by decide) rfl rfl ly217 ?_
  refine zw_iconst 10 dX6_layAside_9 rfl ?_
  refine zw_bipush 12 dX6_layAside_10 rfl (by decide) ?_
  refine zw_callS 15 _ _ dX6_layAside_12 rfl kX6_82 qX6_copies (sp_X6_copies (d := d - 1) ly218 ly220 (by omega) (by omega) (by omega) (Or.inl (by decide)) (by decide) (by decide)) (by omega) rfl rfl (Nat.le_of_ble_eq_true rfl) (fun r σ' hq => ?_)
  obtain ⟨rfl, rfl⟩ := hq
  refine zw_vret dX6_layAside_15 rfl ?_
  exact ⟨rfl, rfl⟩
theorem zyr_congr {N N' : zR} (e : N' = N) (t : zR) : zyr N' t = zyr N t := by rw [e]
theorem lp_X6_layYears {l : Launch} {d : Nat} {σ : zMem} (hd : 5 ≤ d) {n : Int} (hs : zVs (σ 218)) (hv : zVr (σ 218) (σ 220)) (hy : 0 ≤ σ 220 32 ∧ σ 220 32 < 2000) (hn : 0 ≤ n ∧ n ≤ 60) : ∀ (m : Nat) (k : Int) (σc : zMem), k + m = n → 0 ≤ k → σc = zwa σ 220 (zyn (σ 218) k.toNat (σ 220)) → zw l d mX6_layYears 6 [some (.ref 217), some (.int (zI n)), some (.int (zI k))] [] σc (zRv (zwa σ 220 (zyn (σ 218) n.toNat (σ 220)))) := by
  intro m
  induction m with
  | zero =>
    intro k σc hk hk0 hσ
    obtain ⟨a1, a2, a3, a4⟩ := zstep hσ (fun i hi => zyn_hi hs hv (Or.inl hi) _) hs (zyn_V hs hv _)
    have a6 : σc 220 32 = σ 220 32 + k := by rw [a1, zyn_32 hs hv]; omega
    have a7 : σc 218 = σ 218 := by rw [hσ, zwa_ne _ _ (by decide)]
    refine zw_iload_n 7 dX6_layYears_6 rfl rfl ?_
    refine zw_iload_n 8 dX6_layYears_7 rfl rfl ?_
    refine zw_icmp_ge 25 11 dX6_layYears_8 (by decide) rfl (by omega) (by omega) (fun h8 => ?_) (fun h8 => ?_)
    · refine zw_vret dX6_layYears_25 rfl ?_
      obtain rfl : k = n := by omega
      exact ⟨rfl, hσ.symm⟩
    · exfalso; omega
  | succ m ih =>
    intro k σc hk hk0 hσ
    obtain ⟨a1, a2, a3, a4⟩ := zstep hσ (fun i hi => zyn_hi hs hv (Or.inl hi) _) hs (zyn_V hs hv _)
    have a6 : σc 220 32 = σ 220 32 + k := by rw [a1, zyn_32 hs hv]; omega
    have a7 : σc 218 = σ 218 := by rw [hσ, zwa_ne _ _ (by decide)]
    refine zw_iload_n 7 dX6_layYears_6 rfl rfl ?_
    refine zw_iload_n 8 dX6_layYears_7 rfl rfl ?_
    refine zw_icmp_ge 25 11 dX6_layYears_8 (by decide) rfl (by omega) (by omega) (fun h8 => ?_) (fun h8 => ?_)
    · refine zw_vret dX6_layYears_25 rfl ?_
      exfalso; omega
    · refine zw_aload_n 12 dX6_layYears_11 rfl rfl ?_
      refine zw_aload_n 13 dX6_layYears_12 rfl rfl ?_
      refine zw_getr 16 (220) (o := 3) dX6_layYears_13 rfl fX6_16 (by decide) rfl rfl ly217 ?_
      refine zw_callV 19 _ _ dX6_layYears_16 rfl kX6_168 qX6_yearGoes ly217 ⟨_, rfl, rfl⟩ (by decide) (sp_X6_yearGoes (d := d - 1) (by omega) ly220 (by decide) a3 a4 (by omega)) (by omega) rfl rfl (Nat.le_of_ble_eq_true rfl) (fun r σ' hq => ?_)
      obtain ⟨rfl, rfl⟩ := hq
      refine zw_iinc 22 dX6_layYears_19 rfl (by decide) rfl ?_
      refine zw_goto 6 dX6_layYears_22 (by decide) ?_
      refine zw_loc [true, true, true] rfl ?_
      refine ih (k + 1) _ (by omega) (by omega) ?_
      rw [zyn_s _ _ hk0, ← a1, ← a7, hσ, zwa_twice]
theorem sp_X6_layYears {l : Launch} {d : Nat} {σ : zMem} (hd : 5 ≤ d) {n : Int} (hs : zVs (σ 218)) (hv : zVr (σ 218) (σ 218)) (hy : 0 ≤ σ 218 32 ∧ σ 218 32 < 2000) (hn : 0 ≤ n ∧ n ≤ 60) : zSp l d mX6_layYears [.ref 217, .int (zI n)] σ (zRv (zwa σ 220 (zyn (σ 218) n.toNat (zcy (σ 218) (σ 220) 0 0 33)))) := by
  refine zSp_of oX6_layYears (Nat.le_of_ble_eq_true rfl) ?_
  show zw l d mX6_layYears 0 [some (.ref 217), some (.int (zI n)), none] [] σ _
  refine zw_aload_n 1 dX6_layYears_0 rfl rfl ?_
  refine zw_callV 4 _ _ dX6_layYears_1 rfl kX6_216 qX6_layAside ly217 ⟨_, rfl, rfl⟩ (by decide) (sp_X6_layAside (d := d - 1) (by omega)) (by omega) rfl rfl (Nat.le_of_ble_eq_true rfl) (fun r σ' hq => ?_)
  obtain ⟨rfl, rfl⟩ := hq
  refine zw_iconst 5 dX6_layYears_4 rfl ?_
  refine zw_istore_n 6 dX6_layYears_5 rfl (by decide) ?_
  have g := zcy_ag (σ 218) (σ 220)
  have h := lp_X6_layYears (l := l) (d := d) (σ := zwa σ 220 (zcy (σ 218) (σ 220) 0 0 33)) (n := n) hd (by rw [zwa_ne _ _ (by decide)]; exact hs) (by rw [zwa_ne _ _ (by decide), zwa_same]; exact zVr_ag g.symm hv) (by rw [zwa_same, g 32 (by omega) (by omega)]; exact hy) hn n.toNat 0 _ (by omega) (by omega) (zwa_id _ _).symm
  rw [zwa_same, zwa_ne _ _ (by decide), zwa_twice] at h
  exact h
theorem lp_X6_untilTaken {l : Launch} {d : Nat} {σ : zMem} (hd : 5 ≤ d) {c t x : Int} (hs : zVs (σ 218)) (hv : zVr (σ 218) (σ 220)) (hy : 0 ≤ σ 220 32 ∧ σ 220 32 < 2000) (hc : 0 ≤ c ∧ c < 5) (ht : 0 ≤ t ∧ t < 4) (hx : -2147483648 ≤ x ∧ x < 2147483648) : ∀ (m : Nat) (k : Int) (σc : zMem), k + m = 61 → 0 ≤ k → σc = zwa σ 220 (zyn (σ 218) k.toNat (σ 220)) → zff (fun n => decide (x ≤ zyn (σ 218) n (σ 220) (5 + 4 * c + t))) 0 61 = zff (fun n => decide (x ≤ zyn (σ 218) n (σ 220) (5 + 4 * c + t))) k.toNat (61 - k).toNat → zw l d mX6_untilTaken 3 [some (.ref 217), some (.int (zI c)), some (.int (zI t)), some (.int (zI x)), some (.int (zI k))] [] σc (zRw (zff (fun n => decide (x ≤ zyn (σ 218) n (σ 220) (5 + 4 * c + t))) 0 61) σ 220) := by
  intro m
  induction m with
  | zero =>
    intro k σc hk hk0 hσ hz
    obtain ⟨a1, a2, a3, a4⟩ := zstep hσ (fun i hi => zyn_hi hs hv (Or.inl hi) _) hs (zyn_V hs hv _)
    have a6 : σc 220 32 = σ 220 32 + k := by rw [a1, zyn_32 hs hv]; omega
    have a7 : σc 218 = σ 218 := by rw [hσ, zwa_ne _ _ (by decide)]
    have b1 := a4.tk2 hc ht
    have hz2 : k < 61 → zff (fun n => decide (x ≤ zyn (σ 218) n (σ 220) (5 + 4 * c + t))) k.toNat (61 - k).toNat = if (fun n => decide (x ≤ zyn (σ 218) n (σ 220) (5 + 4 * c + t))) k.toNat = true then ((k.toNat : Nat) : Int) else zff (fun n => decide (x ≤ zyn (σ 218) n (σ 220) (5 + 4 * c + t))) (k.toNat + 1) (60 - k).toNat := fun h => by
      rw [show (61 - k).toNat = (60 - k).toNat + 1 by omega]; rfl
    have hz3 : (fun n => decide (x ≤ zyn (σ 218) n (σ 220) (5 + 4 * c + t))) k.toNat = decide (x ≤ σc 220 (5 + 4 * c + t)) := by rw [a1]
    refine zw_iload 5 dX6_untilTaken_3 rfl rfl ?_
    refine zw_bipush 7 dX6_untilTaken_5 rfl (by decide) ?_
    refine zw_icmp_ge 43 10 dX6_untilTaken_7 (by decide) rfl (by omega) (by omega) (fun h7 => ?_) (fun h7 => ?_)
    · refine zw_iconst 44 dX6_untilTaken_43 rfl ?_
      refine zw_iret dX6_untilTaken_44 rfl ?_
      obtain rfl : k = 61 := by omega
      exact ⟨by rw [hz]; rfl, _, hσ.symm⟩
    · exfalso; omega
  | succ m ih =>
    intro k σc hk hk0 hσ hz
    obtain ⟨a1, a2, a3, a4⟩ := zstep hσ (fun i hi => zyn_hi hs hv (Or.inl hi) _) hs (zyn_V hs hv _)
    have a6 : σc 220 32 = σ 220 32 + k := by rw [a1, zyn_32 hs hv]; omega
    have a7 : σc 218 = σ 218 := by rw [hσ, zwa_ne _ _ (by decide)]
    have b1 := a4.tk2 hc ht
    have hz2 : k < 61 → zff (fun n => decide (x ≤ zyn (σ 218) n (σ 220) (5 + 4 * c + t))) k.toNat (61 - k).toNat = if (fun n => decide (x ≤ zyn (σ 218) n (σ 220) (5 + 4 * c + t))) k.toNat = true then ((k.toNat : Nat) : Int) else zff (fun n => decide (x ≤ zyn (σ 218) n (σ 220) (5 + 4 * c + t))) (k.toNat + 1) (60 - k).toNat := fun h => by
      rw [show (61 - k).toNat = (60 - k).toNat + 1 by omega]; rfl
    have hz3 : (fun n => decide (x ≤ zyn (σ 218) n (σ 220) (5 + 4 * c + t))) k.toNat = decide (x ≤ σc 220 (5 + 4 * c + t)) := by rw [a1]
    refine zw_iload 5 dX6_untilTaken_3 rfl rfl ?_
    refine zw_bipush 7 dX6_untilTaken_5 rfl (by decide) ?_
    refine zw_icmp_ge 43 10 dX6_untilTaken_7 (by decide) rfl (by omega) (by omega) (fun h7 => ?_) (fun h7 => ?_)
    · refine zw_iconst 44 dX6_untilTaken_43 rfl ?_
      refine zw_iret dX6_untilTaken_44 rfl ?_
      exfalso; omega
    · refine zw_aload_n 11 dX6_untilTaken_10 rfl rfl ?_
      refine zw_getr 14 (220) (o := 3) dX6_untilTaken_11 rfl fX6_16 (by decide) rfl rfl ly217 ?_
      refine zw_iconst 15 dX6_untilTaken_14 rfl ?_
      refine zw_iconst 16 dX6_untilTaken_15 rfl ?_
      refine zw_iload_n 17 dX6_untilTaken_16 rfl rfl ?_
      refine zw_imul 18 dX6_untilTaken_17 rfl ?_
      refine zw_iadd 19 dX6_untilTaken_18 rfl ?_
      refine zw_iload_n 20 dX6_untilTaken_19 rfl rfl ?_
      refine zw_iadd 21 dX6_untilTaken_20 rfl ?_
      refine zw_iald 22 dX6_untilTaken_21 rfl ly220 (by omega) ?_
      refine zw_iload_n 23 dX6_untilTaken_22 rfl rfl ?_
      refine zw_icmp_lt 29 26 dX6_untilTaken_23 (by decide) rfl (by omega) (by omega) (fun h23 => ?_) (fun h23 => ?_)
      · refine zw_aload_n 30 dX6_untilTaken_29 rfl rfl ?_
        refine zw_aload_n 31 dX6_untilTaken_30 rfl rfl ?_
        refine zw_getr 34 (220) (o := 3) dX6_untilTaken_31 rfl fX6_16 (by decide) rfl rfl ly217 ?_
        refine zw_callV 37 _ _ dX6_untilTaken_34 rfl kX6_168 qX6_yearGoes ly217 ⟨_, rfl, rfl⟩ (by decide) (sp_X6_yearGoes (d := d - 1) (by omega) ly220 (by decide) a3 a4 (by omega)) (by omega) rfl rfl (Nat.le_of_ble_eq_true rfl) (fun r σ' hq => ?_)
        obtain ⟨rfl, rfl⟩ := hq
        refine zw_iinc 40 dX6_untilTaken_37 rfl (by decide) rfl ?_
        refine zw_goto 3 dX6_untilTaken_40 (by decide) ?_
        refine zw_loc [true, true, true, true, true] rfl ?_
        refine ih (k + 1) _ (by omega) (by omega) (by rw [zyn_s _ _ hk0, ← a1, ← a7, hσ, zwa_twice]) ?_
        rw [hz, hz2 (by omega), if_neg (by rw [hz3]; simpa using h23)]
        congr 1 <;> omega
      · refine zw_iload 28 dX6_untilTaken_26 rfl rfl ?_
        refine zw_iret dX6_untilTaken_28 rfl ?_
        exact ⟨by rw [hz, hz2 (by omega), if_pos (by rw [hz3]; simpa using h23)]; congr 3; omega, _, hσ.symm⟩
theorem sp_X6_untilTaken {l : Launch} {d : Nat} {σ : zMem} (hd : 5 ≤ d) {c t x : Int} (hs : zVs (σ 218)) (hv : zVr (σ 218) (σ 220)) (hy : 0 ≤ σ 220 32 ∧ σ 220 32 < 2000) (hc : 0 ≤ c ∧ c < 5) (ht : 0 ≤ t ∧ t < 4) (hx : -2147483648 ≤ x ∧ x < 2147483648) : zSp l d mX6_untilTaken [.ref 217, .int (zI c), .int (zI t), .int (zI x)] σ (zRw (zff (fun n => decide (x ≤ zyn (σ 218) n (σ 220) (5 + 4 * c + t))) 0 61) σ 220) := by
  refine zSp_of oX6_untilTaken (Nat.le_of_ble_eq_true rfl) ?_
  show zw l d mX6_untilTaken 0 [some (.ref 217), some (.int (zI c)), some (.int (zI t)), some (.int (zI x)), none] [] σ _
  refine zw_iconst 1 dX6_untilTaken_0 rfl ?_
  refine zw_istore 3 dX6_untilTaken_1 rfl (by decide) ?_
  exact lp_X6_untilTaken hd hs hv hy hc ht hx 61 0 σ (by omega) (by omega) (zwa_id σ 220).symm rfl
