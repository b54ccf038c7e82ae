/-- the scene at a holds the row t -/
def zSc (σ : zMem) (a : Nat) (t : zR) : Prop := (∀ c, 0 ≤ c → c < 5 → σ (a + 1) c = t c) ∧ (∀ i, 0 ≤ i → i < 20 → σ (a + 2) i = t (5 + i)) ∧ (∀ s, 0 ≤ s → s < 7 → σ (a + 3) s = t (25 + s)) ∧ σ a 0 = t 32
theorem sp_X2_takenOf {l : Launch} {d : Nat} {σ : zMem} {a : Nat} (ha : zly a = some (2, 4)) {t : zR} (hc : zSc σ a t) {c x : Int} (h0 : 0 ≤ c ∧ c < 5) (h1 : 0 ≤ x ∧ x < 4)  : zSp l d mX2_takenOf [.ref a, .int (zI c), .int (zI x)] σ (zRi (t (5 + 4 * c + x)) σ) := by
  refine zSp_of oX2_takenOf (Nat.le_of_ble_eq_true rfl) ?_
  show zw l d mX2_takenOf 0 [some (.ref a), some (.int (zI c)), some (.int (zI x))] [] σ _
  refine zw_aload_n 1 dX2_takenOf_0 rfl rfl ?_
  refine zw_getr 4 (a + 2) (o := 2) dX2_takenOf_1 rfl fX2_15 (by decide) rfl rfl ha ?_
  refine zw_iload_n 5 dX2_takenOf_4 rfl rfl ?_
  refine zw_iconst 6 dX2_takenOf_5 rfl ?_
  refine zw_imul 7 dX2_takenOf_6 rfl ?_
  refine zw_iload_n 8 dX2_takenOf_7 rfl rfl ?_
  refine zw_iadd 9 dX2_takenOf_8 rfl ?_
  refine zw_iald 10 dX2_takenOf_9 rfl (zl_sub ha 2 2 rfl rfl) (by omega) ?_
  refine zw_iret dX2_takenOf_10 rfl ?_
  exact ⟨by rw [hc.2.1 _ (by omega) (by omega), show 5 + (c * 4 + x) = 5 + 4 * c + x by omega], rfl⟩
theorem lp_X2_sitter {l : Launch} {d : Nat} {σ : zMem} {a : Nat} (ha : zly a = some (2, 4)) {t : zR} (hc : zSc σ a t) (hb : ∀ c, 0 ≤ c → c < 5 → -1 ≤ t c ∧ t c < 1000) {s : Int} (hs : -2147483648 ≤ s ∧ s < 2147483648) : ∀ (m : Nat) (i : Int), i + m = 5 → 0 ≤ i → (∀ j, 0 ≤ j → j < i → t j ≠ s) → zw l d mX2_sitter 2 [some (.ref a), some (.int (zI s)), some (.int (zI i))] [] σ (zRi (zwo t s) σ) := by
  intro m
  induction m with
  | zero =>
    intro i h1 h2 h3
    refine zw_iload_n 3 dX2_sitter_2 rfl rfl ?_
    refine zw_iconst 4 dX2_sitter_3 rfl ?_
    refine zw_icmp_ge 25 7 dX2_sitter_4 (by decide) rfl (by omega) (by omega) (fun h4 => ?_) (fun h4 => ?_)
    · refine zw_iconst 26 dX2_sitter_25 rfl ?_
      refine zw_iret dX2_sitter_26 rfl ?_
      exact ⟨by rw [zwo_none (fun j j0 j1 => h3 j j0 (by omega))], rfl⟩
    · exfalso; omega
  | succ m ih =>
    intro i h1 h2 h3
    have hi := hc.1 i h2 (by omega)
    have hb1 := hb i h2 (by omega)
    refine zw_iload_n 3 dX2_sitter_2 rfl rfl ?_
    refine zw_iconst 4 dX2_sitter_3 rfl ?_
    refine zw_icmp_ge 25 7 dX2_sitter_4 (by decide) rfl (by omega) (by omega) (fun h4 => ?_) (fun h4 => ?_)
    · exfalso; omega
    · refine zw_aload_n 8 dX2_sitter_7 rfl rfl ?_
      refine zw_getr 11 (a + 1) (o := 1) dX2_sitter_8 rfl fX2_9 (by decide) rfl rfl ha ?_
      refine zw_iload_n 12 dX2_sitter_11 rfl rfl ?_
      refine zw_iald 13 dX2_sitter_12 rfl (zl_sub ha 2 1 rfl rfl) (by omega) ?_
      rw [hi]
      refine zw_iload_n 14 dX2_sitter_13 rfl rfl ?_
      refine zw_icmp_ne 19 17 dX2_sitter_14 (by decide) rfl (by omega) (by omega) (fun h14 => ?_) (fun h14 => ?_)
      · refine zw_iinc 22 dX2_sitter_19 rfl (by decide) rfl ?_
        refine zw_goto 2 dX2_sitter_22 (by decide) ?_
        refine zw_loc [true, true, true] rfl ?_
        exact ih (i + 1) (by omega) (by omega) (fun j j0 j1 => by
          by_cases q : j = i
          · rw [q]; assumption
          · exact h3 j j0 (by omega))
      · refine zw_iload_n 18 dX2_sitter_17 rfl rfl ?_
        refine zw_iret dX2_sitter_18 rfl ?_
        exact ⟨by rw [zwo_first h2 (by omega) (by assumption) h3], rfl⟩
theorem sp_X2_sitter {l : Launch} {d : Nat} {σ : zMem} {a : Nat} (ha : zly a = some (2, 4)) {t : zR} (hc : zSc σ a t) (hb : ∀ c, 0 ≤ c → c < 5 → -1 ≤ t c ∧ t c < 1000) {s : Int} (hs : -2147483648 ≤ s ∧ s < 2147483648)  : zSp l d mX2_sitter [.ref a, .int (zI s)] σ (zRi (zwo t s) σ) := by
  refine zSp_of oX2_sitter (Nat.le_of_ble_eq_true rfl) ?_
  show zw l d mX2_sitter 0 [some (.ref a), some (.int (zI s)), none] [] σ _
  refine zw_iconst 1 dX2_sitter_0 rfl ?_
  refine zw_istore_n 2 dX2_sitter_1 rfl (by decide) ?_
  exact lp_X2_sitter ha hc hb hs 5 0 (by omega) (by omega) (fun j j0 j1 => by omega)
