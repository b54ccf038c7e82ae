theorem sp_X2_isHeldByOther {l : Launch} {d : Nat} {σ : zMem} (hd : 1 ≤ d) {a : Nat} (ha : zly a = some (2, 4)) {t : zR} (hc : zSc σ a t) (hb : ∀ c, 0 ≤ c → c < 5 → -1 ≤ t c ∧ t c < 1000) {c s : Int} (h0 : 0 ≤ c ∧ c < 5) (hs : -1 ≤ s ∧ s < 1000)  : zSp l d mX2_isHeldByOther [.ref a, .int (zI c), .int (zI s)] σ (zRi (if s ≠ -1 ∧ zwo t s ≠ -1 ∧ zwo t s ≠ c then 1 else 0) σ) := by
  refine zSp_of oX2_isHeldByOther (Nat.le_of_ble_eq_true rfl) ?_
  show zw l d mX2_isHeldByOther 0 [some (.ref a), some (.int (zI c)), some (.int (zI s)), none] [] σ _
  have wb : -1 ≤ zwo t s ∧ zwo t s < 5 := by rcases zwo_spec t s with q | q <;> omega
  refine zw_iload_n 1 dX2_isHeldByOther_0 rfl rfl ?_
  refine zw_iconst 2 dX2_isHeldByOther_1 rfl ?_
  refine zw_icmp_ne 9 5 dX2_isHeldByOther_2 (by decide) rfl (by omega) (by omega) (fun h2 => ?_) (fun h2 => ?_)
  · refine zw_aload_n 10 dX2_isHeldByOther_9 rfl rfl ?_
    refine zw_iload_n 11 dX2_isHeldByOther_10 rfl rfl ?_
    refine zw_callV 14 _ _ dX2_isHeldByOther_11 rfl kX2_37 qX2_sitter ha ⟨_, rfl, rfl⟩ (by decide) (sp_X2_sitter (d := d - 1) ha hc hb (by omega)) (by omega) rfl rfl (Nat.le_of_ble_eq_true rfl) (fun r σ' hq => ?_)
    obtain ⟨rfl, rfl⟩ := hq
    refine zw_istore_n 15 dX2_isHeldByOther_14 rfl (by decide) ?_
    refine zw_iload_n 16 dX2_isHeldByOther_15 rfl rfl ?_
    refine zw_iconst 17 dX2_isHeldByOther_16 rfl ?_
    refine zw_icmp_eq 29 20 dX2_isHeldByOther_17 (by decide) rfl (by omega) (by omega) (fun h17 => ?_) (fun h17 => ?_)
    · refine zw_iconst 30 dX2_isHeldByOther_29 rfl ?_
      refine zw_zret dX2_isHeldByOther_30 rfl (by omega) ?_
      first
        | exact ⟨by rw [if_pos (show s ≠ -1 ∧ zwo t s ≠ -1 ∧ zwo t s ≠ c from ⟨by omega, by omega, by omega⟩)], rfl⟩
        | exact ⟨by rw [if_neg (show ¬ (s ≠ -1 ∧ zwo t s ≠ -1 ∧ zwo t s ≠ c) by omega)], rfl⟩
    · refine zw_iload_n 21 dX2_isHeldByOther_20 rfl rfl ?_
      refine zw_iload_n 22 dX2_isHeldByOther_21 rfl rfl ?_
      refine zw_icmp_eq 29 25 dX2_isHeldByOther_22 (by decide) rfl (by omega) (by omega) (fun h22 => ?_) (fun h22 => ?_)
      · refine zw_iconst 30 dX2_isHeldByOther_29 rfl ?_
        refine zw_zret dX2_isHeldByOther_30 rfl (by omega) ?_
        first
          | exact ⟨by rw [if_pos (show s ≠ -1 ∧ zwo t s ≠ -1 ∧ zwo t s ≠ c from ⟨by omega, by omega, by omega⟩)], rfl⟩
          | exact ⟨by rw [if_neg (show ¬ (s ≠ -1 ∧ zwo t s ≠ -1 ∧ zwo t s ≠ c) by omega)], rfl⟩
      · refine zw_iconst 26 dX2_isHeldByOther_25 rfl ?_
        refine zw_goto 30 dX2_isHeldByOther_26 (by decide) ?_
        refine zw_zret dX2_isHeldByOther_30 rfl (by omega) ?_
        first
          | exact ⟨by rw [if_pos (show s ≠ -1 ∧ zwo t s ≠ -1 ∧ zwo t s ≠ c from ⟨by omega, by omega, by omega⟩)], rfl⟩
          | exact ⟨by rw [if_neg (show ¬ (s ≠ -1 ∧ zwo t s ≠ -1 ∧ zwo t s ≠ c) by omega)], rfl⟩
  · refine zw_iconst 6 dX2_isHeldByOther_5 rfl ?_
    refine zw_goto 14 dX2_isHeldByOther_6 (by decide) ?_
    refine zw_istore_n 15 dX2_isHeldByOther_14 rfl (by decide) ?_
    refine zw_iload_n 16 dX2_isHeldByOther_15 rfl rfl ?_
    refine zw_iconst 17 dX2_isHeldByOther_16 rfl ?_
    refine zw_icmp_eq 29 20 dX2_isHeldByOther_17 (by decide) rfl (by omega) (by omega) (fun h17 => ?_) (fun h17 => ?_)
    · refine zw_iconst 30 dX2_isHeldByOther_29 rfl ?_
      refine zw_zret dX2_isHeldByOther_30 rfl (by omega) ?_
      first
        | exact ⟨by rw [if_pos (show s ≠ -1 ∧ zwo t s ≠ -1 ∧ zwo t s ≠ c from ⟨by omega, by omega, by omega⟩)], rfl⟩
        | exact ⟨by rw [if_neg (show ¬ (s ≠ -1 ∧ zwo t s ≠ -1 ∧ zwo t s ≠ c) by omega)], rfl⟩
    · exact absurd h17 (by decide)
