theorem lp_X2_doers {l : Launch} {d : Nat} {σ : zMem} (hd : 2 ≤ d) {a : Nat} (ha : zly a = some (2, 4)) {t : zR} (hc : zSc σ a t) (ht : ∀ i, 0 ≤ i → i < 20 → 0 ≤ t (5 + i) ∧ t (5 + i) ≤ 999) : ∀ (m n : Nat), n + m = 5 → zw l d mX2_doers 4 [some (.ref a), some (.int (zI ((zwd t n)))), some (.int (zI ((n : Int))))] [] σ (zRi (zwd t 5) σ) := by
  intro m
  induction m with
  | zero =>
    intro n h1
    obtain rfl : n = 5 := by omega
    refine zw_iload_n 5 dX2_doers_4 rfl rfl ?_
    refine zw_iconst 6 dX2_doers_5 rfl ?_
    refine zw_icmp_ge 32 9 dX2_doers_6 (by decide) rfl (by omega) (by omega) (fun h6 => ?_) (fun h6 => ?_)
    · refine zw_iload_n 33 dX2_doers_32 rfl rfl ?_
      refine zw_iret dX2_doers_33 rfl ?_
      exact ⟨rfl, rfl⟩
    · exfalso; omega
  | succ m ih =>
    intro n h1
    have bb := zwd_b t n
    have bz := zbs_b t n 3
    have bd : -1 ≤ zdo t n ∧ zdo t n ≤ 3 := by unfold zdo; split <;> omega
    have ih2 := ih (n + 1) (by omega)
    unfold zwd at ih2
    rw [show (((n + 1 : Nat) : Int)) = (n : Int) + 1 by omega] at ih2
    refine zw_iload_n 5 dX2_doers_4 rfl rfl ?_
    refine zw_iconst 6 dX2_doers_5 rfl ?_
    refine zw_icmp_ge 32 9 dX2_doers_6 (by decide) rfl (by omega) (by omega) (fun h6 => ?_) (fun h6 => ?_)
    · exfalso; omega
    · refine zw_iload_n 10 dX2_doers_9 rfl rfl ?_
      refine zw_aload_n 11 dX2_doers_10 rfl rfl ?_
      refine zw_iload_n 12 dX2_doers_11 rfl rfl ?_
      refine zw_callV 15 _ _ dX2_doers_12 rfl kX2_45 qX2_doing ha ⟨_, rfl, rfl⟩ (by decide) (sp_X2_doing (d := d - 1) (by omega) ha hc ht (c := (n : Int)) (by omega)) (by omega) rfl rfl (Nat.le_of_ble_eq_true rfl) (fun r σ' hq => ?_)
      obtain ⟨rfl, rfl⟩ := hq
      refine zw_iconst 16 dX2_doers_15 rfl ?_
      refine zw_icmp_ne 23 19 dX2_doers_16 (by decide) rfl (by omega) (by omega) (fun h16 => ?_) (fun h16 => ?_)
      · refine zw_iconst 24 dX2_doers_23 rfl ?_
        refine zw_iadd 25 dX2_doers_24 rfl ?_
        refine zw_istore_n 26 dX2_doers_25 rfl (by decide) ?_
        refine zw_iinc 29 dX2_doers_26 rfl (by decide) rfl ?_
        refine zw_goto 4 dX2_doers_29 (by decide) ?_
        refine zw_loc [true, true, true] rfl ?_
        first
          | (rw [if_pos (show zdo t n = -1 by omega)] at ih2; exact ih2)
          | (rw [if_neg (show ¬ zdo t n = -1 by omega)] at ih2; exact ih2)
      · refine zw_iconst 20 dX2_doers_19 rfl ?_
        refine zw_goto 24 dX2_doers_20 (by decide) ?_
        refine zw_iadd 25 dX2_doers_24 rfl ?_
        refine zw_istore_n 26 dX2_doers_25 rfl (by decide) ?_
        refine zw_iinc 29 dX2_doers_26 rfl (by decide) rfl ?_
        refine zw_goto 4 dX2_doers_29 (by decide) ?_
        refine zw_loc [true, true, true] rfl ?_
        first
          | (rw [if_pos (show zdo t n = -1 by omega)] at ih2; exact ih2)
          | (rw [if_neg (show ¬ zdo t n = -1 by omega)] at ih2; exact ih2)
theorem sp_X2_doers {l : Launch} {d : Nat} {σ : zMem} (hd : 2 ≤ d) {a : Nat} (ha : zly a = some (2, 4)) {t : zR} (hc : zSc σ a t) (ht : ∀ i, 0 ≤ i → i < 20 → 0 ≤ t (5 + i) ∧ t (5 + i) ≤ 999)  : zSp l d mX2_doers [.ref a] σ (zRi (zwd t 5) σ) := by
  refine zSp_of oX2_doers (Nat.le_of_ble_eq_true rfl) ?_
  show zw l d mX2_doers 0 [some (.ref a), none, none] [] σ _
  refine zw_iconst 1 dX2_doers_0 rfl ?_
  refine zw_istore_n 2 dX2_doers_1 rfl (by decide) ?_
  refine zw_iconst 3 dX2_doers_2 rfl ?_
  refine zw_istore_n 4 dX2_doers_3 rfl (by decide) ?_
  exact lp_X2_doers hd ha hc ht 5 0 (by omega)
