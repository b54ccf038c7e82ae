theorem lp_X2_firstDoing {l : Launch} {d : Nat} {σ : zMem} (hd : 2 ≤ d) {a : Nat} (ha : zly a = some (2, 4)) {t : zR} (hc : zSc σ a t) (ht : ∀ i, 0 ≤ i → i < 20 → 0 ≤ t (5 + i) ∧ t (5 + i) ≤ 999) {x : Int} (hx : -2147483648 ≤ x ∧ x < 2147483648) {n : Nat} (hn : n ≤ 5) : ∀ (m i : Nat), i + m = n → zw l d mX2_firstDoing 2 [some (.ref a), some (.int (zI x)), some (.int (zI ((n : Int)))), some (.int (zI ((i : Int))))] [] σ (zRi (zff (fun c : Nat => decide (zdo t (c : Int) = x)) i m) σ) := by
  intro m
  induction m with
  | zero =>
    intro i h1
    refine zw_iload_n 3 dX2_firstDoing_2 rfl rfl ?_
    refine zw_iload_n 4 dX2_firstDoing_3 rfl rfl ?_
    refine zw_icmp_ge 24 7 dX2_firstDoing_4 (by decide) rfl (by omega) (by omega) (fun h4 => ?_) (fun h4 => ?_)
    · refine zw_iconst 25 dX2_firstDoing_24 rfl ?_
      refine zw_iret dX2_firstDoing_25 rfl ?_
      exact ⟨rfl, rfl⟩
    · exfalso; omega
  | succ m ih =>
    intro i h1
    have bz := zbs_b t i 3
    have bd : -1 ≤ zdo t i ∧ zdo t i ≤ 3 := by unfold zdo; split <;> omega
    have ih2 := ih (i + 1) (by omega)
    rw [show (((i + 1 : Nat) : Int)) = (i : Int) + 1 by omega] at ih2
    unfold zff
    refine zw_iload_n 3 dX2_firstDoing_2 rfl rfl ?_
    refine zw_iload_n 4 dX2_firstDoing_3 rfl rfl ?_
    refine zw_icmp_ge 24 7 dX2_firstDoing_4 (by decide) rfl (by omega) (by omega) (fun h4 => ?_) (fun h4 => ?_)
    · exfalso; omega
    · refine zw_aload_n 8 dX2_firstDoing_7 rfl rfl ?_
      refine zw_iload_n 9 dX2_firstDoing_8 rfl rfl ?_
      refine zw_callV 12 _ _ dX2_firstDoing_9 rfl kX2_45 qX2_doing ha ⟨_, rfl, rfl⟩ (by decide) (sp_X2_doing (d := d - 1) (by omega) ha hc ht (c := (i : Int)) (by omega)) (by omega) rfl rfl (Nat.le_of_ble_eq_true rfl) (fun r σ' hq => ?_)
      obtain ⟨rfl, rfl⟩ := hq
      refine zw_iload_n 13 dX2_firstDoing_12 rfl rfl ?_
      refine zw_icmp_ne 18 16 dX2_firstDoing_13 (by decide) rfl (by omega) (by omega) (fun h13 => ?_) (fun h13 => ?_)
      · refine zw_iinc 21 dX2_firstDoing_18 rfl (by decide) rfl ?_
        refine zw_goto 2 dX2_firstDoing_21 (by decide) ?_
        refine zw_loc [true, true, true, true] rfl ?_
        rw [if_neg (show ¬ decide (zdo t (i : Int) = x) = true by simpa using (by assumption : ¬ zdo t (i : Int) = x))]
        exact ih2
      · refine zw_iload_n 17 dX2_firstDoing_16 rfl rfl ?_
        refine zw_iret dX2_firstDoing_17 rfl ?_
        rw [if_pos (show decide (zdo t (i : Int) = x) = true by simpa using (by assumption : zdo t (i : Int) = x))]
        exact ⟨rfl, rfl⟩
theorem sp_X2_firstDoing {l : Launch} {d : Nat} {σ : zMem} (hd : 2 ≤ d) {a : Nat} (ha : zly a = some (2, 4)) {t : zR} (hc : zSc σ a t) (ht : ∀ i, 0 ≤ i → i < 20 → 0 ≤ t (5 + i) ∧ t (5 + i) ≤ 999) {x : Int} (hx : -2147483648 ≤ x ∧ x < 2147483648) {n : Nat} (hn : n ≤ 5)  : zSp l d mX2_firstDoing [.ref a, .int (zI x), .int (zI ((n : Int)))] σ (zRi (zff (fun c : Nat => decide (zdo t (c : Int) = x)) 0 n) σ) := by
  refine zSp_of oX2_firstDoing (Nat.le_of_ble_eq_true rfl) ?_
  show zw l d mX2_firstDoing 0 [some (.ref a), some (.int (zI x)), some (.int (zI ((n : Int)))), none] [] σ _
  refine zw_iconst 1 dX2_firstDoing_0 rfl ?_
  refine zw_istore_n 2 dX2_firstDoing_1 rfl (by decide) ?_
  exact lp_X2_firstDoing hd ha hc ht hx hn n 0 (by omega)
