theorem lp_X2_doing {l : Launch} {d : Nat} {σ : zMem} (hd : 1 ≤ d) {a : Nat} (ha : zly a = some (2, 4)) {t : zR} (hc : zSc σ a t) (ht : ∀ i, 0 ≤ i → i < 20 → 0 ≤ t (5 + i) ∧ t (5 + i) ≤ 999) {c : Int} (h0 : 0 ≤ c ∧ c < 5) : ∀ (m n : Nat), n + 1 + m = 4 → zw l d mX2_doing 4 [some (.ref a), some (.int (zI c)), some (.int (zI ((zbs t c n)))), some (.int (zI ((n : Int) + 1)))] [] σ (zRi (zdo t c) σ) := by
  intro m
  induction m with
  | zero =>
    intro n h1
    obtain rfl : n = 3 := by omega
    have bb := zbs_b t c 3
    have b1 := ht (4 * c + zbs t c 3) (by omega) (by omega)
    rw [show 5 + (4 * c + zbs t c 3) = 5 + 4 * c + zbs t c 3 by omega] at b1
    refine zw_iload_n 5 dX2_doing_4 rfl rfl ?_
    refine zw_iconst 6 dX2_doing_5 rfl ?_
    refine zw_icmp_ge 32 9 dX2_doing_6 (by decide) rfl (by omega) (by omega) (fun h6 => ?_) (fun h6 => ?_)
    · refine zw_aload_n 33 dX2_doing_32 rfl rfl ?_
      refine zw_iload_n 34 dX2_doing_33 rfl rfl ?_
      refine zw_iload_n 35 dX2_doing_34 rfl rfl ?_
      refine zw_callV 38 _ _ dX2_doing_35 rfl kX2_41 qX2_takenOf ha ⟨_, rfl, rfl⟩ (by decide) (sp_X2_takenOf (d := d - 1) ha hc (c := c) (x := zbs t c 3) (by omega) (by omega)) (by omega) rfl rfl (Nat.le_of_ble_eq_true rfl) (fun r σ' hq => ?_)
      obtain ⟨rfl, rfl⟩ := hq
      refine zw_bipush 40 dX2_doing_38 rfl (by decide) ?_
      refine zw_icmp_lt 47 43 dX2_doing_40 (by decide) rfl (by omega) (by omega) (fun h40 => ?_) (fun h40 => ?_)
      · refine zw_iconst 48 dX2_doing_47 rfl ?_
        refine zw_iret dX2_doing_48 rfl ?_
        first
          | exact ⟨by rw [show zdo t c = -1 from if_pos (by omega)], rfl⟩
          | exact ⟨by rw [show zdo t c = zbs t c 3 from if_neg (by omega)], rfl⟩
      · refine zw_iload_n 44 dX2_doing_43 rfl rfl ?_
        refine zw_goto 48 dX2_doing_44 (by decide) ?_
        refine zw_iret dX2_doing_48 rfl ?_
        first
          | exact ⟨by rw [show zdo t c = -1 from if_pos (by omega)], rfl⟩
          | exact ⟨by rw [show zdo t c = zbs t c 3 from if_neg (by omega)], rfl⟩
    · exfalso; omega
  | succ m ih =>
    intro n h1
    have bb := zbs_b t c n
    have b1 := ht (4 * c + zbs t c n) (by omega) (by omega)
    rw [show 5 + (4 * c + zbs t c n) = 5 + 4 * c + zbs t c n by omega] at b1
    have b2 := ht (4 * c + ((n : Int) + 1)) (by omega) (by omega)
    rw [show 5 + (4 * c + ((n : Int) + 1)) = 5 + 4 * c + ((n : Int) + 1) by omega] at b2
    have ih2 := ih (n + 1) (by omega)
    unfold zbs at ih2
    rw [show (((n + 1 : Nat) : Int)) = (n : Int) + 1 by omega] at ih2
    refine zw_iload_n 5 dX2_doing_4 rfl rfl ?_
    refine zw_iconst 6 dX2_doing_5 rfl ?_
    refine zw_icmp_ge 32 9 dX2_doing_6 (by decide) rfl (by omega) (by omega) (fun h6 => ?_) (fun h6 => ?_)
    · exfalso; omega
    · refine zw_aload_n 10 dX2_doing_9 rfl rfl ?_
      refine zw_iload_n 11 dX2_doing_10 rfl rfl ?_
      refine zw_iload_n 12 dX2_doing_11 rfl rfl ?_
      refine zw_callV 15 _ _ dX2_doing_12 rfl kX2_41 qX2_takenOf ha ⟨_, rfl, rfl⟩ (by decide) (sp_X2_takenOf (d := d - 1) ha hc (c := c) (x := (n : Int) + 1) (by omega) (by omega)) (by omega) rfl rfl (Nat.le_of_ble_eq_true rfl) (fun r σ' hq => ?_)
      obtain ⟨rfl, rfl⟩ := hq
      refine zw_aload_n 16 dX2_doing_15 rfl rfl ?_
      refine zw_iload_n 17 dX2_doing_16 rfl rfl ?_
      refine zw_iload_n 18 dX2_doing_17 rfl rfl ?_
      refine zw_callV 21 _ _ dX2_doing_18 rfl kX2_41 qX2_takenOf ha ⟨_, rfl, rfl⟩ (by decide) (sp_X2_takenOf (d := d - 1) ha hc (c := c) (x := zbs t c n) (by omega) (by omega)) (by omega) rfl rfl (Nat.le_of_ble_eq_true rfl) (fun r σ' hq => ?_)
      obtain ⟨rfl, rfl⟩ := hq
      refine zw_icmp_le 26 24 dX2_doing_21 (by decide) rfl (by omega) (by omega) (fun h21 => ?_) (fun h21 => ?_)
      · refine zw_iinc 29 dX2_doing_26 rfl (by decide) rfl ?_
        refine zw_goto 4 dX2_doing_29 (by decide) ?_
        refine zw_loc [true, true, true, true] rfl ?_
        first
          | (rw [if_pos (show t (5 + 4 * c + zbs t c n) < t (5 + 4 * c + ((n : Int) + 1)) by omega)] at ih2; exact ih2)
          | (rw [if_neg (show ¬ t (5 + 4 * c + zbs t c n) < t (5 + 4 * c + ((n : Int) + 1)) by omega)] at ih2; exact ih2)
      · refine zw_iload_n 25 dX2_doing_24 rfl rfl ?_
        refine zw_istore_n 26 dX2_doing_25 rfl (by decide) ?_
        refine zw_iinc 29 dX2_doing_26 rfl (by decide) rfl ?_
        refine zw_goto 4 dX2_doing_29 (by decide) ?_
        refine zw_loc [true, true, true, true] rfl ?_
        first
          | (rw [if_pos (show t (5 + 4 * c + zbs t c n) < t (5 + 4 * c + ((n : Int) + 1)) by omega)] at ih2; exact ih2)
          | (rw [if_neg (show ¬ t (5 + 4 * c + zbs t c n) < t (5 + 4 * c + ((n : Int) + 1)) by omega)] at ih2; exact ih2)
theorem sp_X2_doing {l : Launch} {d : Nat} {σ : zMem} (hd : 1 ≤ d) {a : Nat} (ha : zly a = some (2, 4)) {t : zR} (hc : zSc σ a t) (ht : ∀ i, 0 ≤ i → i < 20 → 0 ≤ t (5 + i) ∧ t (5 + i) ≤ 999) {c : Int} (h0 : 0 ≤ c ∧ c < 5)  : zSp l d mX2_doing [.ref a, .int (zI c)] σ (zRi (zdo t c) σ) := by
  refine zSp_of oX2_doing (Nat.le_of_ble_eq_true rfl) ?_
  show zw l d mX2_doing 0 [some (.ref a), some (.int (zI c)), none, none] [] σ _
  refine zw_iconst 1 dX2_doing_0 rfl ?_
  refine zw_istore_n 2 dX2_doing_1 rfl (by decide) ?_
  refine zw_iconst 3 dX2_doing_2 rfl ?_
  refine zw_istore_n 4 dX2_doing_3 rfl (by decide) ?_
  exact lp_X2_doing hd ha hc ht h0 3 0 (by omega)
