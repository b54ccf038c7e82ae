def zrYears (tx : zR) (n i : Int) (r : zR) : Except Int (Int × zR) := zrE tx n i 1 30 (fun i1 v => .ok (i1, zyl v.toNat r))
theorem zM23 (σ : zMem) (g r : zR) : zM2 σ g r = zM3 (zwa σ 217 g) (σ 218) r := by
  unfold zM2 zM3
  rw [show zwa (zwa σ 217 g) 218 (σ 218) = zwa σ 217 g from by rw [show σ 218 = zwa σ 217 g 218 from (zwa_ne _ _ (by decide)).symm, zwa_id]]
theorem zoo_y {N T : zR} (hT : zVT T) (h : zoo N T) : zoo N (zyr T T) := fun x hx => by
  rw [zyr_hi hT.1 hT.2.1 (by omega)]; exact h x hx
theorem lp_X6_readsYears {l : Launch} {d : Nat} {τ : zMem} {N R : zR} {v : Int} (hd : 5 ≤ d) (hv : 0 ≤ v ∧ v ≤ 30) (h14 : τ 217 14 = v) : ∀ (m : Nat) (k : Int) (t : zR), k + m = v → 0 ≤ k → zVT t → zoo N t → zyl (v - k).toNat t = R → zw l d mX6_readsYears 14 [some (.ref 217), some (.int (zI k))] [] (zM3 τ N t) (zRi 1 (zM3 τ N R)) := by
  intro m
  induction m with
  | zero =>
    intro k t h1 h2 hT ho hz
    have e : (v - k).toNat = 0 := by omega
    rw [e] at hz
    obtain rfl : t = R := hz
    refine zw_iload_n 15 dX6_readsYears_14 rfl rfl ?_
    refine zw_aload_n 16 dX6_readsYears_15 rfl rfl ?_
    refine zw_gti 19 14 dX6_readsYears_16 rfl fX6_129 (by decide) rfl rfl ly217 ?_
    try simp (disch := decide) only [zM3_218, zM3_219, zM3_ne]
    rw [h14]
    refine zw_icmp_ge 57 22 dX6_readsYears_19 (by decide) rfl (by omega) (by omega) (fun h19 => ?_) (fun h19 => ?_)
    · refine zw_iconst 58 dX6_readsYears_57 rfl ?_
      refine zw_zret dX6_readsYears_58 rfl (by omega) ?_
      exact ⟨rfl, rfl⟩
    · exfalso; omega
  | succ m ih =>
    intro k t h1 h2 hT ho hz
    have e : (v - k).toNat = (v - (k + 1)).toNat + 1 := by omega
    rw [e, zyl] at hz
    have t32 := hT.2.2
    refine zw_iload_n 15 dX6_readsYears_14 rfl rfl ?_
    refine zw_aload_n 16 dX6_readsYears_15 rfl rfl ?_
    refine zw_gti 19 14 dX6_readsYears_16 rfl fX6_129 (by decide) rfl rfl ly217 ?_
    try simp (disch := decide) only [zM3_218, zM3_219, zM3_ne]
    rw [h14]
    refine zw_icmp_ge 57 22 dX6_readsYears_19 (by decide) rfl (by omega) (by omega) (fun h19 => ?_) (fun h19 => ?_)
    · exfalso; omega
    · refine zw_aload_n 23 dX6_readsYears_22 rfl rfl ?_
      refine zw_callV 26 _ _ dX6_readsYears_23 rfl kX6_165 qX6_swapsRows ly217 ⟨_, rfl, rfl⟩ (by decide) (sp_X6_swapsRows (d := d - 1) (σ := τ) ho) (by omega) rfl rfl (Nat.le_of_ble_eq_true rfl) (fun r σ' hq => ?_)
      obtain ⟨rfl, rfl⟩ := hq
      refine zw_aload_n 27 dX6_readsYears_26 rfl rfl ?_
      refine zw_getr 30 (218) (o := 1) dX6_readsYears_27 rfl fX6_7 (by decide) rfl rfl ly217 ?_
      refine zw_bipush 32 dX6_readsYears_30 rfl (by decide) ?_
      refine zw_iald 33 dX6_readsYears_32 rfl ly218 (by omega) ?_
      rw [zM3_218]
      refine zw_sipush 36 dX6_readsYears_33 rfl (by decide) ?_
      refine zw_icmp_ge 47 39 dX6_readsYears_36 (by decide) rfl (by omega) (by omega) (fun h36 => ?_) (fun h36 => ?_)
      · refine zw_aload_n 48 dX6_readsYears_47 rfl rfl ?_
        refine zw_callV 51 _ _ dX6_readsYears_48 rfl kX6_165 qX6_swapsRows ly217 ⟨_, rfl, rfl⟩ (by decide) (sp_X6_swapsRows (d := d - 1) (σ := τ) (R := N) (by first | exact (fun x hx => (zoo_y hT ho x hx).symm) | exact (fun x hx => (ho x hx).symm))) (by omega) rfl rfl (Nat.le_of_ble_eq_true rfl) (fun r σ' hq => ?_)
        obtain ⟨rfl, rfl⟩ := hq
        refine zw_iinc 54 dX6_readsYears_51 rfl (by decide) rfl ?_
        refine zw_goto 14 dX6_readsYears_54 (by decide) ?_
        refine zw_loc [true, true] rfl ?_
        first
          | exact ih (k + 1) _ (by omega) (by omega) (zVT_y hT (by omega)) (zoo_y hT ho) hz
          | (rw [if_neg (show ¬ t 32 < 999 by omega)] at hz; exact ih (k + 1) _ (by omega) (by omega) hT ho hz)
      · rw [if_pos (show t 32 < 999 by omega)] at hz
        refine zw_aload_n 40 dX6_readsYears_39 rfl rfl ?_
        refine zw_aload_n 41 dX6_readsYears_40 rfl rfl ?_
        refine zw_getr 44 (218) (o := 1) dX6_readsYears_41 rfl fX6_7 (by decide) rfl rfl ly217 ?_
        refine zw_callV 47 _ _ dX6_readsYears_44 rfl kX6_168 qX6_yearGoes ly217 ⟨_, rfl, rfl⟩ (by decide) (sp_X6_yearGoes (d := d - 1) (σ := zM3 τ t N) (by omega) ly218 (by decide) (by rw [zM3_218]; exact hT.1) (by rw [zM3_218]; exact hT.2.1) (by rw [zM3_218]; omega)) (by omega) rfl rfl (Nat.le_of_ble_eq_true rfl) (fun r σ' hq => ?_)
        obtain ⟨rfl, rfl⟩ := hq
        rw [zM3_a, zM3_218]
        refine zw_aload_n 48 dX6_readsYears_47 rfl rfl ?_
        refine zw_callV 51 _ _ dX6_readsYears_48 rfl kX6_165 qX6_swapsRows ly217 ⟨_, rfl, rfl⟩ (by decide) (sp_X6_swapsRows (d := d - 1) (σ := τ) (R := N) (by first | exact (fun x hx => (zoo_y hT ho x hx).symm) | exact (fun x hx => (ho x hx).symm))) (by omega) rfl rfl (Nat.le_of_ble_eq_true rfl) (fun r σ' hq => ?_)
        obtain ⟨rfl, rfl⟩ := hq
        refine zw_iinc 54 dX6_readsYears_51 rfl (by decide) rfl ?_
        refine zw_goto 14 dX6_readsYears_54 (by decide) ?_
        refine zw_loc [true, true] rfl ?_
        first
          | exact ih (k + 1) _ (by omega) (by omega) (zVT_y hT (by omega)) (zoo_y hT ho) hz
          | (rw [if_neg (show ¬ t 32 < 999 by omega)] at hz; exact ih (k + 1) _ (by omega) (by omega) hT ho hz)
theorem sp_X6_readsYears {l : Launch} {d : Nat} {σ : zMem} {g r : zR} {n : Int} (hd : 6 ≤ d) (hx : ztx (σ 223) n) (h6 : g 6 = n) (hi0 : 0 ≤ g 10 ∧ g 10 ≤ n) (hT : zVT r) (ho : zoo (σ 218) r) : zSp l d mX6_readsYears [.ref 217] (zM2 σ g r) (zrD σ g n (zrYears (σ 223) n (g 10) r)) := by
  refine zSp_of oX6_readsYears (Nat.le_of_ble_eq_true rfl) ?_
  show zw l d mX6_readsYears 0 [some (.ref 217), none] [] (zM2 σ g r) _
  unfold zrYears zrE
  refine zw_aload_n 1 dX6_readsYears_0 rfl rfl ?_
  refine zw_iconst 2 dX6_readsYears_1 rfl ?_
  refine zw_bipush 4 dX6_readsYears_2 rfl (by decide) ?_
  refine zw_callV 7 _ _ dX6_readsYears_4 rfl kX6_158 qX6_number ly217 ⟨_, rfl, rfl⟩ (by decide) (sn_X6_number (d := d - 1) (σ := σ) (g := g) (n := n) (lo := 1) (hi := 30) (by omega) (by omega) (by omega) hx (by assumption) (by omega)) (by omega) rfl rfl (Nat.le_of_ble_eq_true rfl) (fun r σ' hq => ?_)
  obtain ⟨g1, rfl, rfl, ho1, h61⟩ := hq
  have nb1 := zNb_b (σ 223) n (g 10) (1) (30)
  have op1 := ho1.2.1
  have ob1 := ho1.2.2.1
  have oz1 := ho1.2.2.2.2.2.2
  refine zw_if_ne 12 10 dX6_readsYears_7 (by decide) rfl (by omega) (fun h7 => ?_) (fun h7 => ?_)
  · rw [if_pos (show zNb (σ 223) n (g 10) (1) (30) = 1 by omega)]
    have on1 := zNb_1 (tx := σ 223) (n := n) (i := g 10) (lo := 1) (hi := 30) (by omega)
    have ov1 := ho1.2.2.2.2.1 on1.1
    rw [← op1, ← ov1.1]
    refine zw_iconst 13 dX6_readsYears_12 rfl ?_
    refine zw_istore_n 14 dX6_readsYears_13 rfl (by decide) ?_
    rw [zM23]
    refine zw_mono (lp_X6_readsYears (τ := zwa σ 217 g1) (N := σ 218) (R := zyl (g1 14).toNat r) (v := g1 14) (by omega) (by omega) (by rw [zwa_same]) (g1 14).toNat 0 r (by omega) (by omega) hT ho (by rw [Int.sub_zero])) (fun a σ1 hq => ?_)
    obtain ⟨rfl, rfl⟩ := hq
    rw [← zM23]
    exact ⟨g1, _, rfl, ho1.1, by omega, by omega, rfl, rfl, rfl⟩
  · refine zw_iconst 11 dX6_readsYears_10 rfl ?_
    refine zw_zret dX6_readsYears_11 rfl (by omega) ?_
    rw [if_neg (show ¬ zNb (σ 223) n (g 10) 1 30 = 1 by omega)]
    exact ⟨g1, _, rfl, ho1.1, by omega, by omega, rfl, ob1⟩
