def zRd (σ : zMem) (n : Int) (res : Except Int (Int × zR)) : Option Value → zMem → Prop := fun a σ1 => σ1 106 1 = n ∧ (∀ b, ¬ (2 ≤ b ∧ b ≤ 99) → b ≠ 106 → b ≠ 108 → σ1 b = σ b) ∧ zSF σ1 51 ∧ match res with
  | .error b => a = some (.int (zI (-10 - b))) ∧ ∀ b, 2 ≤ b → b ≤ 50 → σ1 b = σ b
  | .ok (c, r') => a = some (.int (zI c)) ∧ zCh σ1 2 r' ∧ zVT r' ∧ zZs r'
theorem zrLoop_c {tx : zR} {n : Int} : ∀ (m : Nat) {i c c' : Int} {r r' : zR}, zrLoop tx n m i c r = .ok (c', r') → c ≤ c' ∧ c' ≤ c + m
  | 0, i, c, c', r, r', h => by cases h
  | m + 1, i, c, c', r, r', h => by
    rw [zrLoop] at h
    split at h
    · cases h; omega
    · split at h
      · cases h
      · split at h
        · have := zrLoop_c m h
          omega
        · cases h
theorem sp_X5_read {l : Launch} {d : Nat} {σ : zMem} {tx : zR} {n : Int} (hd : 9 ≤ d) (hx : ztx tx n) (h7 : zt7 σ tx n) (h1 : σ 106 1 = n) (hst : zSF σ 51) (hsn : zSF σ 2) (gz : zR)  : zSp l d mX5_read [.ref 1] σ (zRd σ n (zrLoop tx n 200 0 0 (zem gz))) := by
  refine zSp_of oX5_read (Nat.le_of_ble_eq_true rfl) ?_
  show zw l d mX5_read 0 [some (.ref 1), none] [] σ _
  have hn := hx.1
  have hsp := sp_X4_tell (l := l) (d := d - 1) (by omega) hx h7 h1 hst gz
  cases hr : zrLoop tx n 200 0 0 (zem gz) with
  | error b =>
    rw [hr] at hsp
    refine zw_aload_n 1 dX5_read_0 rfl rfl ?_
    refine zw_getr 4 (106) (o := 105) dX5_read_1 rfl fX5_37 (by decide) rfl rfl ly1 ?_
    refine zw_aload_n 5 dX5_read_4 rfl rfl ?_
    refine zw_getr 8 (51) (o := 50) dX5_read_5 rfl fX5_16 (by decide) rfl rfl ly1 ?_
    refine zw_callV 11 _ _ dX5_read_8 rfl kX5_111 qX4_tell ly106 ⟨_, rfl, rfl⟩ (by decide) (hsp) (by omega) rfl rfl (Nat.le_of_ble_eq_true rfl) (fun r σ' hq => ?_)
    obtain ⟨q1, q2, rfl, q4, q5⟩ := hq
    refine zw_istore_n 12 dX5_read_11 rfl (by decide) ?_
    refine zw_iload_n 13 dX5_read_12 rfl rfl ?_
    refine zw_iconst 14 dX5_read_13 rfl ?_
    refine zw_icmp_ne 28 17 dX5_read_14 (by decide) rfl (by omega) (by omega) (fun h14 => ?_) (fun h14 => ?_)
    · exfalso; omega
    · refine zw_bipush 19 dX5_read_17 rfl (by decide) ?_
      refine zw_aload_n 20 dX5_read_19 rfl rfl ?_
      refine zw_getr 23 (106) (o := 105) dX5_read_20 rfl fX5_37 (by decide) rfl rfl ly1 ?_
      refine zw_gti 26 2 dX5_read_23 rfl fX5_115 (by decide) rfl rfl ly106 ?_
      rw [q4]
      refine zw_isub 27 dX5_read_26 rfl ?_
      refine zw_iret dX5_read_27 rfl ?_
      exact ⟨q1, fun b b0 b1 b2 => q2 b (by omega) b1 b2, q5, rfl, fun b b0 b1 => q2 b (by omega) (by omega) (by omega)⟩
  | ok cr =>
    obtain ⟨c, r'⟩ := cr
    have hc : 0 ≤ c ∧ c ≤ 200 := by have := zrLoop_c 200 hr; omega
    rw [hr] at hsp
    refine zw_aload_n 1 dX5_read_0 rfl rfl ?_
    refine zw_getr 4 (106) (o := 105) dX5_read_1 rfl fX5_37 (by decide) rfl rfl ly1 ?_
    refine zw_aload_n 5 dX5_read_4 rfl rfl ?_
    refine zw_getr 8 (51) (o := 50) dX5_read_5 rfl fX5_16 (by decide) rfl rfl ly1 ?_
    refine zw_callV 11 _ _ dX5_read_8 rfl kX5_111 qX4_tell ly106 ⟨_, rfl, rfl⟩ (by decide) (hsp) (by omega) rfl rfl (Nat.le_of_ble_eq_true rfl) (fun r σ' hq => ?_)
    obtain ⟨q1, q2, rfl, q4, q5, q6⟩ := hq
    refine zw_istore_n 12 dX5_read_11 rfl (by decide) ?_
    refine zw_iload_n 13 dX5_read_12 rfl rfl ?_
    refine zw_iconst 14 dX5_read_13 rfl ?_
    refine zw_icmp_ne 28 17 dX5_read_14 (by decide) rfl (by omega) (by omega) (fun h14 => ?_) (fun h14 => ?_)
    · refine zw_aload_n 29 dX5_read_28 rfl rfl ?_
      refine zw_getr 32 (2) (o := 1) dX5_read_29 rfl fX5_10 (by decide) rfl rfl ly1 ?_
      refine zw_aload_n 33 dX5_read_32 rfl rfl ?_
      refine zw_getr 36 (51) (o := 50) dX5_read_33 rfl fX5_16 (by decide) rfl rfl ly1 ?_
      refine zw_callV 39 _ _ dX5_read_36 rfl kX5_118 qX0_become ly2 ⟨_, rfl, rfl⟩ (by decide) (sp_X0_become (d := d - 1) (by omega) ly2 ly51 (by omega) q4 (zZs_bd q5 q6) (by rw [q6.2.2.2]; decide) (zSF_fr (fun b b0 b1 => q2 b (by omega) (by omega) (by omega)) hsn)) (by omega) rfl rfl (Nat.le_of_ble_eq_true rfl) (fun r σ' hq => ?_)
      obtain ⟨rfl, q7, q8⟩ := hq
      refine zw_iload_n 40 dX5_read_39 rfl rfl ?_
      refine zw_iret dX5_read_40 rfl ?_
      refine ⟨by rw [q8 106 (by omega)]; exact q1, fun b b0 b1 b2 => by rw [q8 b (by omega)]; exact q2 b (by omega) b1 b2, ?_, rfl, q7, q5, q6⟩
      exact zSF_fr (fun b b0 b1 => q8 b (by omega)) q4.st
    · exfalso; omega
