theorem pF_RX0_9 : zfF RX0 9 0 3 (.array .int) := ⟨_, rfl, by decide, zw_in 93 (by decide +kernel) rfl, rfl, rfl, (by decide +kernel)⟩
theorem pF_RX0_15 : zfF RX0 15 0 4 (.array .int) := ⟨_, rfl, by decide, zw_in 95 (by decide +kernel) rfl, rfl, rfl, (by decide +kernel)⟩
theorem pF_RX0_18 : zfF RX0 18 0 5 (.array .int) := ⟨_, rfl, by decide, zw_in 97 (by decide +kernel) rfl, rfl, rfl, (by decide +kernel)⟩
theorem pF_RX0_21 : zfF RX0 21 0 6 (.array .int) := ⟨_, rfl, by decide, zw_in 99 (by decide +kernel) rfl, rfl, rfl, (by decide +kernel)⟩
theorem pF_RX0_24 : zfF RX0 24 0 7 (.array .int) := ⟨_, rfl, by decide, zw_in 101 (by decide +kernel) rfl, rfl, rfl, (by decide +kernel)⟩
theorem pF_RX0_30 : zfF RX0 30 0 8 (.object RX2) := ⟨_, rfl, by decide, zw_in 103 (by decide +kernel) rfl, rfl, rfl, (by decide +kernel)⟩
theorem pF_RX0_34 : zfF RX0 34 0 9 (.array (.object RX2)) := ⟨_, rfl, by decide, zw_in 107 (by decide +kernel) rfl, rfl, rfl, (by decide +kernel)⟩
theorem pF_RX0_43 : zfF RX0 43 0 10 (.object RX1) := ⟨_, rfl, by decide, zw_in 108 (by decide +kernel) rfl, rfl, rfl, (by decide +kernel)⟩
theorem pF_RX0_47 : zfF RX0 47 0 11 (.object RX1) := ⟨_, rfl, by decide, zw_in 111 (by decide +kernel) rfl, rfl, rfl, (by decide +kernel)⟩
theorem pF_RX0_50 : zfF RX0 50 0 12 (.object RX1) := ⟨_, rfl, by decide, zw_in 113 (by decide +kernel) rfl, rfl, rfl, (by decide +kernel)⟩
def zF0 (a : Nat) (σ : zMem) : zMem := (zwr (zF2 (a + 45) (zwr (zF2 (a + 41) (zwr (zF2 (a + 37) (zwr (zF2 (a + 33) (zwr (zF2 (a + 29) (zwr (zF2 (a + 25) (zwr (zF2 (a + 21) (zwr (zF2 (a + 17) (zwr (zF1 (a + 15) 4 (zwr (zF1 (a + 13) 5 (zwr (zF1 (a + 11) 3 (zwr (zwr (zF2 (a + 6) (zwr (zwr (zwr (zwr (zwr σ a 3 1) a 4 1) a 5 1) a 6 1) a 7 1)) a 8 1) a 9 1)) a 10 1)) a 11 1)) a 12 1)) (a + 10) 0 (((a + 17) : Nat) : Int))) (a + 10) 1 (((a + 21) : Nat) : Int))) (a + 10) 2 (((a + 25) : Nat) : Int))) (a + 10) 3 (((a + 29) : Nat) : Int))) (a + 10) 4 (((a + 33) : Nat) : Int))) (a + 10) 5 (((a + 37) : Nat) : Int))) (a + 10) 6 (((a + 41) : Nat) : Int))) (a + 10) 7 (((a + 45) : Nat) : Int))
theorem zF0_ne {a : Nat} (σ : zMem) {b : Nat} (h : b < a ∨ a + 48 < b) : zF0 a σ b = σ b := by
  unfold zF0
  repeat (first | rw [zwr_ne _ _ _ (by omega)] | rw [zFl_ne _ (by omega)] | rw [zF2_ne _ (by omega)] | rw [zF1_ne _ _ (by omega)])
set_option maxRecDepth 100000 in
theorem kp_X0_init {l : Launch} {d : Nat} {σ : zMem} {a : Nat} (hd : 4 ≤ d) (hy : ∀ i, i < 49 → zly (a + i) = zlyCh[i]?) (hz : ∀ r, a < r → σ r = fun _ => 0) : zKp l d mX0_init [.ref a] σ a 48 460 (fun σ' k' => σ' = zF0 a σ ∧ k' = a + 48) := by
  refine zKp_of oX0_init rfl (Nat.le_of_ble_eq_true rfl) ?_
  show zn l d mX0_init 0 [some (.ref a), none] [] σ a 48 460 _
  refine zn_aload_n 1 dX0_init_0 rfl rfl ?_
  refine zn_objInit 4 dX0_init_1 rfl oi_RX0 rfl (by omega) ?_
  refine zn_aload_n 5 dX0_init_4 rfl rfl ?_
  refine zn_bipush 7 dX0_init_5 rfl (by decide) ?_
  refine zn_newa (at_ := .int) (n := 7) (bc := 47) (bs := 453) 9 0 100 dX0_init_7 rfl ((hy 1 (by decide)).trans rfl) (by decide) (fun G => rfl) (fun U cA h => h) rfl aw_int (by decide) (by decide) (by (repeat (first | rw [zwr_ne _ _ _ (by omega)] | rw [zF2_ne _ (by omega)] | rw [zF1_ne _ _ (by omega)] | rw [zF4_ne _ (by omega)] | rw [zF3_ne _ (by omega)])); exact hz _ (by omega)) ?_
  show zn l d mX0_init 9 [some (.ref a), none] [(.ref (a + 1)), (.ref a)] σ (a + 1) 47 453 _
  refine zn_putr 12 1 dX0_init_9 rfl pF_RX0_9 rfl (by decide) (by decide) rfl ((hy 0 (by decide)).trans rfl) (by omega) (fun _ => rfl) (fun _ => rfl) ?_
  show zn l d mX0_init 12 [some (.ref a), none] [] (zwr σ a 3 1) (a + 1) 47 453 _
  refine zn_aload_n 13 dX0_init_12 rfl rfl ?_
  refine zn_bipush 15 dX0_init_13 rfl (by decide) ?_
  refine zn_newa (at_ := .int) (n := 7) (bc := 46) (bs := 446) 17 0 100 dX0_init_15 rfl ((hy 2 (by decide)).trans rfl) (by decide) (fun G => rfl) (fun U cA h => h) rfl aw_int (by decide) (by decide) (by (repeat (first | rw [zwr_ne _ _ _ (by omega)] | rw [zF2_ne _ (by omega)] | rw [zF1_ne _ _ (by omega)] | rw [zF4_ne _ (by omega)] | rw [zF3_ne _ (by omega)])); exact hz _ (by omega)) ?_
  show zn l d mX0_init 17 [some (.ref a), none] [(.ref (a + 2)), (.ref a)] (zwr σ a 3 1) (a + 2) 46 446 _
  refine zn_putr 20 2 dX0_init_17 rfl pF_RX0_15 rfl (by decide) (by decide) rfl ((hy 0 (by decide)).trans rfl) (by omega) (fun _ => rfl) (fun _ => rfl) ?_
  show zn l d mX0_init 20 [some (.ref a), none] [] (zwr (zwr σ a 3 1) a 4 1) (a + 2) 46 446 _
  refine zn_aload_n 21 dX0_init_20 rfl rfl ?_
  refine zn_iconst 22 dX0_init_21 rfl ?_
  refine zn_newa (at_ := .int) (n := 5) (bc := 45) (bs := 441) 24 0 100 dX0_init_22 rfl ((hy 3 (by decide)).trans rfl) (by decide) (fun G => rfl) (fun U cA h => h) rfl aw_int (by decide) (by decide) (by (repeat (first | rw [zwr_ne _ _ _ (by omega)] | rw [zF2_ne _ (by omega)] | rw [zF1_ne _ _ (by omega)] | rw [zF4_ne _ (by omega)] | rw [zF3_ne _ (by omega)])); exact hz _ (by omega)) ?_
  show zn l d mX0_init 24 [some (.ref a), none] [(.ref (a + 3)), (.ref a)] (zwr (zwr σ a 3 1) a 4 1) (a + 3) 45 441 _
  refine zn_putr 27 3 dX0_init_24 rfl pF_RX0_18 rfl (by decide) (by decide) rfl ((hy 0 (by decide)).trans rfl) (by omega) (fun _ => rfl) (fun _ => rfl) ?_
  show zn l d mX0_init 27 [some (.ref a), none] [] (zwr (zwr (zwr σ a 3 1) a 4 1) a 5 1) (a + 3) 45 441 _
  refine zn_aload_n 28 dX0_init_27 rfl rfl ?_
  refine zn_iconst 29 dX0_init_28 rfl ?_
  refine zn_newa (at_ := .int) (n := 5) (bc := 44) (bs := 436) 31 0 100 dX0_init_29 rfl ((hy 4 (by decide)).trans rfl) (by decide) (fun G => rfl) (fun U cA h => h) rfl aw_int (by decide) (by decide) (by (repeat (first | rw [zwr_ne _ _ _ (by omega)] | rw [zF2_ne _ (by omega)] | rw [zF1_ne _ _ (by omega)] | rw [zF4_ne _ (by omega)] | rw [zF3_ne _ (by omega)])); exact hz _ (by omega)) ?_
  show zn l d mX0_init 31 [some (.ref a), none] [(.ref (a + 4)), (.ref a)] (zwr (zwr (zwr σ a 3 1) a 4 1) a 5 1) (a + 4) 44 436 _
  refine zn_putr 34 4 dX0_init_31 rfl pF_RX0_21 rfl (by decide) (by decide) rfl ((hy 0 (by decide)).trans rfl) (by omega) (fun _ => rfl) (fun _ => rfl) ?_
  show zn l d mX0_init 34 [some (.ref a), none] [] (zwr (zwr (zwr (zwr σ a 3 1) a 4 1) a 5 1) a 6 1) (a + 4) 44 436 _
  refine zn_aload_n 35 dX0_init_34 rfl rfl ?_
  refine zn_iconst 36 dX0_init_35 rfl ?_
  refine zn_newa (at_ := .int) (n := 5) (bc := 43) (bs := 431) 38 0 100 dX0_init_36 rfl ((hy 5 (by decide)).trans rfl) (by decide) (fun G => rfl) (fun U cA h => h) rfl aw_int (by decide) (by decide) (by (repeat (first | rw [zwr_ne _ _ _ (by omega)] | rw [zF2_ne _ (by omega)] | rw [zF1_ne _ _ (by omega)] | rw [zF4_ne _ (by omega)] | rw [zF3_ne _ (by omega)])); exact hz _ (by omega)) ?_
  show zn l d mX0_init 38 [some (.ref a), none] [(.ref (a + 5)), (.ref a)] (zwr (zwr (zwr (zwr σ a 3 1) a 4 1) a 5 1) a 6 1) (a + 5) 43 431 _
  refine zn_putr 41 5 dX0_init_38 rfl pF_RX0_24 rfl (by decide) (by decide) rfl ((hy 0 (by decide)).trans rfl) (by omega) (fun _ => rfl) (fun _ => rfl) ?_
  show zn l d mX0_init 41 [some (.ref a), none] [] (zwr (zwr (zwr (zwr (zwr σ a 3 1) a 4 1) a 5 1) a 6 1) a 7 1) (a + 5) 43 431 _
  refine zn_aload_n 42 dX0_init_41 rfl rfl ?_
  refine zn_new (N := 4) (bc := 42) (bs := 427) 45 dX0_init_42 rfl ((hy 6 (by decide)).trans rfl) (by decide) nw_RX0_27 (by (repeat (first | rw [zwr_ne _ _ _ (by omega)] | rw [zF2_ne _ (by omega)] | rw [zF1_ne _ _ (by omega)] | rw [zF4_ne _ (by omega)] | rw [zF3_ne _ (by omega)])); exact hz _ (by omega)) ?_
  show zn l d mX0_init 45 [some (.ref a), none] [(.ref (a + 6)), (.ref a)] (zwr (zwr (zwr (zwr (zwr σ a 3 1) a 4 1) a 5 1) a 6 1) a 7 1) (a + 6) 42 427 _
  refine zn_dup 46 dX0_init_45 rfl rfl ?_
  refine zn_callI (bc1 := 3) (bs1 := 32) (bc := 39) (bs := 395) 49 [] [(.ref (a + 6)), (.ref a)] dX0_init_46 rfl ci_RX0_29 qX2_init rfl rfl (kp_X2_init (d := d - 1) (by omega) (fun i hi => by
    match i, hi with
    | 0, _ => exact hy 6 (by decide)
    | 1, _ => exact hy 7 (by decide)
    | 2, _ => exact hy 8 (by decide)
    | 3, _ => exact hy 9 (by decide)
    | i + 4, h => exact absurd h (by omega)) (fun r hr => by (repeat (first | rw [zwr_ne _ _ _ (by omega)] | rw [zF2_ne _ (by omega)] | rw [zF1_ne _ _ (by omega)] | rw [zF4_ne _ (by omega)] | rw [zF3_ne _ (by omega)])); exact hz _ (by omega))) (by omega) rfl rfl (Nat.le_of_ble_eq_true rfl) (fun σ1 k1 hq => ?_)
  obtain ⟨rfl, rfl⟩ := hq
  show zn l d mX0_init 49 [some (.ref a), none] [(.ref (a + 6)), (.ref a)] (zF2 (a + 6) (zwr (zwr (zwr (zwr (zwr σ a 3 1) a 4 1) a 5 1) a 6 1) a 7 1)) (a + 9) 39 395 _
  refine zn_putr 52 6 dX0_init_49 rfl pF_RX0_30 rfl (by decide) (by decide) rfl ((hy 0 (by decide)).trans rfl) (by omega) (fun _ => rfl) (fun _ => rfl) ?_
  show zn l d mX0_init 52 [some (.ref a), none] [] (zwr (zF2 (a + 6) (zwr (zwr (zwr (zwr (zwr σ a 3 1) a 4 1) a 5 1) a 6 1) a 7 1)) a 8 1) (a + 9) 39 395 _
  refine zn_aload_n 53 dX0_init_52 rfl rfl ?_
  refine zn_bipush 55 dX0_init_53 rfl (by decide) ?_
  refine zn_newq (n := 8) (bc := 38) (bs := 387) (C := RX2) 58 3 103 dX0_init_55 rfl ((hy 10 (by decide)).trans rfl) (by decide) (fun G => rfl) ⟨nwl_RX0_27, Or.inl rfl⟩ (by decide) (by (repeat (first | rw [zwr_ne _ _ _ (by omega)] | rw [zF2_ne _ (by omega)] | rw [zF1_ne _ _ (by omega)] | rw [zF4_ne _ (by omega)] | rw [zF3_ne _ (by omega)])); exact hz _ (by omega)) ?_
  show zn l d mX0_init 58 [some (.ref a), none] [(.ref (a + 10)), (.ref a)] (zwr (zF2 (a + 6) (zwr (zwr (zwr (zwr (zwr σ a 3 1) a 4 1) a 5 1) a 6 1) a 7 1)) a 8 1) (a + 10) 38 387 _
  refine zn_putr 61 10 dX0_init_58 rfl pF_RX0_34 rfl (by decide) (by decide) rfl ((hy 0 (by decide)).trans rfl) (by omega) (fun _ => rfl) (fun _ => rfl) ?_
  show zn l d mX0_init 61 [some (.ref a), none] [] (zwr (zwr (zF2 (a + 6) (zwr (zwr (zwr (zwr (zwr σ a 3 1) a 4 1) a 5 1) a 6 1) a 7 1)) a 8 1) a 9 1) (a + 10) 38 387 _
  refine zn_aload_n 62 dX0_init_61 rfl rfl ?_
  refine zn_new (N := 3) (bc := 37) (bs := 384) 65 dX0_init_62 rfl ((hy 11 (by decide)).trans rfl) (by decide) nw_RX0_38 (by (repeat (first | rw [zwr_ne _ _ _ (by omega)] | rw [zF2_ne _ (by omega)] | rw [zF1_ne _ _ (by omega)] | rw [zF4_ne _ (by omega)] | rw [zF3_ne _ (by omega)])); exact hz _ (by omega)) ?_
  show zn l d mX0_init 65 [some (.ref a), none] [(.ref (a + 11)), (.ref a)] (zwr (zwr (zF2 (a + 6) (zwr (zwr (zwr (zwr (zwr σ a 3 1) a 4 1) a 5 1) a 6 1) a 7 1)) a 8 1) a 9 1) (a + 11) 37 384 _
  refine zn_dup 66 dX0_init_65 rfl rfl ?_
  refine zn_iconst 67 dX0_init_66 rfl ?_
  refine zn_callI (bc1 := 1) (bs1 := 30) (bc := 36) (bs := 354) 70 [.int (zI 3)] [(.ref (a + 11)), (.ref a)] dX0_init_67 rfl ci_RX0_40 qX1_init rfl rfl (kp_X1_init (d := d - 1) (by omega) (fun i hi => by
    match i, hi with
    | 0, _ => exact hy 11 (by decide)
    | 1, _ => exact hy 12 (by decide)
    | i + 2, h => exact absurd h (by omega)) (fun r hr => by (repeat (first | rw [zwr_ne _ _ _ (by omega)] | rw [zF2_ne _ (by omega)] | rw [zF1_ne _ _ (by omega)] | rw [zF4_ne _ (by omega)] | rw [zF3_ne _ (by omega)])); exact hz _ (by omega))) (by omega) rfl rfl (Nat.le_of_ble_eq_true rfl) (fun σ1 k1 hq => ?_)
  obtain ⟨rfl, rfl⟩ := hq
  show zn l d mX0_init 70 [some (.ref a), none] [(.ref (a + 11)), (.ref a)] (zF1 (a + 11) 3 (zwr (zwr (zF2 (a + 6) (zwr (zwr (zwr (zwr (zwr σ a 3 1) a 4 1) a 5 1) a 6 1) a 7 1)) a 8 1) a 9 1)) (a + 12) 36 354 _
  refine zn_putr 73 11 dX0_init_70 rfl pF_RX0_43 rfl (by decide) (by decide) rfl ((hy 0 (by decide)).trans rfl) (by omega) (fun _ => rfl) (fun _ => rfl) ?_
  show zn l d mX0_init 73 [some (.ref a), none] [] (zwr (zF1 (a + 11) 3 (zwr (zwr (zF2 (a + 6) (zwr (zwr (zwr (zwr (zwr σ a 3 1) a 4 1) a 5 1) a 6 1) a 7 1)) a 8 1) a 9 1)) a 10 1) (a + 12) 36 354 _
  refine zn_aload_n 74 dX0_init_73 rfl rfl ?_
  refine zn_new (N := 3) (bc := 35) (bs := 351) 77 dX0_init_74 rfl ((hy 13 (by decide)).trans rfl) (by decide) nw_RX0_38 (by (repeat (first | rw [zwr_ne _ _ _ (by omega)] | rw [zF2_ne _ (by omega)] | rw [zF1_ne _ _ (by omega)] | rw [zF4_ne _ (by omega)] | rw [zF3_ne _ (by omega)])); exact hz _ (by omega)) ?_
  show zn l d mX0_init 77 [some (.ref a), none] [(.ref (a + 13)), (.ref a)] (zwr (zF1 (a + 11) 3 (zwr (zwr (zF2 (a + 6) (zwr (zwr (zwr (zwr (zwr σ a 3 1) a 4 1) a 5 1) a 6 1) a 7 1)) a 8 1) a 9 1)) a 10 1) (a + 13) 35 351 _
  refine zn_dup 78 dX0_init_77 rfl rfl ?_
  refine zn_iconst 79 dX0_init_78 rfl ?_
  refine zn_callI (bc1 := 1) (bs1 := 30) (bc := 34) (bs := 321) 82 [.int (zI 5)] [(.ref (a + 13)), (.ref a)] dX0_init_79 rfl ci_RX0_40 qX1_init rfl rfl (kp_X1_init (d := d - 1) (by omega) (fun i hi => by
    match i, hi with
    | 0, _ => exact hy 13 (by decide)
    | 1, _ => exact hy 14 (by decide)
    | i + 2, h => exact absurd h (by omega)) (fun r hr => by (repeat (first | rw [zwr_ne _ _ _ (by omega)] | rw [zF2_ne _ (by omega)] | rw [zF1_ne _ _ (by omega)] | rw [zF4_ne _ (by omega)] | rw [zF3_ne _ (by omega)])); exact hz _ (by omega))) (by omega) rfl rfl (Nat.le_of_ble_eq_true rfl) (fun σ1 k1 hq => ?_)
  obtain ⟨rfl, rfl⟩ := hq
  show zn l d mX0_init 82 [some (.ref a), none] [(.ref (a + 13)), (.ref a)] (zF1 (a + 13) 5 (zwr (zF1 (a + 11) 3 (zwr (zwr (zF2 (a + 6) (zwr (zwr (zwr (zwr (zwr σ a 3 1) a 4 1) a 5 1) a 6 1) a 7 1)) a 8 1) a 9 1)) a 10 1)) (a + 14) 34 321 _
  refine zn_putr 85 13 dX0_init_82 rfl pF_RX0_47 rfl (by decide) (by decide) rfl ((hy 0 (by decide)).trans rfl) (by omega) (fun _ => rfl) (fun _ => rfl) ?_
  show zn l d mX0_init 85 [some (.ref a), none] [] (zwr (zF1 (a + 13) 5 (zwr (zF1 (a + 11) 3 (zwr (zwr (zF2 (a + 6) (zwr (zwr (zwr (zwr (zwr σ a 3 1) a 4 1) a 5 1) a 6 1) a 7 1)) a 8 1) a 9 1)) a 10 1)) a 11 1) (a + 14) 34 321 _
  refine zn_aload_n 86 dX0_init_85 rfl rfl ?_
  refine zn_new (N := 3) (bc := 33) (bs := 318) 89 dX0_init_86 rfl ((hy 15 (by decide)).trans rfl) (by decide) nw_RX0_38 (by (repeat (first | rw [zwr_ne _ _ _ (by omega)] | rw [zF2_ne _ (by omega)] | rw [zF1_ne _ _ (by omega)] | rw [zF4_ne _ (by omega)] | rw [zF3_ne _ (by omega)])); exact hz _ (by omega)) ?_
  show zn l d mX0_init 89 [some (.ref a), none] [(.ref (a + 15)), (.ref a)] (zwr (zF1 (a + 13) 5 (zwr (zF1 (a + 11) 3 (zwr (zwr (zF2 (a + 6) (zwr (zwr (zwr (zwr (zwr σ a 3 1) a 4 1) a 5 1) a 6 1) a 7 1)) a 8 1) a 9 1)) a 10 1)) a 11 1) (a + 15) 33 318 _
  refine zn_dup 90 dX0_init_89 rfl rfl ?_
  refine zn_iconst 91 dX0_init_90 rfl ?_
  refine zn_callI (bc1 := 1) (bs1 := 30) (bc := 32) (bs := 288) 94 [.int (zI 4)] [(.ref (a + 15)), (.ref a)] dX0_init_91 rfl ci_RX0_40 qX1_init rfl rfl (kp_X1_init (d := d - 1) (by omega) (fun i hi => by
    match i, hi with
    | 0, _ => exact hy 15 (by decide)
    | 1, _ => exact hy 16 (by decide)
    | i + 2, h => exact absurd h (by omega)) (fun r hr => by (repeat (first | rw [zwr_ne _ _ _ (by omega)] | rw [zF2_ne _ (by omega)] | rw [zF1_ne _ _ (by omega)] | rw [zF4_ne _ (by omega)] | rw [zF3_ne _ (by omega)])); exact hz _ (by omega))) (by omega) rfl rfl (Nat.le_of_ble_eq_true rfl) (fun σ1 k1 hq => ?_)
  obtain ⟨rfl, rfl⟩ := hq
  show zn l d mX0_init 94 [some (.ref a), none] [(.ref (a + 15)), (.ref a)] (zF1 (a + 15) 4 (zwr (zF1 (a + 13) 5 (zwr (zF1 (a + 11) 3 (zwr (zwr (zF2 (a + 6) (zwr (zwr (zwr (zwr (zwr σ a 3 1) a 4 1) a 5 1) a 6 1) a 7 1)) a 8 1) a 9 1)) a 10 1)) a 11 1)) (a + 16) 32 288 _
  refine zn_putr 97 15 dX0_init_94 rfl pF_RX0_50 rfl (by decide) (by decide) rfl ((hy 0 (by decide)).trans rfl) (by omega) (fun _ => rfl) (fun _ => rfl) ?_
  show zn l d mX0_init 97 [some (.ref a), none] [] (zwr (zF1 (a + 15) 4 (zwr (zF1 (a + 13) 5 (zwr (zF1 (a + 11) 3 (zwr (zwr (zF2 (a + 6) (zwr (zwr (zwr (zwr (zwr σ a 3 1) a 4 1) a 5 1) a 6 1) a 7 1)) a 8 1) a 9 1)) a 10 1)) a 11 1)) a 12 1) (a + 16) 32 288 _
  refine zn_iconst 98 dX0_init_97 rfl ?_
  refine zn_istore_n 99 dX0_init_98 rfl (by decide) ?_
  show zn l d mX0_init 99 [some (.ref a), some (.int (zI 0))] [] (zwr (zF1 (a + 15) 4 (zwr (zF1 (a + 13) 5 (zwr (zF1 (a + 11) 3 (zwr (zwr (zF2 (a + 6) (zwr (zwr (zwr (zwr (zwr σ a 3 1) a 4 1) a 5 1) a 6 1) a 7 1)) a 8 1) a 9 1)) a 10 1)) a 11 1)) a 12 1) (a + 16) 32 288 _
  refine zn_iload_n 100 dX0_init_99 rfl rfl ?_
  refine zn_bipush 102 dX0_init_100 rfl (by decide) ?_
  refine zn_icmp_ge 124 105 dX0_init_102 (by decide) rfl (by omega) (by omega) (fun hh => absurd hh (by decide)) (fun _ => ?_)
  refine zn_aload_n 106 dX0_init_105 rfl rfl ?_
  refine zn_getr 109 (a + 10) (o := 10) (j := 9) (ci := 0) dX0_init_106 rfl ⟨_, rfl, by decide, zw_in 107 (by decide +kernel) rfl⟩ (by decide) (by decide) rfl ((hy 0 (by decide)).trans rfl) (by omega) (by (repeat (first | rw [zF2_ne _ (by omega)] | rw [zF1_ne _ _ (by omega)] | rw [zwr_ne _ _ _ (by omega)] | rw [zwr_ni _ _ _ (by omega)])); simp [zwr, zwa, zup]) ?_
  refine zn_iload_n 110 dX0_init_109 rfl rfl ?_
  refine zn_new (N := 4) (bc := 31) (bs := 284) 113 dX0_init_110 rfl ((hy 17 (by decide)).trans rfl) (by decide) nw_RX0_27 (by (repeat (first | rw [zwr_ne _ _ _ (by omega)] | rw [zF2_ne _ (by omega)] | rw [zF1_ne _ _ (by omega)] | rw [zF4_ne _ (by omega)] | rw [zF3_ne _ (by omega)])); exact hz _ (by omega)) ?_
  show zn l d mX0_init 113 [some (.ref a), some (.int (zI 0))] [(.ref (a + 17)), (.int (zI 0)), (.ref (a + 10))] (zwr (zF1 (a + 15) 4 (zwr (zF1 (a + 13) 5 (zwr (zF1 (a + 11) 3 (zwr (zwr (zF2 (a + 6) (zwr (zwr (zwr (zwr (zwr σ a 3 1) a 4 1) a 5 1) a 6 1) a 7 1)) a 8 1) a 9 1)) a 10 1)) a 11 1)) a 12 1) (a + 17) 31 284 _
  refine zn_dup 114 dX0_init_113 rfl rfl ?_
  refine zn_callI (bc1 := 3) (bs1 := 32) (bc := 28) (bs := 252) 117 [] [(.ref (a + 17)), (.int (zI 0)), (.ref (a + 10))] dX0_init_114 rfl ci_RX0_29 qX2_init rfl rfl (kp_X2_init (d := d - 1) (by omega) (fun i hi => by
    match i, hi with
    | 0, _ => exact hy 17 (by decide)
    | 1, _ => exact hy 18 (by decide)
    | 2, _ => exact hy 19 (by decide)
    | 3, _ => exact hy 20 (by decide)
    | i + 4, h => exact absurd h (by omega)) (fun r hr => by (repeat (first | rw [zwr_ne _ _ _ (by omega)] | rw [zF2_ne _ (by omega)] | rw [zF1_ne _ _ (by omega)] | rw [zF4_ne _ (by omega)] | rw [zF3_ne _ (by omega)])); exact hz _ (by omega))) (by omega) rfl rfl (Nat.le_of_ble_eq_true rfl) (fun σ1 k1 hq => ?_)
  obtain ⟨rfl, rfl⟩ := hq
  show zn l d mX0_init 117 [some (.ref a), some (.int (zI 0))] [(.ref (a + 17)), (.int (zI 0)), (.ref (a + 10))] (zF2 (a + 17) (zwr (zF1 (a + 15) 4 (zwr (zF1 (a + 13) 5 (zwr (zF1 (a + 11) 3 (zwr (zwr (zF2 (a + 6) (zwr (zwr (zwr (zwr (zwr σ a 3 1) a 4 1) a 5 1) a 6 1) a 7 1)) a 8 1) a 9 1)) a 10 1)) a 11 1)) a 12 1)) (a + 20) 28 252 _
  refine zn_aast 118 3 2 dX0_init_117 rfl ((hy 10 (by decide)).trans rfl) (by decide) (fun G => rfl) rfl (by decide) (by omega) (by decide) ((hy 17 (by decide)).trans rfl) (by omega) ?_
  show zn l d mX0_init 118 [some (.ref a), some (.int (zI 0))] [] (zwr (zF2 (a + 17) (zwr (zF1 (a + 15) 4 (zwr (zF1 (a + 13) 5 (zwr (zF1 (a + 11) 3 (zwr (zwr (zF2 (a + 6) (zwr (zwr (zwr (zwr (zwr σ a 3 1) a 4 1) a 5 1) a 6 1) a 7 1)) a 8 1) a 9 1)) a 10 1)) a 11 1)) a 12 1)) (a + 10) 0 (((a + 17) : Nat) : Int)) (a + 20) 28 252 _
  refine zn_iinc 121 dX0_init_118 rfl (by decide) rfl ?_
  show zn l d mX0_init 121 [some (.ref a), some (.int (zI 1))] [] (zwr (zF2 (a + 17) (zwr (zF1 (a + 15) 4 (zwr (zF1 (a + 13) 5 (zwr (zF1 (a + 11) 3 (zwr (zwr (zF2 (a + 6) (zwr (zwr (zwr (zwr (zwr σ a 3 1) a 4 1) a 5 1) a 6 1) a 7 1)) a 8 1) a 9 1)) a 10 1)) a 11 1)) a 12 1)) (a + 10) 0 (((a + 17) : Nat) : Int)) (a + 20) 28 252 _
  refine zn_goto 99 dX0_init_121 (by decide) ?_
  refine zn_iload_n 100 dX0_init_99 rfl rfl ?_
  refine zn_bipush 102 dX0_init_100 rfl (by decide) ?_
  refine zn_icmp_ge 124 105 dX0_init_102 (by decide) rfl (by omega) (by omega) (fun hh => absurd hh (by decide)) (fun _ => ?_)
  refine zn_aload_n 106 dX0_init_105 rfl rfl ?_
  refine zn_getr 109 (a + 10) (o := 10) (j := 9) (ci := 0) dX0_init_106 rfl ⟨_, rfl, by decide, zw_in 107 (by decide +kernel) rfl⟩ (by decide) (by decide) rfl ((hy 0 (by decide)).trans rfl) (by omega) (by (repeat (first | rw [zF2_ne _ (by omega)] | rw [zF1_ne _ _ (by omega)] | rw [zwr_ne _ _ _ (by omega)] | rw [zwr_ni _ _ _ (by omega)])); simp [zwr, zwa, zup]) ?_
  refine zn_iload_n 110 dX0_init_109 rfl rfl ?_
  refine zn_new (N := 4) (bc := 27) (bs := 248) 113 dX0_init_110 rfl ((hy 21 (by decide)).trans rfl) (by decide) nw_RX0_27 (by (repeat (first | rw [zwr_ne _ _ _ (by omega)] | rw [zF2_ne _ (by omega)] | rw [zF1_ne _ _ (by omega)] | rw [zF4_ne _ (by omega)] | rw [zF3_ne _ (by omega)])); exact hz _ (by omega)) ?_
  show zn l d mX0_init 113 [some (.ref a), some (.int (zI 1))] [(.ref (a + 21)), (.int (zI 1)), (.ref (a + 10))] (zwr (zF2 (a + 17) (zwr (zF1 (a + 15) 4 (zwr (zF1 (a + 13) 5 (zwr (zF1 (a + 11) 3 (zwr (zwr (zF2 (a + 6) (zwr (zwr (zwr (zwr (zwr σ a 3 1) a 4 1) a 5 1) a 6 1) a 7 1)) a 8 1) a 9 1)) a 10 1)) a 11 1)) a 12 1)) (a + 10) 0 (((a + 17) : Nat) : Int)) (a + 21) 27 248 _
  refine zn_dup 114 dX0_init_113 rfl rfl ?_
  refine zn_callI (bc1 := 3) (bs1 := 32) (bc := 24) (bs := 216) 117 [] [(.ref (a + 21)), (.int (zI 1)), (.ref (a + 10))] dX0_init_114 rfl ci_RX0_29 qX2_init rfl rfl (kp_X2_init (d := d - 1) (by omega) (fun i hi => by
    match i, hi with
    | 0, _ => exact hy 21 (by decide)
    | 1, _ => exact hy 22 (by decide)
    | 2, _ => exact hy 23 (by decide)
    | 3, _ => exact hy 24 (by decide)
    | i + 4, h => exact absurd h (by omega)) (fun r hr => by (repeat (first | rw [zwr_ne _ _ _ (by omega)] | rw [zF2_ne _ (by omega)] | rw [zF1_ne _ _ (by omega)] | rw [zF4_ne _ (by omega)] | rw [zF3_ne _ (by omega)])); exact hz _ (by omega))) (by omega) rfl rfl (Nat.le_of_ble_eq_true rfl) (fun σ1 k1 hq => ?_)
  obtain ⟨rfl, rfl⟩ := hq
  show zn l d mX0_init 117 [some (.ref a), some (.int (zI 1))] [(.ref (a + 21)), (.int (zI 1)), (.ref (a + 10))] (zF2 (a + 21) (zwr (zF2 (a + 17) (zwr (zF1 (a + 15) 4 (zwr (zF1 (a + 13) 5 (zwr (zF1 (a + 11) 3 (zwr (zwr (zF2 (a + 6) (zwr (zwr (zwr (zwr (zwr σ a 3 1) a 4 1) a 5 1) a 6 1) a 7 1)) a 8 1) a 9 1)) a 10 1)) a 11 1)) a 12 1)) (a + 10) 0 (((a + 17) : Nat) : Int))) (a + 24) 24 216 _
  refine zn_aast 118 3 2 dX0_init_117 rfl ((hy 10 (by decide)).trans rfl) (by decide) (fun G => rfl) rfl (by decide) (by omega) (by decide) ((hy 21 (by decide)).trans rfl) (by omega) ?_
  show zn l d mX0_init 118 [some (.ref a), some (.int (zI 1))] [] (zwr (zF2 (a + 21) (zwr (zF2 (a + 17) (zwr (zF1 (a + 15) 4 (zwr (zF1 (a + 13) 5 (zwr (zF1 (a + 11) 3 (zwr (zwr (zF2 (a + 6) (zwr (zwr (zwr (zwr (zwr σ a 3 1) a 4 1) a 5 1) a 6 1) a 7 1)) a 8 1) a 9 1)) a 10 1)) a 11 1)) a 12 1)) (a + 10) 0 (((a + 17) : Nat) : Int))) (a + 10) 1 (((a + 21) : Nat) : Int)) (a + 24) 24 216 _
  refine zn_iinc 121 dX0_init_118 rfl (by decide) rfl ?_
  show zn l d mX0_init 121 [some (.ref a), some (.int (zI 2))] [] (zwr (zF2 (a + 21) (zwr (zF2 (a + 17) (zwr (zF1 (a + 15) 4 (zwr (zF1 (a + 13) 5 (zwr (zF1 (a + 11) 3 (zwr (zwr (zF2 (a + 6) (zwr (zwr (zwr (zwr (zwr σ a 3 1) a 4 1) a 5 1) a 6 1) a 7 1)) a 8 1) a 9 1)) a 10 1)) a 11 1)) a 12 1)) (a + 10) 0 (((a + 17) : Nat) : Int))) (a + 10) 1 (((a + 21) : Nat) : Int)) (a + 24) 24 216 _
  refine zn_goto 99 dX0_init_121 (by decide) ?_
  refine zn_iload_n 100 dX0_init_99 rfl rfl ?_
  refine zn_bipush 102 dX0_init_100 rfl (by decide) ?_
  refine zn_icmp_ge 124 105 dX0_init_102 (by decide) rfl (by omega) (by omega) (fun hh => absurd hh (by decide)) (fun _ => ?_)
  refine zn_aload_n 106 dX0_init_105 rfl rfl ?_
  refine zn_getr 109 (a + 10) (o := 10) (j := 9) (ci := 0) dX0_init_106 rfl ⟨_, rfl, by decide, zw_in 107 (by decide +kernel) rfl⟩ (by decide) (by decide) rfl ((hy 0 (by decide)).trans rfl) (by omega) (by (repeat (first | rw [zF2_ne _ (by omega)] | rw [zF1_ne _ _ (by omega)] | rw [zwr_ne _ _ _ (by omega)] | rw [zwr_ni _ _ _ (by omega)])); simp [zwr, zwa, zup]) ?_
  refine zn_iload_n 110 dX0_init_109 rfl rfl ?_
  refine zn_new (N := 4) (bc := 23) (bs := 212) 113 dX0_init_110 rfl ((hy 25 (by decide)).trans rfl) (by decide) nw_RX0_27 (by (repeat (first | rw [zwr_ne _ _ _ (by omega)] | rw [zF2_ne _ (by omega)] | rw [zF1_ne _ _ (by omega)] | rw [zF4_ne _ (by omega)] | rw [zF3_ne _ (by omega)])); exact hz _ (by omega)) ?_
  show zn l d mX0_init 113 [some (.ref a), some (.int (zI 2))] [(.ref (a + 25)), (.int (zI 2)), (.ref (a + 10))] (zwr (zF2 (a + 21) (zwr (zF2 (a + 17) (zwr (zF1 (a + 15) 4 (zwr (zF1 (a + 13) 5 (zwr (zF1 (a + 11) 3 (zwr (zwr (zF2 (a + 6) (zwr (zwr (zwr (zwr (zwr σ a 3 1) a 4 1) a 5 1) a 6 1) a 7 1)) a 8 1) a 9 1)) a 10 1)) a 11 1)) a 12 1)) (a + 10) 0 (((a + 17) : Nat) : Int))) (a + 10) 1 (((a + 21) : Nat) : Int)) (a + 25) 23 212 _
  refine zn_dup 114 dX0_init_113 rfl rfl ?_
  refine zn_callI (bc1 := 3) (bs1 := 32) (bc := 20) (bs := 180) 117 [] [(.ref (a + 25)), (.int (zI 2)), (.ref (a + 10))] dX0_init_114 rfl ci_RX0_29 qX2_init rfl rfl (kp_X2_init (d := d - 1) (by omega) (fun i hi => by
    match i, hi with
    | 0, _ => exact hy 25 (by decide)
    | 1, _ => exact hy 26 (by decide)
    | 2, _ => exact hy 27 (by decide)
    | 3, _ => exact hy 28 (by decide)
    | i + 4, h => exact absurd h (by omega)) (fun r hr => by (repeat (first | rw [zwr_ne _ _ _ (by omega)] | rw [zF2_ne _ (by omega)] | rw [zF1_ne _ _ (by omega)] | rw [zF4_ne _ (by omega)] | rw [zF3_ne _ (by omega)])); exact hz _ (by omega))) (by omega) rfl rfl (Nat.le_of_ble_eq_true rfl) (fun σ1 k1 hq => ?_)
  obtain ⟨rfl, rfl⟩ := hq
  show zn l d mX0_init 117 [some (.ref a), some (.int (zI 2))] [(.ref (a + 25)), (.int (zI 2)), (.ref (a + 10))] (zF2 (a + 25) (zwr (zF2 (a + 21) (zwr (zF2 (a + 17) (zwr (zF1 (a + 15) 4 (zwr (zF1 (a + 13) 5 (zwr (zF1 (a + 11) 3 (zwr (zwr (zF2 (a + 6) (zwr (zwr (zwr (zwr (zwr σ a 3 1) a 4 1) a 5 1) a 6 1) a 7 1)) a 8 1) a 9 1)) a 10 1)) a 11 1)) a 12 1)) (a + 10) 0 (((a + 17) : Nat) : Int))) (a + 10) 1 (((a + 21) : Nat) : Int))) (a + 28) 20 180 _
  refine zn_aast 118 3 2 dX0_init_117 rfl ((hy 10 (by decide)).trans rfl) (by decide) (fun G => rfl) rfl (by decide) (by omega) (by decide) ((hy 25 (by decide)).trans rfl) (by omega) ?_
  show zn l d mX0_init 118 [some (.ref a), some (.int (zI 2))] [] (zwr (zF2 (a + 25) (zwr (zF2 (a + 21) (zwr (zF2 (a + 17) (zwr (zF1 (a + 15) 4 (zwr (zF1 (a + 13) 5 (zwr (zF1 (a + 11) 3 (zwr (zwr (zF2 (a + 6) (zwr (zwr (zwr (zwr (zwr σ a 3 1) a 4 1) a 5 1) a 6 1) a 7 1)) a 8 1) a 9 1)) a 10 1)) a 11 1)) a 12 1)) (a + 10) 0 (((a + 17) : Nat) : Int))) (a + 10) 1 (((a + 21) : Nat) : Int))) (a + 10) 2 (((a + 25) : Nat) : Int)) (a + 28) 20 180 _
  refine zn_iinc 121 dX0_init_118 rfl (by decide) rfl ?_
  show zn l d mX0_init 121 [some (.ref a), some (.int (zI 3))] [] (zwr (zF2 (a + 25) (zwr (zF2 (a + 21) (zwr (zF2 (a + 17) (zwr (zF1 (a + 15) 4 (zwr (zF1 (a + 13) 5 (zwr (zF1 (a + 11) 3 (zwr (zwr (zF2 (a + 6) (zwr (zwr (zwr (zwr (zwr σ a 3 1) a 4 1) a 5 1) a 6 1) a 7 1)) a 8 1) a 9 1)) a 10 1)) a 11 1)) a 12 1)) (a + 10) 0 (((a + 17) : Nat) : Int))) (a + 10) 1 (((a + 21) : Nat) : Int))) (a + 10) 2 (((a + 25) : Nat) : Int)) (a + 28) 20 180 _
  refine zn_goto 99 dX0_init_121 (by decide) ?_
  refine zn_iload_n 100 dX0_init_99 rfl rfl ?_
  refine zn_bipush 102 dX0_init_100 rfl (by decide) ?_
  refine zn_icmp_ge 124 105 dX0_init_102 (by decide) rfl (by omega) (by omega) (fun hh => absurd hh (by decide)) (fun _ => ?_)
  refine zn_aload_n 106 dX0_init_105 rfl rfl ?_
  refine zn_getr 109 (a + 10) (o := 10) (j := 9) (ci := 0) dX0_init_106 rfl ⟨_, rfl, by decide, zw_in 107 (by decide +kernel) rfl⟩ (by decide) (by decide) rfl ((hy 0 (by decide)).trans rfl) (by omega) (by (repeat (first | rw [zF2_ne _ (by omega)] | rw [zF1_ne _ _ (by omega)] | rw [zwr_ne _ _ _ (by omega)] | rw [zwr_ni _ _ _ (by omega)])); simp [zwr, zwa, zup]) ?_
  refine zn_iload_n 110 dX0_init_109 rfl rfl ?_
  refine zn_new (N := 4) (bc := 19) (bs := 176) 113 dX0_init_110 rfl ((hy 29 (by decide)).trans rfl) (by decide) nw_RX0_27 (by (repeat (first | rw [zwr_ne _ _ _ (by omega)] | rw [zF2_ne _ (by omega)] | rw [zF1_ne _ _ (by omega)] | rw [zF4_ne _ (by omega)] | rw [zF3_ne _ (by omega)])); exact hz _ (by omega)) ?_
  show zn l d mX0_init 113 [some (.ref a), some (.int (zI 3))] [(.ref (a + 29)), (.int (zI 3)), (.ref (a + 10))] (zwr (zF2 (a + 25) (zwr (zF2 (a + 21) (zwr (zF2 (a + 17) (zwr (zF1 (a + 15) 4 (zwr (zF1 (a + 13) 5 (zwr (zF1 (a + 11) 3 (zwr (zwr (zF2 (a + 6) (zwr (zwr (zwr (zwr (zwr σ a 3 1) a 4 1) a 5 1) a 6 1) a 7 1)) a 8 1) a 9 1)) a 10 1)) a 11 1)) a 12 1)) (a + 10) 0 (((a + 17) : Nat) : Int))) (a + 10) 1 (((a + 21) : Nat) : Int))) (a + 10) 2 (((a + 25) : Nat) : Int)) (a + 29) 19 176 _
  refine zn_dup 114 dX0_init_113 rfl rfl ?_
  refine zn_callI (bc1 := 3) (bs1 := 32) (bc := 16) (bs := 144) 117 [] [(.ref (a + 29)), (.int (zI 3)), (.ref (a + 10))] dX0_init_114 rfl ci_RX0_29 qX2_init rfl rfl (kp_X2_init (d := d - 1) (by omega) (fun i hi => by
    match i, hi with
    | 0, _ => exact hy 29 (by decide)
    | 1, _ => exact hy 30 (by decide)
    | 2, _ => exact hy 31 (by decide)
    | 3, _ => exact hy 32 (by decide)
    | i + 4, h => exact absurd h (by omega)) (fun r hr => by (repeat (first | rw [zwr_ne _ _ _ (by omega)] | rw [zF2_ne _ (by omega)] | rw [zF1_ne _ _ (by omega)] | rw [zF4_ne _ (by omega)] | rw [zF3_ne _ (by omega)])); exact hz _ (by omega))) (by omega) rfl rfl (Nat.le_of_ble_eq_true rfl) (fun σ1 k1 hq => ?_)
  obtain ⟨rfl, rfl⟩ := hq
  show zn l d mX0_init 117 [some (.ref a), some (.int (zI 3))] [(.ref (a + 29)), (.int (zI 3)), (.ref (a + 10))] (zF2 (a + 29) (zwr (zF2 (a + 25) (zwr (zF2 (a + 21) (zwr (zF2 (a + 17) (zwr (zF1 (a + 15) 4 (zwr (zF1 (a + 13) 5 (zwr (zF1 (a + 11) 3 (zwr (zwr (zF2 (a + 6) (zwr (zwr (zwr (zwr (zwr σ a 3 1) a 4 1) a 5 1) a 6 1) a 7 1)) a 8 1) a 9 1)) a 10 1)) a 11 1)) a 12 1)) (a + 10) 0 (((a + 17) : Nat) : Int))) (a + 10) 1 (((a + 21) : Nat) : Int))) (a + 10) 2 (((a + 25) : Nat) : Int))) (a + 32) 16 144 _
  refine zn_aast 118 3 2 dX0_init_117 rfl ((hy 10 (by decide)).trans rfl) (by decide) (fun G => rfl) rfl (by decide) (by omega) (by decide) ((hy 29 (by decide)).trans rfl) (by omega) ?_
  show zn l d mX0_init 118 [some (.ref a), some (.int (zI 3))] [] (zwr (zF2 (a + 29) (zwr (zF2 (a + 25) (zwr (zF2 (a + 21) (zwr (zF2 (a + 17) (zwr (zF1 (a + 15) 4 (zwr (zF1 (a + 13) 5 (zwr (zF1 (a + 11) 3 (zwr (zwr (zF2 (a + 6) (zwr (zwr (zwr (zwr (zwr σ a 3 1) a 4 1) a 5 1) a 6 1) a 7 1)) a 8 1) a 9 1)) a 10 1)) a 11 1)) a 12 1)) (a + 10) 0 (((a + 17) : Nat) : Int))) (a + 10) 1 (((a + 21) : Nat) : Int))) (a + 10) 2 (((a + 25) : Nat) : Int))) (a + 10) 3 (((a + 29) : Nat) : Int)) (a + 32) 16 144 _
  refine zn_iinc 121 dX0_init_118 rfl (by decide) rfl ?_
  show zn l d mX0_init 121 [some (.ref a), some (.int (zI 4))] [] (zwr (zF2 (a + 29) (zwr (zF2 (a + 25) (zwr (zF2 (a + 21) (zwr (zF2 (a + 17) (zwr (zF1 (a + 15) 4 (zwr (zF1 (a + 13) 5 (zwr (zF1 (a + 11) 3 (zwr (zwr (zF2 (a + 6) (zwr (zwr (zwr (zwr (zwr σ a 3 1) a 4 1) a 5 1) a 6 1) a 7 1)) a 8 1) a 9 1)) a 10 1)) a 11 1)) a 12 1)) (a + 10) 0 (((a + 17) : Nat) : Int))) (a + 10) 1 (((a + 21) : Nat) : Int))) (a + 10) 2 (((a + 25) : Nat) : Int))) (a + 10) 3 (((a + 29) : Nat) : Int)) (a + 32) 16 144 _
  refine zn_goto 99 dX0_init_121 (by decide) ?_
  refine zn_iload_n 100 dX0_init_99 rfl rfl ?_
  refine zn_bipush 102 dX0_init_100 rfl (by decide) ?_
  refine zn_icmp_ge 124 105 dX0_init_102 (by decide) rfl (by omega) (by omega) (fun hh => absurd hh (by decide)) (fun _ => ?_)
  refine zn_aload_n 106 dX0_init_105 rfl rfl ?_
  refine zn_getr 109 (a + 10) (o := 10) (j := 9) (ci := 0) dX0_init_106 rfl ⟨_, rfl, by decide, zw_in 107 (by decide +kernel) rfl⟩ (by decide) (by decide) rfl ((hy 0 (by decide)).trans rfl) (by omega) (by (repeat (first | rw [zF2_ne _ (by omega)] | rw [zF1_ne _ _ (by omega)] | rw [zwr_ne _ _ _ (by omega)] | rw [zwr_ni _ _ _ (by omega)])); simp [zwr, zwa, zup]) ?_
  refine zn_iload_n 110 dX0_init_109 rfl rfl ?_
  refine zn_new (N := 4) (bc := 15) (bs := 140) 113 dX0_init_110 rfl ((hy 33 (by decide)).trans rfl) (by decide) nw_RX0_27 (by (repeat (first | rw [zwr_ne _ _ _ (by omega)] | rw [zF2_ne _ (by omega)] | rw [zF1_ne _ _ (by omega)] | rw [zF4_ne _ (by omega)] | rw [zF3_ne _ (by omega)])); exact hz _ (by omega)) ?_
  show zn l d mX0_init 113 [some (.ref a), some (.int (zI 4))] [(.ref (a + 33)), (.int (zI 4)), (.ref (a + 10))] (zwr (zF2 (a + 29) (zwr (zF2 (a + 25) (zwr (zF2 (a + 21) (zwr (zF2 (a + 17) (zwr (zF1 (a + 15) 4 (zwr (zF1 (a + 13) 5 (zwr (zF1 (a + 11) 3 (zwr (zwr (zF2 (a + 6) (zwr (zwr (zwr (zwr (zwr σ a 3 1) a 4 1) a 5 1) a 6 1) a 7 1)) a 8 1) a 9 1)) a 10 1)) a 11 1)) a 12 1)) (a + 10) 0 (((a + 17) : Nat) : Int))) (a + 10) 1 (((a + 21) : Nat) : Int))) (a + 10) 2 (((a + 25) : Nat) : Int))) (a + 10) 3 (((a + 29) : Nat) : Int)) (a + 33) 15 140 _
  refine zn_dup 114 dX0_init_113 rfl rfl ?_
  refine zn_callI (bc1 := 3) (bs1 := 32) (bc := 12) (bs := 108) 117 [] [(.ref (a + 33)), (.int (zI 4)), (.ref (a + 10))] dX0_init_114 rfl ci_RX0_29 qX2_init rfl rfl (kp_X2_init (d := d - 1) (by omega) (fun i hi => by
    match i, hi with
    | 0, _ => exact hy 33 (by decide)
    | 1, _ => exact hy 34 (by decide)
    | 2, _ => exact hy 35 (by decide)
    | 3, _ => exact hy 36 (by decide)
    | i + 4, h => exact absurd h (by omega)) (fun r hr => by (repeat (first | rw [zwr_ne _ _ _ (by omega)] | rw [zF2_ne _ (by omega)] | rw [zF1_ne _ _ (by omega)] | rw [zF4_ne _ (by omega)] | rw [zF3_ne _ (by omega)])); exact hz _ (by omega))) (by omega) rfl rfl (Nat.le_of_ble_eq_true rfl) (fun σ1 k1 hq => ?_)
  obtain ⟨rfl, rfl⟩ := hq
  show zn l d mX0_init 117 [some (.ref a), some (.int (zI 4))] [(.ref (a + 33)), (.int (zI 4)), (.ref (a + 10))] (zF2 (a + 33) (zwr (zF2 (a + 29) (zwr (zF2 (a + 25) (zwr (zF2 (a + 21) (zwr (zF2 (a + 17) (zwr (zF1 (a + 15) 4 (zwr (zF1 (a + 13) 5 (zwr (zF1 (a + 11) 3 (zwr (zwr (zF2 (a + 6) (zwr (zwr (zwr (zwr (zwr σ a 3 1) a 4 1) a 5 1) a 6 1) a 7 1)) a 8 1) a 9 1)) a 10 1)) a 11 1)) a 12 1)) (a + 10) 0 (((a + 17) : Nat) : Int))) (a + 10) 1 (((a + 21) : Nat) : Int))) (a + 10) 2 (((a + 25) : Nat) : Int))) (a + 10) 3 (((a + 29) : Nat) : Int))) (a + 36) 12 108 _
  refine zn_aast 118 3 2 dX0_init_117 rfl ((hy 10 (by decide)).trans rfl) (by decide) (fun G => rfl) rfl (by decide) (by omega) (by decide) ((hy 33 (by decide)).trans rfl) (by omega) ?_
  show zn l d mX0_init 118 [some (.ref a), some (.int (zI 4))] [] (zwr (zF2 (a + 33) (zwr (zF2 (a + 29) (zwr (zF2 (a + 25) (zwr (zF2 (a + 21) (zwr (zF2 (a + 17) (zwr (zF1 (a + 15) 4 (zwr (zF1 (a + 13) 5 (zwr (zF1 (a + 11) 3 (zwr (zwr (zF2 (a + 6) (zwr (zwr (zwr (zwr (zwr σ a 3 1) a 4 1) a 5 1) a 6 1) a 7 1)) a 8 1) a 9 1)) a 10 1)) a 11 1)) a 12 1)) (a + 10) 0 (((a + 17) : Nat) : Int))) (a + 10) 1 (((a + 21) : Nat) : Int))) (a + 10) 2 (((a + 25) : Nat) : Int))) (a + 10) 3 (((a + 29) : Nat) : Int))) (a + 10) 4 (((a + 33) : Nat) : Int)) (a + 36) 12 108 _
  refine zn_iinc 121 dX0_init_118 rfl (by decide) rfl ?_
  show zn l d mX0_init 121 [some (.ref a), some (.int (zI 5))] [] (zwr (zF2 (a + 33) (zwr (zF2 (a + 29) (zwr (zF2 (a + 25) (zwr (zF2 (a + 21) (zwr (zF2 (a + 17) (zwr (zF1 (a + 15) 4 (zwr (zF1 (a + 13) 5 (zwr (zF1 (a + 11) 3 (zwr (zwr (zF2 (a + 6) (zwr (zwr (zwr (zwr (zwr σ a 3 1) a 4 1) a 5 1) a 6 1) a 7 1)) a 8 1) a 9 1)) a 10 1)) a 11 1)) a 12 1)) (a + 10) 0 (((a + 17) : Nat) : Int))) (a + 10) 1 (((a + 21) : Nat) : Int))) (a + 10) 2 (((a + 25) : Nat) : Int))) (a + 10) 3 (((a + 29) : Nat) : Int))) (a + 10) 4 (((a + 33) : Nat) : Int)) (a + 36) 12 108 _
  refine zn_goto 99 dX0_init_121 (by decide) ?_
  refine zn_iload_n 100 dX0_init_99 rfl rfl ?_
  refine zn_bipush 102 dX0_init_100 rfl (by decide) ?_
  refine zn_icmp_ge 124 105 dX0_init_102 (by decide) rfl (by omega) (by omega) (fun hh => absurd hh (by decide)) (fun _ => ?_)
  refine zn_aload_n 106 dX0_init_105 rfl rfl ?_
  refine zn_getr 109 (a + 10) (o := 10) (j := 9) (ci := 0) dX0_init_106 rfl ⟨_, rfl, by decide, zw_in 107 (by decide +kernel) rfl⟩ (by decide) (by decide) rfl ((hy 0 (by decide)).trans rfl) (by omega) (by (repeat (first | rw [zF2_ne _ (by omega)] | rw [zF1_ne _ _ (by omega)] | rw [zwr_ne _ _ _ (by omega)] | rw [zwr_ni _ _ _ (by omega)])); simp [zwr, zwa, zup]) ?_
  refine zn_iload_n 110 dX0_init_109 rfl rfl ?_
  refine zn_new (N := 4) (bc := 11) (bs := 104) 113 dX0_init_110 rfl ((hy 37 (by decide)).trans rfl) (by decide) nw_RX0_27 (by (repeat (first | rw [zwr_ne _ _ _ (by omega)] | rw [zF2_ne _ (by omega)] | rw [zF1_ne _ _ (by omega)] | rw [zF4_ne _ (by omega)] | rw [zF3_ne _ (by omega)])); exact hz _ (by omega)) ?_
  show zn l d mX0_init 113 [some (.ref a), some (.int (zI 5))] [(.ref (a + 37)), (.int (zI 5)), (.ref (a + 10))] (zwr (zF2 (a + 33) (zwr (zF2 (a + 29) (zwr (zF2 (a + 25) (zwr (zF2 (a + 21) (zwr (zF2 (a + 17) (zwr (zF1 (a + 15) 4 (zwr (zF1 (a + 13) 5 (zwr (zF1 (a + 11) 3 (zwr (zwr (zF2 (a + 6) (zwr (zwr (zwr (zwr (zwr σ a 3 1) a 4 1) a 5 1) a 6 1) a 7 1)) a 8 1) a 9 1)) a 10 1)) a 11 1)) a 12 1)) (a + 10) 0 (((a + 17) : Nat) : Int))) (a + 10) 1 (((a + 21) : Nat) : Int))) (a + 10) 2 (((a + 25) : Nat) : Int))) (a + 10) 3 (((a + 29) : Nat) : Int))) (a + 10) 4 (((a + 33) : Nat) : Int)) (a + 37) 11 104 _
  refine zn_dup 114 dX0_init_113 rfl rfl ?_
  refine zn_callI (bc1 := 3) (bs1 := 32) (bc := 8) (bs := 72) 117 [] [(.ref (a + 37)), (.int (zI 5)), (.ref (a + 10))] dX0_init_114 rfl ci_RX0_29 qX2_init rfl rfl (kp_X2_init (d := d - 1) (by omega) (fun i hi => by
    match i, hi with
    | 0, _ => exact hy 37 (by decide)
    | 1, _ => exact hy 38 (by decide)
    | 2, _ => exact hy 39 (by decide)
    | 3, _ => exact hy 40 (by decide)
    | i + 4, h => exact absurd h (by omega)) (fun r hr => by (repeat (first | rw [zwr_ne _ _ _ (by omega)] | rw [zF2_ne _ (by omega)] | rw [zF1_ne _ _ (by omega)] | rw [zF4_ne _ (by omega)] | rw [zF3_ne _ (by omega)])); exact hz _ (by omega))) (by omega) rfl rfl (Nat.le_of_ble_eq_true rfl) (fun σ1 k1 hq => ?_)
  obtain ⟨rfl, rfl⟩ := hq
  show zn l d mX0_init 117 [some (.ref a), some (.int (zI 5))] [(.ref (a + 37)), (.int (zI 5)), (.ref (a + 10))] (zF2 (a + 37) (zwr (zF2 (a + 33) (zwr (zF2 (a + 29) (zwr (zF2 (a + 25) (zwr (zF2 (a + 21) (zwr (zF2 (a + 17) (zwr (zF1 (a + 15) 4 (zwr (zF1 (a + 13) 5 (zwr (zF1 (a + 11) 3 (zwr (zwr (zF2 (a + 6) (zwr (zwr (zwr (zwr (zwr σ a 3 1) a 4 1) a 5 1) a 6 1) a 7 1)) a 8 1) a 9 1)) a 10 1)) a 11 1)) a 12 1)) (a + 10) 0 (((a + 17) : Nat) : Int))) (a + 10) 1 (((a + 21) : Nat) : Int))) (a + 10) 2 (((a + 25) : Nat) : Int))) (a + 10) 3 (((a + 29) : Nat) : Int))) (a + 10) 4 (((a + 33) : Nat) : Int))) (a + 40) 8 72 _
  refine zn_aast 118 3 2 dX0_init_117 rfl ((hy 10 (by decide)).trans rfl) (by decide) (fun G => rfl) rfl (by decide) (by omega) (by decide) ((hy 37 (by decide)).trans rfl) (by omega) ?_
  show zn l d mX0_init 118 [some (.ref a), some (.int (zI 5))] [] (zwr (zF2 (a + 37) (zwr (zF2 (a + 33) (zwr (zF2 (a + 29) (zwr (zF2 (a + 25) (zwr (zF2 (a + 21) (zwr (zF2 (a + 17) (zwr (zF1 (a + 15) 4 (zwr (zF1 (a + 13) 5 (zwr (zF1 (a + 11) 3 (zwr (zwr (zF2 (a + 6) (zwr (zwr (zwr (zwr (zwr σ a 3 1) a 4 1) a 5 1) a 6 1) a 7 1)) a 8 1) a 9 1)) a 10 1)) a 11 1)) a 12 1)) (a + 10) 0 (((a + 17) : Nat) : Int))) (a + 10) 1 (((a + 21) : Nat) : Int))) (a + 10) 2 (((a + 25) : Nat) : Int))) (a + 10) 3 (((a + 29) : Nat) : Int))) (a + 10) 4 (((a + 33) : Nat) : Int))) (a + 10) 5 (((a + 37) : Nat) : Int)) (a + 40) 8 72 _
  refine zn_iinc 121 dX0_init_118 rfl (by decide) rfl ?_
  show zn l d mX0_init 121 [some (.ref a), some (.int (zI 6))] [] (zwr (zF2 (a + 37) (zwr (zF2 (a + 33) (zwr (zF2 (a + 29) (zwr (zF2 (a + 25) (zwr (zF2 (a + 21) (zwr (zF2 (a + 17) (zwr (zF1 (a + 15) 4 (zwr (zF1 (a + 13) 5 (zwr (zF1 (a + 11) 3 (zwr (zwr (zF2 (a + 6) (zwr (zwr (zwr (zwr (zwr σ a 3 1) a 4 1) a 5 1) a 6 1) a 7 1)) a 8 1) a 9 1)) a 10 1)) a 11 1)) a 12 1)) (a + 10) 0 (((a + 17) : Nat) : Int))) (a + 10) 1 (((a + 21) : Nat) : Int))) (a + 10) 2 (((a + 25) : Nat) : Int))) (a + 10) 3 (((a + 29) : Nat) : Int))) (a + 10) 4 (((a + 33) : Nat) : Int))) (a + 10) 5 (((a + 37) : Nat) : Int)) (a + 40) 8 72 _
  refine zn_goto 99 dX0_init_121 (by decide) ?_
  refine zn_iload_n 100 dX0_init_99 rfl rfl ?_
  refine zn_bipush 102 dX0_init_100 rfl (by decide) ?_
  refine zn_icmp_ge 124 105 dX0_init_102 (by decide) rfl (by omega) (by omega) (fun hh => absurd hh (by decide)) (fun _ => ?_)
  refine zn_aload_n 106 dX0_init_105 rfl rfl ?_
  refine zn_getr 109 (a + 10) (o := 10) (j := 9) (ci := 0) dX0_init_106 rfl ⟨_, rfl, by decide, zw_in 107 (by decide +kernel) rfl⟩ (by decide) (by decide) rfl ((hy 0 (by decide)).trans rfl) (by omega) (by (repeat (first | rw [zF2_ne _ (by omega)] | rw [zF1_ne _ _ (by omega)] | rw [zwr_ne _ _ _ (by omega)] | rw [zwr_ni _ _ _ (by omega)])); simp [zwr, zwa, zup]) ?_
  refine zn_iload_n 110 dX0_init_109 rfl rfl ?_
  refine zn_new (N := 4) (bc := 7) (bs := 68) 113 dX0_init_110 rfl ((hy 41 (by decide)).trans rfl) (by decide) nw_RX0_27 (by (repeat (first | rw [zwr_ne _ _ _ (by omega)] | rw [zF2_ne _ (by omega)] | rw [zF1_ne _ _ (by omega)] | rw [zF4_ne _ (by omega)] | rw [zF3_ne _ (by omega)])); exact hz _ (by omega)) ?_
  show zn l d mX0_init 113 [some (.ref a), some (.int (zI 6))] [(.ref (a + 41)), (.int (zI 6)), (.ref (a + 10))] (zwr (zF2 (a + 37) (zwr (zF2 (a + 33) (zwr (zF2 (a + 29) (zwr (zF2 (a + 25) (zwr (zF2 (a + 21) (zwr (zF2 (a + 17) (zwr (zF1 (a + 15) 4 (zwr (zF1 (a + 13) 5 (zwr (zF1 (a + 11) 3 (zwr (zwr (zF2 (a + 6) (zwr (zwr (zwr (zwr (zwr σ a 3 1) a 4 1) a 5 1) a 6 1) a 7 1)) a 8 1) a 9 1)) a 10 1)) a 11 1)) a 12 1)) (a + 10) 0 (((a + 17) : Nat) : Int))) (a + 10) 1 (((a + 21) : Nat) : Int))) (a + 10) 2 (((a + 25) : Nat) : Int))) (a + 10) 3 (((a + 29) : Nat) : Int))) (a + 10) 4 (((a + 33) : Nat) : Int))) (a + 10) 5 (((a + 37) : Nat) : Int)) (a + 41) 7 68 _
  refine zn_dup 114 dX0_init_113 rfl rfl ?_
  refine zn_callI (bc1 := 3) (bs1 := 32) (bc := 4) (bs := 36) 117 [] [(.ref (a + 41)), (.int (zI 6)), (.ref (a + 10))] dX0_init_114 rfl ci_RX0_29 qX2_init rfl rfl (kp_X2_init (d := d - 1) (by omega) (fun i hi => by
    match i, hi with
    | 0, _ => exact hy 41 (by decide)
    | 1, _ => exact hy 42 (by decide)
    | 2, _ => exact hy 43 (by decide)
    | 3, _ => exact hy 44 (by decide)
    | i + 4, h => exact absurd h (by omega)) (fun r hr => by (repeat (first | rw [zwr_ne _ _ _ (by omega)] | rw [zF2_ne _ (by omega)] | rw [zF1_ne _ _ (by omega)] | rw [zF4_ne _ (by omega)] | rw [zF3_ne _ (by omega)])); exact hz _ (by omega))) (by omega) rfl rfl (Nat.le_of_ble_eq_true rfl) (fun σ1 k1 hq => ?_)
  obtain ⟨rfl, rfl⟩ := hq
  show zn l d mX0_init 117 [some (.ref a), some (.int (zI 6))] [(.ref (a + 41)), (.int (zI 6)), (.ref (a + 10))] (zF2 (a + 41) (zwr (zF2 (a + 37) (zwr (zF2 (a + 33) (zwr (zF2 (a + 29) (zwr (zF2 (a + 25) (zwr (zF2 (a + 21) (zwr (zF2 (a + 17) (zwr (zF1 (a + 15) 4 (zwr (zF1 (a + 13) 5 (zwr (zF1 (a + 11) 3 (zwr (zwr (zF2 (a + 6) (zwr (zwr (zwr (zwr (zwr σ a 3 1) a 4 1) a 5 1) a 6 1) a 7 1)) a 8 1) a 9 1)) a 10 1)) a 11 1)) a 12 1)) (a + 10) 0 (((a + 17) : Nat) : Int))) (a + 10) 1 (((a + 21) : Nat) : Int))) (a + 10) 2 (((a + 25) : Nat) : Int))) (a + 10) 3 (((a + 29) : Nat) : Int))) (a + 10) 4 (((a + 33) : Nat) : Int))) (a + 10) 5 (((a + 37) : Nat) : Int))) (a + 44) 4 36 _
  refine zn_aast 118 3 2 dX0_init_117 rfl ((hy 10 (by decide)).trans rfl) (by decide) (fun G => rfl) rfl (by decide) (by omega) (by decide) ((hy 41 (by decide)).trans rfl) (by omega) ?_
  show zn l d mX0_init 118 [some (.ref a), some (.int (zI 6))] [] (zwr (zF2 (a + 41) (zwr (zF2 (a + 37) (zwr (zF2 (a + 33) (zwr (zF2 (a + 29) (zwr (zF2 (a + 25) (zwr (zF2 (a + 21) (zwr (zF2 (a + 17) (zwr (zF1 (a + 15) 4 (zwr (zF1 (a + 13) 5 (zwr (zF1 (a + 11) 3 (zwr (zwr (zF2 (a + 6) (zwr (zwr (zwr (zwr (zwr σ a 3 1) a 4 1) a 5 1) a 6 1) a 7 1)) a 8 1) a 9 1)) a 10 1)) a 11 1)) a 12 1)) (a + 10) 0 (((a + 17) : Nat) : Int))) (a + 10) 1 (((a + 21) : Nat) : Int))) (a + 10) 2 (((a + 25) : Nat) : Int))) (a + 10) 3 (((a + 29) : Nat) : Int))) (a + 10) 4 (((a + 33) : Nat) : Int))) (a + 10) 5 (((a + 37) : Nat) : Int))) (a + 10) 6 (((a + 41) : Nat) : Int)) (a + 44) 4 36 _
  refine zn_iinc 121 dX0_init_118 rfl (by decide) rfl ?_
  show zn l d mX0_init 121 [some (.ref a), some (.int (zI 7))] [] (zwr (zF2 (a + 41) (zwr (zF2 (a + 37) (zwr (zF2 (a + 33) (zwr (zF2 (a + 29) (zwr (zF2 (a + 25) (zwr (zF2 (a + 21) (zwr (zF2 (a + 17) (zwr (zF1 (a + 15) 4 (zwr (zF1 (a + 13) 5 (zwr (zF1 (a + 11) 3 (zwr (zwr (zF2 (a + 6) (zwr (zwr (zwr (zwr (zwr σ a 3 1) a 4 1) a 5 1) a 6 1) a 7 1)) a 8 1) a 9 1)) a 10 1)) a 11 1)) a 12 1)) (a + 10) 0 (((a + 17) : Nat) : Int))) (a + 10) 1 (((a + 21) : Nat) : Int))) (a + 10) 2 (((a + 25) : Nat) : Int))) (a + 10) 3 (((a + 29) : Nat) : Int))) (a + 10) 4 (((a + 33) : Nat) : Int))) (a + 10) 5 (((a + 37) : Nat) : Int))) (a + 10) 6 (((a + 41) : Nat) : Int)) (a + 44) 4 36 _
  refine zn_goto 99 dX0_init_121 (by decide) ?_
  refine zn_iload_n 100 dX0_init_99 rfl rfl ?_
  refine zn_bipush 102 dX0_init_100 rfl (by decide) ?_
  refine zn_icmp_ge 124 105 dX0_init_102 (by decide) rfl (by omega) (by omega) (fun hh => absurd hh (by decide)) (fun _ => ?_)
  refine zn_aload_n 106 dX0_init_105 rfl rfl ?_
  refine zn_getr 109 (a + 10) (o := 10) (j := 9) (ci := 0) dX0_init_106 rfl ⟨_, rfl, by decide, zw_in 107 (by decide +kernel) rfl⟩ (by decide) (by decide) rfl ((hy 0 (by decide)).trans rfl) (by omega) (by (repeat (first | rw [zF2_ne _ (by omega)] | rw [zF1_ne _ _ (by omega)] | rw [zwr_ne _ _ _ (by omega)] | rw [zwr_ni _ _ _ (by omega)])); simp [zwr, zwa, zup]) ?_
  refine zn_iload_n 110 dX0_init_109 rfl rfl ?_
  refine zn_new (N := 4) (bc := 3) (bs := 32) 113 dX0_init_110 rfl ((hy 45 (by decide)).trans rfl) (by decide) nw_RX0_27 (by (repeat (first | rw [zwr_ne _ _ _ (by omega)] | rw [zF2_ne _ (by omega)] | rw [zF1_ne _ _ (by omega)] | rw [zF4_ne _ (by omega)] | rw [zF3_ne _ (by omega)])); exact hz _ (by omega)) ?_
  show zn l d mX0_init 113 [some (.ref a), some (.int (zI 7))] [(.ref (a + 45)), (.int (zI 7)), (.ref (a + 10))] (zwr (zF2 (a + 41) (zwr (zF2 (a + 37) (zwr (zF2 (a + 33) (zwr (zF2 (a + 29) (zwr (zF2 (a + 25) (zwr (zF2 (a + 21) (zwr (zF2 (a + 17) (zwr (zF1 (a + 15) 4 (zwr (zF1 (a + 13) 5 (zwr (zF1 (a + 11) 3 (zwr (zwr (zF2 (a + 6) (zwr (zwr (zwr (zwr (zwr σ a 3 1) a 4 1) a 5 1) a 6 1) a 7 1)) a 8 1) a 9 1)) a 10 1)) a 11 1)) a 12 1)) (a + 10) 0 (((a + 17) : Nat) : Int))) (a + 10) 1 (((a + 21) : Nat) : Int))) (a + 10) 2 (((a + 25) : Nat) : Int))) (a + 10) 3 (((a + 29) : Nat) : Int))) (a + 10) 4 (((a + 33) : Nat) : Int))) (a + 10) 5 (((a + 37) : Nat) : Int))) (a + 10) 6 (((a + 41) : Nat) : Int)) (a + 45) 3 32 _
  refine zn_dup 114 dX0_init_113 rfl rfl ?_
  refine zn_callI (bc1 := 3) (bs1 := 32) (bc := 0) (bs := 0) 117 [] [(.ref (a + 45)), (.int (zI 7)), (.ref (a + 10))] dX0_init_114 rfl ci_RX0_29 qX2_init rfl rfl (kp_X2_init (d := d - 1) (by omega) (fun i hi => by
    match i, hi with
    | 0, _ => exact hy 45 (by decide)
    | 1, _ => exact hy 46 (by decide)
    | 2, _ => exact hy 47 (by decide)
    | 3, _ => exact hy 48 (by decide)
    | i + 4, h => exact absurd h (by omega)) (fun r hr => by (repeat (first | rw [zwr_ne _ _ _ (by omega)] | rw [zF2_ne _ (by omega)] | rw [zF1_ne _ _ (by omega)] | rw [zF4_ne _ (by omega)] | rw [zF3_ne _ (by omega)])); exact hz _ (by omega))) (by omega) rfl rfl (Nat.le_of_ble_eq_true rfl) (fun σ1 k1 hq => ?_)
  obtain ⟨rfl, rfl⟩ := hq
  show zn l d mX0_init 117 [some (.ref a), some (.int (zI 7))] [(.ref (a + 45)), (.int (zI 7)), (.ref (a + 10))] (zF2 (a + 45) (zwr (zF2 (a + 41) (zwr (zF2 (a + 37) (zwr (zF2 (a + 33) (zwr (zF2 (a + 29) (zwr (zF2 (a + 25) (zwr (zF2 (a + 21) (zwr (zF2 (a + 17) (zwr (zF1 (a + 15) 4 (zwr (zF1 (a + 13) 5 (zwr (zF1 (a + 11) 3 (zwr (zwr (zF2 (a + 6) (zwr (zwr (zwr (zwr (zwr σ a 3 1) a 4 1) a 5 1) a 6 1) a 7 1)) a 8 1) a 9 1)) a 10 1)) a 11 1)) a 12 1)) (a + 10) 0 (((a + 17) : Nat) : Int))) (a + 10) 1 (((a + 21) : Nat) : Int))) (a + 10) 2 (((a + 25) : Nat) : Int))) (a + 10) 3 (((a + 29) : Nat) : Int))) (a + 10) 4 (((a + 33) : Nat) : Int))) (a + 10) 5 (((a + 37) : Nat) : Int))) (a + 10) 6 (((a + 41) : Nat) : Int))) (a + 48) 0 0 _
  refine zn_aast 118 3 2 dX0_init_117 rfl ((hy 10 (by decide)).trans rfl) (by decide) (fun G => rfl) rfl (by decide) (by omega) (by decide) ((hy 45 (by decide)).trans rfl) (by omega) ?_
  show zn l d mX0_init 118 [some (.ref a), some (.int (zI 7))] [] (zwr (zF2 (a + 45) (zwr (zF2 (a + 41) (zwr (zF2 (a + 37) (zwr (zF2 (a + 33) (zwr (zF2 (a + 29) (zwr (zF2 (a + 25) (zwr (zF2 (a + 21) (zwr (zF2 (a + 17) (zwr (zF1 (a + 15) 4 (zwr (zF1 (a + 13) 5 (zwr (zF1 (a + 11) 3 (zwr (zwr (zF2 (a + 6) (zwr (zwr (zwr (zwr (zwr σ a 3 1) a 4 1) a 5 1) a 6 1) a 7 1)) a 8 1) a 9 1)) a 10 1)) a 11 1)) a 12 1)) (a + 10) 0 (((a + 17) : Nat) : Int))) (a + 10) 1 (((a + 21) : Nat) : Int))) (a + 10) 2 (((a + 25) : Nat) : Int))) (a + 10) 3 (((a + 29) : Nat) : Int))) (a + 10) 4 (((a + 33) : Nat) : Int))) (a + 10) 5 (((a + 37) : Nat) : Int))) (a + 10) 6 (((a + 41) : Nat) : Int))) (a + 10) 7 (((a + 45) : Nat) : Int)) (a + 48) 0 0 _
  refine zn_iinc 121 dX0_init_118 rfl (by decide) rfl ?_
  show zn l d mX0_init 121 [some (.ref a), some (.int (zI 8))] [] (zwr (zF2 (a + 45) (zwr (zF2 (a + 41) (zwr (zF2 (a + 37) (zwr (zF2 (a + 33) (zwr (zF2 (a + 29) (zwr (zF2 (a + 25) (zwr (zF2 (a + 21) (zwr (zF2 (a + 17) (zwr (zF1 (a + 15) 4 (zwr (zF1 (a + 13) 5 (zwr (zF1 (a + 11) 3 (zwr (zwr (zF2 (a + 6) (zwr (zwr (zwr (zwr (zwr σ a 3 1) a 4 1) a 5 1) a 6 1) a 7 1)) a 8 1) a 9 1)) a 10 1)) a 11 1)) a 12 1)) (a + 10) 0 (((a + 17) : Nat) : Int))) (a + 10) 1 (((a + 21) : Nat) : Int))) (a + 10) 2 (((a + 25) : Nat) : Int))) (a + 10) 3 (((a + 29) : Nat) : Int))) (a + 10) 4 (((a + 33) : Nat) : Int))) (a + 10) 5 (((a + 37) : Nat) : Int))) (a + 10) 6 (((a + 41) : Nat) : Int))) (a + 10) 7 (((a + 45) : Nat) : Int)) (a + 48) 0 0 _
  refine zn_goto 99 dX0_init_121 (by decide) ?_
  refine zn_iload_n 100 dX0_init_99 rfl rfl ?_
  refine zn_bipush 102 dX0_init_100 rfl (by decide) ?_
  refine zn_icmp_ge 124 105 dX0_init_102 (by decide) rfl (by omega) (by omega) (fun _ => ?_) (fun hh => absurd hh (by decide))
  exact zn_vret dX0_init_124 rfl ⟨rfl, rfl⟩
