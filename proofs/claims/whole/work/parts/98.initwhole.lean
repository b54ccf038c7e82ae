theorem pF_RX5_10 : zfF RX5 10 5 0 (.object RX0) := ⟨_, rfl, by decide, zw_in 211 (by decide +kernel) rfl, rfl, rfl, (by decide +kernel)⟩
theorem pF_RX5_16 : zfF RX5 16 5 1 (.object RX0) := ⟨_, rfl, by decide, zw_in 212 (by decide +kernel) rfl, rfl, rfl, (by decide +kernel)⟩
theorem pF_RX5_19 : zfF RX5 19 5 2 (.array (.object RX0)) := ⟨_, rfl, by decide, zw_in 213 (by decide +kernel) rfl, rfl, rfl, (by decide +kernel)⟩
theorem pF_RX5_23 : zfF RX5 23 5 3 (.array .boolean) := ⟨_, rfl, by decide, zw_in 214 (by decide +kernel) rfl, rfl, rfl, (by decide +kernel)⟩
theorem pF_RX5_30 : zfF RX5 30 5 4 (.object RX2) := ⟨_, rfl, by decide, zw_in 215 (by decide +kernel) rfl, rfl, rfl, (by decide +kernel)⟩
theorem pF_RX5_37 : zfF RX5 37 5 5 (.object RX4) := ⟨_, rfl, by decide, zw_in 216 (by decide +kernel) rfl, rfl, rfl, (by decide +kernel)⟩
theorem pF_RX5_44 : zfF RX5 44 5 6 (.object RX3) := ⟨_, rfl, by decide, zw_in 217 (by decide +kernel) rfl, rfl, rfl, (by decide +kernel)⟩
theorem pF_RX5_48 : zfF RX5 48 5 7 (.array .int) := ⟨_, rfl, by decide, zw_in 218 (by decide +kernel) rfl, rfl, rfl, (by decide +kernel)⟩
theorem pF_RX5_52 : zfF RX5 52 5 8 (.array .int) := ⟨_, rfl, by decide, zw_in 219 (by decide +kernel) rfl, rfl, rfl, (by decide +kernel)⟩
theorem pF_RX5_55 : zfF RX5 55 5 9 (.array .int) := ⟨_, rfl, by decide, zw_in 220 (by decide +kernel) rfl, rfl, rfl, (by decide +kernel)⟩
theorem pF_RX5_58 : zfF RX5 58 5 10 (.array .int) := ⟨_, rfl, by decide, zw_in 221 (by decide +kernel) rfl, rfl, rfl, (by decide +kernel)⟩
theorem pF_RX5_61 : zfF RX5 61 5 11 (.array .int) := ⟨_, rfl, by decide, zw_in 222 (by decide +kernel) rfl, rfl, rfl, (by decide +kernel)⟩
theorem pF_RX5_64 : zfp RX5 64 5 12 .long := ⟨_, rfl, by decide, zw_in 223 (by decide +kernel) rfl, rfl, (by decide +kernel)⟩
theorem pF_RX5_68 : zfp RX5 68 5 13 .long := ⟨_, rfl, by decide, zw_in 224 (by decide +kernel) rfl, rfl, (by decide +kernel)⟩
def zF5 (a : Nat) (σ : zMem) : zMem := (zwr (zF0 (a + 167) (zwr (zF0 (a + 118) (zwr (zwr (zwr (zwr (zwr (zwr (zwr (zwr (zF3 (a + 108) (zwr (zF4 (a + 105) (zwr (zF2 (a + 101) (zwr (zwr (zwr (zF0 (a + 50) (zwr (zF0 (a + 1) σ) a 0 1)) a 1 1) a 2 1) a 3 1)) a 4 1)) a 5 1)) a 6 1) a 7 1) a 8 1) a 9 1) a 10 1) a 11 1) a 12 0) a 13 1)) (a + 99) 0 (((a + 118) : Nat) : Int))) (a + 99) 1 (((a + 167) : Nat) : Int))
theorem zF5_ne {a : Nat} (σ : zMem) {b : Nat} (h : b < a ∨ a + 215 < b) : zF5 a σ b = σ b := by
  unfold zF5
  repeat (first | rw [zwr_ne _ _ _ (by omega)] | rw [zFl_ne _ (by omega)] | rw [zF2_ne _ (by omega)] | rw [zF1_ne _ _ (by omega)] | rw [zF0_ne _ (by omega)] | rw [zF3_ne _ (by omega)] | rw [zF4_ne _ (by omega)])
set_option maxRecDepth 100000 in
theorem kp_X5_init {l : Launch} {d : Nat} {σ : zMem} {a : Nat} (hd : 6 ≤ d) (hy : ∀ i, i < 216 → zly (a + i) = zLAY[i]?) (hz : ∀ r, a < r → σ r = fun _ => 0) : zKp l d mX5_init [.ref a] σ a 215 2186 (fun σ' k' => σ' = zF5 a σ ∧ k' = a + 215) := by
  refine zKp_of oX5_init rfl (Nat.le_of_ble_eq_true rfl) ?_
  show zn l d mX5_init 0 [some (.ref a), none] [] σ a 215 2186 _
  refine zn_aload_n 1 dX5_init_0 rfl rfl ?_
  refine zn_objInit 4 dX5_init_1 rfl oi_RX5 rfl (by omega) ?_
  refine zn_aload_n 5 dX5_init_4 rfl rfl ?_
  refine zn_new (N := 13) (bc := 214) (bs := 2173) 8 dX5_init_5 rfl ((hy 1 (by decide)).trans rfl) (by decide) nw_RX5_7 (by (repeat (first | rw [zwr_ne _ _ _ (by omega)] | rw [zF2_ne _ (by omega)] | rw [zF1_ne _ _ (by omega)] | rw [zF4_ne _ (by omega)] | rw [zF3_ne _ (by omega)] | rw [zF0_ne _ (by omega)])); exact hz _ (by omega)) ?_
  show zn l d mX5_init 8 [some (.ref a), none] [(.ref (a + 1)), (.ref a)] σ (a + 1) 214 2173 _
  refine zn_dup 9 dX5_init_8 rfl rfl ?_
  refine zn_callI (bc1 := 48) (bs1 := 460) (bc := 166) (bs := 1713) 12 [] [(.ref (a + 1)), (.ref a)] dX5_init_9 rfl ci_RX5_9 qX0_init rfl rfl (kp_X0_init (d := d - 1) (by omega) (fun i hi => by
    match i, hi with
    | 0, _ => exact hy 1 (by decide)
    | 1, _ => exact hy 2 (by decide)
    | 2, _ => exact hy 3 (by decide)
    | 3, _ => exact hy 4 (by decide)
    | 4, _ => exact hy 5 (by decide)
    | 5, _ => exact hy 6 (by decide)
    | 6, _ => exact hy 7 (by decide)
    | 7, _ => exact hy 8 (by decide)
    | 8, _ => exact hy 9 (by decide)
    | 9, _ => exact hy 10 (by decide)
    | 10, _ => exact hy 11 (by decide)
    | 11, _ => exact hy 12 (by decide)
    | 12, _ => exact hy 13 (by decide)
    | 13, _ => exact hy 14 (by decide)
    | 14, _ => exact hy 15 (by decide)
    | 15, _ => exact hy 16 (by decide)
    | 16, _ => exact hy 17 (by decide)
    | 17, _ => exact hy 18 (by decide)
    | 18, _ => exact hy 19 (by decide)
    | 19, _ => exact hy 20 (by decide)
    | 20, _ => exact hy 21 (by decide)
    | 21, _ => exact hy 22 (by decide)
    | 22, _ => exact hy 23 (by decide)
    | 23, _ => exact hy 24 (by decide)
    | 24, _ => exact hy 25 (by decide)
    | 25, _ => exact hy 26 (by decide)
    | 26, _ => exact hy 27 (by decide)
    | 27, _ => exact hy 28 (by decide)
    | 28, _ => exact hy 29 (by decide)
    | 29, _ => exact hy 30 (by decide)
    | 30, _ => exact hy 31 (by decide)
    | 31, _ => exact hy 32 (by decide)
    | 32, _ => exact hy 33 (by decide)
    | 33, _ => exact hy 34 (by decide)
    | 34, _ => exact hy 35 (by decide)
    | 35, _ => exact hy 36 (by decide)
    | 36, _ => exact hy 37 (by decide)
    | 37, _ => exact hy 38 (by decide)
    | 38, _ => exact hy 39 (by decide)
    | 39, _ => exact hy 40 (by decide)
    | 40, _ => exact hy 41 (by decide)
    | 41, _ => exact hy 42 (by decide)
    | 42, _ => exact hy 43 (by decide)
    | 43, _ => exact hy 44 (by decide)
    | 44, _ => exact hy 45 (by decide)
    | 45, _ => exact hy 46 (by decide)
    | 46, _ => exact hy 47 (by decide)
    | 47, _ => exact hy 48 (by decide)
    | 48, _ => exact hy 49 (by decide)
    | i + 49, h => exact absurd h (by omega)) (fun r hr => by (repeat (first | rw [zwr_ne _ _ _ (by omega)] | rw [zF2_ne _ (by omega)] | rw [zF1_ne _ _ (by omega)] | rw [zF4_ne _ (by omega)] | rw [zF3_ne _ (by omega)] | rw [zF0_ne _ (by omega)])); exact hz _ (by omega))) (by omega) rfl rfl (Nat.le_of_ble_eq_true rfl) (fun σ1 k1 hq => ?_)
  obtain ⟨rfl, rfl⟩ := hq
  show zn l d mX5_init 12 [some (.ref a), none] [(.ref (a + 1)), (.ref a)] (zF0 (a + 1) σ) (a + 49) 166 1713 _
  refine zn_putr 15 1 dX5_init_12 rfl pF_RX5_10 rfl (by decide) (by decide) rfl ((hy 0 (by decide)).trans rfl) (by omega) (fun _ => rfl) (fun _ => rfl) ?_
  show zn l d mX5_init 15 [some (.ref a), none] [] (zwr (zF0 (a + 1) σ) a 0 1) (a + 49) 166 1713 _
  refine zn_aload_n 16 dX5_init_15 rfl rfl ?_
  refine zn_new (N := 13) (bc := 165) (bs := 1700) 19 dX5_init_16 rfl ((hy 50 (by decide)).trans rfl) (by decide) nw_RX5_7 (by (repeat (first | rw [zwr_ne _ _ _ (by omega)] | rw [zF2_ne _ (by omega)] | rw [zF1_ne _ _ (by omega)] | rw [zF4_ne _ (by omega)] | rw [zF3_ne _ (by omega)] | rw [zF0_ne _ (by omega)])); exact hz _ (by omega)) ?_
  show zn l d mX5_init 19 [some (.ref a), none] [(.ref (a + 50)), (.ref a)] (zwr (zF0 (a + 1) σ) a 0 1) (a + 50) 165 1700 _
  refine zn_dup 20 dX5_init_19 rfl rfl ?_
  refine zn_callI (bc1 := 48) (bs1 := 460) (bc := 117) (bs := 1240) 23 [] [(.ref (a + 50)), (.ref a)] dX5_init_20 rfl ci_RX5_9 qX0_init rfl rfl (kp_X0_init (d := d - 1) (by omega) (fun i hi => by
    match i, hi with
    | 0, _ => exact hy 50 (by decide)
    | 1, _ => exact hy 51 (by decide)
    | 2, _ => exact hy 52 (by decide)
    | 3, _ => exact hy 53 (by decide)
    | 4, _ => exact hy 54 (by decide)
    | 5, _ => exact hy 55 (by decide)
    | 6, _ => exact hy 56 (by decide)
    | 7, _ => exact hy 57 (by decide)
    | 8, _ => exact hy 58 (by decide)
    | 9, _ => exact hy 59 (by decide)
    | 10, _ => exact hy 60 (by decide)
    | 11, _ => exact hy 61 (by decide)
    | 12, _ => exact hy 62 (by decide)
    | 13, _ => exact hy 63 (by decide)
    | 14, _ => exact hy 64 (by decide)
    | 15, _ => exact hy 65 (by decide)
    | 16, _ => exact hy 66 (by decide)
    | 17, _ => exact hy 67 (by decide)
    | 18, _ => exact hy 68 (by decide)
    | 19, _ => exact hy 69 (by decide)
    | 20, _ => exact hy 70 (by decide)
    | 21, _ => exact hy 71 (by decide)
    | 22, _ => exact hy 72 (by decide)
    | 23, _ => exact hy 73 (by decide)
    | 24, _ => exact hy 74 (by decide)
    | 25, _ => exact hy 75 (by decide)
    | 26, _ => exact hy 76 (by decide)
    | 27, _ => exact hy 77 (by decide)
    | 28, _ => exact hy 78 (by decide)
    | 29, _ => exact hy 79 (by decide)
    | 30, _ => exact hy 80 (by decide)
    | 31, _ => exact hy 81 (by decide)
    | 32, _ => exact hy 82 (by decide)
    | 33, _ => exact hy 83 (by decide)
    | 34, _ => exact hy 84 (by decide)
    | 35, _ => exact hy 85 (by decide)
    | 36, _ => exact hy 86 (by decide)
    | 37, _ => exact hy 87 (by decide)
    | 38, _ => exact hy 88 (by decide)
    | 39, _ => exact hy 89 (by decide)
    | 40, _ => exact hy 90 (by decide)
    | 41, _ => exact hy 91 (by decide)
    | 42, _ => exact hy 92 (by decide)
    | 43, _ => exact hy 93 (by decide)
    | 44, _ => exact hy 94 (by decide)
    | 45, _ => exact hy 95 (by decide)
    | 46, _ => exact hy 96 (by decide)
    | 47, _ => exact hy 97 (by decide)
    | 48, _ => exact hy 98 (by decide)
    | i + 49, h => exact absurd h (by omega)) (fun r hr => by (repeat (first | rw [zwr_ne _ _ _ (by omega)] | rw [zF2_ne _ (by omega)] | rw [zF1_ne _ _ (by omega)] | rw [zF4_ne _ (by omega)] | rw [zF3_ne _ (by omega)] | rw [zF0_ne _ (by omega)])); exact hz _ (by omega))) (by omega) rfl rfl (Nat.le_of_ble_eq_true rfl) (fun σ1 k1 hq => ?_)
  obtain ⟨rfl, rfl⟩ := hq
  show zn l d mX5_init 23 [some (.ref a), none] [(.ref (a + 50)), (.ref a)] (zF0 (a + 50) (zwr (zF0 (a + 1) σ) a 0 1)) (a + 98) 117 1240 _
  refine zn_putr 26 50 dX5_init_23 rfl pF_RX5_16 rfl (by decide) (by decide) rfl ((hy 0 (by decide)).trans rfl) (by omega) (fun _ => rfl) (fun _ => rfl) ?_
  show zn l d mX5_init 26 [some (.ref a), none] [] (zwr (zF0 (a + 50) (zwr (zF0 (a + 1) σ) a 0 1)) a 1 1) (a + 98) 117 1240 _
  refine zn_aload_n 27 dX5_init_26 rfl rfl ?_
  refine zn_iconst 28 dX5_init_27 rfl ?_
  refine zn_newq (n := 2) (bc := 116) (bs := 1238) (C := RX0) 31 4 104 dX5_init_28 rfl ((hy 99 (by decide)).trans rfl) (by decide) (fun G => rfl) ⟨nwl_RX5_7, Or.inr rfl⟩ (by decide) (by (repeat (first | rw [zwr_ne _ _ _ (by omega)] | rw [zF2_ne _ (by omega)] | rw [zF1_ne _ _ (by omega)] | rw [zF4_ne _ (by omega)] | rw [zF3_ne _ (by omega)] | rw [zF0_ne _ (by omega)])); exact hz _ (by omega)) ?_
  show zn l d mX5_init 31 [some (.ref a), none] [(.ref (a + 99)), (.ref a)] (zwr (zF0 (a + 50) (zwr (zF0 (a + 1) σ) a 0 1)) a 1 1) (a + 99) 116 1238 _
  refine zn_putr 34 99 dX5_init_31 rfl pF_RX5_19 rfl (by decide) (by decide) rfl ((hy 0 (by decide)).trans rfl) (by omega) (fun _ => rfl) (fun _ => rfl) ?_
  show zn l d mX5_init 34 [some (.ref a), none] [] (zwr (zwr (zF0 (a + 50) (zwr (zF0 (a + 1) σ) a 0 1)) a 1 1) a 2 1) (a + 99) 116 1238 _
  refine zn_aload_n 35 dX5_init_34 rfl rfl ?_
  refine zn_iconst 36 dX5_init_35 rfl ?_
  refine zn_newa (at_ := .boolean) (n := 2) (bc := 115) (bs := 1236) 38 1 101 dX5_init_36 rfl ((hy 100 (by decide)).trans rfl) (by decide) (fun G => rfl) (fun U cA h => h) rfl aw_bool (by decide) (by decide) (by (repeat (first | rw [zwr_ne _ _ _ (by omega)] | rw [zF2_ne _ (by omega)] | rw [zF1_ne _ _ (by omega)] | rw [zF4_ne _ (by omega)] | rw [zF3_ne _ (by omega)] | rw [zF0_ne _ (by omega)])); exact hz _ (by omega)) ?_
  show zn l d mX5_init 38 [some (.ref a), none] [(.ref (a + 100)), (.ref a)] (zwr (zwr (zF0 (a + 50) (zwr (zF0 (a + 1) σ) a 0 1)) a 1 1) a 2 1) (a + 100) 115 1236 _
  refine zn_putr 41 100 dX5_init_38 rfl pF_RX5_23 rfl (by decide) (by decide) rfl ((hy 0 (by decide)).trans rfl) (by omega) (fun _ => rfl) (fun _ => rfl) ?_
  show zn l d mX5_init 41 [some (.ref a), none] [] (zwr (zwr (zwr (zF0 (a + 50) (zwr (zF0 (a + 1) σ) a 0 1)) a 1 1) a 2 1) a 3 1) (a + 100) 115 1236 _
  refine zn_aload_n 42 dX5_init_41 rfl rfl ?_
  refine zn_new (N := 4) (bc := 114) (bs := 1232) 45 dX5_init_42 rfl ((hy 101 (by decide)).trans rfl) (by decide) nw_RX5_27 (by (repeat (first | rw [zwr_ne _ _ _ (by omega)] | rw [zF2_ne _ (by omega)] | rw [zF1_ne _ _ (by omega)] | rw [zF4_ne _ (by omega)] | rw [zF3_ne _ (by omega)] | rw [zF0_ne _ (by omega)])); exact hz _ (by omega)) ?_
  show zn l d mX5_init 45 [some (.ref a), none] [(.ref (a + 101)), (.ref a)] (zwr (zwr (zwr (zF0 (a + 50) (zwr (zF0 (a + 1) σ) a 0 1)) a 1 1) a 2 1) a 3 1) (a + 101) 114 1232 _
  refine zn_dup 46 dX5_init_45 rfl rfl ?_
  refine zn_callI (bc1 := 3) (bs1 := 32) (bc := 111) (bs := 1200) 49 [] [(.ref (a + 101)), (.ref a)] dX5_init_46 rfl ci_RX5_29 qX2_init rfl rfl (kp_X2_init (d := d - 1) (by omega) (fun i hi => by
    match i, hi with
    | 0, _ => exact hy 101 (by decide)
    | 1, _ => exact hy 102 (by decide)
    | 2, _ => exact hy 103 (by decide)
    | 3, _ => exact hy 104 (by decide)
    | i + 4, h => exact absurd h (by omega)) (fun r hr => by (repeat (first | rw [zwr_ne _ _ _ (by omega)] | rw [zF2_ne _ (by omega)] | rw [zF1_ne _ _ (by omega)] | rw [zF4_ne _ (by omega)] | rw [zF3_ne _ (by omega)] | rw [zF0_ne _ (by omega)])); exact hz _ (by omega))) (by omega) rfl rfl (Nat.le_of_ble_eq_true rfl) (fun σ1 k1 hq => ?_)
  obtain ⟨rfl, rfl⟩ := hq
  show zn l d mX5_init 49 [some (.ref a), none] [(.ref (a + 101)), (.ref a)] (zF2 (a + 101) (zwr (zwr (zwr (zF0 (a + 50) (zwr (zF0 (a + 1) σ) a 0 1)) a 1 1) a 2 1) a 3 1)) (a + 104) 111 1200 _
  refine zn_putr 52 101 dX5_init_49 rfl pF_RX5_30 rfl (by decide) (by decide) rfl ((hy 0 (by decide)).trans rfl) (by omega) (fun _ => rfl) (fun _ => rfl) ?_
  show zn l d mX5_init 52 [some (.ref a), none] [] (zwr (zF2 (a + 101) (zwr (zwr (zwr (zF0 (a + 50) (zwr (zF0 (a + 1) σ) a 0 1)) a 1 1) a 2 1) a 3 1)) a 4 1) (a + 104) 111 1200 _
  refine zn_aload_n 53 dX5_init_52 rfl rfl ?_
  refine zn_new (N := 8) (bc := 110) (bs := 1192) 56 dX5_init_53 rfl ((hy 105 (by decide)).trans rfl) (by decide) nw_RX5_34 (by (repeat (first | rw [zwr_ne _ _ _ (by omega)] | rw [zF2_ne _ (by omega)] | rw [zF1_ne _ _ (by omega)] | rw [zF4_ne _ (by omega)] | rw [zF3_ne _ (by omega)] | rw [zF0_ne _ (by omega)])); exact hz _ (by omega)) ?_
  show zn l d mX5_init 56 [some (.ref a), none] [(.ref (a + 105)), (.ref a)] (zwr (zF2 (a + 101) (zwr (zwr (zwr (zF0 (a + 50) (zwr (zF0 (a + 1) σ) a 0 1)) a 1 1) a 2 1) a 3 1)) a 4 1) (a + 105) 110 1192 _
  refine zn_dup 57 dX5_init_56 rfl rfl ?_
  refine zn_callIN (bc1 := 2) (bs1 := 153) (bc := 108) (bs := 1039) 60 [] [(.ref (a + 105)), (.ref a)] dX5_init_57 rfl cx_36 qX4_init rfl rfl (kp_X4_init (d := d - 1) (by omega) (fun i hi => by
    match i, hi with
    | 0, _ => exact hy 105 (by decide)
    | 1, _ => exact hy 106 (by decide)
    | 2, _ => exact hy 107 (by decide)
    | i + 3, h => exact absurd h (by omega)) (fun r hr => by (repeat (first | rw [zwr_ne _ _ _ (by omega)] | rw [zF2_ne _ (by omega)] | rw [zF1_ne _ _ (by omega)] | rw [zF4_ne _ (by omega)] | rw [zF3_ne _ (by omega)] | rw [zF0_ne _ (by omega)])); exact hz _ (by omega))) (by omega) rfl rfl (Nat.le_of_ble_eq_true rfl) (fun σ1 k1 hq => ?_)
  obtain ⟨rfl, rfl⟩ := hq
  show zn l d mX5_init 60 [some (.ref a), none] [(.ref (a + 105)), (.ref a)] (zF4 (a + 105) (zwr (zF2 (a + 101) (zwr (zwr (zwr (zF0 (a + 50) (zwr (zF0 (a + 1) σ) a 0 1)) a 1 1) a 2 1) a 3 1)) a 4 1)) (a + 107) 108 1039 _
  refine zn_putr 63 105 dX5_init_60 rfl pF_RX5_37 rfl (by decide) (by decide) rfl ((hy 0 (by decide)).trans rfl) (by omega) (fun _ => rfl) (fun _ => rfl) ?_
  show zn l d mX5_init 63 [some (.ref a), none] [] (zwr (zF4 (a + 105) (zwr (zF2 (a + 101) (zwr (zwr (zwr (zF0 (a + 50) (zwr (zF0 (a + 1) σ) a 0 1)) a 1 1) a 2 1) a 3 1)) a 4 1)) a 5 1) (a + 107) 108 1039 _
  refine zn_aload_n 64 dX5_init_63 rfl rfl ?_
  refine zn_new (N := 7) (bc := 107) (bs := 1032) 67 dX5_init_64 rfl ((hy 108 (by decide)).trans rfl) (by decide) nw_RX5_41 (by (repeat (first | rw [zwr_ne _ _ _ (by omega)] | rw [zF2_ne _ (by omega)] | rw [zF1_ne _ _ (by omega)] | rw [zF4_ne _ (by omega)] | rw [zF3_ne _ (by omega)] | rw [zF0_ne _ (by omega)])); exact hz _ (by omega)) ?_
  show zn l d mX5_init 67 [some (.ref a), none] [(.ref (a + 108)), (.ref a)] (zwr (zF4 (a + 105) (zwr (zF2 (a + 101) (zwr (zwr (zwr (zF0 (a + 50) (zwr (zF0 (a + 1) σ) a 0 1)) a 1 1) a 2 1) a 3 1)) a 4 1)) a 5 1) (a + 108) 107 1032 _
  refine zn_dup 68 dX5_init_67 rfl rfl ?_
  refine zn_callIN (bc1 := 4) (bs1 := 56) (bc := 103) (bs := 976) 71 [] [(.ref (a + 108)), (.ref a)] dX5_init_68 rfl cx_43 qX3_init rfl rfl (kp_X3_init (d := d - 1) (by omega) (fun i hi => by
    match i, hi with
    | 0, _ => exact hy 108 (by decide)
    | 1, _ => exact hy 109 (by decide)
    | 2, _ => exact hy 110 (by decide)
    | 3, _ => exact hy 111 (by decide)
    | 4, _ => exact hy 112 (by decide)
    | i + 5, h => exact absurd h (by omega)) (fun r hr => by (repeat (first | rw [zwr_ne _ _ _ (by omega)] | rw [zF2_ne _ (by omega)] | rw [zF1_ne _ _ (by omega)] | rw [zF4_ne _ (by omega)] | rw [zF3_ne _ (by omega)] | rw [zF0_ne _ (by omega)])); exact hz _ (by omega))) (by omega) rfl rfl (Nat.le_of_ble_eq_true rfl) (fun σ1 k1 hq => ?_)
  obtain ⟨rfl, rfl⟩ := hq
  show zn l d mX5_init 71 [some (.ref a), none] [(.ref (a + 108)), (.ref a)] (zF3 (a + 108) (zwr (zF4 (a + 105) (zwr (zF2 (a + 101) (zwr (zwr (zwr (zF0 (a + 50) (zwr (zF0 (a + 1) σ) a 0 1)) a 1 1) a 2 1) a 3 1)) a 4 1)) a 5 1)) (a + 112) 103 976 _
  refine zn_putr 74 108 dX5_init_71 rfl pF_RX5_44 rfl (by decide) (by decide) rfl ((hy 0 (by decide)).trans rfl) (by omega) (fun _ => rfl) (fun _ => rfl) ?_
  show zn l d mX5_init 74 [some (.ref a), none] [] (zwr (zF3 (a + 108) (zwr (zF4 (a + 105) (zwr (zF2 (a + 101) (zwr (zwr (zwr (zF0 (a + 50) (zwr (zF0 (a + 1) σ) a 0 1)) a 1 1) a 2 1) a 3 1)) a 4 1)) a 5 1)) a 6 1) (a + 112) 103 976 _
  refine zn_aload_n 75 dX5_init_74 rfl rfl ?_
  refine zn_bipush 77 dX5_init_75 rfl (by decide) ?_
  refine zn_newa (at_ := .int) (n := 7) (bc := 102) (bs := 969) 79 0 100 dX5_init_77 rfl ((hy 113 (by decide)).trans rfl) (by decide) (fun G => rfl) (fun U cA h => h) rfl aw_int (by decide) (by decide) (by (repeat (first | rw [zwr_ne _ _ _ (by omega)] | rw [zF2_ne _ (by omega)] | rw [zF1_ne _ _ (by omega)] | rw [zF4_ne _ (by omega)] | rw [zF3_ne _ (by omega)] | rw [zF0_ne _ (by omega)])); exact hz _ (by omega)) ?_
  show zn l d mX5_init 79 [some (.ref a), none] [(.ref (a + 113)), (.ref a)] (zwr (zF3 (a + 108) (zwr (zF4 (a + 105) (zwr (zF2 (a + 101) (zwr (zwr (zwr (zF0 (a + 50) (zwr (zF0 (a + 1) σ) a 0 1)) a 1 1) a 2 1) a 3 1)) a 4 1)) a 5 1)) a 6 1) (a + 113) 102 969 _
  refine zn_putr 82 113 dX5_init_79 rfl pF_RX5_48 rfl (by decide) (by decide) rfl ((hy 0 (by decide)).trans rfl) (by omega) (fun _ => rfl) (fun _ => rfl) ?_
  show zn l d mX5_init 82 [some (.ref a), none] [] (zwr (zwr (zF3 (a + 108) (zwr (zF4 (a + 105) (zwr (zF2 (a + 101) (zwr (zwr (zwr (zF0 (a + 50) (zwr (zF0 (a + 1) σ) a 0 1)) a 1 1) a 2 1) a 3 1)) a 4 1)) a 5 1)) a 6 1) a 7 1) (a + 113) 102 969 _
  refine zn_aload_n 83 dX5_init_82 rfl rfl ?_
  refine zn_bipush 85 dX5_init_83 rfl (by decide) ?_
  refine zn_newa (at_ := .int) (n := 6) (bc := 101) (bs := 963) 87 0 100 dX5_init_85 rfl ((hy 114 (by decide)).trans rfl) (by decide) (fun G => rfl) (fun U cA h => h) rfl aw_int (by decide) (by decide) (by (repeat (first | rw [zwr_ne _ _ _ (by omega)] | rw [zF2_ne _ (by omega)] | rw [zF1_ne _ _ (by omega)] | rw [zF4_ne _ (by omega)] | rw [zF3_ne _ (by omega)] | rw [zF0_ne _ (by omega)])); exact hz _ (by omega)) ?_
  show zn l d mX5_init 87 [some (.ref a), none] [(.ref (a + 114)), (.ref a)] (zwr (zwr (zF3 (a + 108) (zwr (zF4 (a + 105) (zwr (zF2 (a + 101) (zwr (zwr (zwr (zF0 (a + 50) (zwr (zF0 (a + 1) σ) a 0 1)) a 1 1) a 2 1) a 3 1)) a 4 1)) a 5 1)) a 6 1) a 7 1) (a + 114) 101 963 _
  refine zn_putr 90 114 dX5_init_87 rfl pF_RX5_52 rfl (by decide) (by decide) rfl ((hy 0 (by decide)).trans rfl) (by omega) (fun _ => rfl) (fun _ => rfl) ?_
  show zn l d mX5_init 90 [some (.ref a), none] [] (zwr (zwr (zwr (zF3 (a + 108) (zwr (zF4 (a + 105) (zwr (zF2 (a + 101) (zwr (zwr (zwr (zF0 (a + 50) (zwr (zF0 (a + 1) σ) a 0 1)) a 1 1) a 2 1) a 3 1)) a 4 1)) a 5 1)) a 6 1) a 7 1) a 8 1) (a + 114) 101 963 _
  refine zn_aload_n 91 dX5_init_90 rfl rfl ?_
  refine zn_bipush 93 dX5_init_91 rfl (by decide) ?_
  refine zn_newa (at_ := .int) (n := 7) (bc := 100) (bs := 956) 95 0 100 dX5_init_93 rfl ((hy 115 (by decide)).trans rfl) (by decide) (fun G => rfl) (fun U cA h => h) rfl aw_int (by decide) (by decide) (by (repeat (first | rw [zwr_ne _ _ _ (by omega)] | rw [zF2_ne _ (by omega)] | rw [zF1_ne _ _ (by omega)] | rw [zF4_ne _ (by omega)] | rw [zF3_ne _ (by omega)] | rw [zF0_ne _ (by omega)])); exact hz _ (by omega)) ?_
  show zn l d mX5_init 95 [some (.ref a), none] [(.ref (a + 115)), (.ref a)] (zwr (zwr (zwr (zF3 (a + 108) (zwr (zF4 (a + 105) (zwr (zF2 (a + 101) (zwr (zwr (zwr (zF0 (a + 50) (zwr (zF0 (a + 1) σ) a 0 1)) a 1 1) a 2 1) a 3 1)) a 4 1)) a 5 1)) a 6 1) a 7 1) a 8 1) (a + 115) 100 956 _
  refine zn_putr 98 115 dX5_init_95 rfl pF_RX5_55 rfl (by decide) (by decide) rfl ((hy 0 (by decide)).trans rfl) (by omega) (fun _ => rfl) (fun _ => rfl) ?_
  show zn l d mX5_init 98 [some (.ref a), none] [] (zwr (zwr (zwr (zwr (zF3 (a + 108) (zwr (zF4 (a + 105) (zwr (zF2 (a + 101) (zwr (zwr (zwr (zF0 (a + 50) (zwr (zF0 (a + 1) σ) a 0 1)) a 1 1) a 2 1) a 3 1)) a 4 1)) a 5 1)) a 6 1) a 7 1) a 8 1) a 9 1) (a + 115) 100 956 _
  refine zn_aload_n 99 dX5_init_98 rfl rfl ?_
  refine zn_bipush 101 dX5_init_99 rfl (by decide) ?_
  refine zn_newa (at_ := .int) (n := 7) (bc := 99) (bs := 949) 103 0 100 dX5_init_101 rfl ((hy 116 (by decide)).trans rfl) (by decide) (fun G => rfl) (fun U cA h => h) rfl aw_int (by decide) (by decide) (by (repeat (first | rw [zwr_ne _ _ _ (by omega)] | rw [zF2_ne _ (by omega)] | rw [zF1_ne _ _ (by omega)] | rw [zF4_ne _ (by omega)] | rw [zF3_ne _ (by omega)] | rw [zF0_ne _ (by omega)])); exact hz _ (by omega)) ?_
  show zn l d mX5_init 103 [some (.ref a), none] [(.ref (a + 116)), (.ref a)] (zwr (zwr (zwr (zwr (zF3 (a + 108) (zwr (zF4 (a + 105) (zwr (zF2 (a + 101) (zwr (zwr (zwr (zF0 (a + 50) (zwr (zF0 (a + 1) σ) a 0 1)) a 1 1) a 2 1) a 3 1)) a 4 1)) a 5 1)) a 6 1) a 7 1) a 8 1) a 9 1) (a + 116) 99 949 _
  refine zn_putr 106 116 dX5_init_103 rfl pF_RX5_58 rfl (by decide) (by decide) rfl ((hy 0 (by decide)).trans rfl) (by omega) (fun _ => rfl) (fun _ => rfl) ?_
  show zn l d mX5_init 106 [some (.ref a), none] [] (zwr (zwr (zwr (zwr (zwr (zF3 (a + 108) (zwr (zF4 (a + 105) (zwr (zF2 (a + 101) (zwr (zwr (zwr (zF0 (a + 50) (zwr (zF0 (a + 1) σ) a 0 1)) a 1 1) a 2 1) a 3 1)) a 4 1)) a 5 1)) a 6 1) a 7 1) a 8 1) a 9 1) a 10 1) (a + 116) 99 949 _
  refine zn_aload_n 107 dX5_init_106 rfl rfl ?_
  refine zn_iconst 108 dX5_init_107 rfl ?_
  refine zn_newa (at_ := .int) (n := 3) (bc := 98) (bs := 946) 110 0 100 dX5_init_108 rfl ((hy 117 (by decide)).trans rfl) (by decide) (fun G => rfl) (fun U cA h => h) rfl aw_int (by decide) (by decide) (by (repeat (first | rw [zwr_ne _ _ _ (by omega)] | rw [zF2_ne _ (by omega)] | rw [zF1_ne _ _ (by omega)] | rw [zF4_ne _ (by omega)] | rw [zF3_ne _ (by omega)] | rw [zF0_ne _ (by omega)])); exact hz _ (by omega)) ?_
  show zn l d mX5_init 110 [some (.ref a), none] [(.ref (a + 117)), (.ref a)] (zwr (zwr (zwr (zwr (zwr (zF3 (a + 108) (zwr (zF4 (a + 105) (zwr (zF2 (a + 101) (zwr (zwr (zwr (zF0 (a + 50) (zwr (zF0 (a + 1) σ) a 0 1)) a 1 1) a 2 1) a 3 1)) a 4 1)) a 5 1)) a 6 1) a 7 1) a 8 1) a 9 1) a 10 1) (a + 117) 98 946 _
  refine zn_putr 113 117 dX5_init_110 rfl pF_RX5_61 rfl (by decide) (by decide) rfl ((hy 0 (by decide)).trans rfl) (by omega) (fun _ => rfl) (fun _ => rfl) ?_
  show zn l d mX5_init 113 [some (.ref a), none] [] (zwr (zwr (zwr (zwr (zwr (zwr (zF3 (a + 108) (zwr (zF4 (a + 105) (zwr (zF2 (a + 101) (zwr (zwr (zwr (zF0 (a + 50) (zwr (zF0 (a + 1) σ) a 0 1)) a 1 1) a 2 1) a 3 1)) a 4 1)) a 5 1)) a 6 1) a 7 1) a 8 1) a 9 1) a 10 1) a 11 1) (a + 117) 98 946 _
  refine zn_aload_n 114 dX5_init_113 rfl rfl ?_
  refine zn_lconst 115 0 dX5_init_114 rfl (by decide) ?_
  refine zn_putN 118 0 dX5_init_115 rfl pF_RX5_64 (by decide) ((hy 0 (by decide)).trans rfl) (by omega) (fun G => by simp [zfv2, show zft 5 12 = 1 from by decide, zup, ztr]) (fun G => rfl) (fun G => rfl) ?_
  show zn l d mX5_init 118 [some (.ref a), none] [] (zwr (zwr (zwr (zwr (zwr (zwr (zwr (zF3 (a + 108) (zwr (zF4 (a + 105) (zwr (zF2 (a + 101) (zwr (zwr (zwr (zF0 (a + 50) (zwr (zF0 (a + 1) σ) a 0 1)) a 1 1) a 2 1) a 3 1)) a 4 1)) a 5 1)) a 6 1) a 7 1) a 8 1) a 9 1) a 10 1) a 11 1) a 12 0) (a + 117) 98 946 _
  refine zn_aload_n 119 dX5_init_118 rfl rfl ?_
  refine zn_lconst 120 1 dX5_init_119 rfl (by decide) ?_
  refine zn_putN 123 1 dX5_init_120 rfl pF_RX5_68 (by decide) ((hy 0 (by decide)).trans rfl) (by omega) (fun G => by simp [zfv2, show zft 5 13 = 1 from by decide, zup, ztr]) (fun G => rfl) (fun G => rfl) ?_
  show zn l d mX5_init 123 [some (.ref a), none] [] (zwr (zwr (zwr (zwr (zwr (zwr (zwr (zwr (zF3 (a + 108) (zwr (zF4 (a + 105) (zwr (zF2 (a + 101) (zwr (zwr (zwr (zF0 (a + 50) (zwr (zF0 (a + 1) σ) a 0 1)) a 1 1) a 2 1) a 3 1)) a 4 1)) a 5 1)) a 6 1) a 7 1) a 8 1) a 9 1) a 10 1) a 11 1) a 12 0) a 13 1) (a + 117) 98 946 _
  refine zn_iconst 124 dX5_init_123 rfl ?_
  refine zn_istore_n 125 dX5_init_124 rfl (by decide) ?_
  show zn l d mX5_init 125 [some (.ref a), some (.int (zI 0))] [] (zwr (zwr (zwr (zwr (zwr (zwr (zwr (zwr (zF3 (a + 108) (zwr (zF4 (a + 105) (zwr (zF2 (a + 101) (zwr (zwr (zwr (zF0 (a + 50) (zwr (zF0 (a + 1) σ) a 0 1)) a 1 1) a 2 1) a 3 1)) a 4 1)) a 5 1)) a 6 1) a 7 1) a 8 1) a 9 1) a 10 1) a 11 1) a 12 0) a 13 1) (a + 117) 98 946 _
  refine zn_iload_n 126 dX5_init_125 rfl rfl ?_
  refine zn_iconst 127 dX5_init_126 rfl ?_
  refine zn_icmp_ge 149 130 dX5_init_127 (by decide) rfl (by omega) (by omega) (fun hh => absurd hh (by decide)) (fun _ => ?_)
  refine zn_aload_n 131 dX5_init_130 rfl rfl ?_
  refine zn_getr 134 (a + 99) (o := 99) (j := 2) (ci := 5) dX5_init_131 rfl ⟨_, rfl, by decide, zw_in 213 (by decide +kernel) rfl⟩ (by decide) (by decide) rfl ((hy 0 (by decide)).trans rfl) (by omega) (by (repeat (first | rw [zF2_ne _ (by omega)] | rw [zF1_ne _ _ (by omega)] | rw [zF0_ne _ (by omega)] | rw [zF3_ne _ (by omega)] | rw [zF4_ne _ (by omega)] | rw [zwr_ne _ _ _ (by omega)] | rw [zwr_ni _ _ _ (by omega)])); simp [zwr, zwa, zup]) ?_
  refine zn_iload_n 135 dX5_init_134 rfl rfl ?_
  refine zn_new (N := 13) (bc := 97) (bs := 933) 138 dX5_init_135 rfl ((hy 118 (by decide)).trans rfl) (by decide) nw_RX5_7 (by (repeat (first | rw [zwr_ne _ _ _ (by omega)] | rw [zF2_ne _ (by omega)] | rw [zF1_ne _ _ (by omega)] | rw [zF4_ne _ (by omega)] | rw [zF3_ne _ (by omega)] | rw [zF0_ne _ (by omega)])); exact hz _ (by omega)) ?_
  show zn l d mX5_init 138 [some (.ref a), some (.int (zI 0))] [(.ref (a + 118)), (.int (zI 0)), (.ref (a + 99))] (zwr (zwr (zwr (zwr (zwr (zwr (zwr (zwr (zF3 (a + 108) (zwr (zF4 (a + 105) (zwr (zF2 (a + 101) (zwr (zwr (zwr (zF0 (a + 50) (zwr (zF0 (a + 1) σ) a 0 1)) a 1 1) a 2 1) a 3 1)) a 4 1)) a 5 1)) a 6 1) a 7 1) a 8 1) a 9 1) a 10 1) a 11 1) a 12 0) a 13 1) (a + 118) 97 933 _
  refine zn_dup 139 dX5_init_138 rfl rfl ?_
  refine zn_callI (bc1 := 48) (bs1 := 460) (bc := 49) (bs := 473) 142 [] [(.ref (a + 118)), (.int (zI 0)), (.ref (a + 99))] dX5_init_139 rfl ci_RX5_9 qX0_init rfl rfl (kp_X0_init (d := d - 1) (by omega) (fun i hi => by
    match i, hi with
    | 0, _ => exact hy 118 (by decide)
    | 1, _ => exact hy 119 (by decide)
    | 2, _ => exact hy 120 (by decide)
    | 3, _ => exact hy 121 (by decide)
    | 4, _ => exact hy 122 (by decide)
    | 5, _ => exact hy 123 (by decide)
    | 6, _ => exact hy 124 (by decide)
    | 7, _ => exact hy 125 (by decide)
    | 8, _ => exact hy 126 (by decide)
    | 9, _ => exact hy 127 (by decide)
    | 10, _ => exact hy 128 (by decide)
    | 11, _ => exact hy 129 (by decide)
    | 12, _ => exact hy 130 (by decide)
    | 13, _ => exact hy 131 (by decide)
    | 14, _ => exact hy 132 (by decide)
    | 15, _ => exact hy 133 (by decide)
    | 16, _ => exact hy 134 (by decide)
    | 17, _ => exact hy 135 (by decide)
    | 18, _ => exact hy 136 (by decide)
    | 19, _ => exact hy 137 (by decide)
    | 20, _ => exact hy 138 (by decide)
    | 21, _ => exact hy 139 (by decide)
    | 22, _ => exact hy 140 (by decide)
    | 23, _ => exact hy 141 (by decide)
    | 24, _ => exact hy 142 (by decide)
    | 25, _ => exact hy 143 (by decide)
    | 26, _ => exact hy 144 (by decide)
    | 27, _ => exact hy 145 (by decide)
    | 28, _ => exact hy 146 (by decide)
    | 29, _ => exact hy 147 (by decide)
    | 30, _ => exact hy 148 (by decide)
    | 31, _ => exact hy 149 (by decide)
    | 32, _ => exact hy 150 (by decide)
    | 33, _ => exact hy 151 (by decide)
    | 34, _ => exact hy 152 (by decide)
    | 35, _ => exact hy 153 (by decide)
    | 36, _ => exact hy 154 (by decide)
    | 37, _ => exact hy 155 (by decide)
    | 38, _ => exact hy 156 (by decide)
    | 39, _ => exact hy 157 (by decide)
    | 40, _ => exact hy 158 (by decide)
    | 41, _ => exact hy 159 (by decide)
    | 42, _ => exact hy 160 (by decide)
    | 43, _ => exact hy 161 (by decide)
    | 44, _ => exact hy 162 (by decide)
    | 45, _ => exact hy 163 (by decide)
    | 46, _ => exact hy 164 (by decide)
    | 47, _ => exact hy 165 (by decide)
    | 48, _ => exact hy 166 (by decide)
    | i + 49, h => exact absurd h (by omega)) (fun r hr => by (repeat (first | rw [zwr_ne _ _ _ (by omega)] | rw [zF2_ne _ (by omega)] | rw [zF1_ne _ _ (by omega)] | rw [zF4_ne _ (by omega)] | rw [zF3_ne _ (by omega)] | rw [zF0_ne _ (by omega)])); exact hz _ (by omega))) (by omega) rfl rfl (Nat.le_of_ble_eq_true rfl) (fun σ1 k1 hq => ?_)
  obtain ⟨rfl, rfl⟩ := hq
  show zn l d mX5_init 142 [some (.ref a), some (.int (zI 0))] [(.ref (a + 118)), (.int (zI 0)), (.ref (a + 99))] (zF0 (a + 118) (zwr (zwr (zwr (zwr (zwr (zwr (zwr (zwr (zF3 (a + 108) (zwr (zF4 (a + 105) (zwr (zF2 (a + 101) (zwr (zwr (zwr (zF0 (a + 50) (zwr (zF0 (a + 1) σ) a 0 1)) a 1 1) a 2 1) a 3 1)) a 4 1)) a 5 1)) a 6 1) a 7 1) a 8 1) a 9 1) a 10 1) a 11 1) a 12 0) a 13 1)) (a + 166) 49 473 _
  refine zn_aast 143 4 0 dX5_init_142 rfl ((hy 99 (by decide)).trans rfl) (by decide) (fun G => rfl) rfl (by decide) (by omega) (by decide) ((hy 118 (by decide)).trans rfl) (by omega) ?_
  show zn l d mX5_init 143 [some (.ref a), some (.int (zI 0))] [] (zwr (zF0 (a + 118) (zwr (zwr (zwr (zwr (zwr (zwr (zwr (zwr (zF3 (a + 108) (zwr (zF4 (a + 105) (zwr (zF2 (a + 101) (zwr (zwr (zwr (zF0 (a + 50) (zwr (zF0 (a + 1) σ) a 0 1)) a 1 1) a 2 1) a 3 1)) a 4 1)) a 5 1)) a 6 1) a 7 1) a 8 1) a 9 1) a 10 1) a 11 1) a 12 0) a 13 1)) (a + 99) 0 (((a + 118) : Nat) : Int)) (a + 166) 49 473 _
  refine zn_iinc 146 dX5_init_143 rfl (by decide) rfl ?_
  show zn l d mX5_init 146 [some (.ref a), some (.int (zI 1))] [] (zwr (zF0 (a + 118) (zwr (zwr (zwr (zwr (zwr (zwr (zwr (zwr (zF3 (a + 108) (zwr (zF4 (a + 105) (zwr (zF2 (a + 101) (zwr (zwr (zwr (zF0 (a + 50) (zwr (zF0 (a + 1) σ) a 0 1)) a 1 1) a 2 1) a 3 1)) a 4 1)) a 5 1)) a 6 1) a 7 1) a 8 1) a 9 1) a 10 1) a 11 1) a 12 0) a 13 1)) (a + 99) 0 (((a + 118) : Nat) : Int)) (a + 166) 49 473 _
  refine zn_goto 125 dX5_init_146 (by decide) ?_
  refine zn_iload_n 126 dX5_init_125 rfl rfl ?_
  refine zn_iconst 127 dX5_init_126 rfl ?_
  refine zn_icmp_ge 149 130 dX5_init_127 (by decide) rfl (by omega) (by omega) (fun hh => absurd hh (by decide)) (fun _ => ?_)
  refine zn_aload_n 131 dX5_init_130 rfl rfl ?_
  refine zn_getr 134 (a + 99) (o := 99) (j := 2) (ci := 5) dX5_init_131 rfl ⟨_, rfl, by decide, zw_in 213 (by decide +kernel) rfl⟩ (by decide) (by decide) rfl ((hy 0 (by decide)).trans rfl) (by omega) (by (repeat (first | rw [zF2_ne _ (by omega)] | rw [zF1_ne _ _ (by omega)] | rw [zF0_ne _ (by omega)] | rw [zF3_ne _ (by omega)] | rw [zF4_ne _ (by omega)] | rw [zwr_ne _ _ _ (by omega)] | rw [zwr_ni _ _ _ (by omega)])); simp [zwr, zwa, zup]) ?_
  refine zn_iload_n 135 dX5_init_134 rfl rfl ?_
  refine zn_new (N := 13) (bc := 48) (bs := 460) 138 dX5_init_135 rfl ((hy 167 (by decide)).trans rfl) (by decide) nw_RX5_7 (by (repeat (first | rw [zwr_ne _ _ _ (by omega)] | rw [zF2_ne _ (by omega)] | rw [zF1_ne _ _ (by omega)] | rw [zF4_ne _ (by omega)] | rw [zF3_ne _ (by omega)] | rw [zF0_ne _ (by omega)])); exact hz _ (by omega)) ?_
  show zn l d mX5_init 138 [some (.ref a), some (.int (zI 1))] [(.ref (a + 167)), (.int (zI 1)), (.ref (a + 99))] (zwr (zF0 (a + 118) (zwr (zwr (zwr (zwr (zwr (zwr (zwr (zwr (zF3 (a + 108) (zwr (zF4 (a + 105) (zwr (zF2 (a + 101) (zwr (zwr (zwr (zF0 (a + 50) (zwr (zF0 (a + 1) σ) a 0 1)) a 1 1) a 2 1) a 3 1)) a 4 1)) a 5 1)) a 6 1) a 7 1) a 8 1) a 9 1) a 10 1) a 11 1) a 12 0) a 13 1)) (a + 99) 0 (((a + 118) : Nat) : Int)) (a + 167) 48 460 _
  refine zn_dup 139 dX5_init_138 rfl rfl ?_
  refine zn_callI (bc1 := 48) (bs1 := 460) (bc := 0) (bs := 0) 142 [] [(.ref (a + 167)), (.int (zI 1)), (.ref (a + 99))] dX5_init_139 rfl ci_RX5_9 qX0_init rfl rfl (kp_X0_init (d := d - 1) (by omega) (fun i hi => by
    match i, hi with
    | 0, _ => exact hy 167 (by decide)
    | 1, _ => exact hy 168 (by decide)
    | 2, _ => exact hy 169 (by decide)
    | 3, _ => exact hy 170 (by decide)
    | 4, _ => exact hy 171 (by decide)
    | 5, _ => exact hy 172 (by decide)
    | 6, _ => exact hy 173 (by decide)
    | 7, _ => exact hy 174 (by decide)
    | 8, _ => exact hy 175 (by decide)
    | 9, _ => exact hy 176 (by decide)
    | 10, _ => exact hy 177 (by decide)
    | 11, _ => exact hy 178 (by decide)
    | 12, _ => exact hy 179 (by decide)
    | 13, _ => exact hy 180 (by decide)
    | 14, _ => exact hy 181 (by decide)
    | 15, _ => exact hy 182 (by decide)
    | 16, _ => exact hy 183 (by decide)
    | 17, _ => exact hy 184 (by decide)
    | 18, _ => exact hy 185 (by decide)
    | 19, _ => exact hy 186 (by decide)
    | 20, _ => exact hy 187 (by decide)
    | 21, _ => exact hy 188 (by decide)
    | 22, _ => exact hy 189 (by decide)
    | 23, _ => exact hy 190 (by decide)
    | 24, _ => exact hy 191 (by decide)
    | 25, _ => exact hy 192 (by decide)
    | 26, _ => exact hy 193 (by decide)
    | 27, _ => exact hy 194 (by decide)
    | 28, _ => exact hy 195 (by decide)
    | 29, _ => exact hy 196 (by decide)
    | 30, _ => exact hy 197 (by decide)
    | 31, _ => exact hy 198 (by decide)
    | 32, _ => exact hy 199 (by decide)
    | 33, _ => exact hy 200 (by decide)
    | 34, _ => exact hy 201 (by decide)
    | 35, _ => exact hy 202 (by decide)
    | 36, _ => exact hy 203 (by decide)
    | 37, _ => exact hy 204 (by decide)
    | 38, _ => exact hy 205 (by decide)
    | 39, _ => exact hy 206 (by decide)
    | 40, _ => exact hy 207 (by decide)
    | 41, _ => exact hy 208 (by decide)
    | 42, _ => exact hy 209 (by decide)
    | 43, _ => exact hy 210 (by decide)
    | 44, _ => exact hy 211 (by decide)
    | 45, _ => exact hy 212 (by decide)
    | 46, _ => exact hy 213 (by decide)
    | 47, _ => exact hy 214 (by decide)
    | 48, _ => exact hy 215 (by decide)
    | i + 49, h => exact absurd h (by omega)) (fun r hr => by (repeat (first | rw [zwr_ne _ _ _ (by omega)] | rw [zF2_ne _ (by omega)] | rw [zF1_ne _ _ (by omega)] | rw [zF4_ne _ (by omega)] | rw [zF3_ne _ (by omega)] | rw [zF0_ne _ (by omega)])); exact hz _ (by omega))) (by omega) rfl rfl (Nat.le_of_ble_eq_true rfl) (fun σ1 k1 hq => ?_)
  obtain ⟨rfl, rfl⟩ := hq
  show zn l d mX5_init 142 [some (.ref a), some (.int (zI 1))] [(.ref (a + 167)), (.int (zI 1)), (.ref (a + 99))] (zF0 (a + 167) (zwr (zF0 (a + 118) (zwr (zwr (zwr (zwr (zwr (zwr (zwr (zwr (zF3 (a + 108) (zwr (zF4 (a + 105) (zwr (zF2 (a + 101) (zwr (zwr (zwr (zF0 (a + 50) (zwr (zF0 (a + 1) σ) a 0 1)) a 1 1) a 2 1) a 3 1)) a 4 1)) a 5 1)) a 6 1) a 7 1) a 8 1) a 9 1) a 10 1) a 11 1) a 12 0) a 13 1)) (a + 99) 0 (((a + 118) : Nat) : Int))) (a + 215) 0 0 _
  refine zn_aast 143 4 0 dX5_init_142 rfl ((hy 99 (by decide)).trans rfl) (by decide) (fun G => rfl) rfl (by decide) (by omega) (by decide) ((hy 167 (by decide)).trans rfl) (by omega) ?_
  show zn l d mX5_init 143 [some (.ref a), some (.int (zI 1))] [] (zwr (zF0 (a + 167) (zwr (zF0 (a + 118) (zwr (zwr (zwr (zwr (zwr (zwr (zwr (zwr (zF3 (a + 108) (zwr (zF4 (a + 105) (zwr (zF2 (a + 101) (zwr (zwr (zwr (zF0 (a + 50) (zwr (zF0 (a + 1) σ) a 0 1)) a 1 1) a 2 1) a 3 1)) a 4 1)) a 5 1)) a 6 1) a 7 1) a 8 1) a 9 1) a 10 1) a 11 1) a 12 0) a 13 1)) (a + 99) 0 (((a + 118) : Nat) : Int))) (a + 99) 1 (((a + 167) : Nat) : Int)) (a + 215) 0 0 _
  refine zn_iinc 146 dX5_init_143 rfl (by decide) rfl ?_
  show zn l d mX5_init 146 [some (.ref a), some (.int (zI 2))] [] (zwr (zF0 (a + 167) (zwr (zF0 (a + 118) (zwr (zwr (zwr (zwr (zwr (zwr (zwr (zwr (zF3 (a + 108) (zwr (zF4 (a + 105) (zwr (zF2 (a + 101) (zwr (zwr (zwr (zF0 (a + 50) (zwr (zF0 (a + 1) σ) a 0 1)) a 1 1) a 2 1) a 3 1)) a 4 1)) a 5 1)) a 6 1) a 7 1) a 8 1) a 9 1) a 10 1) a 11 1) a 12 0) a 13 1)) (a + 99) 0 (((a + 118) : Nat) : Int))) (a + 99) 1 (((a + 167) : Nat) : Int)) (a + 215) 0 0 _
  refine zn_goto 125 dX5_init_146 (by decide) ?_
  refine zn_iload_n 126 dX5_init_125 rfl rfl ?_
  refine zn_iconst 127 dX5_init_126 rfl ?_
  refine zn_icmp_ge 149 130 dX5_init_127 (by decide) rfl (by omega) (by omega) (fun _ => ?_) (fun hh => absurd hh (by decide))
  exact zn_vret dX5_init_149 rfl ⟨rfl, rfl⟩
theorem pF_RX6_7 : zfF RX6 7 6 0 (.array .int) := ⟨_, rfl, by decide, zw_in 778 (by decide +kernel) rfl, rfl, rfl, (by decide +kernel)⟩
theorem pF_RX6_13 : zfF RX6 13 6 1 (.array .int) := ⟨_, rfl, by decide, zw_in 779 (by decide +kernel) rfl, rfl, rfl, (by decide +kernel)⟩
theorem pF_RX6_16 : zfF RX6 16 6 2 (.array .int) := ⟨_, rfl, by decide, zw_in 780 (by decide +kernel) rfl, rfl, rfl, (by decide +kernel)⟩
theorem pF_RX6_19 : zfF RX6 19 6 3 (.array .int) := ⟨_, rfl, by decide, zw_in 781 (by decide +kernel) rfl, rfl, rfl, (by decide +kernel)⟩
theorem pF_RX6_22 : zfF RX6 22 6 4 (.array .boolean) := ⟨_, rfl, by decide, zw_in 782 (by decide +kernel) rfl, rfl, rfl, (by decide +kernel)⟩
theorem pF_RX6_26 : zfF RX6 26 6 5 (.array .int) := ⟨_, rfl, by decide, zw_in 783 (by decide +kernel) rfl, rfl, rfl, (by decide +kernel)⟩
theorem pF_RX6_29 : zfp RX6 29 6 8 .long := ⟨_, rfl, by decide, zw_in 786 (by decide +kernel) rfl, rfl, (by decide +kernel)⟩
theorem pF_RX6_33 : zfF RX6 33 6 9 (.array .int) := ⟨_, rfl, by decide, zw_in 787 (by decide +kernel) rfl, rfl, rfl, (by decide +kernel)⟩
theorem pF_RX6_36 : zfF RX6 36 6 18 (.array .int) := ⟨_, rfl, by decide, zw_in 796 (by decide +kernel) rfl, rfl, rfl, (by decide +kernel)⟩
theorem pF_RX6_39 : zfF RX6 39 6 19 (.array .int) := ⟨_, rfl, by decide, zw_in 797 (by decide +kernel) rfl, rfl, rfl, (by decide +kernel)⟩
theorem pF_RX6_42 : zfF RX6 42 6 20 (.array .int) := ⟨_, rfl, by decide, zw_in 798 (by decide +kernel) rfl, rfl, rfl, (by decide +kernel)⟩
theorem pF_RX6_45 : zfF RX6 45 6 21 (.array .int) := ⟨_, rfl, by decide, zw_in 799 (by decide +kernel) rfl, rfl, rfl, (by decide +kernel)⟩
def zF6 (a : Nat) (σ : zMem) : zMem := (zFe (a + 1) (zwr (zwr (zwr (zwr (zwr (zwr (zwr (zwr (zwr (zwr (zwr (zwr σ a 0 1) a 1 1) a 2 1) a 3 1) a 4 1) a 5 1) a 8 1) a 9 1) a 18 1) a 19 1) a 20 1) a 21 1))
theorem zFe_ne {r b : Nat} (σ : zMem) (h : b ≠ r) : zFe r σ b = σ b := zwa_ne _ _ h
theorem zF6_ne {a : Nat} (σ : zMem) {b : Nat} (h : b < a ∨ a + 11 < b) : zF6 a σ b = σ b := by
  unfold zF6
  repeat (first | rw [zwr_ne _ _ _ (by omega)] | rw [zFl_ne _ (by omega)] | rw [zFe_ne _ (by omega)])
set_option maxRecDepth 100000 in
theorem kp_X6_init {l : Launch} {d : Nat} {σ : zMem} {a : Nat} (hd : 2 ≤ d) (hy : ∀ i, i < 12 → zly (a + i) = (zLAY.drop 216)[i]?) (hz : ∀ r, a < r → σ r = fun _ => 0) : zKp l d mX6_init [.ref a] σ a 11 1958 (fun σ' k' => σ' = zF6 a σ ∧ k' = a + 11) := by
  refine zKp_of oX6_init rfl (Nat.le_of_ble_eq_true rfl) ?_
  show zn l d mX6_init 0 [some (.ref a)] [] σ a 11 1958 _
  refine zn_aload_n 1 dX6_init_0 rfl rfl ?_
  refine zn_objInit 4 dX6_init_1 rfl oi_RX6 rfl (by omega) ?_
  refine zn_aload_n 5 dX6_init_4 rfl rfl ?_
  refine zn_sipush 8 dX6_init_5 rfl (by decide) ?_
  refine zn_newa (at_ := .int) (n := 399) (bc := 10) (bs := 1559) 10 0 100 dX6_init_8 rfl ((hy 1 (by decide)).trans rfl) (by decide) (fun G => rfl) (fun U cA h => h) rfl aw_int (by decide) (by decide) (by (repeat (first | rw [zwr_ne _ _ _ (by omega)] | rw [zF2_ne _ (by omega)] | rw [zF1_ne _ _ (by omega)] | rw [zF4_ne _ (by omega)] | rw [zF3_ne _ (by omega)] | rw [zF0_ne _ (by omega)])); exact hz _ (by omega)) ?_
  show zn l d mX6_init 10 [some (.ref a)] [(.ref (a + 1)), (.ref a)] σ (a + 1) 10 1559 _
  refine zn_putr 13 1 dX6_init_10 rfl pF_RX6_7 rfl (by decide) (by decide) rfl ((hy 0 (by decide)).trans rfl) (by omega) (fun _ => rfl) (fun _ => rfl) ?_
  show zn l d mX6_init 13 [some (.ref a)] [] (zwr σ a 0 1) (a + 1) 10 1559 _
  refine zn_aload_n 14 dX6_init_13 rfl rfl ?_
  refine zn_sipush 17 dX6_init_14 rfl (by decide) ?_
  refine zn_newa (at_ := .int) (n := 399) (bc := 9) (bs := 1160) 19 0 100 dX6_init_17 rfl ((hy 2 (by decide)).trans rfl) (by decide) (fun G => rfl) (fun U cA h => h) rfl aw_int (by decide) (by decide) (by (repeat (first | rw [zwr_ne _ _ _ (by omega)] | rw [zF2_ne _ (by omega)] | rw [zF1_ne _ _ (by omega)] | rw [zF4_ne _ (by omega)] | rw [zF3_ne _ (by omega)] | rw [zF0_ne _ (by omega)])); exact hz _ (by omega)) ?_
  show zn l d mX6_init 19 [some (.ref a)] [(.ref (a + 2)), (.ref a)] (zwr σ a 0 1) (a + 2) 9 1160 _
  refine zn_putr 22 2 dX6_init_19 rfl pF_RX6_13 rfl (by decide) (by decide) rfl ((hy 0 (by decide)).trans rfl) (by omega) (fun _ => rfl) (fun _ => rfl) ?_
  show zn l d mX6_init 22 [some (.ref a)] [] (zwr (zwr σ a 0 1) a 1 1) (a + 2) 9 1160 _
  refine zn_aload_n 23 dX6_init_22 rfl rfl ?_
  refine zn_bipush 25 dX6_init_23 rfl (by decide) ?_
  refine zn_newa (at_ := .int) (n := 33) (bc := 8) (bs := 1127) 27 0 100 dX6_init_25 rfl ((hy 3 (by decide)).trans rfl) (by decide) (fun G => rfl) (fun U cA h => h) rfl aw_int (by decide) (by decide) (by (repeat (first | rw [zwr_ne _ _ _ (by omega)] | rw [zF2_ne _ (by omega)] | rw [zF1_ne _ _ (by omega)] | rw [zF4_ne _ (by omega)] | rw [zF3_ne _ (by omega)] | rw [zF0_ne _ (by omega)])); exact hz _ (by omega)) ?_
  show zn l d mX6_init 27 [some (.ref a)] [(.ref (a + 3)), (.ref a)] (zwr (zwr σ a 0 1) a 1 1) (a + 3) 8 1127 _
  refine zn_putr 30 3 dX6_init_27 rfl pF_RX6_16 rfl (by decide) (by decide) rfl ((hy 0 (by decide)).trans rfl) (by omega) (fun _ => rfl) (fun _ => rfl) ?_
  show zn l d mX6_init 30 [some (.ref a)] [] (zwr (zwr (zwr σ a 0 1) a 1 1) a 2 1) (a + 3) 8 1127 _
  refine zn_aload_n 31 dX6_init_30 rfl rfl ?_
  refine zn_sipush 34 dX6_init_31 rfl (by decide) ?_
  refine zn_newa (at_ := .int) (n := 798) (bc := 7) (bs := 329) 36 0 100 dX6_init_34 rfl ((hy 4 (by decide)).trans rfl) (by decide) (fun G => rfl) (fun U cA h => h) rfl aw_int (by decide) (by decide) (by (repeat (first | rw [zwr_ne _ _ _ (by omega)] | rw [zF2_ne _ (by omega)] | rw [zF1_ne _ _ (by omega)] | rw [zF4_ne _ (by omega)] | rw [zF3_ne _ (by omega)] | rw [zF0_ne _ (by omega)])); exact hz _ (by omega)) ?_
  show zn l d mX6_init 36 [some (.ref a)] [(.ref (a + 4)), (.ref a)] (zwr (zwr (zwr σ a 0 1) a 1 1) a 2 1) (a + 4) 7 329 _
  refine zn_putr 39 4 dX6_init_36 rfl pF_RX6_19 rfl (by decide) (by decide) rfl ((hy 0 (by decide)).trans rfl) (by omega) (fun _ => rfl) (fun _ => rfl) ?_
  show zn l d mX6_init 39 [some (.ref a)] [] (zwr (zwr (zwr (zwr σ a 0 1) a 1 1) a 2 1) a 3 1) (a + 4) 7 329 _
  refine zn_aload_n 40 dX6_init_39 rfl rfl ?_
  refine zn_iconst 41 dX6_init_40 rfl ?_
  refine zn_newa (at_ := .boolean) (n := 2) (bc := 6) (bs := 327) 43 1 101 dX6_init_41 rfl ((hy 5 (by decide)).trans rfl) (by decide) (fun G => rfl) (fun U cA h => h) rfl aw_bool (by decide) (by decide) (by (repeat (first | rw [zwr_ne _ _ _ (by omega)] | rw [zF2_ne _ (by omega)] | rw [zF1_ne _ _ (by omega)] | rw [zF4_ne _ (by omega)] | rw [zF3_ne _ (by omega)] | rw [zF0_ne _ (by omega)])); exact hz _ (by omega)) ?_
  show zn l d mX6_init 43 [some (.ref a)] [(.ref (a + 5)), (.ref a)] (zwr (zwr (zwr (zwr σ a 0 1) a 1 1) a 2 1) a 3 1) (a + 5) 6 327 _
  refine zn_putr 46 5 dX6_init_43 rfl pF_RX6_22 rfl (by decide) (by decide) rfl ((hy 0 (by decide)).trans rfl) (by omega) (fun _ => rfl) (fun _ => rfl) ?_
  show zn l d mX6_init 46 [some (.ref a)] [] (zwr (zwr (zwr (zwr (zwr σ a 0 1) a 1 1) a 2 1) a 3 1) a 4 1) (a + 5) 6 327 _
  refine zn_aload_n 47 dX6_init_46 rfl rfl ?_
  refine zn_sipush 50 dX6_init_47 rfl (by decide) ?_
  refine zn_newa (at_ := .int) (n := 150) (bc := 5) (bs := 177) 52 0 100 dX6_init_50 rfl ((hy 6 (by decide)).trans rfl) (by decide) (fun G => rfl) (fun U cA h => h) rfl aw_int (by decide) (by decide) (by (repeat (first | rw [zwr_ne _ _ _ (by omega)] | rw [zF2_ne _ (by omega)] | rw [zF1_ne _ _ (by omega)] | rw [zF4_ne _ (by omega)] | rw [zF3_ne _ (by omega)] | rw [zF0_ne _ (by omega)])); exact hz _ (by omega)) ?_
  show zn l d mX6_init 52 [some (.ref a)] [(.ref (a + 6)), (.ref a)] (zwr (zwr (zwr (zwr (zwr σ a 0 1) a 1 1) a 2 1) a 3 1) a 4 1) (a + 6) 5 177 _
  refine zn_putr 55 6 dX6_init_52 rfl pF_RX6_26 rfl (by decide) (by decide) rfl ((hy 0 (by decide)).trans rfl) (by omega) (fun _ => rfl) (fun _ => rfl) ?_
  show zn l d mX6_init 55 [some (.ref a)] [] (zwr (zwr (zwr (zwr (zwr (zwr σ a 0 1) a 1 1) a 2 1) a 3 1) a 4 1) a 5 1) (a + 6) 5 177 _
  refine zn_aload_n 56 dX6_init_55 rfl rfl ?_
  refine zn_lconst 57 1 dX6_init_56 rfl (by decide) ?_
  refine zn_putN 60 1 dX6_init_57 rfl pF_RX6_29 (by decide) ((hy 0 (by decide)).trans rfl) (by omega) (fun G => by simp [zfv2, show zft 6 8 = 1 from by decide, zup, ztr]) (fun G => rfl) (fun G => rfl) ?_
  show zn l d mX6_init 60 [some (.ref a)] [] (zwr (zwr (zwr (zwr (zwr (zwr (zwr σ a 0 1) a 1 1) a 2 1) a 3 1) a 4 1) a 5 1) a 8 1) (a + 6) 5 177 _
  refine zn_aload_n 61 dX6_init_60 rfl rfl ?_
  refine zn_iconst 62 dX6_init_61 rfl ?_
  refine zn_newa (at_ := .int) (n := 3) (bc := 4) (bs := 174) 64 0 100 dX6_init_62 rfl ((hy 7 (by decide)).trans rfl) (by decide) (fun G => rfl) (fun U cA h => h) rfl aw_int (by decide) (by decide) (by (repeat (first | rw [zwr_ne _ _ _ (by omega)] | rw [zF2_ne _ (by omega)] | rw [zF1_ne _ _ (by omega)] | rw [zF4_ne _ (by omega)] | rw [zF3_ne _ (by omega)] | rw [zF0_ne _ (by omega)])); exact hz _ (by omega)) ?_
  show zn l d mX6_init 64 [some (.ref a)] [(.ref (a + 7)), (.ref a)] (zwr (zwr (zwr (zwr (zwr (zwr (zwr σ a 0 1) a 1 1) a 2 1) a 3 1) a 4 1) a 5 1) a 8 1) (a + 7) 4 174 _
  refine zn_putr 67 7 dX6_init_64 rfl pF_RX6_33 rfl (by decide) (by decide) rfl ((hy 0 (by decide)).trans rfl) (by omega) (fun _ => rfl) (fun _ => rfl) ?_
  show zn l d mX6_init 67 [some (.ref a)] [] (zwr (zwr (zwr (zwr (zwr (zwr (zwr (zwr σ a 0 1) a 1 1) a 2 1) a 3 1) a 4 1) a 5 1) a 8 1) a 9 1) (a + 7) 4 174 _
  refine zn_aload_n 68 dX6_init_67 rfl rfl ?_
  refine zn_bipush 70 dX6_init_68 rfl (by decide) ?_
  refine zn_newa (at_ := .int) (n := 40) (bc := 3) (bs := 134) 72 0 100 dX6_init_70 rfl ((hy 8 (by decide)).trans rfl) (by decide) (fun G => rfl) (fun U cA h => h) rfl aw_int (by decide) (by decide) (by (repeat (first | rw [zwr_ne _ _ _ (by omega)] | rw [zF2_ne _ (by omega)] | rw [zF1_ne _ _ (by omega)] | rw [zF4_ne _ (by omega)] | rw [zF3_ne _ (by omega)] | rw [zF0_ne _ (by omega)])); exact hz _ (by omega)) ?_
  show zn l d mX6_init 72 [some (.ref a)] [(.ref (a + 8)), (.ref a)] (zwr (zwr (zwr (zwr (zwr (zwr (zwr (zwr σ a 0 1) a 1 1) a 2 1) a 3 1) a 4 1) a 5 1) a 8 1) a 9 1) (a + 8) 3 134 _
  refine zn_putr 75 8 dX6_init_72 rfl pF_RX6_36 rfl (by decide) (by decide) rfl ((hy 0 (by decide)).trans rfl) (by omega) (fun _ => rfl) (fun _ => rfl) ?_
  show zn l d mX6_init 75 [some (.ref a)] [] (zwr (zwr (zwr (zwr (zwr (zwr (zwr (zwr (zwr σ a 0 1) a 1 1) a 2 1) a 3 1) a 4 1) a 5 1) a 8 1) a 9 1) a 18 1) (a + 8) 3 134 _
  refine zn_aload_n 76 dX6_init_75 rfl rfl ?_
  refine zn_bipush 78 dX6_init_76 rfl (by decide) ?_
  refine zn_newa (at_ := .int) (n := 7) (bc := 2) (bs := 127) 80 0 100 dX6_init_78 rfl ((hy 9 (by decide)).trans rfl) (by decide) (fun G => rfl) (fun U cA h => h) rfl aw_int (by decide) (by decide) (by (repeat (first | rw [zwr_ne _ _ _ (by omega)] | rw [zF2_ne _ (by omega)] | rw [zF1_ne _ _ (by omega)] | rw [zF4_ne _ (by omega)] | rw [zF3_ne _ (by omega)] | rw [zF0_ne _ (by omega)])); exact hz _ (by omega)) ?_
  show zn l d mX6_init 80 [some (.ref a)] [(.ref (a + 9)), (.ref a)] (zwr (zwr (zwr (zwr (zwr (zwr (zwr (zwr (zwr σ a 0 1) a 1 1) a 2 1) a 3 1) a 4 1) a 5 1) a 8 1) a 9 1) a 18 1) (a + 9) 2 127 _
  refine zn_putr 83 9 dX6_init_80 rfl pF_RX6_39 rfl (by decide) (by decide) rfl ((hy 0 (by decide)).trans rfl) (by omega) (fun _ => rfl) (fun _ => rfl) ?_
  show zn l d mX6_init 83 [some (.ref a)] [] (zwr (zwr (zwr (zwr (zwr (zwr (zwr (zwr (zwr (zwr σ a 0 1) a 1 1) a 2 1) a 3 1) a 4 1) a 5 1) a 8 1) a 9 1) a 18 1) a 19 1) (a + 9) 2 127 _
  refine zn_aload_n 84 dX6_init_83 rfl rfl ?_
  refine zn_bipush 86 dX6_init_84 rfl (by decide) ?_
  refine zn_newa (at_ := .int) (n := 7) (bc := 1) (bs := 120) 88 0 100 dX6_init_86 rfl ((hy 10 (by decide)).trans rfl) (by decide) (fun G => rfl) (fun U cA h => h) rfl aw_int (by decide) (by decide) (by (repeat (first | rw [zwr_ne _ _ _ (by omega)] | rw [zF2_ne _ (by omega)] | rw [zF1_ne _ _ (by omega)] | rw [zF4_ne _ (by omega)] | rw [zF3_ne _ (by omega)] | rw [zF0_ne _ (by omega)])); exact hz _ (by omega)) ?_
  show zn l d mX6_init 88 [some (.ref a)] [(.ref (a + 10)), (.ref a)] (zwr (zwr (zwr (zwr (zwr (zwr (zwr (zwr (zwr (zwr σ a 0 1) a 1 1) a 2 1) a 3 1) a 4 1) a 5 1) a 8 1) a 9 1) a 18 1) a 19 1) (a + 10) 1 120 _
  refine zn_putr 91 10 dX6_init_88 rfl pF_RX6_42 rfl (by decide) (by decide) rfl ((hy 0 (by decide)).trans rfl) (by omega) (fun _ => rfl) (fun _ => rfl) ?_
  show zn l d mX6_init 91 [some (.ref a)] [] (zwr (zwr (zwr (zwr (zwr (zwr (zwr (zwr (zwr (zwr (zwr σ a 0 1) a 1 1) a 2 1) a 3 1) a 4 1) a 5 1) a 8 1) a 9 1) a 18 1) a 19 1) a 20 1) (a + 10) 1 120 _
  refine zn_aload_n 92 dX6_init_91 rfl rfl ?_
  refine zn_bipush 94 dX6_init_92 rfl (by decide) ?_
  refine zn_newa (at_ := .int) (n := 120) (bc := 0) (bs := 0) 96 0 100 dX6_init_94 rfl ((hy 11 (by decide)).trans rfl) (by decide) (fun G => rfl) (fun U cA h => h) rfl aw_int (by decide) (by decide) (by (repeat (first | rw [zwr_ne _ _ _ (by omega)] | rw [zF2_ne _ (by omega)] | rw [zF1_ne _ _ (by omega)] | rw [zF4_ne _ (by omega)] | rw [zF3_ne _ (by omega)] | rw [zF0_ne _ (by omega)])); exact hz _ (by omega)) ?_
  show zn l d mX6_init 96 [some (.ref a)] [(.ref (a + 11)), (.ref a)] (zwr (zwr (zwr (zwr (zwr (zwr (zwr (zwr (zwr (zwr (zwr σ a 0 1) a 1 1) a 2 1) a 3 1) a 4 1) a 5 1) a 8 1) a 9 1) a 18 1) a 19 1) a 20 1) (a + 11) 0 0 _
  refine zn_putr 99 11 dX6_init_96 rfl pF_RX6_45 rfl (by decide) (by decide) rfl ((hy 0 (by decide)).trans rfl) (by omega) (fun _ => rfl) (fun _ => rfl) ?_
  show zn l d mX6_init 99 [some (.ref a)] [] (zwr (zwr (zwr (zwr (zwr (zwr (zwr (zwr (zwr (zwr (zwr (zwr σ a 0 1) a 1 1) a 2 1) a 3 1) a 4 1) a 5 1) a 8 1) a 9 1) a 18 1) a 19 1) a 20 1) a 21 1) (a + 11) 0 0 _
  refine zn_aload_n 100 dX6_init_99 rfl rfl ?_
  refine zn_getr 103 (a + 1) (o := 1) (j := 0) (ci := 6) dX6_init_100 rfl ⟨_, rfl, by decide, zw_in 778 (by decide +kernel) rfl⟩ (by decide) (by decide) rfl ((hy 0 (by decide)).trans rfl) (by omega) (by (repeat (first | rw [zF2_ne _ (by omega)] | rw [zF1_ne _ _ (by omega)] | rw [zF0_ne _ (by omega)] | rw [zF3_ne _ (by omega)] | rw [zF4_ne _ (by omega)] | rw [zwr_ne _ _ _ (by omega)] | rw [zwr_ni _ _ _ (by omega)])); simp [zwr, zwa, zup]) ?_
  refine zn_callS (bc1 := 0) (bs1 := 0) (bc := 0) (bs := 0) 106 [(.ref (a + 1))] [] dX6_init_103 rfl kX6_48 qX6_empties (kp_X6_empties (d := d - 1) (n := 399) ((hy 1 (by decide)).trans rfl) (by omega) (by decide)) (by omega) rfl rfl (Nat.le_of_ble_eq_true rfl) (fun σ1 k1 hq => ?_)
  obtain ⟨rfl, rfl⟩ := hq
  show zn l d mX6_init 106 [some (.ref a)] [] (zFe (a + 1) (zwr (zwr (zwr (zwr (zwr (zwr (zwr (zwr (zwr (zwr (zwr (zwr σ a 0 1) a 1 1) a 2 1) a 3 1) a 4 1) a 5 1) a 8 1) a 9 1) a 18 1) a 19 1) a 20 1) a 21 1)) (a + 11) 0 0 _
  exact zn_vret dX6_init_106 rfl ⟨rfl, rfl⟩
