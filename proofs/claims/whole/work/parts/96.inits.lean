section ZN6
variable {l : Launch} {d : Nat} {M : zMth} {pc : Nat} {L : List (Option Value)} {st : List Value} {σ : zMem} {k bc bs : Nat} {Q : zQn}
theorem zn_putr (pc' o : Nat) {idx ci j a a' N : Nat} {ty : FieldType} (hd : decode M.2.2.1 pc = .ok (.putfield idx, 3)) (hp : pc + 3 = pc') (hf : zfF M.1 idx ci j ty) (hin0 : M.2.1.name = "<init>") (hc : ci < 100) (ht : zft ci j = o + 2) (ha : a + o = a') (hy : zly a = some (ci, N)) (hak : a ≤ k) (hn : ∀ x, narrow ty (.ref x) = .ref x) (hfit : ∀ x, fits ty (.ref x) = true) (kk : zn l d M pc' L st (zwr σ a j 1) k bc bs Q) : zn l d M pc L (.ref a' :: .ref a :: st) σ k bc bs Q :=
  zn_putF pc' 1 hd hp hf hin0 hc hy hak (fun G => by subst ha; simp [zfv2, ht, zup, ztr]) (fun G => hn _) (fun G => hfit _) kk
end ZN6
def zFl (r : Nat) (σ : zMem) : zMem := zwa σ r (zfq (σ r) (-1) 5)
theorem zFl_ne {r b : Nat} (σ : zMem) (h : b ≠ r) : zFl r σ b = σ b := zwa_ne _ _ h
def zFe (r : Nat) (σ : zMem) : zMem := zwa σ r (zem (σ r))
theorem nwl_RX0_27 : Cond.classLink RX0 27 RX2 ∈ ztbl := zw_in 29 (by decide +kernel) rfl
theorem nwl_RX5_7 : Cond.classLink RX5 7 RX0 ∈ ztbl := zw_in 23 (by decide +kernel) rfl
theorem pF_RX2_9 : zfF RX2 9 2 1 (.array .int) := ⟨_, rfl, by decide, zw_in 42 (by decide +kernel) rfl, rfl, rfl, (by decide +kernel)⟩
theorem pF_RX2_15 : zfF RX2 15 2 2 (.array .int) := ⟨_, rfl, by decide, zw_in 47 (by decide +kernel) rfl, rfl, rfl, (by decide +kernel)⟩
theorem pF_RX2_18 : zfF RX2 18 2 3 (.array .int) := ⟨_, rfl, by decide, zw_in 50 (by decide +kernel) rfl, rfl, rfl, (by decide +kernel)⟩
def zF2 (a : Nat) (σ : zMem) : zMem := (zFl (a + 1) (zwr (zwr (zwr σ a 1 1) a 2 1) a 3 1))
theorem zF2_ne {a : Nat} (σ : zMem) {b : Nat} (h : b < a ∨ a + 3 < b) : zF2 a σ b = σ b := by
  unfold zF2
  repeat (first | rw [zwr_ne _ _ _ (by omega)] | rw [zFl_ne _ (by omega)])
theorem kp_X2_init {l : Launch} {d : Nat} {σ : zMem} {a : Nat} (hd : 2 ≤ d) (hy : ∀ i, i < 4 → zly (a + i) = zlySc[i]?) (hz : ∀ r, a < r → σ r = fun _ => 0) : zKp l d mX2_init [.ref a] σ a 3 32 (fun σ' k' => σ' = zF2 a σ ∧ k' = a + 3) := by
  refine zKp_of oX2_init rfl (Nat.le_of_ble_eq_true rfl) ?_
  show zn l d mX2_init 0 [some (.ref a)] [] σ a 3 32 _
  refine zn_aload_n 1 dX2_init_0 rfl rfl ?_
  refine zn_objInit 4 dX2_init_1 rfl oi_RX2 rfl (by omega) ?_
  refine zn_aload_n 5 dX2_init_4 rfl rfl ?_
  refine zn_iconst 6 dX2_init_5 rfl ?_
  refine zn_newa (at_ := .int) (bc := 2) (bs := 27) 8 0 100 dX2_init_6 rfl ((hy 1 (by decide)).trans rfl) (by decide) (fun G => rfl) (fun U cA h => h) rfl aw_int (by decide) (by decide) (by (repeat (first | rw [zwr_ne _ _ _ (by omega)])); exact hz _ (by omega)) ?_
  show zn l d mX2_init 8 [some (.ref a)] [(.ref (a + 1)), (.ref a)] σ (a + 1) 2 27 _
  refine zn_putr 11 1 dX2_init_8 rfl pF_RX2_9 rfl (by decide) (by decide) rfl ((hy 0 (by decide)).trans rfl) (by omega) (fun _ => rfl) (fun _ => rfl) ?_
  show zn l d mX2_init 11 [some (.ref a)] [] (zwr σ a 1 1) (a + 1) 2 27 _
  refine zn_aload_n 12 dX2_init_11 rfl rfl ?_
  refine zn_bipush 14 dX2_init_12 rfl (by decide) ?_
  refine zn_newa (at_ := .int) (bc := 1) (bs := 7) 16 0 100 dX2_init_14 rfl ((hy 2 (by decide)).trans rfl) (by decide) (fun G => rfl) (fun U cA h => h) rfl aw_int (by decide) (by decide) (by (repeat (first | rw [zwr_ne _ _ _ (by omega)])); exact hz _ (by omega)) ?_
  show zn l d mX2_init 16 [some (.ref a)] [(.ref (a + 2)), (.ref a)] (zwr σ a 1 1) (a + 2) 1 7 _
  refine zn_putr 19 2 dX2_init_16 rfl pF_RX2_15 rfl (by decide) (by decide) rfl ((hy 0 (by decide)).trans rfl) (by omega) (fun _ => rfl) (fun _ => rfl) ?_
  show zn l d mX2_init 19 [some (.ref a)] [] (zwr (zwr σ a 1 1) a 2 1) (a + 2) 1 7 _
  refine zn_aload_n 20 dX2_init_19 rfl rfl ?_
  refine zn_bipush 22 dX2_init_20 rfl (by decide) ?_
  refine zn_newa (at_ := .int) (bc := 0) (bs := 0) 24 0 100 dX2_init_22 rfl ((hy 3 (by decide)).trans rfl) (by decide) (fun G => rfl) (fun U cA h => h) rfl aw_int (by decide) (by decide) (by (repeat (first | rw [zwr_ne _ _ _ (by omega)])); exact hz _ (by omega)) ?_
  show zn l d mX2_init 24 [some (.ref a)] [(.ref (a + 3)), (.ref a)] (zwr (zwr σ a 1 1) a 2 1) (a + 3) 0 0 _
  refine zn_putr 27 3 dX2_init_24 rfl pF_RX2_18 rfl (by decide) (by decide) rfl ((hy 0 (by decide)).trans rfl) (by omega) (fun _ => rfl) (fun _ => rfl) ?_
  show zn l d mX2_init 27 [some (.ref a)] [] (zwr (zwr (zwr σ a 1 1) a 2 1) a 3 1) (a + 3) 0 0 _
  refine zn_aload_n 28 dX2_init_27 rfl rfl ?_
  refine zn_getr 31 (a + 1) (o := 1) (j := 1) (ci := 2) dX2_init_28 rfl ⟨_, rfl, by decide, zw_in 42 (by decide +kernel) rfl⟩ (by decide) (by decide) rfl ((hy 0 (by decide)).trans rfl) (by omega) (by (repeat (first | rw [zwr_ne _ _ _ (by omega)] | rw [zwr_ni _ _ _ (by omega)])); simp [zwr, zwa, zup]) ?_
  refine zn_iconst 32 dX2_init_31 rfl ?_
  refine zn_callS (bc := 0) (bs := 0) 35 [(.ref (a + 1)), (.int (zI (-1)))] [] dX2_init_32 rfl kX2_21 qJ7_fill_53178 (kp_J7_fill_53178 (d := d - 1) (n := 5) ((hy 1 (by decide)).trans rfl) (by omega) (by decide)) (by omega) rfl rfl (Nat.le_of_ble_eq_true rfl) (fun σ1 k1 hq => ?_)
  obtain ⟨rfl, rfl⟩ := hq
  show zn l d mX2_init 35 [some (.ref a)] [] (zFl (a + 1) (zwr (zwr (zwr σ a 1 1) a 2 1) a 3 1)) (a + 3) 0 0 _
  exact zn_vret dX2_init_35 rfl ⟨rfl, rfl⟩
theorem pF_RX1_11 : zfF RX1 11 1 2 (.array .int) := ⟨_, rfl, by decide, zw_in 75 (by decide +kernel) rfl, rfl, rfl, (by decide +kernel)⟩
theorem pF_RX1_15 : zfF RX1 15 1 0 .int := ⟨_, rfl, by decide, zw_in 70 (by decide +kernel) rfl, rfl, rfl, (by decide +kernel)⟩
def zF1 (a : Nat) (w : Int) (σ : zMem) : zMem := (zwr (zwr σ a 2 1) a 0 w)
theorem zF1_ne {a : Nat} (w : Int) (σ : zMem) {b : Nat} (h : b < a ∨ a + 1 < b) : zF1 a w σ b = σ b := by
  unfold zF1
  repeat (first | rw [zwr_ne _ _ _ (by omega)] | rw [zFl_ne _ (by omega)])
theorem kp_X1_init {l : Launch} {d : Nat} {σ : zMem} {a : Nat} {w : Int} (hd : 2 ≤ d) (hy : ∀ i, i < 2 → zly (a + i) = zlyRows[i]?) (hz : ∀ r, a < r → σ r = fun _ => 0) : zKp l d mX1_init [.ref a, .int (zI w)] σ a 1 30 (fun σ' k' => σ' = zF1 a w σ ∧ k' = a + 1) := by
  refine zKp_of oX1_init rfl (Nat.le_of_ble_eq_true rfl) ?_
  show zn l d mX1_init 0 [some (.ref a), some (.int (zI w))] [] σ a 1 30 _
  refine zn_aload_n 1 dX1_init_0 rfl rfl ?_
  refine zn_objInit 4 dX1_init_1 rfl oi_RX1 rfl (by omega) ?_
  refine zn_aload_n 5 dX1_init_4 rfl rfl ?_
  refine zn_bipush 7 dX1_init_5 rfl (by decide) ?_
  refine zn_newa (at_ := .int) (bc := 0) (bs := 0) 9 0 100 dX1_init_7 rfl ((hy 1 (by decide)).trans rfl) (by decide) (fun G => rfl) (fun U cA h => h) rfl aw_int (by decide) (by decide) (by (repeat (first | rw [zwr_ne _ _ _ (by omega)] | rw [zF2_ne _ (by omega)])); exact hz _ (by omega)) ?_
  show zn l d mX1_init 9 [some (.ref a), some (.int (zI w))] [(.ref (a + 1)), (.ref a)] σ (a + 1) 0 0 _
  refine zn_putr 12 1 dX1_init_9 rfl pF_RX1_11 rfl (by decide) (by decide) rfl ((hy 0 (by decide)).trans rfl) (by omega) (fun _ => rfl) (fun _ => rfl) ?_
  show zn l d mX1_init 12 [some (.ref a), some (.int (zI w))] [] (zwr σ a 2 1) (a + 1) 0 0 _
  refine zn_aload_n 13 dX1_init_12 rfl rfl ?_
  refine zn_iload_n 14 dX1_init_13 rfl rfl ?_
  refine zn_putF 17 w dX1_init_14 rfl pF_RX1_15 rfl (by decide) ((hy 0 (by decide)).trans rfl) (by omega) (fun G => by simp [zfv2, show zft 1 0 = 0 from by decide, zup, ztr]) (fun G => rfl) (fun G => rfl) ?_
  show zn l d mX1_init 17 [some (.ref a), some (.int (zI w))] [] (zwr (zwr σ a 2 1) a 0 w) (a + 1) 0 0 _
  exact zn_vret dX1_init_17 rfl ⟨rfl, rfl⟩
theorem pF_RX4_11 : zfF RX4 11 4 0 (.array .byte) := ⟨_, rfl, by decide, zw_in 151 (by decide +kernel) rfl, rfl, rfl, (by decide +kernel)⟩
theorem pF_RX4_15 : zfF RX4 15 4 7 (.array .int) := ⟨_, rfl, by decide, zw_in 161 (by decide +kernel) rfl, rfl, rfl, (by decide +kernel)⟩
def zF4 (a : Nat) (σ : zMem) : zMem := (zwr (zwr σ a 0 1) a 7 1)
theorem zF4_ne {a : Nat} (σ : zMem) {b : Nat} (h : b < a ∨ a + 2 < b) : zF4 a σ b = σ b := by
  unfold zF4
  repeat (first | rw [zwr_ne _ _ _ (by omega)] | rw [zFl_ne _ (by omega)])
theorem kp_X4_init {l : Launch} {d : Nat} {σ : zMem} {a : Nat} (hd : 2 ≤ d) (hy : ∀ i, i < 3 → zly (a + i) = ([(4, 8), (102, 150), (100, 3)] : List (Nat × Nat))[i]?) (hz : ∀ r, a < r → σ r = fun _ => 0) : zKp l d mX4_init [.ref a] σ a 2 153 (fun σ' k' => σ' = zF4 a σ ∧ k' = a + 2) := by
  refine zKp_of oX4_init rfl (Nat.le_of_ble_eq_true rfl) ?_
  show zn l d mX4_init 0 [some (.ref a)] [] σ a 2 153 _
  refine zn_aload_n 1 dX4_init_0 rfl rfl ?_
  refine zn_objInit 4 dX4_init_1 rfl oi_RX4 rfl (by omega) ?_
  refine zn_aload_n 5 dX4_init_4 rfl rfl ?_
  refine zn_sipush 8 dX4_init_5 rfl (by decide) ?_
  refine zn_newa (at_ := .byte) (bc := 1) (bs := 3) 10 2 102 dX4_init_8 rfl ((hy 1 (by decide)).trans rfl) (by decide) (fun G => rfl) (fun U cA h => h) rfl aw_byte (by decide) (by decide) (by (repeat (first | rw [zwr_ne _ _ _ (by omega)] | rw [zF2_ne _ (by omega)] | rw [zF1_ne _ _ (by omega)])); exact hz _ (by omega)) ?_
  show zn l d mX4_init 10 [some (.ref a)] [(.ref (a + 1)), (.ref a)] σ (a + 1) 1 3 _
  refine zn_putr 13 1 dX4_init_10 rfl pF_RX4_11 rfl (by decide) (by decide) rfl ((hy 0 (by decide)).trans rfl) (by omega) (fun _ => rfl) (fun _ => rfl) ?_
  show zn l d mX4_init 13 [some (.ref a)] [] (zwr σ a 0 1) (a + 1) 1 3 _
  refine zn_aload_n 14 dX4_init_13 rfl rfl ?_
  refine zn_iconst 15 dX4_init_14 rfl ?_
  refine zn_newa (at_ := .int) (bc := 0) (bs := 0) 17 0 100 dX4_init_15 rfl ((hy 2 (by decide)).trans rfl) (by decide) (fun G => rfl) (fun U cA h => h) rfl aw_int (by decide) (by decide) (by (repeat (first | rw [zwr_ne _ _ _ (by omega)] | rw [zF2_ne _ (by omega)] | rw [zF1_ne _ _ (by omega)])); exact hz _ (by omega)) ?_
  show zn l d mX4_init 17 [some (.ref a)] [(.ref (a + 2)), (.ref a)] (zwr σ a 0 1) (a + 2) 0 0 _
  refine zn_putr 20 2 dX4_init_17 rfl pF_RX4_15 rfl (by decide) (by decide) rfl ((hy 0 (by decide)).trans rfl) (by omega) (fun _ => rfl) (fun _ => rfl) ?_
  show zn l d mX4_init 20 [some (.ref a)] [] (zwr (zwr σ a 0 1) a 7 1) (a + 2) 0 0 _
  exact zn_vret dX4_init_20 rfl ⟨rfl, rfl⟩
theorem pF_RX3_9 : zfF RX3 9 3 3 (.array .int) := ⟨_, rfl, by decide, zw_in 191 (by decide +kernel) rfl, rfl, rfl, (by decide +kernel)⟩
theorem pF_RX3_15 : zfF RX3 15 3 4 (.array .int) := ⟨_, rfl, by decide, zw_in 193 (by decide +kernel) rfl, rfl, rfl, (by decide +kernel)⟩
theorem pF_RX3_18 : zfF RX3 18 3 5 (.array .int) := ⟨_, rfl, by decide, zw_in 194 (by decide +kernel) rfl, rfl, rfl, (by decide +kernel)⟩
theorem pF_RX3_21 : zfF RX3 21 3 6 (.array .int) := ⟨_, rfl, by decide, zw_in 195 (by decide +kernel) rfl, rfl, rfl, (by decide +kernel)⟩
def zF3 (a : Nat) (σ : zMem) : zMem := (zwr (zwr (zwr (zwr σ a 3 1) a 4 1) a 5 1) a 6 1)
theorem zF3_ne {a : Nat} (σ : zMem) {b : Nat} (h : b < a ∨ a + 4 < b) : zF3 a σ b = σ b := by
  unfold zF3
  repeat (first | rw [zwr_ne _ _ _ (by omega)] | rw [zFl_ne _ (by omega)])
theorem kp_X3_init {l : Launch} {d : Nat} {σ : zMem} {a : Nat} (hd : 2 ≤ d) (hy : ∀ i, i < 5 → zly (a + i) = ([(3, 7), (100, 5), (100, 5), (100, 40), (100, 6)] : List (Nat × Nat))[i]?) (hz : ∀ r, a < r → σ r = fun _ => 0) : zKp l d mX3_init [.ref a] σ a 4 56 (fun σ' k' => σ' = zF3 a σ ∧ k' = a + 4) := by
  refine zKp_of oX3_init rfl (Nat.le_of_ble_eq_true rfl) ?_
  show zn l d mX3_init 0 [some (.ref a)] [] σ a 4 56 _
  refine zn_aload_n 1 dX3_init_0 rfl rfl ?_
  refine zn_objInit 4 dX3_init_1 rfl oi_RX3 rfl (by omega) ?_
  refine zn_aload_n 5 dX3_init_4 rfl rfl ?_
  refine zn_iconst 6 dX3_init_5 rfl ?_
  refine zn_newa (at_ := .int) (bc := 3) (bs := 51) 8 0 100 dX3_init_6 rfl ((hy 1 (by decide)).trans rfl) (by decide) (fun G => rfl) (fun U cA h => h) rfl aw_int (by decide) (by decide) (by (repeat (first | rw [zwr_ne _ _ _ (by omega)] | rw [zF2_ne _ (by omega)] | rw [zF1_ne _ _ (by omega)] | rw [zF4_ne _ (by omega)])); exact hz _ (by omega)) ?_
  show zn l d mX3_init 8 [some (.ref a)] [(.ref (a + 1)), (.ref a)] σ (a + 1) 3 51 _
  refine zn_putr 11 1 dX3_init_8 rfl pF_RX3_9 rfl (by decide) (by decide) rfl ((hy 0 (by decide)).trans rfl) (by omega) (fun _ => rfl) (fun _ => rfl) ?_
  show zn l d mX3_init 11 [some (.ref a)] [] (zwr σ a 3 1) (a + 1) 3 51 _
  refine zn_aload_n 12 dX3_init_11 rfl rfl ?_
  refine zn_iconst 13 dX3_init_12 rfl ?_
  refine zn_newa (at_ := .int) (bc := 2) (bs := 46) 15 0 100 dX3_init_13 rfl ((hy 2 (by decide)).trans rfl) (by decide) (fun G => rfl) (fun U cA h => h) rfl aw_int (by decide) (by decide) (by (repeat (first | rw [zwr_ne _ _ _ (by omega)] | rw [zF2_ne _ (by omega)] | rw [zF1_ne _ _ (by omega)] | rw [zF4_ne _ (by omega)])); exact hz _ (by omega)) ?_
  show zn l d mX3_init 15 [some (.ref a)] [(.ref (a + 2)), (.ref a)] (zwr σ a 3 1) (a + 2) 2 46 _
  refine zn_putr 18 2 dX3_init_15 rfl pF_RX3_15 rfl (by decide) (by decide) rfl ((hy 0 (by decide)).trans rfl) (by omega) (fun _ => rfl) (fun _ => rfl) ?_
  show zn l d mX3_init 18 [some (.ref a)] [] (zwr (zwr σ a 3 1) a 4 1) (a + 2) 2 46 _
  refine zn_aload_n 19 dX3_init_18 rfl rfl ?_
  refine zn_bipush 21 dX3_init_19 rfl (by decide) ?_
  refine zn_newa (at_ := .int) (bc := 1) (bs := 6) 23 0 100 dX3_init_21 rfl ((hy 3 (by decide)).trans rfl) (by decide) (fun G => rfl) (fun U cA h => h) rfl aw_int (by decide) (by decide) (by (repeat (first | rw [zwr_ne _ _ _ (by omega)] | rw [zF2_ne _ (by omega)] | rw [zF1_ne _ _ (by omega)] | rw [zF4_ne _ (by omega)])); exact hz _ (by omega)) ?_
  show zn l d mX3_init 23 [some (.ref a)] [(.ref (a + 3)), (.ref a)] (zwr (zwr σ a 3 1) a 4 1) (a + 3) 1 6 _
  refine zn_putr 26 3 dX3_init_23 rfl pF_RX3_18 rfl (by decide) (by decide) rfl ((hy 0 (by decide)).trans rfl) (by omega) (fun _ => rfl) (fun _ => rfl) ?_
  show zn l d mX3_init 26 [some (.ref a)] [] (zwr (zwr (zwr σ a 3 1) a 4 1) a 5 1) (a + 3) 1 6 _
  refine zn_aload_n 27 dX3_init_26 rfl rfl ?_
  refine zn_bipush 29 dX3_init_27 rfl (by decide) ?_
  refine zn_newa (at_ := .int) (bc := 0) (bs := 0) 31 0 100 dX3_init_29 rfl ((hy 4 (by decide)).trans rfl) (by decide) (fun G => rfl) (fun U cA h => h) rfl aw_int (by decide) (by decide) (by (repeat (first | rw [zwr_ne _ _ _ (by omega)] | rw [zF2_ne _ (by omega)] | rw [zF1_ne _ _ (by omega)] | rw [zF4_ne _ (by omega)])); exact hz _ (by omega)) ?_
  show zn l d mX3_init 31 [some (.ref a)] [(.ref (a + 4)), (.ref a)] (zwr (zwr (zwr σ a 3 1) a 4 1) a 5 1) (a + 4) 0 0 _
  refine zn_putr 34 4 dX3_init_31 rfl pF_RX3_21 rfl (by decide) (by decide) rfl ((hy 0 (by decide)).trans rfl) (by omega) (fun _ => rfl) (fun _ => rfl) ?_
  show zn l d mX3_init 34 [some (.ref a)] [] (zwr (zwr (zwr (zwr σ a 3 1) a 4 1) a 5 1) a 6 1) (a + 4) 0 0 _
  exact zn_vret dX3_init_34 rfl ⟨rfl, rfl⟩
