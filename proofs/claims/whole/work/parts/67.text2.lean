/-- whether the bytes from b to e are string i -/
def zwF (tx : zR) (b : Int) (i : Nat) (k : Int) : Int := if tx (b + k) = zsb i k then 1 else 0
def zwq (tx : zR) (b e : Int) (i : Nat) : Int := if e - b = ((zSn.getD i 0 : Nat) : Int) ∧ zal (zwF tx b i) (zSn.getD i 0) = 1 then 1 else 0
theorem zwq_b (tx : zR) (b e : Int) (i : Nat) : zwq tx b e i = 0 ∨ zwq tx b e i = 1 := by unfold zwq; split <;> simp
theorem zal_iff (f : Int → Int) : ∀ n : Nat, zal f n = 1 ↔ ∀ k : Int, 0 ≤ k → k < n → f k = 1
  | 0 => ⟨fun _ k h0 h1 => by omega, fun _ => rfl⟩
  | n + 1 => by
    unfold zal
    constructor
    · intro h k h0 h1
      by_cases q : zal f n = 1 ∧ f n = 1
      · by_cases q2 : k = n
        · rw [q2]; exact q.2
        · exact (zal_iff f n).mp q.1 k h0 (by omega)
      · rw [if_neg q] at h; omega
    · intro h
      rw [if_pos ⟨(zal_iff f n).mpr (fun k h0 h1 => h k h0 (by omega)), h n (by omega) (by omega)⟩]
/-- the number of the word from b to e -/
def zwW (tx : zR) (b e : Int) : Int := if zwq tx b e 0 = 1 then 0 else if zwq tx b e 1 = 1 then 1 else if zwq tx b e 2 = 1 then 2 else if zwq tx b e 3 = 1 then 3 else if zwq tx b e 4 = 1 then 4 else -1
theorem zwW_b (tx : zR) (b e : Int) : -1 ≤ zwW tx b e ∧ zwW tx b e ≤ 4 := by unfold zwW; repeat' split <;> omega
theorem lp_X4_isWord {l : Launch} {d : Nat} {σ : zMem} (hd : 4 ≤ d) {tx : zR} {n : Int} (hx : ztx tx n) (h7 : zt7 σ tx n) {b e : Int} (h2 : σ 106 2 = b) (h3 : σ 106 3 = e) (hbe : 0 ≤ b ∧ b ≤ e ∧ e ≤ n) {i : Nat} (hi : i < 5) (hl : e - b = ((zSn.getD i 0 : Nat) : Int)) : ∀ (m : Nat) (k : Int), k + m = ((zSn.getD i 0 : Nat) : Int) → 0 ≤ k → (∀ j, 0 ≤ j → j < k → zwF tx b i j = 1) → zw l d mX4_isWord 20 [some (.ref 106), some (.ref (10000 + i)), some (.int (zI k))] [] σ (zRi (zwq tx b e i) σ) := by
  have hn := hx.1
  have hs := zsn_ok i hi
  intro m
  induction m with
  | zero =>
    intro k hk h0 hj
    refine zw_iload_n 21 dX4_isWord_20 rfl rfl ?_
    refine zw_aload_n 22 dX4_isWord_21 rfl rfl ?_
    refine zw_callT 25 _ _ dX4_isWord_22 rfl kX4_123 qJ0_length_8abf5 hi rfl (sp_J0_length (d := d - 1) (by omega) hi) (by omega) rfl rfl (Nat.le_of_ble_eq_true rfl) (fun r σ' hq => ?_)
    obtain ⟨rfl, rfl⟩ := hq
    refine zw_icmp_ge 55 28 dX4_isWord_25 (by decide) rfl (by omega) (by omega) (fun h25 => ?_) (fun h25 => ?_)
    · refine zw_iconst 56 dX4_isWord_55 rfl ?_
      refine zw_zret dX4_isWord_56 rfl (by omega) ?_
      exact zRi_of (by unfold zwq; rw [if_pos ⟨hl, (zal_iff _ _).mpr (fun j j0 j1 => hj j j0 (by omega))⟩])
    · exfalso; omega
  | succ m ih =>
    intro k hk h0 hj
    have hb := zsb_ok i hi k.toNat (by omega)
    have hb2 : 0 ≤ zsb i k ∧ zsb i k ≤ 127 := hb.2.2.2.2
    have hb3 := hx.2 (b + k) (by omega) (by omega)
    refine zw_iload_n 21 dX4_isWord_20 rfl rfl ?_
    refine zw_aload_n 22 dX4_isWord_21 rfl rfl ?_
    refine zw_callT 25 _ _ dX4_isWord_22 rfl kX4_123 qJ0_length_8abf5 hi rfl (sp_J0_length (d := d - 1) (by omega) hi) (by omega) rfl rfl (Nat.le_of_ble_eq_true rfl) (fun r σ' hq => ?_)
    obtain ⟨rfl, rfl⟩ := hq
    refine zw_icmp_ge 55 28 dX4_isWord_25 (by decide) rfl (by omega) (by omega) (fun h25 => ?_) (fun h25 => ?_)
    · exfalso; omega
    · refine zw_aload_n 29 dX4_isWord_28 rfl rfl ?_
      refine zw_getr 32 (107) (o := 1) dX4_isWord_29 rfl fX4_11 (by decide) rfl rfl ly106 ?_
      refine zw_aload_n 33 dX4_isWord_32 rfl rfl ?_
      refine zw_gti 36 2 dX4_isWord_33 rfl fX4_90 (by decide) rfl rfl ly106 ?_
      rw [h2]
      refine zw_iload_n 37 dX4_isWord_36 rfl rfl ?_
      refine zw_iadd 38 dX4_isWord_37 rfl ?_
      refine zw_bald 39 dX4_isWord_38 rfl ly107 (by omega) ?_
      rw [h7 _ (by omega) (by omega)]
      refine zw_aload_n 40 dX4_isWord_39 rfl rfl ?_
      refine zw_iload_n 41 dX4_isWord_40 rfl rfl ?_
      refine zw_callT 44 _ _ dX4_isWord_41 rfl kX4_127 qJ0_charAt_5068e hi rfl (sp_J0_charAt (d := d - 1) (i := i) (k := k) (by omega) hi (by omega)) (by omega) rfl rfl (Nat.le_of_ble_eq_true rfl) (fun r σ' hq => ?_)
      obtain ⟨rfl, rfl⟩ := hq
      refine zw_icmp_eq 49 47 dX4_isWord_44 (by decide) rfl (by omega) (by omega) (fun h44 => ?_) (fun h44 => ?_)
      · refine zw_iinc 52 dX4_isWord_49 rfl (by decide) rfl ?_
        refine zw_goto 20 dX4_isWord_52 (by decide) ?_
        refine zw_loc [true, true, true] rfl ?_
        refine ih (k + 1) (by omega) (by omega) (fun j j0 j1 => ?_)
        by_cases q : j = k
        · subst q; unfold zwF; rw [if_pos (by omega)]
        · exact hj j j0 (by omega)
      · refine zw_iconst 48 dX4_isWord_47 rfl ?_
        refine zw_zret dX4_isWord_48 rfl (by omega) ?_
        refine zRi_of ?_
        unfold zwq
        rw [if_neg (fun q => ?_)]
        have q2 := (zal_iff _ _).mp q.2 k h0 (by omega)
        unfold zwF at q2
        rw [if_neg (by omega)] at q2
        omega
theorem sp_X4_isWord {l : Launch} {d : Nat} {σ : zMem} (hd : 4 ≤ d) {tx : zR} {n : Int} (hx : ztx tx n) (h7 : zt7 σ tx n) {b e : Int} (h2 : σ 106 2 = b) (h3 : σ 106 3 = e) (hbe : 0 ≤ b ∧ b ≤ e ∧ e ≤ n) {i : Nat} (hi : i < 5)  : zSp l d mX4_isWord [.ref 106, .ref (10000 + i)] σ (zRi (zwq tx b e i) σ) := by
  refine zSp_of oX4_isWord (Nat.le_of_ble_eq_true rfl) ?_
  show zw l d mX4_isWord 0 [some (.ref 106), some (.ref (10000 + i)), none] [] σ _
  have hn := hx.1
  have hs := zsn_ok i hi
  refine zw_aload_n 1 dX4_isWord_0 rfl rfl ?_
  refine zw_gti 4 3 dX4_isWord_1 rfl fX4_24 (by decide) rfl rfl ly106 ?_
  rw [h3]
  refine zw_aload_n 5 dX4_isWord_4 rfl rfl ?_
  refine zw_gti 8 2 dX4_isWord_5 rfl fX4_90 (by decide) rfl rfl ly106 ?_
  rw [h2]
  refine zw_isub 9 dX4_isWord_8 rfl ?_
  refine zw_aload_n 10 dX4_isWord_9 rfl rfl ?_
  refine zw_callT 13 _ _ dX4_isWord_10 rfl kX4_123 qJ0_length_8abf5 hi rfl (sp_J0_length (d := d - 1) (by omega) hi) (by omega) rfl rfl (Nat.le_of_ble_eq_true rfl) (fun r σ' hq => ?_)
  obtain ⟨rfl, rfl⟩ := hq
  refine zw_icmp_eq 18 16 dX4_isWord_13 (by decide) rfl (by omega) (by omega) (fun h13 => ?_) (fun h13 => ?_)
  · refine zw_iconst 19 dX4_isWord_18 rfl ?_
    refine zw_istore_n 20 dX4_isWord_19 rfl (by decide) ?_
    exact lp_X4_isWord hd hx h7 h2 h3 hbe hi (by omega) (zSn.getD i 0) 0 (by omega) (by omega) (fun j j0 j1 => by omega)
  · refine zw_iconst 17 dX4_isWord_16 rfl ?_
    refine zw_zret dX4_isWord_17 rfl (by omega) ?_
    exact zRi_of (by unfold zwq; rw [if_neg (fun q => by omega)])
theorem sp_X4_wordNumber {l : Launch} {d : Nat} {σ : zMem} (hd : 5 ≤ d) {tx : zR} {n : Int} (hx : ztx tx n) (h7 : zt7 σ tx n) {b e : Int} (h2 : σ 106 2 = b) (h3 : σ 106 3 = e) (hbe : 0 ≤ b ∧ b ≤ e ∧ e ≤ n)  : zSp l d mX4_wordNumber [.ref 106] σ (zRi (zwW tx b e) σ) := by
  refine zSp_of oX4_wordNumber (Nat.le_of_ble_eq_true rfl) ?_
  show zw l d mX4_wordNumber 0 [some (.ref 106)] [] σ _
  have q0 := zwq_b tx b e 0
  have q1 := zwq_b tx b e 1
  have q2 := zwq_b tx b e 2
  have q3 := zwq_b tx b e 3
  have q4 := zwq_b tx b e 4
  unfold zwW
  refine zw_aload_n 1 dX4_wordNumber_0 rfl rfl ?_
  refine zw_ldcS 3 0 dX4_wordNumber_1 rfl rfl (by decide) rfl ?_
  refine zw_callV 6 _ _ dX4_wordNumber_3 rfl kX4_111 qX4_isWord ly106 ⟨_, rfl, rfl⟩ (by decide) (sp_X4_isWord (d := d - 1) (by omega) hx h7 h2 h3 hbe (i := 0) (by decide)) (by omega) rfl rfl (Nat.le_of_ble_eq_true rfl) (fun r σ' hq => ?_)
  obtain ⟨rfl, rfl⟩ := hq
  refine zw_if_eq 13 9 dX4_wordNumber_6 (by decide) rfl (by omega) (fun h6 => ?_) (fun h6 => ?_)
  · refine zw_aload_n 14 dX4_wordNumber_13 rfl rfl ?_
    refine zw_ldcS 16 1 dX4_wordNumber_14 rfl rfl (by decide) rfl ?_
    refine zw_callV 19 _ _ dX4_wordNumber_16 rfl kX4_111 qX4_isWord ly106 ⟨_, rfl, rfl⟩ (by decide) (sp_X4_isWord (d := d - 1) (by omega) hx h7 h2 h3 hbe (i := 1) (by decide)) (by omega) rfl rfl (Nat.le_of_ble_eq_true rfl) (fun r σ' hq => ?_)
    obtain ⟨rfl, rfl⟩ := hq
    refine zw_if_eq 26 22 dX4_wordNumber_19 (by decide) rfl (by omega) (fun h19 => ?_) (fun h19 => ?_)
    · refine zw_aload_n 27 dX4_wordNumber_26 rfl rfl ?_
      refine zw_ldcS 29 2 dX4_wordNumber_27 rfl rfl (by decide) rfl ?_
      refine zw_callV 32 _ _ dX4_wordNumber_29 rfl kX4_111 qX4_isWord ly106 ⟨_, rfl, rfl⟩ (by decide) (sp_X4_isWord (d := d - 1) (by omega) hx h7 h2 h3 hbe (i := 2) (by decide)) (by omega) rfl rfl (Nat.le_of_ble_eq_true rfl) (fun r σ' hq => ?_)
      obtain ⟨rfl, rfl⟩ := hq
      refine zw_if_eq 39 35 dX4_wordNumber_32 (by decide) rfl (by omega) (fun h32 => ?_) (fun h32 => ?_)
      · refine zw_aload_n 40 dX4_wordNumber_39 rfl rfl ?_
        refine zw_ldcS 42 3 dX4_wordNumber_40 rfl rfl (by decide) rfl ?_
        refine zw_callV 45 _ _ dX4_wordNumber_42 rfl kX4_111 qX4_isWord ly106 ⟨_, rfl, rfl⟩ (by decide) (sp_X4_isWord (d := d - 1) (by omega) hx h7 h2 h3 hbe (i := 3) (by decide)) (by omega) rfl rfl (Nat.le_of_ble_eq_true rfl) (fun r σ' hq => ?_)
        obtain ⟨rfl, rfl⟩ := hq
        refine zw_if_eq 52 48 dX4_wordNumber_45 (by decide) rfl (by omega) (fun h45 => ?_) (fun h45 => ?_)
        · refine zw_aload_n 53 dX4_wordNumber_52 rfl rfl ?_
          refine zw_ldcS 55 4 dX4_wordNumber_53 rfl rfl (by decide) rfl ?_
          refine zw_callV 58 _ _ dX4_wordNumber_55 rfl kX4_111 qX4_isWord ly106 ⟨_, rfl, rfl⟩ (by decide) (sp_X4_isWord (d := d - 1) (by omega) hx h7 h2 h3 hbe (i := 4) (by decide)) (by omega) rfl rfl (Nat.le_of_ble_eq_true rfl) (fun r σ' hq => ?_)
          obtain ⟨rfl, rfl⟩ := hq
          refine zw_if_eq 65 61 dX4_wordNumber_58 (by decide) rfl (by omega) (fun h58 => ?_) (fun h58 => ?_)
          · refine zw_iconst 66 dX4_wordNumber_65 rfl ?_
            refine zw_iret dX4_wordNumber_66 rfl ?_
            first
              | exact zRi_of (by rw [if_pos (show zwq tx b e 0 = 1 by omega)])
              | exact zRi_of (by rw [if_neg (show ¬ zwq tx b e 0 = 1 by omega), if_pos (show zwq tx b e 1 = 1 by omega)])
              | exact zRi_of (by rw [if_neg (show ¬ zwq tx b e 0 = 1 by omega), if_neg (show ¬ zwq tx b e 1 = 1 by omega), if_pos (show zwq tx b e 2 = 1 by omega)])
              | exact zRi_of (by rw [if_neg (show ¬ zwq tx b e 0 = 1 by omega), if_neg (show ¬ zwq tx b e 1 = 1 by omega), if_neg (show ¬ zwq tx b e 2 = 1 by omega), if_pos (show zwq tx b e 3 = 1 by omega)])
              | exact zRi_of (by rw [if_neg (show ¬ zwq tx b e 0 = 1 by omega), if_neg (show ¬ zwq tx b e 1 = 1 by omega), if_neg (show ¬ zwq tx b e 2 = 1 by omega), if_neg (show ¬ zwq tx b e 3 = 1 by omega), if_pos (show zwq tx b e 4 = 1 by omega)])
              | exact zRi_of (by rw [if_neg (show ¬ zwq tx b e 0 = 1 by omega), if_neg (show ¬ zwq tx b e 1 = 1 by omega), if_neg (show ¬ zwq tx b e 2 = 1 by omega), if_neg (show ¬ zwq tx b e 3 = 1 by omega), if_neg (show ¬ zwq tx b e 4 = 1 by omega)])
          · refine zw_iconst 62 dX4_wordNumber_61 rfl ?_
            refine zw_goto 66 dX4_wordNumber_62 (by decide) ?_
            refine zw_iret dX4_wordNumber_66 rfl ?_
            first
              | exact zRi_of (by rw [if_pos (show zwq tx b e 0 = 1 by omega)])
              | exact zRi_of (by rw [if_neg (show ¬ zwq tx b e 0 = 1 by omega), if_pos (show zwq tx b e 1 = 1 by omega)])
              | exact zRi_of (by rw [if_neg (show ¬ zwq tx b e 0 = 1 by omega), if_neg (show ¬ zwq tx b e 1 = 1 by omega), if_pos (show zwq tx b e 2 = 1 by omega)])
              | exact zRi_of (by rw [if_neg (show ¬ zwq tx b e 0 = 1 by omega), if_neg (show ¬ zwq tx b e 1 = 1 by omega), if_neg (show ¬ zwq tx b e 2 = 1 by omega), if_pos (show zwq tx b e 3 = 1 by omega)])
              | exact zRi_of (by rw [if_neg (show ¬ zwq tx b e 0 = 1 by omega), if_neg (show ¬ zwq tx b e 1 = 1 by omega), if_neg (show ¬ zwq tx b e 2 = 1 by omega), if_neg (show ¬ zwq tx b e 3 = 1 by omega), if_pos (show zwq tx b e 4 = 1 by omega)])
              | exact zRi_of (by rw [if_neg (show ¬ zwq tx b e 0 = 1 by omega), if_neg (show ¬ zwq tx b e 1 = 1 by omega), if_neg (show ¬ zwq tx b e 2 = 1 by omega), if_neg (show ¬ zwq tx b e 3 = 1 by omega), if_neg (show ¬ zwq tx b e 4 = 1 by omega)])
        · refine zw_iconst 49 dX4_wordNumber_48 rfl ?_
          refine zw_goto 66 dX4_wordNumber_49 (by decide) ?_
          refine zw_iret dX4_wordNumber_66 rfl ?_
          first
            | exact zRi_of (by rw [if_pos (show zwq tx b e 0 = 1 by omega)])
            | exact zRi_of (by rw [if_neg (show ¬ zwq tx b e 0 = 1 by omega), if_pos (show zwq tx b e 1 = 1 by omega)])
            | exact zRi_of (by rw [if_neg (show ¬ zwq tx b e 0 = 1 by omega), if_neg (show ¬ zwq tx b e 1 = 1 by omega), if_pos (show zwq tx b e 2 = 1 by omega)])
            | exact zRi_of (by rw [if_neg (show ¬ zwq tx b e 0 = 1 by omega), if_neg (show ¬ zwq tx b e 1 = 1 by omega), if_neg (show ¬ zwq tx b e 2 = 1 by omega), if_pos (show zwq tx b e 3 = 1 by omega)])
            | exact zRi_of (by rw [if_neg (show ¬ zwq tx b e 0 = 1 by omega), if_neg (show ¬ zwq tx b e 1 = 1 by omega), if_neg (show ¬ zwq tx b e 2 = 1 by omega), if_neg (show ¬ zwq tx b e 3 = 1 by omega), if_pos (show zwq tx b e 4 = 1 by omega)])
            | exact zRi_of (by rw [if_neg (show ¬ zwq tx b e 0 = 1 by omega), if_neg (show ¬ zwq tx b e 1 = 1 by omega), if_neg (show ¬ zwq tx b e 2 = 1 by omega), if_neg (show ¬ zwq tx b e 3 = 1 by omega), if_neg (show ¬ zwq tx b e 4 = 1 by omega)])
      · refine zw_iconst 36 dX4_wordNumber_35 rfl ?_
        refine zw_goto 66 dX4_wordNumber_36 (by decide) ?_
        refine zw_iret dX4_wordNumber_66 rfl ?_
        first
          | exact zRi_of (by rw [if_pos (show zwq tx b e 0 = 1 by omega)])
          | exact zRi_of (by rw [if_neg (show ¬ zwq tx b e 0 = 1 by omega), if_pos (show zwq tx b e 1 = 1 by omega)])
          | exact zRi_of (by rw [if_neg (show ¬ zwq tx b e 0 = 1 by omega), if_neg (show ¬ zwq tx b e 1 = 1 by omega), if_pos (show zwq tx b e 2 = 1 by omega)])
          | exact zRi_of (by rw [if_neg (show ¬ zwq tx b e 0 = 1 by omega), if_neg (show ¬ zwq tx b e 1 = 1 by omega), if_neg (show ¬ zwq tx b e 2 = 1 by omega), if_pos (show zwq tx b e 3 = 1 by omega)])
          | exact zRi_of (by rw [if_neg (show ¬ zwq tx b e 0 = 1 by omega), if_neg (show ¬ zwq tx b e 1 = 1 by omega), if_neg (show ¬ zwq tx b e 2 = 1 by omega), if_neg (show ¬ zwq tx b e 3 = 1 by omega), if_pos (show zwq tx b e 4 = 1 by omega)])
          | exact zRi_of (by rw [if_neg (show ¬ zwq tx b e 0 = 1 by omega), if_neg (show ¬ zwq tx b e 1 = 1 by omega), if_neg (show ¬ zwq tx b e 2 = 1 by omega), if_neg (show ¬ zwq tx b e 3 = 1 by omega), if_neg (show ¬ zwq tx b e 4 = 1 by omega)])
    · refine zw_iconst 23 dX4_wordNumber_22 rfl ?_
      refine zw_goto 66 dX4_wordNumber_23 (by decide) ?_
      refine zw_iret dX4_wordNumber_66 rfl ?_
      first
        | exact zRi_of (by rw [if_pos (show zwq tx b e 0 = 1 by omega)])
        | exact zRi_of (by rw [if_neg (show ¬ zwq tx b e 0 = 1 by omega), if_pos (show zwq tx b e 1 = 1 by omega)])
        | exact zRi_of (by rw [if_neg (show ¬ zwq tx b e 0 = 1 by omega), if_neg (show ¬ zwq tx b e 1 = 1 by omega), if_pos (show zwq tx b e 2 = 1 by omega)])
        | exact zRi_of (by rw [if_neg (show ¬ zwq tx b e 0 = 1 by omega), if_neg (show ¬ zwq tx b e 1 = 1 by omega), if_neg (show ¬ zwq tx b e 2 = 1 by omega), if_pos (show zwq tx b e 3 = 1 by omega)])
        | exact zRi_of (by rw [if_neg (show ¬ zwq tx b e 0 = 1 by omega), if_neg (show ¬ zwq tx b e 1 = 1 by omega), if_neg (show ¬ zwq tx b e 2 = 1 by omega), if_neg (show ¬ zwq tx b e 3 = 1 by omega), if_pos (show zwq tx b e 4 = 1 by omega)])
        | exact zRi_of (by rw [if_neg (show ¬ zwq tx b e 0 = 1 by omega), if_neg (show ¬ zwq tx b e 1 = 1 by omega), if_neg (show ¬ zwq tx b e 2 = 1 by omega), if_neg (show ¬ zwq tx b e 3 = 1 by omega), if_neg (show ¬ zwq tx b e 4 = 1 by omega)])
  · refine zw_iconst 10 dX4_wordNumber_9 rfl ?_
    refine zw_goto 66 dX4_wordNumber_10 (by decide) ?_
    refine zw_iret dX4_wordNumber_66 rfl ?_
    first
      | exact zRi_of (by rw [if_pos (show zwq tx b e 0 = 1 by omega)])
      | exact zRi_of (by rw [if_neg (show ¬ zwq tx b e 0 = 1 by omega), if_pos (show zwq tx b e 1 = 1 by omega)])
      | exact zRi_of (by rw [if_neg (show ¬ zwq tx b e 0 = 1 by omega), if_neg (show ¬ zwq tx b e 1 = 1 by omega), if_pos (show zwq tx b e 2 = 1 by omega)])
      | exact zRi_of (by rw [if_neg (show ¬ zwq tx b e 0 = 1 by omega), if_neg (show ¬ zwq tx b e 1 = 1 by omega), if_neg (show ¬ zwq tx b e 2 = 1 by omega), if_pos (show zwq tx b e 3 = 1 by omega)])
      | exact zRi_of (by rw [if_neg (show ¬ zwq tx b e 0 = 1 by omega), if_neg (show ¬ zwq tx b e 1 = 1 by omega), if_neg (show ¬ zwq tx b e 2 = 1 by omega), if_neg (show ¬ zwq tx b e 3 = 1 by omega), if_pos (show zwq tx b e 4 = 1 by omega)])
      | exact zRi_of (by rw [if_neg (show ¬ zwq tx b e 0 = 1 by omega), if_neg (show ¬ zwq tx b e 1 = 1 by omega), if_neg (show ¬ zwq tx b e 2 = 1 by omega), if_neg (show ¬ zwq tx b e 3 = 1 by omega), if_neg (show ¬ zwq tx b e 4 = 1 by omega)])
theorem zwe_l2 (tx : zR) (n : Int) : ∀ (m : Nat) (i j : Int), i ≤ j → j < zwe tx n m i → zil tx n j = 1
  | 0, i, j, h0, h1 => by
    have : zwe tx n 0 i = i := rfl
    omega
  | m + 1, i, j, h0, h1 => by
    unfold zwe at h1
    by_cases q : zil tx n i = 1
    · rw [if_pos q] at h1
      by_cases q2 : j = i
      · rw [q2]; exact q
      · exact zwe_l2 tx n m (i + 1) j (by omega) h1
    · rw [if_neg q] at h1; omega
theorem zTk_w {tx : zR} {n i : Int} (h : zTk tx n i = 1) : zTe tx n i = zTw tx n i := by
  unfold zTk at h
  unfold zTe
  split at h
  · omega
  · rename_i q1
    rw [if_neg q1]
    split at h
    · rename_i q2
      rw [if_pos q2]
    · split at h
      · split at h <;> omega
      · split at h <;> omega
theorem zTl_l {tx : zR} {n i : Int} (j : Int) (h0 : 0 ≤ j) (h1 : j < zTw tx n i - zTb tx n i) : 97 ≤ tx (zTb tx n i + j) ∧ tx (zTb tx n i + j) ≤ 122 := by
  have h := zwe_l2 tx n _ _ (zTb tx n i + j) (by omega) (show zTb tx n i + j < zTw tx n i by omega)
  unfold zil at h
  by_cases q : zTb tx n i + j < n ∧ 97 ≤ tx (zTb tx n i + j) ∧ tx (zTb tx n i + j) ≤ 122
  · exact q.2
  · rw [if_neg q] at h; omega
theorem zTq_2 {tx : zR} {n i w m : Int} (h : zTq tx n i w m = 1) : zTl tx n i = w ∧ zTm tx n i = m := by
  unfold zTq at h
  by_cases q : zTk tx n i = 1 ∧ zTl tx n i = w ∧ zTm tx n i = m
  · exact q.2
  · rw [if_neg q] at h; omega
theorem zwq_2 {tx : zR} {b e : Int} {i : Nat} (h : zwq tx b e i = 1) : e - b = ((zSn.getD i 0 : Nat) : Int) ∧ ∀ k : Int, 0 ≤ k → k < ((zSn.getD i 0 : Nat) : Int) → tx (b + k) = zsb i k := by
  unfold zwq at h
  by_cases q : e - b = ((zSn.getD i 0 : Nat) : Int) ∧ zal (zwF tx b i) (zSn.getD i 0) = 1
  · refine ⟨q.1, fun k k0 k1 => ?_⟩
    have := (zal_iff _ _).mp q.2 k k0 k1
    unfold zwF at this
    by_cases q2 : tx (b + k) = zsb i k
    · exact q2
    · rw [if_neg q2] at this; omega
  · rw [if_neg q] at h; omega
theorem zwd_0 {tx : zR} {n i : Int} (hk : zTk tx n i = 1) : (zTq tx n i 109101701 7 = 1 ∧ zTs tx n i = 114) ↔ zwq tx (zTb tx n i) (zTe tx n i) 0 = 1 := by
  have he := zTk_w hk
  have hL := fun j => zTl_l (tx := tx) (n := n) (i := i) j
  have hz : zTw tx n i - zTb tx n i = 7 → zTl tx n i = (32 * (32 * (32 * (32 * (32 * (32 * 0 + tx (zTb tx n i + 0) - 96) + tx (zTb tx n i + 1) - 96) + tx (zTb tx n i + 2) - 96) + tx (zTb tx n i + 3) - 96) + tx (zTb tx n i + 4) - 96) + tx (zTb tx n i + 5) - 96) := fun hm => by
    unfold zTl; rw [show (min (zTw tx n i - zTb tx n i).toNat 6) = 6 by omega]; rfl
  rw [he]
  constructor
  · intro h
    obtain ⟨h, hs⟩ := h
    have hs2 : tx (zTb tx n i + 6) = 114 := hs
    obtain ⟨h1, h2⟩ := zTq_2 h
    have hm : zTw tx n i - zTb tx n i = 7 := h2
    rw [hz hm] at h1
    have l0 := hL 0 (by omega) (by omega)
    have l1 := hL 1 (by omega) (by omega)
    have l2 := hL 2 (by omega) (by omega)
    have l3 := hL 3 (by omega) (by omega)
    have l4 := hL 4 (by omega) (by omega)
    have l5 := hL 5 (by omega) (by omega)
    have l6 := hL 6 (by omega) (by omega)
    have hall : ∀ k : Int, 0 ≤ k → k < 7 → zwF tx (zTb tx n i) 0 k = 1 := by
      intro k k0 k1
      rcases (by omega : k = 0 ∨ k = 1 ∨ k = 2 ∨ k = 3 ∨ k = 4 ∨ k = 5 ∨ k = 6) with rfl | rfl | rfl | rfl | rfl | rfl | rfl
      · unfold zwF; rw [show zsb 0 0 = 99 from rfl, if_pos (by omega)]
      · unfold zwF; rw [show zsb 0 1 = 104 from rfl, if_pos (by omega)]
      · unfold zwF; rw [show zsb 0 2 = 97 from rfl, if_pos (by omega)]
      · unfold zwF; rw [show zsb 0 3 = 112 from rfl, if_pos (by omega)]
      · unfold zwF; rw [show zsb 0 4 = 116 from rfl, if_pos (by omega)]
      · unfold zwF; rw [show zsb 0 5 = 101 from rfl, if_pos (by omega)]
      · unfold zwF; rw [show zsb 0 6 = 114 from rfl, if_pos (by omega)]
    unfold zwq
    rw [if_pos ⟨hm, (zal_iff _ _).mpr hall⟩]
  · intro h
    obtain ⟨hm, hd⟩ := zwq_2 h
    have hm2 : zTw tx n i - zTb tx n i = 7 := hm
    have d0 : tx (zTb tx n i + 0) = 99 := hd 0 (by decide) (by decide)
    have d1 : tx (zTb tx n i + 1) = 104 := hd 1 (by decide) (by decide)
    have d2 : tx (zTb tx n i + 2) = 97 := hd 2 (by decide) (by decide)
    have d3 : tx (zTb tx n i + 3) = 112 := hd 3 (by decide) (by decide)
    have d4 : tx (zTb tx n i + 4) = 116 := hd 4 (by decide) (by decide)
    have d5 : tx (zTb tx n i + 5) = 101 := hd 5 (by decide) (by decide)
    have d6 : tx (zTb tx n i + 6) = 114 := hd 6 (by decide) (by decide)
    have e1 : zTq tx n i 109101701 7 = 1 := by
      unfold zTq
      rw [if_pos ⟨hk, by rw [hz hm2]; omega, hm2⟩]
    exact ⟨e1, d6⟩
theorem zwd_1 {tx : zR} {n i : Int} (hk : zTk tx n i = 1) : zTq tx n i 627764 4 = 1 ↔ zwq tx (zTb tx n i) (zTe tx n i) 1 = 1 := by
  have he := zTk_w hk
  have hL := fun j => zTl_l (tx := tx) (n := n) (i := i) j
  have hz : zTw tx n i - zTb tx n i = 4 → zTl tx n i = (32 * (32 * (32 * (32 * 0 + tx (zTb tx n i + 0) - 96) + tx (zTb tx n i + 1) - 96) + tx (zTb tx n i + 2) - 96) + tx (zTb tx n i + 3) - 96) := fun hm => by
    unfold zTl; rw [show (min (zTw tx n i - zTb tx n i).toNat 6) = 4 by omega]; rfl
  rw [he]
  constructor
  · intro h
    obtain ⟨h1, h2⟩ := zTq_2 h
    have hm : zTw tx n i - zTb tx n i = 4 := h2
    rw [hz hm] at h1
    have l0 := hL 0 (by omega) (by omega)
    have l1 := hL 1 (by omega) (by omega)
    have l2 := hL 2 (by omega) (by omega)
    have l3 := hL 3 (by omega) (by omega)
    have hall : ∀ k : Int, 0 ≤ k → k < 4 → zwF tx (zTb tx n i) 1 k = 1 := by
      intro k k0 k1
      rcases (by omega : k = 0 ∨ k = 1 ∨ k = 2 ∨ k = 3) with rfl | rfl | rfl | rfl
      · unfold zwF; rw [show zsb 1 0 = 115 from rfl, if_pos (by omega)]
      · unfold zwF; rw [show zsb 1 1 = 101 from rfl, if_pos (by omega)]
      · unfold zwF; rw [show zsb 1 2 = 97 from rfl, if_pos (by omega)]
      · unfold zwF; rw [show zsb 1 3 = 116 from rfl, if_pos (by omega)]
    unfold zwq
    rw [if_pos ⟨hm, (zal_iff _ _).mpr hall⟩]
  · intro h
    obtain ⟨hm, hd⟩ := zwq_2 h
    have hm2 : zTw tx n i - zTb tx n i = 4 := hm
    have d0 : tx (zTb tx n i + 0) = 115 := hd 0 (by decide) (by decide)
    have d1 : tx (zTb tx n i + 1) = 101 := hd 1 (by decide) (by decide)
    have d2 : tx (zTb tx n i + 2) = 97 := hd 2 (by decide) (by decide)
    have d3 : tx (zTb tx n i + 3) = 116 := hd 3 (by decide) (by decide)
    have e1 : zTq tx n i 627764 4 = 1 := by
      unfold zTq
      rw [if_pos ⟨hk, by rw [hz hm2]; omega, hm2⟩]
    exact e1
theorem zwd_2 {tx : zR} {n i : Int} (hk : zTk tx n i = 1) : zTq tx n i 3193326 5 = 1 ↔ zwq tx (zTb tx n i) (zTe tx n i) 2 = 1 := by
  have he := zTk_w hk
  have hL := fun j => zTl_l (tx := tx) (n := n) (i := i) j
  have hz : zTw tx n i - zTb tx n i = 5 → zTl tx n i = (32 * (32 * (32 * (32 * (32 * 0 + tx (zTb tx n i + 0) - 96) + tx (zTb tx n i + 1) - 96) + tx (zTb tx n i + 2) - 96) + tx (zTb tx n i + 3) - 96) + tx (zTb tx n i + 4) - 96) := fun hm => by
    unfold zTl; rw [show (min (zTw tx n i - zTb tx n i).toNat 6) = 5 by omega]; rfl
  rw [he]
  constructor
  · intro h
    obtain ⟨h1, h2⟩ := zTq_2 h
    have hm : zTw tx n i - zTb tx n i = 5 := h2
    rw [hz hm] at h1
    have l0 := hL 0 (by omega) (by omega)
    have l1 := hL 1 (by omega) (by omega)
    have l2 := hL 2 (by omega) (by omega)
    have l3 := hL 3 (by omega) (by omega)
    have l4 := hL 4 (by omega) (by omega)
    have hall : ∀ k : Int, 0 ≤ k → k < 5 → zwF tx (zTb tx n i) 2 k = 1 := by
      intro k k0 k1
      rcases (by omega : k = 0 ∨ k = 1 ∨ k = 2 ∨ k = 3 ∨ k = 4) with rfl | rfl | rfl | rfl | rfl
      · unfold zwF; rw [show zsb 2 0 = 99 from rfl, if_pos (by omega)]
      · unfold zwF; rw [show zsb 2 1 = 97 from rfl, if_pos (by omega)]
      · unfold zwF; rw [show zsb 2 2 = 110 from rfl, if_pos (by omega)]
      · unfold zwF; rw [show zsb 2 3 = 111 from rfl, if_pos (by omega)]
      · unfold zwF; rw [show zsb 2 4 = 110 from rfl, if_pos (by omega)]
    unfold zwq
    rw [if_pos ⟨hm, (zal_iff _ _).mpr hall⟩]
  · intro h
    obtain ⟨hm, hd⟩ := zwq_2 h
    have hm2 : zTw tx n i - zTb tx n i = 5 := hm
    have d0 : tx (zTb tx n i + 0) = 99 := hd 0 (by decide) (by decide)
    have d1 : tx (zTb tx n i + 1) = 97 := hd 1 (by decide) (by decide)
    have d2 : tx (zTb tx n i + 2) = 110 := hd 2 (by decide) (by decide)
    have d3 : tx (zTb tx n i + 3) = 111 := hd 3 (by decide) (by decide)
    have d4 : tx (zTb tx n i + 4) = 110 := hd 4 (by decide) (by decide)
    have e1 : zTq tx n i 3193326 5 = 1 := by
      unfold zTq
      rw [if_pos ⟨hk, by rw [hz hm2]; omega, hm2⟩]
    exact e1
theorem zwd_3 {tx : zR} {n i : Int} (hk : zTk tx n i = 1) : zTq tx n i 632467 4 = 1 ↔ zwq tx (zTb tx n i) (zTe tx n i) 3 = 1 := by
  have he := zTk_w hk
  have hL := fun j => zTl_l (tx := tx) (n := n) (i := i) j
  have hz : zTw tx n i - zTb tx n i = 4 → zTl tx n i = (32 * (32 * (32 * (32 * 0 + tx (zTb tx n i + 0) - 96) + tx (zTb tx n i + 1) - 96) + tx (zTb tx n i + 2) - 96) + tx (zTb tx n i + 3) - 96) := fun hm => by
    unfold zTl; rw [show (min (zTw tx n i - zTb tx n i).toNat 6) = 4 by omega]; rfl
  rw [he]
  constructor
  · intro h
    obtain ⟨h1, h2⟩ := zTq_2 h
    have hm : zTw tx n i - zTb tx n i = 4 := h2
    rw [hz hm] at h1
    have l0 := hL 0 (by omega) (by omega)
    have l1 := hL 1 (by omega) (by omega)
    have l2 := hL 2 (by omega) (by omega)
    have l3 := hL 3 (by omega) (by omega)
    have hall : ∀ k : Int, 0 ≤ k → k < 4 → zwF tx (zTb tx n i) 3 k = 1 := by
      intro k k0 k1
      rcases (by omega : k = 0 ∨ k = 1 ∨ k = 2 ∨ k = 3) with rfl | rfl | rfl | rfl
      · unfold zwF; rw [show zsb 3 0 = 115 from rfl, if_pos (by omega)]
      · unfold zwF; rw [show zsb 3 1 = 105 from rfl, if_pos (by omega)]
      · unfold zwF; rw [show zsb 3 2 = 116 from rfl, if_pos (by omega)]
      · unfold zwF; rw [show zsb 3 3 = 115 from rfl, if_pos (by omega)]
    unfold zwq
    rw [if_pos ⟨hm, (zal_iff _ _).mpr hall⟩]
  · intro h
    obtain ⟨hm, hd⟩ := zwq_2 h
    have hm2 : zTw tx n i - zTb tx n i = 4 := hm
    have d0 : tx (zTb tx n i + 0) = 115 := hd 0 (by decide) (by decide)
    have d1 : tx (zTb tx n i + 1) = 105 := hd 1 (by decide) (by decide)
    have d2 : tx (zTb tx n i + 2) = 116 := hd 2 (by decide) (by decide)
    have d3 : tx (zTb tx n i + 3) = 115 := hd 3 (by decide) (by decide)
    have e1 : zTq tx n i 632467 4 = 1 := by
      unfold zTq
      rw [if_pos ⟨hk, by rw [hz hm2]; omega, hm2⟩]
    exact e1
theorem zwd_4 {tx : zR} {n i : Int} (hk : zTk tx n i = 1) : zTq tx n i 26379859 5 = 1 ↔ zwq tx (zTb tx n i) (zTe tx n i) 4 = 1 := by
  have he := zTk_w hk
  have hL := fun j => zTl_l (tx := tx) (n := n) (i := i) j
  have hz : zTw tx n i - zTb tx n i = 5 → zTl tx n i = (32 * (32 * (32 * (32 * (32 * 0 + tx (zTb tx n i + 0) - 96) + tx (zTb tx n i + 1) - 96) + tx (zTb tx n i + 2) - 96) + tx (zTb tx n i + 3) - 96) + tx (zTb tx n i + 4) - 96) := fun hm => by
    unfold zTl; rw [show (min (zTw tx n i - zTb tx n i).toNat 6) = 5 by omega]; rfl
  rw [he]
  constructor
  · intro h
    obtain ⟨h1, h2⟩ := zTq_2 h
    have hm : zTw tx n i - zTb tx n i = 5 := h2
    rw [hz hm] at h1
    have l0 := hL 0 (by omega) (by omega)
    have l1 := hL 1 (by omega) (by omega)
    have l2 := hL 2 (by omega) (by omega)
    have l3 := hL 3 (by omega) (by omega)
    have l4 := hL 4 (by omega) (by omega)
    have hall : ∀ k : Int, 0 ≤ k → k < 5 → zwF tx (zTb tx n i) 4 k = 1 := by
      intro k k0 k1
      rcases (by omega : k = 0 ∨ k = 1 ∨ k = 2 ∨ k = 3 ∨ k = 4) with rfl | rfl | rfl | rfl | rfl
      · unfold zwF; rw [show zsb 4 0 = 121 from rfl, if_pos (by omega)]
      · unfold zwF; rw [show zsb 4 1 = 101 from rfl, if_pos (by omega)]
      · unfold zwF; rw [show zsb 4 2 = 97 from rfl, if_pos (by omega)]
      · unfold zwF; rw [show zsb 4 3 = 114 from rfl, if_pos (by omega)]
      · unfold zwF; rw [show zsb 4 4 = 115 from rfl, if_pos (by omega)]
    unfold zwq
    rw [if_pos ⟨hm, (zal_iff _ _).mpr hall⟩]
  · intro h
    obtain ⟨hm, hd⟩ := zwq_2 h
    have hm2 : zTw tx n i - zTb tx n i = 5 := hm
    have d0 : tx (zTb tx n i + 0) = 121 := hd 0 (by decide) (by decide)
    have d1 : tx (zTb tx n i + 1) = 101 := hd 1 (by decide) (by decide)
    have d2 : tx (zTb tx n i + 2) = 97 := hd 2 (by decide) (by decide)
    have d3 : tx (zTb tx n i + 3) = 114 := hd 3 (by decide) (by decide)
    have d4 : tx (zTb tx n i + 4) = 115 := hd 4 (by decide) (by decide)
    have e1 : zTq tx n i 26379859 5 = 1 := by
      unfold zTq
      rw [if_pos ⟨hk, by rw [hz hm2]; omega, hm2⟩]
    exact e1
