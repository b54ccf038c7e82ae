theorem zwe_l (tx : zR) (n : Int) : ∀ (m : Nat) (i : Int) (j : Nat), i + j < zwe tx n m i → zil tx n (i + j) = 1
  | 0, i, j, h => by simp [zwe] at h; omega
  | m + 1, i, j, h => by
    unfold zwe at h
    by_cases q : zil tx n i = 1
    · rw [if_pos q] at h
      cases j with
      | zero => rw [show i + ((0 : Nat) : Int) = i by omega]; exact q
      | succ j =>
        have := zwe_l tx n m (i + 1) j (by omega)
        rwa [show i + 1 + (j : Int) = i + ((j + 1 : Nat) : Int) by omega] at this
    · rw [if_neg q] at h; omega
theorem zil_1 {tx : zR} {n i : Int} (h : zil tx n i = 1) : i < n ∧ 97 ≤ tx i ∧ tx i ≤ 122 := by
  unfold zil at h
  by_cases q : i < n ∧ 97 ≤ tx i ∧ tx i ≤ 122
  · exact q
  · rw [if_neg q] at h; omega
theorem zTl_b (tx : zR) (n i : Int) : 0 ≤ zTl tx n i ∧ zTl tx n i < 1073741824 := by
  unfold zTl
  have := zlt_5 (tx := tx) (b := zTb tx n i) (k := min (zTw tx n i - zTb tx n i).toNat 6) (fun j hj => (zil_1 (zwe_l tx n (n - zTb tx n i).toNat (zTb tx n i) j (by
    have : zwe tx n (n - zTb tx n i).toNat (zTb tx n i) = zTw tx n i := rfl
    omega))).2) (by omega)
  omega
/-- the token at i is the word of these letters -/
def zTq (tx : zR) (n i w m : Int) : Int := if zTk tx n i = 1 ∧ zTl tx n i = w ∧ zTm tx n i = m then 1 else 0
/-- a number at i, from lo to hi -/
def zNb (tx : zR) (n i lo hi : Int) : Int := if zTk tx n i = 2 ∧ lo ≤ zTv tx n i ∧ zTv tx n i ≤ hi then 1 else 0
theorem zTk_1 {tx : zR} {n i : Int} (h : zTk tx n i = 1) : zTe tx n i = zTb tx n i + zTm tx n i := by
  unfold zTk at h
  unfold zTe zTm
  by_cases q : zTb tx n i = n
  · rw [if_pos q] at h; omega
  · rw [if_neg q] at h ⊢
    by_cases q2 : zil tx n (zTb tx n i) = 1
    · rw [if_pos q2]; omega
    · rw [if_neg q2] at h
      split at h
      · split at h <;> omega
      · split at h <;> omega
theorem zNb_b (tx : zR) (n i lo hi : Int) : zNb tx n i lo hi = 0 ∨ zNb tx n i lo hi = 1 := by unfold zNb; split <;> simp
theorem zNb_1 {tx : zR} {n i lo hi : Int} (h : zNb tx n i lo hi = 1) : zTk tx n i = 2 ∧ lo ≤ zTv tx n i ∧ zTv tx n i ≤ hi := by
  unfold zNb at h
  by_cases q : zTk tx n i = 2 ∧ lo ≤ zTv tx n i ∧ zTv tx n i ≤ hi
  · exact q
  · rw [if_neg q] at h; omega
theorem sp_X6_isWord {l : Launch} {d : Nat} {σ : zMem} {i w mm : Int} {g0 : zR} (hw : -2147483648 ≤ w ∧ w < 2147483648) (hm : 0 ≤ mm ∧ mm ≤ 99) {n : Int} (hn : n ≤ 150) (ho : zTo (σ 223) n i g0 (σ 217)) : zSp l d mX6_isWord [.ref 217, .int (zI w), .int (zI mm)] σ (zRi (zTq (σ 223) n i w mm) σ) := by
  refine zSp_of oX6_isWord (Nat.le_of_ble_eq_true rfl) ?_
  show zw l d mX6_isWord 0 [some (.ref 217), some (.int (zI w)), some (.int (zI mm))] [] σ _
  obtain ⟨o1, o2, o3, o4, o5, o6, o7⟩ := ho
  have kb := zTk_b (σ 223) n i
  have lb := zTl_b (σ 223) n i
  have mb : zTk (σ 223) n i = 1 → σ 217 13 = zTl (σ 223) n i ∧ σ 217 17 = zTm (σ 223) n i := fun q => ⟨(o6 q).1, (o6 q).2.1⟩
  refine zw_aload_n 1 dX6_isWord_0 rfl rfl ?_
  refine zw_gti 4 12 dX6_isWord_1 rfl fX6_132 (by decide) rfl rfl ly217 ?_
  refine zw_iconst 5 dX6_isWord_4 rfl ?_
  refine zw_icmp_ne 28 8 dX6_isWord_5 (by decide) rfl (by omega) (by omega) (fun h5 => ?_) (fun h5 => ?_)
  · refine zw_iconst 29 dX6_isWord_28 rfl ?_
    refine zw_zret dX6_isWord_29 rfl (by omega) ?_
    first
      | exact ⟨by rw [show zTq (σ 223) n i w mm = 1 from if_pos (by omega)], rfl⟩
      | exact ⟨by rw [show zTq (σ 223) n i w mm = 0 from if_neg (by omega)], rfl⟩
  · have o6 := o6 (by omega)
    have mb := mb (by omega)
    have me := zTk_1 (tx := σ 223) (n := n) (i := i) (by omega)
    refine zw_aload_n 9 dX6_isWord_8 rfl rfl ?_
    refine zw_gti 12 13 dX6_isWord_9 rfl fX6_126 (by decide) rfl rfl ly217 ?_
    refine zw_iload_n 13 dX6_isWord_12 rfl rfl ?_
    refine zw_icmp_ne 28 16 dX6_isWord_13 (by decide) rfl (by omega) (by omega) (fun h13 => ?_) (fun h13 => ?_)
    · refine zw_iconst 29 dX6_isWord_28 rfl ?_
      refine zw_zret dX6_isWord_29 rfl (by omega) ?_
      first
        | exact ⟨by rw [show zTq (σ 223) n i w mm = 1 from if_pos (by omega)], rfl⟩
        | exact ⟨by rw [show zTq (σ 223) n i w mm = 0 from if_neg (by omega)], rfl⟩
    · refine zw_aload_n 17 dX6_isWord_16 rfl rfl ?_
      refine zw_gti 20 17 dX6_isWord_17 rfl fX6_152 (by decide) rfl rfl ly217 ?_
      refine zw_iload_n 21 dX6_isWord_20 rfl rfl ?_
      refine zw_icmp_ne 28 24 dX6_isWord_21 (by decide) rfl (by omega) (by omega) (fun h21 => ?_) (fun h21 => ?_)
      · refine zw_iconst 29 dX6_isWord_28 rfl ?_
        refine zw_zret dX6_isWord_29 rfl (by omega) ?_
        first
          | exact ⟨by rw [show zTq (σ 223) n i w mm = 1 from if_pos (by omega)], rfl⟩
          | exact ⟨by rw [show zTq (σ 223) n i w mm = 0 from if_neg (by omega)], rfl⟩
      · refine zw_iconst 25 dX6_isWord_24 rfl ?_
        refine zw_goto 29 dX6_isWord_25 (by decide) ?_
        refine zw_zret dX6_isWord_29 rfl (by omega) ?_
        first
          | exact ⟨by rw [show zTq (σ 223) n i w mm = 1 from if_pos (by omega)], rfl⟩
          | exact ⟨by rw [show zTq (σ 223) n i w mm = 0 from if_neg (by omega)], rfl⟩
theorem sp_X6_number {l : Launch} {d : Nat} {σ : zMem} {lo hi : Int} (hd : 4 ≤ d) (hlo : -1 ≤ lo ∧ lo ≤ 999) (hhi : -1 ≤ hi ∧ hi ≤ 999) (hx : ztx (σ 223) (σ 217 6)) (hi0 : 0 ≤ σ 217 10 ∧ σ 217 10 ≤ σ 217 6) : zSp l d mX6_number [.ref 217, .int (zI lo), .int (zI hi)] σ (fun a σ1 => ∃ g : zR, a = some (.int (zI (zNb (σ 223) (σ 217 6) (σ 217 10) lo hi))) ∧ σ1 = zwa σ 217 g ∧ zTo (σ 223) (σ 217 6) (σ 217 10) (σ 217) g) := by
  refine zSp_of oX6_number (Nat.le_of_ble_eq_true rfl) ?_
  show zw l d mX6_number 0 [some (.ref 217), some (.int (zI lo)), some (.int (zI hi))] [] σ _
  have kb := zTk_b (σ 223) (σ 217 6) (σ 217 10)
  refine zw_aload_n 1 dX6_number_0 rfl rfl ?_
  refine zw_callV 4 _ _ dX6_number_1 rfl kX6_155 qX6_step ly217 ⟨_, rfl, rfl⟩ (by decide) (sp_X6_step (d := d - 1) (by omega) hx hi0) (by omega) rfl rfl (Nat.le_of_ble_eq_true rfl) (fun r σ' hq => ?_)
  obtain ⟨g, rfl, rfl, hg⟩ := hq
  have ho := zSu_o hg
  have o4 := ho.2.2.2.1
  have o5 := ho.2.2.2.2.1
  refine zw_aload_n 5 dX6_number_4 rfl rfl ?_
  refine zw_gti 8 12 dX6_number_5 rfl fX6_132 (by decide) rfl rfl ly217 ?_
  try simp (disch := decide) only [zwr_wa, zwa_same, zup_same, zup_ne, zwa_ne]
  refine zw_iconst 9 dX6_number_8 rfl ?_
  refine zw_icmp_ne 31 12 dX6_number_9 (by decide) rfl (by omega) (by omega) (fun h9 => ?_) (fun h9 => ?_)
  · refine zw_iconst 32 dX6_number_31 rfl ?_
    refine zw_zret dX6_number_32 rfl (by omega) ?_
    first
      | exact ⟨g, by rw [show zNb (σ 223) (σ 217 6) (σ 217 10) lo hi = 1 from if_pos (by omega)], rfl, ho⟩
      | exact ⟨g, by rw [show zNb (σ 223) (σ 217 6) (σ 217 10) lo hi = 0 from if_neg (by omega)], rfl, ho⟩
  · have o6 := o5 (by omega)
    refine zw_aload_n 13 dX6_number_12 rfl rfl ?_
    refine zw_gti 16 14 dX6_number_13 rfl fX6_129 (by decide) rfl rfl ly217 ?_
    try simp (disch := decide) only [zwr_wa, zwa_same, zup_same, zup_ne, zwa_ne]
    refine zw_i2l 17 dX6_number_16 rfl (by omega) ?_
    refine zw_iload_n 18 dX6_number_17 rfl rfl ?_
    refine zw_i2l 19 dX6_number_18 rfl (by omega) ?_
    refine zw_iload_n 20 dX6_number_19 rfl rfl ?_
    refine zw_i2l 21 dX6_number_20 rfl (by omega) ?_
    refine zw_callS 24 _ _ dX6_number_21 rfl kX6_86 qX6_in (sp_X6_in (d := d - 1) (by omega) (by omega) (by omega)) (by omega) rfl rfl (Nat.le_of_ble_eq_true rfl) (fun r σ' hq => ?_)
    obtain ⟨rfl, rfl⟩ := hq
    refine zw_if_eq 31 27 dX6_number_24 (by decide) rfl (by omega) (fun h24 => ?_) (fun h24 => ?_)
    · refine zw_iconst 32 dX6_number_31 rfl ?_
      refine zw_zret dX6_number_32 rfl (by omega) ?_
      first
        | exact ⟨g, by rw [show zNb (σ 223) (σ 217 6) (σ 217 10) lo hi = 1 from if_pos (by omega)], rfl, ho⟩
        | exact ⟨g, by rw [show zNb (σ 223) (σ 217 6) (σ 217 10) lo hi = 0 from if_neg (by omega)], rfl, ho⟩
    · refine zw_iconst 28 dX6_number_27 rfl ?_
      refine zw_goto 32 dX6_number_28 (by decide) ?_
      refine zw_zret dX6_number_32 rfl (by omega) ?_
      first
        | exact ⟨g, by rw [show zNb (σ 223) (σ 217 6) (σ 217 10) lo hi = 1 from if_pos (by omega)], rfl, ho⟩
        | exact ⟨g, by rw [show zNb (σ 223) (σ 217 6) (σ 217 10) lo hi = 0 from if_neg (by omega)], rfl, ho⟩
