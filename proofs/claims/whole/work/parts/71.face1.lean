theorem sp_X5_isKind {l : Launch} {d : Nat} {σ : zMem} (hd : 1 ≤ d) {s : Int} (hs : -2147483648 ≤ s ∧ s < 2147483648)  : zSp l d mX5_isKind [.int (zI s)] σ (zRi (if 0 ≤ s ∧ s ≤ 5 then 1 else 0) σ) := by
  refine zSp_of oX5_isKind (Nat.le_of_ble_eq_true rfl) ?_
  show zw l d mX5_isKind 0 [some (.int (zI s))] [] σ _
  refine zw_iload_n 1 dX5_isKind_0 rfl rfl ?_
  refine zw_iconst 2 dX5_isKind_1 rfl ?_
  refine zw_iconst 3 dX5_isKind_2 rfl ?_
  refine zw_callS 6 _ _ dX5_isKind_3 rfl kX5_85 qX5_within (sp_X5_within (d := d - 1) (by omega) (by omega) (by omega)) (by omega) rfl rfl (Nat.le_of_ble_eq_true rfl) (fun r σ' hq => ?_)
  obtain ⟨rfl, rfl⟩ := hq
  refine zw_zret dX5_isKind_6 rfl (by omega) ?_
  exact ⟨rfl, rfl⟩
theorem sp_X5_isTrait {l : Launch} {d : Nat} {σ : zMem} (hd : 1 ≤ d) {s : Int} (hs : -2147483648 ≤ s ∧ s < 2147483648)  : zSp l d mX5_isTrait [.int (zI s)] σ (zRi (if 0 ≤ s ∧ s ≤ 3 then 1 else 0) σ) := by
  refine zSp_of oX5_isTrait (Nat.le_of_ble_eq_true rfl) ?_
  show zw l d mX5_isTrait 0 [some (.int (zI s))] [] σ _
  refine zw_iload_n 1 dX5_isTrait_0 rfl rfl ?_
  refine zw_iconst 2 dX5_isTrait_1 rfl ?_
  refine zw_iconst 3 dX5_isTrait_2 rfl ?_
  refine zw_callS 6 _ _ dX5_isTrait_3 rfl kX5_85 qX5_within (sp_X5_within (d := d - 1) (by omega) (by omega) (by omega)) (by omega) rfl rfl (Nat.le_of_ble_eq_true rfl) (fun r σ' hq => ?_)
  obtain ⟨rfl, rfl⟩ := hq
  refine zw_zret dX5_isTrait_6 rfl (by omega) ?_
  exact ⟨rfl, rfl⟩
theorem sp_X5_isAhead {l : Launch} {d : Nat} {σ : zMem} (hd : 1 ≤ d) {s : Int} (hs : -2147483648 ≤ s ∧ s < 2147483648)  : zSp l d mX5_isAhead [.int (zI s)] σ (zRi (if 0 ≤ s ∧ s ≤ 60 then 1 else 0) σ) := by
  refine zSp_of oX5_isAhead (Nat.le_of_ble_eq_true rfl) ?_
  show zw l d mX5_isAhead 0 [some (.int (zI s))] [] σ _
  refine zw_iload_n 1 dX5_isAhead_0 rfl rfl ?_
  refine zw_iconst 2 dX5_isAhead_1 rfl ?_
  refine zw_bipush 4 dX5_isAhead_2 rfl (by decide) ?_
  refine zw_callS 7 _ _ dX5_isAhead_4 rfl kX5_85 qX5_within (sp_X5_within (d := d - 1) (by omega) (by omega) (by omega)) (by omega) rfl rfl (Nat.le_of_ble_eq_true rfl) (fun r σ' hq => ?_)
  obtain ⟨rfl, rfl⟩ := hq
  refine zw_zret dX5_isAhead_7 rfl (by omega) ?_
  exact ⟨rfl, rfl⟩
theorem sp_X5_isSeat {l : Launch} {d : Nat} {σ : zMem} (hd : 1 ≤ d) {N : zR} (h : zCs σ 2 N) (hN : 0 ≤ N 33 ∧ N 33 ≤ 7) {s : Int} (hs : -2147483648 ≤ s ∧ s < 2147483648)  : zSp l d mX5_isSeat [.ref 1, .int (zI s)] σ (zRi (if 0 ≤ s ∧ s ≤ N 33 - 1 then 1 else 0) σ) := by
  refine zSp_of oX5_isSeat (Nat.le_of_ble_eq_true rfl) ?_
  show zw l d mX5_isSeat 0 [some (.ref 1), some (.int (zI s))] [] σ _
  refine zw_iload_n 1 dX5_isSeat_0 rfl rfl ?_
  refine zw_iconst 2 dX5_isSeat_1 rfl ?_
  refine zw_aload_n 3 dX5_isSeat_2 rfl rfl ?_
  refine zw_getr 6 (2) (o := 1) dX5_isSeat_3 rfl fX5_10 (by decide) rfl rfl ly1 ?_
  refine zw_gti 9 0 dX5_isSeat_6 rfl fX5_93 (by decide) rfl rfl ly2 ?_
  rw [h.1]
  refine zw_iconst 10 dX5_isSeat_9 rfl ?_
  refine zw_isub 11 dX5_isSeat_10 rfl ?_
  refine zw_callS 14 _ _ dX5_isSeat_11 rfl kX5_85 qX5_within (sp_X5_within (d := d - 1) (by omega) (by omega) (by omega)) (by omega) rfl rfl (Nat.le_of_ble_eq_true rfl) (fun r σ' hq => ?_)
  obtain ⟨rfl, rfl⟩ := hq
  refine zw_zret dX5_isSeat_14 rfl (by omega) ?_
  exact ⟨rfl, rfl⟩
theorem sp_X5_isCanon {l : Launch} {d : Nat} {σ : zMem} (hd : 1 ≤ d) {N : zR} (h : zCs σ 2 N) (hN : 0 ≤ N 48 ∧ N 48 ≤ 7) {s : Int} (hs : -2147483648 ≤ s ∧ s < 2147483648)  : zSp l d mX5_isCanon [.ref 1, .int (zI s)] σ (zRi (if 0 ≤ s ∧ s ≤ N 48 - 1 then 1 else 0) σ) := by
  refine zSp_of oX5_isCanon (Nat.le_of_ble_eq_true rfl) ?_
  show zw l d mX5_isCanon 0 [some (.ref 1), some (.int (zI s))] [] σ _
  refine zw_iload_n 1 dX5_isCanon_0 rfl rfl ?_
  refine zw_iconst 2 dX5_isCanon_1 rfl ?_
  refine zw_aload_n 3 dX5_isCanon_2 rfl rfl ?_
  refine zw_getr 6 (2) (o := 1) dX5_isCanon_3 rfl fX5_10 (by decide) rfl rfl ly1 ?_
  refine zw_gti 9 1 dX5_isCanon_6 rfl fX5_71 (by decide) rfl rfl ly2 ?_
  rw [h.2.1]
  refine zw_iconst 10 dX5_isCanon_9 rfl ?_
  refine zw_isub 11 dX5_isCanon_10 rfl ?_
  refine zw_callS 14 _ _ dX5_isCanon_11 rfl kX5_85 qX5_within (sp_X5_within (d := d - 1) (by omega) (by omega) (by omega)) (by omega) rfl rfl (Nat.le_of_ble_eq_true rfl) (fun r σ' hq => ?_)
  obtain ⟨rfl, rfl⟩ := hq
  refine zw_zret dX5_isCanon_14 rfl (by omega) ?_
  exact ⟨rfl, rfl⟩
theorem sp_X5_isSeatOrNone {l : Launch} {d : Nat} {σ : zMem} (hd : 2 ≤ d) {N : zR} (h : zCs σ 2 N) (hN : 0 ≤ N 33 ∧ N 33 ≤ 7) {s : Int} (hs : -2147483648 ≤ s ∧ s < 2147483648)  : zSp l d mX5_isSeatOrNone [.ref 1, .int (zI s)] σ (zRi (if -1 ≤ s ∧ s ≤ N 33 - 1 then 1 else 0) σ) := by
  refine zSp_of oX5_isSeatOrNone (Nat.le_of_ble_eq_true rfl) ?_
  show zw l d mX5_isSeatOrNone 0 [some (.ref 1), some (.int (zI s))] [] σ _
  refine zw_iload_n 1 dX5_isSeatOrNone_0 rfl rfl ?_
  refine zw_iconst 2 dX5_isSeatOrNone_1 rfl ?_
  refine zw_icmp_eq 13 5 dX5_isSeatOrNone_2 (by decide) rfl (by omega) (by omega) (fun h2 => ?_) (fun h2 => ?_)
  · refine zw_iconst 14 dX5_isSeatOrNone_13 rfl ?_
    refine zw_goto 18 dX5_isSeatOrNone_14 (by decide) ?_
    refine zw_zret dX5_isSeatOrNone_18 rfl (by omega) ?_
    first
      | exact zRi_of (by rw [if_pos (by omega)])
      | exact zRi_of (by rw [if_neg (by omega)])
  · refine zw_aload_n 6 dX5_isSeatOrNone_5 rfl rfl ?_
    refine zw_iload_n 7 dX5_isSeatOrNone_6 rfl rfl ?_
    refine zw_callV 10 _ _ dX5_isSeatOrNone_7 rfl kX5_165 qX5_isSeat ly1 ⟨_, rfl, rfl⟩ (by decide) (sp_X5_isSeat (d := d - 1) (by omega) h hN hs) (by omega) rfl rfl (Nat.le_of_ble_eq_true rfl) (fun r σ' hq => ?_)
    obtain ⟨rfl, rfl⟩ := hq
    refine zw_if_eq 17 13 dX5_isSeatOrNone_10 (by decide) rfl (by omega) (fun h10 => ?_) (fun h10 => ?_)
    · refine zw_iconst 18 dX5_isSeatOrNone_17 rfl ?_
      refine zw_zret dX5_isSeatOrNone_18 rfl (by omega) ?_
      first
        | exact zRi_of (by rw [if_pos (by omega)])
        | exact zRi_of (by rw [if_neg (by omega)])
    · refine zw_iconst 14 dX5_isSeatOrNone_13 rfl ?_
      refine zw_goto 18 dX5_isSeatOrNone_14 (by decide) ?_
      refine zw_zret dX5_isSeatOrNone_18 rfl (by omega) ?_
      first
        | exact zRi_of (by rw [if_pos (by omega)])
        | exact zRi_of (by rw [if_neg (by omega)])
theorem sp_X5_refuse_2 {l : Launch} {d : Nat} {σ : zMem}  : zSp l d mX5_refuse [.ref 1, .int (zI (-2))] σ (zRi (-2) (zbm σ 118 0)) := by
  refine zSp_of oX5_refuse (Nat.le_of_ble_eq_true rfl) ?_
  show zw l d mX5_refuse 0 [some (.ref 1), some (.int (zI (-2)))] [] σ _
  refine zw_aload_n 1 dX5_refuse_0 rfl rfl ?_
  refine zw_getr 4 (118) (o := 117) dX5_refuse_1 rfl fX5_61 (by decide) rfl rfl ly1 ?_
  refine zw_iload_n 5 dX5_refuse_4 rfl rfl ?_
  refine zw_bipush 7 dX5_refuse_5 rfl (by decide) ?_
  refine zw_icmp_ne 14 10 dX5_refuse_7 (by decide) rfl (by omega) (by omega) (fun h7 => ?_) (fun h7 => ?_)
  · exact absurd h7 (by decide)
  · refine zw_iconst 11 dX5_refuse_10 rfl ?_
    refine zw_goto 25 dX5_refuse_11 (by decide) ?_
    refine zw_dup2_11 26 dX5_refuse_25 rfl rfl rfl ?_
    refine zw_iald 27 dX5_refuse_26 rfl ly118 (by omega) ?_
    refine zw_iconst 28 dX5_refuse_27 rfl ?_
    refine zw_iadd 29 dX5_refuse_28 rfl ?_
    refine zw_iast 30 dX5_refuse_29 rfl ly118 (by omega) ?_
    refine zw_iload_n 31 dX5_refuse_30 rfl rfl ?_
    refine zw_iret dX5_refuse_31 rfl ?_
    exact ⟨rfl, rfl⟩
theorem sp_X5_refuse_3 {l : Launch} {d : Nat} {σ : zMem}  : zSp l d mX5_refuse [.ref 1, .int (zI (-3))] σ (zRi (-3) (zbm σ 118 1)) := by
  refine zSp_of oX5_refuse (Nat.le_of_ble_eq_true rfl) ?_
  show zw l d mX5_refuse 0 [some (.ref 1), some (.int (zI (-3)))] [] σ _
  refine zw_aload_n 1 dX5_refuse_0 rfl rfl ?_
  refine zw_getr 4 (118) (o := 117) dX5_refuse_1 rfl fX5_61 (by decide) rfl rfl ly1 ?_
  refine zw_iload_n 5 dX5_refuse_4 rfl rfl ?_
  refine zw_bipush 7 dX5_refuse_5 rfl (by decide) ?_
  refine zw_icmp_ne 14 10 dX5_refuse_7 (by decide) rfl (by omega) (by omega) (fun h7 => ?_) (fun h7 => ?_)
  · refine zw_iload_n 15 dX5_refuse_14 rfl rfl ?_
    refine zw_bipush 17 dX5_refuse_15 rfl (by decide) ?_
    refine zw_icmp_ne 24 20 dX5_refuse_17 (by decide) rfl (by omega) (by omega) (fun h17 => ?_) (fun h17 => ?_)
    · exact absurd h17 (by decide)
    · refine zw_iconst 21 dX5_refuse_20 rfl ?_
      refine zw_goto 25 dX5_refuse_21 (by decide) ?_
      refine zw_dup2_11 26 dX5_refuse_25 rfl rfl rfl ?_
      refine zw_iald 27 dX5_refuse_26 rfl ly118 (by omega) ?_
      refine zw_iconst 28 dX5_refuse_27 rfl ?_
      refine zw_iadd 29 dX5_refuse_28 rfl ?_
      refine zw_iast 30 dX5_refuse_29 rfl ly118 (by omega) ?_
      refine zw_iload_n 31 dX5_refuse_30 rfl rfl ?_
      refine zw_iret dX5_refuse_31 rfl ?_
      exact ⟨rfl, rfl⟩
  · exact absurd h7 (by decide)
theorem sp_X5_refuse_4 {l : Launch} {d : Nat} {σ : zMem}  : zSp l d mX5_refuse [.ref 1, .int (zI (-4))] σ (zRi (-4) (zbm σ 118 2)) := by
  refine zSp_of oX5_refuse (Nat.le_of_ble_eq_true rfl) ?_
  show zw l d mX5_refuse 0 [some (.ref 1), some (.int (zI (-4)))] [] σ _
  refine zw_aload_n 1 dX5_refuse_0 rfl rfl ?_
  refine zw_getr 4 (118) (o := 117) dX5_refuse_1 rfl fX5_61 (by decide) rfl rfl ly1 ?_
  refine zw_iload_n 5 dX5_refuse_4 rfl rfl ?_
  refine zw_bipush 7 dX5_refuse_5 rfl (by decide) ?_
  refine zw_icmp_ne 14 10 dX5_refuse_7 (by decide) rfl (by omega) (by omega) (fun h7 => ?_) (fun h7 => ?_)
  · refine zw_iload_n 15 dX5_refuse_14 rfl rfl ?_
    refine zw_bipush 17 dX5_refuse_15 rfl (by decide) ?_
    refine zw_icmp_ne 24 20 dX5_refuse_17 (by decide) rfl (by omega) (by omega) (fun h17 => ?_) (fun h17 => ?_)
    · refine zw_iconst 25 dX5_refuse_24 rfl ?_
      refine zw_dup2_11 26 dX5_refuse_25 rfl rfl rfl ?_
      refine zw_iald 27 dX5_refuse_26 rfl ly118 (by omega) ?_
      refine zw_iconst 28 dX5_refuse_27 rfl ?_
      refine zw_iadd 29 dX5_refuse_28 rfl ?_
      refine zw_iast 30 dX5_refuse_29 rfl ly118 (by omega) ?_
      refine zw_iload_n 31 dX5_refuse_30 rfl rfl ?_
      refine zw_iret dX5_refuse_31 rfl ?_
      exact ⟨rfl, rfl⟩
    · exact absurd h17 (by decide)
  · exact absurd h7 (by decide)
theorem sp_X5_refuseAs {l : Launch} {d : Nat} {σ : zMem} {a : Int}  : zSp l d mX5_refuseAs [.ref 1, .int (zI a)] σ (zRi a (zbm σ 118 0)) := by
  refine zSp_of oX5_refuseAs (Nat.le_of_ble_eq_true rfl) ?_
  show zw l d mX5_refuseAs 0 [some (.ref 1), some (.int (zI a))] [] σ _
  refine zw_aload_n 1 dX5_refuseAs_0 rfl rfl ?_
  refine zw_getr 4 (118) (o := 117) dX5_refuseAs_1 rfl fX5_61 (by decide) rfl rfl ly1 ?_
  refine zw_iconst 5 dX5_refuseAs_4 rfl ?_
  refine zw_dup2_11 6 dX5_refuseAs_5 rfl rfl rfl ?_
  refine zw_iald 7 dX5_refuseAs_6 rfl ly118 (by omega) ?_
  refine zw_iconst 8 dX5_refuseAs_7 rfl ?_
  refine zw_iadd 9 dX5_refuseAs_8 rfl ?_
  refine zw_iast 10 dX5_refuseAs_9 rfl ly118 (by omega) ?_
  refine zw_iload_n 11 dX5_refuseAs_10 rfl rfl ?_
  refine zw_iret dX5_refuseAs_11 rfl ?_
  exact ⟨rfl, rfl⟩
/-- what a call of the class leaves as it was: all but the chapter and what it lays aside -/
def zFc (σ σ' : zMem) : Prop := ∀ b, ¬ (2 ≤ b ∧ b ≤ 50) → ¬ (102 ≤ b ∧ b ≤ 105) → ¬ (109 ≤ b ∧ b ≤ 117) → σ' b = σ b
def zNc (σ σ' : zMem) : Prop := ∀ b, ¬ (102 ≤ b ∧ b ≤ 105) → ¬ (109 ≤ b ∧ b ≤ 117) → σ' b = σ b
theorem zNc.ns {σ σ' : zMem} (h : zNc σ σ') : zNS σ σ' := ⟨fun b hb => h b (fun q => hb (by unfold zSk; omega)) (fun q => hb (by unfold zSk; omega)), by rw [h 106 (by omega) (by omega)], by rw [h 217 (by omega) (by omega)], by rw [h 217 (by omega) (by omega)], by rw [h 217 (by omega) (by omega)]⟩
/-- what an operation leaves: the chapter anew -/
def zCF (σ : zMem) (N : zR) (σ' : zMem) : Prop := zCh σ' 2 N ∧ zFc σ σ'
theorem zVN_bd {N : zR} (h : zVN N) : zBd N := by
  obtain ⟨h1, h2, h3, h4, h5, h6, h7⟩ := h
  exact ⟨h1.1.2, h1.2.1.2, h4.1.2, h5.1.2, h6.1.2, h7.1.2⟩
theorem zVN_T {N : zR} (h : zVN N) : zVT N := ⟨h.1, h.2.1, h.2.2.1⟩
theorem lp_X5_lookAhead {l : Launch} {d : Nat} {σ : zMem} (hd : 5 ≤ d) {N : zR} (hC : zCh σ 2 N) (hV : zVN N) {n : Int} (hn : 0 ≤ n ∧ n ≤ 60) : ∀ (m : Nat) (k : Nat), (k : Int) + m = n → ∀ σc : zMem, zSc σc 102 (zyn N k N) → (∀ r, ¬ (102 ≤ r ∧ r ≤ 105) → σc r = σ r) → zw l d mX5_lookAhead 16 [some (.ref 1), some (.int (zI n)), some (.int (zI ((k : Int))))] [] σc (fun v σ1 => v = none ∧ zSc σ1 102 (zyn N n.toNat N) ∧ ∀ r, ¬ (102 ≤ r ∧ r ≤ 105) → σ1 r = σ r) := by
  intro m
  have hs := hV.1
  have hv := hV.2.1
  have hy := hV.2.2.1
  induction m with
  | zero =>
    intro k hk σc g1 g2
    obtain rfl : n = (k : Int) := by omega
    refine zw_iload_n 17 dX5_lookAhead_16 rfl rfl ?_
    refine zw_iload_n 18 dX5_lookAhead_17 rfl rfl ?_
    refine zw_icmp_ge 38 21 dX5_lookAhead_18 (by decide) rfl (by omega) (by omega) (fun h18 => ?_) (fun h18 => ?_)
    · refine zw_vret dX5_lookAhead_38 rfl ?_
      exact ⟨rfl, by rw [Int.toNat_natCast]; exact g1, g2⟩
    · exfalso; omega
  | succ m ih =>
    intro k hk σc g1 g2
    have h32 := zyn_32 hs hv k
    have ih2 := ih (k + 1) (by omega)
    rw [show (((k + 1 : Nat) : Int)) = (k : Int) + 1 by omega] at ih2
    refine zw_iload_n 17 dX5_lookAhead_16 rfl rfl ?_
    refine zw_iload_n 18 dX5_lookAhead_17 rfl rfl ?_
    refine zw_icmp_ge 38 21 dX5_lookAhead_18 (by decide) rfl (by omega) (by omega) (fun h18 => ?_) (fun h18 => ?_)
    · exfalso; omega
    · refine zw_aload_n 22 dX5_lookAhead_21 rfl rfl ?_
      refine zw_getr 25 (2) (o := 1) dX5_lookAhead_22 rfl fX5_10 (by decide) rfl rfl ly1 ?_
      refine zw_aload_n 26 dX5_lookAhead_25 rfl rfl ?_
      refine zw_getr 29 (102) (o := 101) dX5_lookAhead_26 rfl fX5_30 (by decide) rfl rfl ly1 ?_
      refine zw_callV 32 _ _ dX5_lookAhead_29 rfl kX5_215 qX0_pass ly2 ⟨_, rfl, rfl⟩ (by decide) (sp_X0_pass (d := d - 1) (by omega) ly2 ly102 (by omega) (zCs_fr (fun b b0 b1 => g2 b (by omega)) hC.1.1) g1 hs (zyn_V hs hv k) (by omega)) (by omega) rfl rfl (Nat.le_of_ble_eq_true rfl) (fun r σ' hq => ?_)
      obtain ⟨rfl, q1, q2⟩ := hq
      refine zw_iinc 35 dX5_lookAhead_32 rfl (by decide) rfl ?_
      refine zw_goto 16 dX5_lookAhead_35 (by decide) ?_
      refine zw_loc [true, true, true] rfl ?_
      exact ih2 _ q1 (fun r hr => (q2 r (by omega)).trans (g2 r hr))
theorem sp_X5_lookAhead {l : Launch} {d : Nat} {σ : zMem} (hd : 5 ≤ d) {N : zR} (hC : zCh σ 2 N) (hV : zVN N) {n : Int} (hn : 0 ≤ n ∧ n ≤ 60)  : zSp l d mX5_lookAhead [.ref 1, .int (zI n)] σ (fun v σ1 => v = none ∧ zSc σ1 102 (zyn N n.toNat N) ∧ ∀ r, ¬ (102 ≤ r ∧ r ≤ 105) → σ1 r = σ r) := by
  refine zSp_of oX5_lookAhead (Nat.le_of_ble_eq_true rfl) ?_
  show zw l d mX5_lookAhead 0 [some (.ref 1), some (.int (zI n)), none] [] σ _
  refine zw_aload_n 1 dX5_lookAhead_0 rfl rfl ?_
  refine zw_getr 4 (102) (o := 101) dX5_lookAhead_1 rfl fX5_30 (by decide) rfl rfl ly1 ?_
  refine zw_aload_n 5 dX5_lookAhead_4 rfl rfl ?_
  refine zw_getr 8 (2) (o := 1) dX5_lookAhead_5 rfl fX5_10 (by decide) rfl rfl ly1 ?_
  refine zw_getr 11 (8) (o := 6) dX5_lookAhead_8 rfl fX5_131 (by decide) rfl rfl ly2 ?_
  refine zw_callV 14 _ _ dX5_lookAhead_11 rfl kX5_209 qX2_become ly102 ⟨_, rfl, rfl⟩ (by decide) (sp_X2_become (d := d - 1) (by omega) ly102 ly8 (by omega) hC.1.2.1) (by omega) rfl rfl (Nat.le_of_ble_eq_true rfl) (fun r σ' hq => ?_)
  obtain ⟨rfl, q1, q2⟩ := hq
  refine zw_iconst 15 dX5_lookAhead_14 rfl ?_
  refine zw_istore_n 16 dX5_lookAhead_15 rfl (by decide) ?_
  exact lp_X5_lookAhead hd hC hV hn n.toNat 0 (by omega) _ q1 (fun r hr => q2 r (by omega))
/-- what one canon's taking hangs on -/
def zSm (c : Int) (t u : zR) : Prop := u c = t c ∧ (∀ k, 0 ≤ k → k < 4 → u (5 + 4 * c + k) = t (5 + 4 * c + k)) ∧ (t c ≠ -1 → u (25 + t c) = t (25 + t c)) ∧ u 32 = t 32
theorem zSm_refl (c : Int) (t : zR) : zSm c t t := ⟨rfl, fun _ _ _ => rfl, fun _ => rfl, rfl⟩
theorem zSm.trans {c : Int} {t u v : zR} (h : zSm c t u) (h' : zSm c u v) : zSm c t v := ⟨h'.1.trans h.1, fun k a b => (h'.2.1 k a b).trans (h.2.1 k a b), fun q => by
  have := h'.2.2.1 (by rw [h.1]; exact q)
  rw [h.1] at this
  exact this.trans (h.2.2.1 q), h'.2.2.2.trans h.2.2.2⟩
theorem zSm.symm {c : Int} {t u : zR} (h : zSm c t u) : zSm c u t := ⟨h.1.symm, fun k a b => (h.2.1 k a b).symm, fun q => by
  rw [h.1] at q ⊢
  exact (h.2.2.1 q).symm, h.2.2.2.symm⟩
/-- another's year -/
theorem zSm_o {N t : zR} (hs : zVs N) (hv : zVr N t) {c e : Int} (hc : 0 ≤ c ∧ c < 5) (he : 0 ≤ e ∧ e < 5) (hne : e ≠ c) : zSm c t (zps N t e) := by
  have hv1 := z1t_V hs hv he
  have o1 : ∀ j, j < 5 + 4 * e ∨ 9 + 4 * e ≤ j → z1t N t e j = t j := fun j hj => z1t_out hs hv he hj
  have b := hv.1 c hc.1 hc.2
  have bN := hs.1
  unfold zps
  refine ⟨?_, fun k k0 k1 => ?_, fun q => ?_, ?_⟩
  · rw [z1w_out hv1 he (Or.inl (by omega)), o1 _ (by omega)]
  · rw [z1w_out hv1 he (Or.inl (by omega)), o1 _ (by omega)]
  · have q2 : t e ≠ t c := fun z => q (hv.2.2.2.1 c e hc.1 hc.2 he.1 he.2 (fun x => hne x.symm) z.symm)
    have q3 : z1t N t e e = t e := o1 _ (by omega)
    rw [z1w_out hv1 he (Or.inr (Or.inr (by rw [q3]; omega))), o1 _ (by omega)]
  · rw [z1w_out hv1 he (Or.inr (Or.inl (by omega))), o1 _ (by omega)]
/-- one's own -/
theorem zSm_c {N t u : zR} {c : Int} (hs : zVs N) (hv : zVw N t c) (hu : zVw N u c) (hc : 0 ≤ c ∧ c < 5) (h : zSm c t u) : zSm c (zps N t c) (zps N u c) := by
  obtain ⟨h1, h2, h3, h4⟩ := h
  have bN := hs.1
  have b := hv.1
  by_cases q : t c = -1
  · have e1 : ∀ v : zR, v c = -1 → zps N v c = v := fun v hv => by
      have e2 : z1t N v c = v := if_pos hv
      unfold zps; rw [e2]; exact if_pos hv
    rw [e1 t q, e1 u (by rw [h1]; exact q)]
    exact ⟨h1, h2, h3, h4⟩
  · have g := (hs.s (s := t c) (by omega) (by omega)).2
    have ek := h2 (N (41 + t c)) (by omega) (by omega)
    have ed := h3 q
    have key : ∀ v : zR, zVw N v c → v c = t c → v (5 + 4 * c + N (41 + t c)) = t (5 + 4 * c + N (41 + t c)) → v (25 + t c) = t (25 + t c) → v 32 = t 32 → zps N v c = zup (zup v (5 + 4 * c + N (41 + t c)) (min (t (5 + 4 * c + N (41 + t c)) + ztk N t c (t c)) 99)) (25 + t c) (max (t (25 + t c) - zww N c (t c)) 0) := fun v _ k1 k2 k3 k4 => by
      have f1 : z1t N v c = zup v (5 + 4 * c + N (41 + t c)) (min (t (5 + 4 * c + N (41 + t c)) + ztk N t c (t c)) 99) := by
        unfold z1t
        rw [if_neg (by rw [k1]; exact q), k1, k2]
        unfold ztk
        rw [k2, k3, k4]
      unfold zps z1w
      rw [f1, zup_ne _ _ (by omega), k1, if_neg q, zup_ne _ _ (by omega), k3]
    rw [key t hv rfl rfl rfl rfl, key u hu h1 ek ed h4]
    have ec : ∀ (v : zR) (x y : Int), zup (zup v (5 + 4 * c + N (41 + t c)) x) (25 + t c) y c = v c := fun v x y => by rw [zup_ne _ _ (by omega), zup_ne _ _ (by omega)]
    refine ⟨?_, fun k k0 k1 => ?_, fun _ => ?_, ?_⟩
    · rw [ec, ec]; exact h1
    · rw [zup_ne _ _ (show 5 + 4 * c + k ≠ 25 + t c by omega), zup_ne _ _ (show 5 + 4 * c + k ≠ 25 + t c by omega)]
      by_cases qk : k = N (41 + t c)
      · rw [qk, zup_same, zup_same]
      · rw [zup_ne _ _ (by omega), zup_ne _ _ (by omega)]; exact h2 k k0 k1
    · rw [ec, zup_same, zup_same]
    · rw [zup_ne _ _ (by omega), zup_ne _ _ (by omega), zup_ne _ _ (by omega), zup_ne _ _ (by omega)]; exact h4
theorem zSm_f {N t : zR} (hs : zVs N) (hv : zVr N t) {c : Int} (hc : 0 ≤ c ∧ c < 5) : ∀ k : Nat, k ≤ 5 → ((k : Int) ≤ c → zSm c t (zfd (zps N) k t)) ∧ (c < (k : Int) → zSm c (zps N t c) (zfd (zps N) k t))
  | 0, _ => ⟨fun _ => zSm_refl _ _, fun q => by omega⟩
  | k + 1, hk => by
    have ih := zSm_f hs hv hc k (by omega)
    have hvk := zfp_V hs hv k (by omega)
    refine ⟨fun q => (ih.1 (by omega)).trans (zSm_o hs hvk hc (by omega) (by omega)), fun q => ?_⟩
    by_cases q2 : (k : Int) = c
    · show zSm c (zps N t c) (zps N (zfd (zps N) k t) k)
      rw [q2]
      exact zSm_c hs (hv.w hc) (hvk.w hc) hc (ih.1 (by omega))
    · exact (ih.2 (by omega)).trans (zSm_o hs hvk hc (by omega) q2)
theorem zSm_32 {c : Int} {t u : zR} (hc : 0 ≤ c ∧ c < 5) (h : zSm c t u) : zSm c (zup t 32 (t 32 + 1)) (zup u 32 (u 32 + 1)) := by
  obtain ⟨h1, h2, h3, h4⟩ := h
  refine ⟨by rw [zup_ne _ _ (by omega), zup_ne _ _ (by omega)]; exact h1, fun k k0 k1 => by rw [zup_ne _ _ (by omega), zup_ne _ _ (by omega)]; exact h2 k k0 k1, fun q => ?_, by rw [zup_same, zup_same, h4]⟩
  rw [zup_ne _ _ (by omega : c ≠ 32)] at q ⊢
  by_cases e : 25 + t c = 32
  · rw [e, zup_same, zup_same, h4]
  · rw [zup_ne _ _ e, zup_ne _ _ e]; exact h3 q
theorem zan_yn {N t : zR} (hs : zVs N) (hv : zVr N t) {c : Int} (hc : 0 ≤ c ∧ c < N 48) : ∀ n : Nat, zSm c (zyn N n t) (zan N c n t)
  | 0 => zSm_refl _ _
  | n + 1 => by
    have h48 := hs.2.1
    have ih := zan_yn hs hv hc n
    have hvn := zyn_V hs hv n
    have hc5 : 0 ≤ c ∧ c < 5 := by omega
    show zSm c (zyr N (zyn N n t)) (za1 N c (zan N c n t))
    rw [← zpa_eq hs hvn]
    unfold zpa za1 zpB
    refine zSm_32 hc5 ?_
    have f := (zSm_f hs hvn hc5 (N 48).toNat (by omega)).2 (by omega)
    exact f.symm.trans (zSm_c hs (hvn.w hc5) (zan_Vw hs (hv.w hc5) hc5 n) hc5 ih)
theorem lp_X5_yearsUntil {l : Launch} {d : Nat} {σ : zMem} (hd : 4 ≤ d) {N : zR} (hC : zCh σ 2 N) (hV : zVN N) {c s t x : Int} (hc : 0 ≤ c ∧ c < N 48) (hs0 : -1 ≤ s ∧ s < N 33) (ht : 0 ≤ t ∧ t < 4) (hx : -2147483648 ≤ x ∧ x < 2147483648) : ∀ (m : Nat) (k : Nat), k + m = 61 → ∀ σc : zMem, zSc σc 102 (zan N c k (zup N c s)) → (∀ r, ¬ (102 ≤ r ∧ r ≤ 105) → σc r = σ r) → zw l d mX5_yearsUntil 27 [some (.ref 1), some (.int (zI c)), some (.int (zI s)), some (.int (zI t)), some (.int (zI x)), some (.int (zI ((k : Int))))] [] σc (fun v σ1 => v = some (.int (zI (zff (fun n => decide (x ≤ zan N c n (zup N c s) (5 + 4 * c + t))) k m))) ∧ ∀ r, ¬ (102 ≤ r ∧ r ≤ 105) → σ1 r = σ r) := by
  have hs := hV.1
  have hv := hV.2.1
  have hy := hV.2.2.1
  have h48 := hs.2.1
  have hvw : zVw N (zup N c s) c := ⟨by rw [zup_same]; exact hs0, fun i i0 i1 => by rw [zup_ne _ _ (by omega)]; exact hv.2.1 i i0 i1, fun i i0 i1 => by rw [zup_ne _ _ (by omega)]; exact hv.2.2.1 i i0 i1⟩
  intro m
  induction m with
  | zero =>
    intro k hk σc g1 g2
    refine zw_iload 29 dX5_yearsUntil_27 rfl rfl ?_
    refine zw_bipush 31 dX5_yearsUntil_29 rfl (by decide) ?_
    refine zw_icmp_gt 82 34 dX5_yearsUntil_31 (by decide) rfl (by omega) (by omega) (fun h31 => ?_) (fun h31 => ?_)
    · refine zw_iconst 83 dX5_yearsUntil_82 rfl ?_
      refine zw_iret dX5_yearsUntil_83 rfl ?_
      exact ⟨rfl, g2⟩
    · exfalso; omega
  | succ m ih =>
    intro k hk σc g1 g2
    have hvk := zan_Vw hs hvw (c := c) (by omega) k
    have h32 := zan_32 hs hvw (c := c) (by omega) k
    rw [zup_ne _ _ (by omega)] at h32
    have gt := hvk.tk2 (c := c) (k := t) (by omega) (by omega)
    have ih2 := ih (k + 1) (by omega)
    rw [show (((k + 1 : Nat) : Int)) = (k : Int) + 1 by omega] at ih2
    unfold zff
    refine zw_iload 29 dX5_yearsUntil_27 rfl rfl ?_
    refine zw_bipush 31 dX5_yearsUntil_29 rfl (by decide) ?_
    refine zw_icmp_gt 82 34 dX5_yearsUntil_31 (by decide) rfl (by omega) (by omega) (fun h31 => ?_) (fun h31 => ?_)
    · exfalso; omega
    · refine zw_aload_n 35 dX5_yearsUntil_34 rfl rfl ?_
      refine zw_getr 38 (102) (o := 101) dX5_yearsUntil_35 rfl fX5_30 (by decide) rfl rfl ly1 ?_
      refine zw_iload_n 39 dX5_yearsUntil_38 rfl rfl ?_
      refine zw_iload_n 40 dX5_yearsUntil_39 rfl rfl ?_
      refine zw_callV 43 _ _ dX5_yearsUntil_40 rfl kX5_192 qX2_takenOf ly102 ⟨_, rfl, rfl⟩ (by decide) (sp_X2_takenOf (d := d - 1) ly102 g1 (c := c) (x := t) (by omega) (by omega)) (by omega) rfl rfl (Nat.le_of_ble_eq_true rfl) (fun r σ' hq => ?_)
      obtain ⟨rfl, rfl⟩ := hq
      refine zw_iload 45 dX5_yearsUntil_43 rfl rfl ?_
      refine zw_icmp_lt 51 48 dX5_yearsUntil_45 (by decide) rfl (by omega) (by omega) (fun h45 => ?_) (fun h45 => ?_)
      · refine zw_aload_n 52 dX5_yearsUntil_51 rfl rfl ?_
        refine zw_getr 55 (2) (o := 1) dX5_yearsUntil_52 rfl fX5_10 (by decide) rfl rfl ly1 ?_
        refine zw_aload_n 56 dX5_yearsUntil_55 rfl rfl ?_
        refine zw_getr 59 (102) (o := 101) dX5_yearsUntil_56 rfl fX5_30 (by decide) rfl rfl ly1 ?_
        refine zw_iload_n 60 dX5_yearsUntil_59 rfl rfl ?_
        refine zw_callV 63 _ _ dX5_yearsUntil_60 rfl kX5_316 qX0_passFor ly2 ⟨_, rfl, rfl⟩ (by decide) (sp_X0_passFor (d := d - 1) (by omega) ly2 ly102 (zCs_fr (fun b b0 b1 => g2 b (by omega)) hC.1.1) g1 hs hvk (by omega) hc (by omega)) (by omega) rfl rfl (Nat.le_of_ble_eq_true rfl) (fun r σ' hq => ?_)
        obtain ⟨rfl, q1, q2⟩ := hq
        refine zw_aload_n 64 dX5_yearsUntil_63 rfl rfl ?_
        refine zw_getr 67 (102) (o := 101) dX5_yearsUntil_64 rfl fX5_30 (by decide) rfl rfl ly1 ?_
        refine zw_dup 68 dX5_yearsUntil_67 rfl rfl ?_
        refine zw_gti 71 0 dX5_yearsUntil_68 rfl fX5_162 (by decide) rfl rfl ly102 ?_
        rw [q1.2.2.2]
        refine zw_iconst 72 dX5_yearsUntil_71 rfl ?_
        refine zw_iadd 73 dX5_yearsUntil_72 rfl ?_
        refine zw_pti 76 0 dX5_yearsUntil_73 rfl pX5_162 (by decide) rfl rfl ly102 ?_
        refine zw_iinc 79 dX5_yearsUntil_76 rfl (by decide) rfl ?_
        refine zw_goto 27 dX5_yearsUntil_79 (by decide) ?_
        refine zw_loc [true, true, true, true, true, true] rfl ?_
        rw [if_neg (by rw [decide_eq_true_eq]; omega)]
        refine ih2 _ ?_ (fun r hr => (zwr_ne _ _ _ (by omega)).trans ((q2 r (by omega)).trans (g2 r hr)))
        show zSc _ 102 (za1 N c (zan N c k (zup N c s)))
        obtain ⟨s1, s2, s3, s4⟩ := q1
        unfold za1
        refine ⟨fun x x0 x1 => ?_, fun x x0 x1 => ?_, fun x x0 x1 => ?_, ?_⟩
        · rw [zwr_ne _ _ _ (by decide), zup_ne _ _ (by omega)]; exact s1 x x0 x1
        · rw [zwr_ne _ _ _ (by decide), zup_ne _ _ (by omega)]; exact s2 x x0 x1
        · rw [zwr_ne _ _ _ (by decide), zup_ne _ _ (by omega)]; exact s3 x x0 x1
        · rw [zwr_same, zup_same]
      · refine zw_iload 50 dX5_yearsUntil_48 rfl rfl ?_
        refine zw_iret dX5_yearsUntil_50 rfl ?_
        first
          | (exfalso; omega)
          | exact ⟨by rw [if_pos (by rw [decide_eq_true_eq]; omega)], g2⟩
theorem sp_X5_yearsUntil {l : Launch} {d : Nat} {σ : zMem} (hd : 4 ≤ d) {N : zR} (hC : zCh σ 2 N) (hV : zVN N) {c s t x : Int} (hc : 0 ≤ c ∧ c < N 48) (hs0 : -1 ≤ s ∧ s < N 33) (ht : 0 ≤ t ∧ t < 4) (hx : -2147483648 ≤ x ∧ x < 2147483648)  : zSp l d mX5_yearsUntil [.ref 1, .int (zI c), .int (zI s), .int (zI t), .int (zI x)] σ (fun v σ1 => v = some (.int (zI (zff (fun n => decide (x ≤ zan N c n (zup N c s) (5 + 4 * c + t))) 0 61))) ∧ ∀ r, ¬ (102 ≤ r ∧ r ≤ 105) → σ1 r = σ r) := by
  refine zSp_of oX5_yearsUntil (Nat.le_of_ble_eq_true rfl) ?_
  show zw l d mX5_yearsUntil 0 [some (.ref 1), some (.int (zI c)), some (.int (zI s)), some (.int (zI t)), some (.int (zI x)), none] [] σ _
  have hs := hV.1
  have hv := hV.2.1
  have hy := hV.2.2.1
  have h48 := hs.2.1
  have hvw : zVw N (zup N c s) c := ⟨by rw [zup_same]; exact hs0, fun i i0 i1 => by rw [zup_ne _ _ (by omega)]; exact hv.2.1 i i0 i1, fun i i0 i1 => by rw [zup_ne _ _ (by omega)]; exact hv.2.2.1 i i0 i1⟩
  refine zw_aload_n 1 dX5_yearsUntil_0 rfl rfl ?_
  refine zw_getr 4 (102) (o := 101) dX5_yearsUntil_1 rfl fX5_30 (by decide) rfl rfl ly1 ?_
  refine zw_aload_n 5 dX5_yearsUntil_4 rfl rfl ?_
  refine zw_getr 8 (2) (o := 1) dX5_yearsUntil_5 rfl fX5_10 (by decide) rfl rfl ly1 ?_
  refine zw_getr 11 (8) (o := 6) dX5_yearsUntil_8 rfl fX5_131 (by decide) rfl rfl ly2 ?_
  refine zw_callV 14 _ _ dX5_yearsUntil_11 rfl kX5_209 qX2_become ly102 ⟨_, rfl, rfl⟩ (by decide) (sp_X2_become (d := d - 1) (by omega) ly102 ly8 (by omega) hC.1.2.1) (by omega) rfl rfl (Nat.le_of_ble_eq_true rfl) (fun r σ' hq => ?_)
  obtain ⟨rfl, q1, q2⟩ := hq
  refine zw_aload_n 15 dX5_yearsUntil_14 rfl rfl ?_
  refine zw_getr 18 (102) (o := 101) dX5_yearsUntil_15 rfl fX5_30 (by decide) rfl rfl ly1 ?_
  refine zw_getr 21 (103) (o := 1) dX5_yearsUntil_18 rfl fX5_141 (by decide) rfl rfl ly102 ?_
  refine zw_iload_n 22 dX5_yearsUntil_21 rfl rfl ?_
  refine zw_iload_n 23 dX5_yearsUntil_22 rfl rfl ?_
  refine zw_iast 24 dX5_yearsUntil_23 rfl ly103 (by omega) ?_
  refine zw_iconst 25 dX5_yearsUntil_24 rfl ?_
  refine zw_istore 27 dX5_yearsUntil_25 rfl (by decide) ?_
  refine lp_X5_yearsUntil hd hC hV hc hs0 ht hx 61 0 (by omega) _ ?_ (fun r hr => (zwr_ne _ _ _ (by omega)).trans (q2 r (by omega)))
  show zSc _ 102 (zup N c s)
  obtain ⟨s1, s2, s3, s4⟩ := q1
  refine ⟨fun x x0 x1 => ?_, fun x x0 x1 => ?_, fun x x0 x1 => ?_, ?_⟩
  · unfold zwr
    rw [zwa_same]; unfold zup
    by_cases q : x = c
    · rw [if_pos q, if_pos q]
    · rw [if_neg q, if_neg q]; exact s1 x x0 x1
  · rw [zwr_ne _ _ _ (by decide), zup_ne _ _ (by omega)]; exact s2 x x0 x1
  · rw [zwr_ne _ _ _ (by decide), zup_ne _ _ (by omega)]; exact s3 x x0 x1
  · rw [zwr_ne _ _ _ (by decide), zup_ne _ _ (by omega)]; exact s4
