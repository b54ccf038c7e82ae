theorem sp_X5_within {l : Launch} {d : Nat} {σ : zMem} {v a b : Int} (hv : -2147483648 ≤ v ∧ v < 2147483648) (ha : -2147483648 ≤ a ∧ a < 2147483648) (hb : -2147483648 ≤ b ∧ b < 2147483648)  : zSp l d mX5_within [.int (zI v), .int (zI a), .int (zI b)] σ (zRi (if a ≤ v ∧ v ≤ b then 1 else 0) σ) := by
  refine zSp_of oX5_within (Nat.le_of_ble_eq_true rfl) ?_
  show zw l d mX5_within 0 [some (.int (zI v)), some (.int (zI a)), some (.int (zI b))] [] σ _
  refine zw_iload_n 1 dX5_within_0 rfl rfl ?_
  refine zw_iload_n 2 dX5_within_1 rfl rfl ?_
  refine zw_icmp_lt 14 5 dX5_within_2 (by decide) rfl (by omega) (by omega) (fun h2 => ?_) (fun h2 => ?_)
  · refine zw_iconst 15 dX5_within_14 rfl ?_
    refine zw_zret dX5_within_15 rfl (by omega) ?_
    first
      | exact zRi_of (by rw [if_pos (by omega)])
      | exact zRi_of (by rw [if_neg (by omega)])
  · refine zw_iload_n 6 dX5_within_5 rfl rfl ?_
    refine zw_iload_n 7 dX5_within_6 rfl rfl ?_
    refine zw_icmp_gt 14 10 dX5_within_7 (by decide) rfl (by omega) (by omega) (fun h7 => ?_) (fun h7 => ?_)
    · refine zw_iconst 15 dX5_within_14 rfl ?_
      refine zw_zret dX5_within_15 rfl (by omega) ?_
      first
        | exact zRi_of (by rw [if_pos (by omega)])
        | exact zRi_of (by rw [if_neg (by omega)])
    · refine zw_iconst 11 dX5_within_10 rfl ?_
      refine zw_goto 15 dX5_within_11 (by decide) ?_
      refine zw_zret dX5_within_15 rfl (by omega) ?_
      first
        | exact zRi_of (by rw [if_pos (by omega)])
        | exact zRi_of (by rw [if_neg (by omega)])
/-- the reader's memory: its cell g, its numbers f -/
def zM4 (σ : zMem) (g f : zR) : zMem := zwa (zwa σ 108 f) 106 g
theorem zM4_106 (σ : zMem) (g f : zR) : zM4 σ g f 106 = g := zwa_same _ _ _
theorem zM4_108 (σ : zMem) (g f : zR) : zM4 σ g f 108 = f := by unfold zM4; rw [zwa_ne _ _ (by decide), zwa_same]
theorem zM4_ne (σ : zMem) (g f : zR) {b : Nat} (h1 : b ≠ 106) (h2 : b ≠ 108) : zM4 σ g f b = σ b := by unfold zM4; rw [zwa_ne _ _ h1, zwa_ne _ _ h2]
theorem zM4_id (σ : zMem) : zM4 σ (σ 106) (σ 108) = σ := by unfold zM4; rw [zwa_id, zwa_id]
theorem zM4_g (σ : zMem) (g f : zR) (i x : Int) : zwr (zM4 σ g f) 106 i x = zM4 σ (zup g i x) f := by unfold zM4; rw [zwr_wa]
theorem zM4_f (σ : zMem) (g f : zR) (i x : Int) : zwr (zM4 σ g f) 108 i x = zM4 σ g (zup f i x) := by
  unfold zwr; rw [zM4_108]; unfold zM4; rw [zwa_comm _ _ _ (by decide), zwa_twice]
theorem zt7_4 {σ : zMem} {tx : zR} {n : Int} (f : zR) (h : zt7 σ tx n) : zt7 (zwa σ 108 f) tx n := fun i h0 h1 => by rw [zwa_ne _ _ (by decide)]; exact h i h0 h1
theorem sq_X4_step {l : Launch} {d : Nat} {σ : zMem} (hd : 2 ≤ d) {tx : zR} {n : Int} (hx : ztx tx n) (h7 : zt7 σ tx n) {g f : zR} {i : Int} (hi : 0 ≤ i ∧ i ≤ n) (h3 : g 3 = i) (h1 : g 1 = n) : zSp l d mX4_step [.ref 106] (zM4 σ g f) (fun a σ1 => ∃ g', a = none ∧ σ1 = zM4 σ g' f ∧ zCo tx n i g g') := sp_X4_step hd hx (zt7_4 f h7) hi h3 h1
theorem sq_X4_takeStop {l : Launch} {d : Nat} {σ : zMem} (hd : 3 ≤ d) {tx : zR} {n : Int} (hx : ztx tx n) (h7 : zt7 σ tx n) {g f : zR} {i : Int} (hi : 0 ≤ i ∧ i ≤ n) (h3 : g 3 = i) (h1 : g 1 = n) : zSp l d mX4_takeStop [.ref 106] (zM4 σ g f) (fun a σ1 => ∃ g', a = some (.int (zI (if zTk tx n i = 3 then 1 else 0))) ∧ σ1 = zM4 σ g' f ∧ zCo tx n i g g') := sp_X4_takeStop hd hx (zt7_4 f h7) hi h3 h1
theorem sp_X4_takeNumber {l : Launch} {d : Nat} {σ : zMem} (hd : 3 ≤ d) {tx : zR} {n : Int} (hx : ztx tx n) (h7 : zt7 σ tx n) {g f : zR} {i : Int} (hi0 : 0 ≤ i ∧ i ≤ n) (h3 : g 3 = i) (h1 : g 1 = n) {ix lo hi : Int} (hix : 0 ≤ ix ∧ ix < 3) (hlo : -1 ≤ lo ∧ lo ≤ 999) (hhi : -1 ≤ hi ∧ hi ≤ 999) : zSp l d mX4_takeNumber [.ref 106, .int (zI ix), .int (zI lo), .int (zI hi)] (zM4 σ g f) (fun a σ1 => ∃ g', a = some (.int (zI (zNb tx n i lo hi))) ∧ σ1 = zM4 σ g' (zup f ix (g' 5)) ∧ zCo tx n i g g') := by
  refine zSp_of oX4_takeNumber (Nat.le_of_ble_eq_true rfl) ?_
  show zw l d mX4_takeNumber 0 [some (.ref 106), some (.int (zI ix)), some (.int (zI lo)), some (.int (zI hi))] [] (zM4 σ g f) _
  have hkb := zTk_b tx n i
  refine zw_aload_n 1 dX4_takeNumber_0 rfl rfl ?_
  refine zw_callV 4 _ _ dX4_takeNumber_1 rfl kX4_28 qX4_step ly106 ⟨_, rfl, rfl⟩ (by decide) (sq_X4_step (d := d - 1) (by omega) hx h7 (g := g) (f := f) (i := i) hi0 h3 h1) (by omega) rfl rfl (Nat.le_of_ble_eq_true rfl) (fun r σ' hq => ?_)
  obtain ⟨g1, rfl, rfl, ho⟩ := hq
  refine zw_aload_n 5 dX4_takeNumber_4 rfl rfl ?_
  refine zw_getr 8 (108) (o := 2) dX4_takeNumber_5 rfl fX4_15 (by decide) rfl rfl ly106 ?_
  refine zw_iload_n 9 dX4_takeNumber_8 rfl rfl ?_
  refine zw_aload_n 10 dX4_takeNumber_9 rfl rfl ?_
  refine zw_gti 13 5 dX4_takeNumber_10 rfl fX4_84 (by decide) rfl rfl ly106 ?_
  rw [zM4_106]
  refine zw_iast 14 dX4_takeNumber_13 rfl ly108 (by omega) ?_
  rw [zM4_f]
  refine zw_aload_n 15 dX4_takeNumber_14 rfl rfl ?_
  refine zw_gti 18 4 dX4_takeNumber_15 rfl fX4_31 (by decide) rfl rfl ly106 ?_
  rw [zM4_106, ho.2.2.2.1]
  refine zw_iconst 19 dX4_takeNumber_18 rfl ?_
  refine zw_icmp_ne 38 22 dX4_takeNumber_19 (by decide) rfl (by omega) (by omega) (fun h19 => ?_) (fun h19 => ?_)
  · refine zw_iconst 39 dX4_takeNumber_38 rfl ?_
    refine zw_zret dX4_takeNumber_39 rfl (by omega) ?_
    first
      | exact ⟨g1, by unfold zNb; rw [if_pos ⟨by omega, by omega, by omega⟩], rfl, ho⟩
      | exact ⟨g1, by unfold zNb; rw [if_neg (fun q => by omega)], rfl, ho⟩
  · refine zw_aload_n 23 dX4_takeNumber_22 rfl rfl ?_
    refine zw_gti 26 5 dX4_takeNumber_23 rfl fX4_84 (by decide) rfl rfl ly106 ?_
    rw [zM4_106]
    have hv := ho.2.2.2.2 (by omega)
    refine zw_iload_n 27 dX4_takeNumber_26 rfl rfl ?_
    refine zw_iload_n 28 dX4_takeNumber_27 rfl rfl ?_
    refine zw_callN 31 _ _ dX4_takeNumber_28 rfl kX4_87 qX5_within (sp_X5_within (d := d - 1) (v := g1 5) (a := lo) (b := hi) (by omega) (by omega) (by omega)) (by omega) rfl rfl (Nat.le_of_ble_eq_true rfl) (fun r σ' hq => ?_)
    obtain ⟨rfl, rfl⟩ := hq
    refine zw_if_eq 38 34 dX4_takeNumber_31 (by decide) rfl (by omega) (fun h31 => ?_) (fun h31 => ?_)
    · refine zw_iconst 39 dX4_takeNumber_38 rfl ?_
      refine zw_zret dX4_takeNumber_39 rfl (by omega) ?_
      first
        | exact ⟨g1, by unfold zNb; rw [if_pos ⟨by omega, by omega, by omega⟩], rfl, ho⟩
        | exact ⟨g1, by unfold zNb; rw [if_neg (fun q => by omega)], rfl, ho⟩
    · refine zw_iconst 35 dX4_takeNumber_34 rfl ?_
      refine zw_goto 39 dX4_takeNumber_35 (by decide) ?_
      refine zw_zret dX4_takeNumber_39 rfl (by omega) ?_
      first
        | exact ⟨g1, by unfold zNb; rw [if_pos ⟨by omega, by omega, by omega⟩], rfl, ho⟩
        | exact ⟨g1, by unfold zNb; rw [if_neg (fun q => by omega)], rfl, ho⟩
/-- the class's item: its end, its word, its numbers; or where the fault begins -/
def zcSt (tx : zR) (n i : Int) (X : Int × Int × Int × Int) : Except Int (Int × Int × Int × Int × Int) := if zTk tx n i = 3 then .ok (zTe tx n i, X) else .error (zTb tx n i)
def zcE (tx : zR) (n i lo hi : Int) (K : Int → Int → Except Int (Int × Int × Int × Int × Int)) : Except Int (Int × Int × Int × Int × Int) := if zNb tx n i lo hi = 1 then K (zTe tx n i) (zTv tx n i) else .error (zTb tx n i)
def zcSeat (tx : zR) (n i b : Int) (r : zR) : Except Int (Int × Int × Int × Int × Int) := if 7 ≤ r 33 then .error b else zcE tx n i 0 5 (fun i1 v1 => zcE tx n i1 0 3 (fun i2 v2 => zcE tx n i2 0 40 (fun i3 v3 => zcSt tx n i3 (1, v1, v2, v3))))
def zcCanon (tx : zR) (n i b : Int) (r : zR) : Except Int (Int × Int × Int × Int × Int) := if 5 ≤ r 48 then .error b else zcE tx n i 0 5 (fun i1 v1 => zcE tx n i1 1 9 (fun i2 v2 => zcSt tx n i2 (2, v1, v2, 0)))
def zcSit (tx : zR) (n i : Int) (r : zR) : Except Int (Int × Int × Int × Int × Int) := zcE tx n i 0 (r 48 - 1) (fun i1 c => zcE tx n i1 0 (r 33 - 1) (fun i2 s => if s ≠ -1 ∧ zwo r s ≠ -1 ∧ zwo r s ≠ c then .error (zTb tx n i1) else zcSt tx n i2 (3, c, s, 0)))
def zcYears (tx : zR) (n i : Int) : Except Int (Int × Int × Int × Int × Int) := zcE tx n i 1 30 (fun i1 v => zcSt tx n i1 (4, v, 0, 0))
def zcIt (tx : zR) (n b e c : Int) (r : zR) (w : Int) : Except Int (Int × Int × Int × Int × Int) := if (c = 0 ∧ w ≠ 0) ∨ (c ≠ 0 ∧ w = 0) then .error b else if w = 0 then zcSt tx n e (0, 0, 0, 0) else if w = 1 then zcSeat tx n e b r else if w = 2 then zcCanon tx n e b r else if w = 3 then zcSit tx n e r else if w = 4 then zcYears tx n e else .error b
def zcItem (tx : zR) (n i c : Int) (r : zR) : Except Int (Int × Int × Int × Int × Int) := zcIt tx n (zTb tx n i) (zTe tx n i) c r (if zTk tx n i = 1 then zwW tx (zTb tx n i) (zTe tx n i) else -1)
def zcP (res : Except Int (Int × Int × Int × Int × Int)) (a : Option Value) (g f : zR) : Prop := match res with
  | .error b => a = some (.int (zI 0)) ∧ g 2 = b
  | .ok (j, w, v0, v1, v2) => a = some (.int (zI 1)) ∧ g 3 = j ∧ g 6 = w ∧ (w ≠ 0 → f 0 = v0) ∧ (w = 1 ∨ w = 2 ∨ w = 3 → f 1 = v1) ∧ (w = 1 → f 2 = v2)
def zcQ (σ : zMem) (n : Int) (res : Except Int (Int × Int × Int × Int × Int)) : Option Value → zMem → Prop := fun a σ1 => ∃ g f, σ1 = zM4 σ g f ∧ g 1 = n ∧ (0 ≤ g 3 ∧ g 3 ≤ n) ∧ zcP res a g f
