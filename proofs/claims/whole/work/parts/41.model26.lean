/-- the reader's memory: its row g, the row r being read -/
def zM2 (σ : zMem) (g r : zR) : zMem := zwa (zwa σ 217 g) 219 r
theorem zM2_217 (σ : zMem) (g r : zR) : zM2 σ g r 217 = g := by unfold zM2; rw [zwa_ne _ _ (by decide), zwa_same]
theorem zM2_219 (σ : zMem) (g r : zR) : zM2 σ g r 219 = r := zwa_same _ _ _
theorem zM2_ne (σ : zMem) (g r : zR) {b : Nat} (h1 : b ≠ 217) (h2 : b ≠ 219) : zM2 σ g r b = σ b := by unfold zM2; rw [zwa_ne _ _ h2, zwa_ne _ _ h1]
theorem zM2_id (σ : zMem) : zM2 σ (σ 217) (σ 219) = σ := by unfold zM2; rw [zwa_id, zwa_id]
theorem zM2_a (σ : zMem) (g r f : zR) : zwa (zM2 σ g r) 217 f = zM2 σ f r := by unfold zM2; rw [zwa_comm _ _ _ (by decide), zwa_twice]
theorem zM2_b (σ : zMem) (g r f : zR) : zwa (zM2 σ g r) 219 f = zM2 σ g f := by unfold zM2; rw [zwa_twice]
theorem zM2_r (σ : zMem) (g r : zR) (i x : Int) : zwr (zM2 σ g r) 219 i x = zM2 σ g (zup r i x) := by unfold zwr; rw [zM2_219, zM2_b]
theorem zM2_g (σ : zMem) (g r : zR) (i x : Int) : zwr (zM2 σ g r) 217 i x = zM2 σ (zup g i x) r := by unfold zwr; rw [zM2_217, zM2_a]
/-- a number at i from lo to hi, then K of where it ends and of what it is; or where it begins -/
def zrE (tx : zR) (n i lo hi : Int) (K : Int → Int → Except Int (Int × zR)) : Except Int (Int × zR) := if zNb tx n i lo hi = 1 then K (zTe tx n i) (zTv tx n i) else .error (zTb tx n i)
def zrSeat (tx : zR) (n i b : Int) (r : zR) : Except Int (Int × zR) := if r 33 = 7 then .error b else
  zrE tx n i 0 5 (fun i1 v1 => zrE tx n i1 0 3 (fun i2 v2 => zrE tx n i2 0 40 (fun i3 v3 =>
    .ok (i3, zup (zup (zup (zup r (34 + r 33) v1) (41 + r 33) v2) (25 + r 33) v3) 33 (r 33 + 1)))))
def zrCanon (tx : zR) (n i b : Int) (r : zR) : Except Int (Int × zR) := if r 48 = 5 then .error b else
  zrE tx n i 0 5 (fun i1 v1 => zrE tx n i1 1 9 (fun i2 v2 =>
    .ok (i2, zup (zup (zup r (49 + r 48) v1) (54 + r 48) v2) 48 (r 48 + 1))))
/-- what a reading leaves: the answer, the reader's row, the row -/
def zrD (σ : zMem) (g0 : zR) (n : Int) (res : Except Int (Int × zR)) : Option Value → zMem → Prop := fun a σ1 => ∃ g r, σ1 = zM2 σ g r ∧ (∀ j, j < 10 ∨ 17 < j → g j = g0 j) ∧ (0 ≤ g 10 ∧ g 10 ≤ n) ∧ (0 ≤ g 11 ∧ g 11 ≤ n) ∧
  match res with
  | .error b => a = some (.int (zI 0)) ∧ g 11 = b
  | .ok (i, r') => a = some (.int (zI 1)) ∧ g 10 = i ∧ r = r'
theorem zTo_tr {tx : zR} {n i i' : Int} {g0 g g' : zR} (h : ∀ j, j < 10 ∨ 17 < j → g j = g0 j) (h' : zTo tx n i' g g') : ∀ j, j < 10 ∨ 17 < j → g' j = g0 j := fun j hj => (h'.1 j hj).trans (h j hj)
theorem sn_X6_number {l : Launch} {d : Nat} {σ : zMem} {g r : zR} {n lo hi : Int} (hd : 4 ≤ d) (hlo : -1 ≤ lo ∧ lo ≤ 999) (hhi : -1 ≤ hi ∧ hi ≤ 999) (hx : ztx (σ 223) n) (h6 : g 6 = n) (hi0 : 0 ≤ g 10 ∧ g 10 ≤ n) : zSp l d mX6_number [.ref 217, .int (zI lo), .int (zI hi)] (zM2 σ g r) (fun a σ1 => ∃ g' : zR, a = some (.int (zI (zNb (σ 223) n (g 10) lo hi))) ∧ σ1 = zM2 σ g' r ∧ zTo (σ 223) n (g 10) g g' ∧ g' 6 = n) := by
  have e1 := zM2_217 σ g r
  have e2 : zM2 σ g r 223 = σ 223 := zM2_ne σ g r (by decide) (by decide)
  refine zSp_mono (sp_X6_number (σ := zM2 σ g r) hd hlo hhi (by rw [e1, e2, h6]; exact hx) (by rw [e1, h6]; exact hi0)) (fun a σ1 hq => ?_)
  obtain ⟨g', h1, h2, h3⟩ := hq
  rw [e1, e2, h6] at h1 h3
  rw [zM2_a] at h2
  exact ⟨g', h1, h2, h3, (h3.1 6 (by omega)).trans h6⟩
theorem sp_X6_readsCanon {l : Launch} {d : Nat} {σ : zMem} {g r : zR} {n : Int} (hd : 5 ≤ d) (hx : ztx (σ 223) n) (h6 : g 6 = n) (hi0 : 0 ≤ g 10 ∧ g 10 ≤ n) (hi1 : 0 ≤ g 11 ∧ g 11 ≤ n) (hr : 0 ≤ r 48 ∧ r 48 ≤ 5) : zSp l d mX6_readsCanon [.ref 217] (zM2 σ g r) (zrD σ g n (zrCanon (σ 223) n (g 10) (g 11) r)) := by
  refine zSp_of oX6_readsCanon (Nat.le_of_ble_eq_true rfl) ?_
  show zw l d mX6_readsCanon 0 [some (.ref 217), none] [] (zM2 σ g r) _
  unfold zrCanon
  refine zw_aload_n 1 dX6_readsCanon_0 rfl rfl ?_
  refine zw_getr 4 (219) (o := 2) dX6_readsCanon_1 rfl fX6_13 (by decide) rfl rfl ly217 ?_
  refine zw_bipush 6 dX6_readsCanon_4 rfl (by decide) ?_
  refine zw_iald 7 dX6_readsCanon_6 rfl ly219 (by omega) ?_
  try simp (disch := decide) only [zM2_r, zM2_g, zM2_217, zM2_219, zM2_ne]
  refine zw_istore_n 8 dX6_readsCanon_7 rfl (by decide) ?_
  refine zw_iload_n 9 dX6_readsCanon_8 rfl rfl ?_
  refine zw_iconst 10 dX6_readsCanon_9 rfl ?_
  refine zw_icmp_eq 22 13 dX6_readsCanon_10 (by decide) rfl (by omega) (by omega) (fun h10 => ?_) (fun h10 => ?_)
  · refine zw_iconst 23 dX6_readsCanon_22 rfl ?_
    refine zw_zret dX6_readsCanon_23 rfl (by omega) ?_
    first
      | (rw [if_pos (show r 48 = 5 by omega)]; exact ⟨g, r, rfl, fun _ _ => rfl, hi0, hi1, rfl, rfl⟩)
      | (rw [if_neg (show ¬ zNb (σ 223) n (g 10) 0 5 = 1 by omega)]; exact ⟨g1, _, rfl, ho1.1, by omega, by omega, rfl, ob1⟩)
  · rw [if_neg (show ¬ r 48 = 5 by omega)]
    unfold zrE
    refine zw_aload_n 14 dX6_readsCanon_13 rfl rfl ?_
    refine zw_iconst 15 dX6_readsCanon_14 rfl ?_
    refine zw_iconst 16 dX6_readsCanon_15 rfl ?_
    refine zw_callV 19 _ _ dX6_readsCanon_16 rfl kX6_158 qX6_number ly217 ⟨_, rfl, rfl⟩ (by decide) (sn_X6_number (d := d - 1) (σ := σ) (g := g) (n := n) (lo := 0) (hi := 5) (by omega) (by omega) (by omega) hx (by assumption) (by omega)) (by omega) rfl rfl (Nat.le_of_ble_eq_true rfl) (fun r σ' hq => ?_)
    obtain ⟨g1, rfl, rfl, ho1, h61⟩ := hq
    have nb1 := zNb_b (σ 223) n (g 10) 0 5
    have op1 := ho1.2.1
    have ob1 := ho1.2.2.1
    have oz1 := ho1.2.2.2.2.2.2
    refine zw_if_ne 24 22 dX6_readsCanon_19 (by decide) rfl (by omega) (fun h19 => ?_) (fun h19 => ?_)
    · rw [if_pos (show zNb (σ 223) n (g 10) 0 5 = 1 by omega)]
      have on1 := zNb_1 (tx := σ 223) (n := n) (i := g 10) (lo := 0) (hi := 5) (by omega)
      have ov1 := ho1.2.2.2.2.1 on1.1
      rw [← op1, ← ov1.1]
      refine zw_aload_n 25 dX6_readsCanon_24 rfl rfl ?_
      refine zw_getr 28 (219) (o := 2) dX6_readsCanon_25 rfl fX6_13 (by decide) rfl rfl ly217 ?_
      refine zw_bipush 30 dX6_readsCanon_28 rfl (by decide) ?_
      refine zw_iload_n 31 dX6_readsCanon_30 rfl rfl ?_
      refine zw_iadd 32 dX6_readsCanon_31 rfl ?_
      refine zw_aload_n 33 dX6_readsCanon_32 rfl rfl ?_
      refine zw_gti 36 14 dX6_readsCanon_33 rfl fX6_129 (by decide) rfl rfl ly217 ?_
      try simp (disch := decide) only [zM2_r, zM2_g, zM2_217, zM2_219, zM2_ne]
      refine zw_iast 37 dX6_readsCanon_36 rfl ly219 (by omega) ?_
      try simp (disch := decide) only [zM2_r, zM2_g, zM2_217, zM2_219, zM2_ne]
      refine zw_aload_n 38 dX6_readsCanon_37 rfl rfl ?_
      refine zw_iconst 39 dX6_readsCanon_38 rfl ?_
      refine zw_bipush 41 dX6_readsCanon_39 rfl (by decide) ?_
      refine zw_callV 44 _ _ dX6_readsCanon_41 rfl kX6_158 qX6_number ly217 ⟨_, rfl, rfl⟩ (by decide) (sn_X6_number (d := d - 1) (σ := σ) (g := g1) (n := n) (lo := 1) (hi := 9) (by omega) (by omega) (by omega) hx (by assumption) (by omega)) (by omega) rfl rfl (Nat.le_of_ble_eq_true rfl) (fun r σ' hq => ?_)
      obtain ⟨g2, rfl, rfl, ho2, h62⟩ := hq
      have nb2 := zNb_b (σ 223) n (g1 10) 1 9
      have op2 := ho2.2.1
      have ob2 := ho2.2.2.1
      have oz2 := ho2.2.2.2.2.2.2
      refine zw_if_ne 49 47 dX6_readsCanon_44 (by decide) rfl (by omega) (fun h44 => ?_) (fun h44 => ?_)
      · rw [if_pos (show zNb (σ 223) n (g1 10) 1 9 = 1 by omega)]
        have on2 := zNb_1 (tx := σ 223) (n := n) (i := g1 10) (lo := 1) (hi := 9) (by omega)
        have ov2 := ho2.2.2.2.2.1 on2.1
        rw [← op2, ← ov2.1]
        refine zw_aload_n 50 dX6_readsCanon_49 rfl rfl ?_
        refine zw_getr 53 (219) (o := 2) dX6_readsCanon_50 rfl fX6_13 (by decide) rfl rfl ly217 ?_
        refine zw_bipush 55 dX6_readsCanon_53 rfl (by decide) ?_
        refine zw_iload_n 56 dX6_readsCanon_55 rfl rfl ?_
        refine zw_iadd 57 dX6_readsCanon_56 rfl ?_
        refine zw_aload_n 58 dX6_readsCanon_57 rfl rfl ?_
        refine zw_gti 61 14 dX6_readsCanon_58 rfl fX6_129 (by decide) rfl rfl ly217 ?_
        try simp (disch := decide) only [zM2_r, zM2_g, zM2_217, zM2_219, zM2_ne]
        refine zw_iast 62 dX6_readsCanon_61 rfl ly219 (by omega) ?_
        try simp (disch := decide) only [zM2_r, zM2_g, zM2_217, zM2_219, zM2_ne]
        refine zw_aload_n 63 dX6_readsCanon_62 rfl rfl ?_
        refine zw_getr 66 (219) (o := 2) dX6_readsCanon_63 rfl fX6_13 (by decide) rfl rfl ly217 ?_
        refine zw_bipush 68 dX6_readsCanon_66 rfl (by decide) ?_
        refine zw_dup2_11 69 dX6_readsCanon_68 rfl rfl rfl ?_
        refine zw_iald 70 dX6_readsCanon_69 rfl ly219 (by omega) ?_
        try simp (disch := decide) only [zM2_r, zM2_g, zM2_217, zM2_219, zM2_ne]
        refine zw_iconst 71 dX6_readsCanon_70 rfl ?_
        refine zw_iadd 72 dX6_readsCanon_71 rfl ?_
        refine zw_iast 73 dX6_readsCanon_72 rfl ly219 (by omega) ?_
        try simp (disch := decide) only [zM2_r, zM2_g, zM2_217, zM2_219, zM2_ne]
        refine zw_iconst 74 dX6_readsCanon_73 rfl ?_
        refine zw_zret dX6_readsCanon_74 rfl (by omega) ?_
        exact ⟨g2, _, rfl, (fun j hj => (ho2.1 j hj).trans (ho1.1 j hj)), by omega, by omega, rfl, rfl, by simp (disch := omega) only [zup_ne]⟩
      · refine zw_iconst 48 dX6_readsCanon_47 rfl ?_
        refine zw_zret dX6_readsCanon_48 rfl (by omega) ?_
        rw [if_neg (show ¬ zNb (σ 223) n (g1 10) 1 9 = 1 by omega)]
        exact ⟨g2, _, rfl, (fun j hj => (ho2.1 j hj).trans (ho1.1 j hj)), by omega, by omega, rfl, ob2⟩
    · refine zw_iconst 23 dX6_readsCanon_22 rfl ?_
      refine zw_zret dX6_readsCanon_23 rfl (by omega) ?_
      first
        | (rw [if_pos (show r 48 = 5 by omega)]; exact ⟨g, r, rfl, fun _ _ => rfl, hi0, hi1, rfl, rfl⟩)
        | (rw [if_neg (show ¬ zNb (σ 223) n (g 10) 0 5 = 1 by omega)]; exact ⟨g1, _, rfl, ho1.1, by omega, by omega, rfl, ob1⟩)
theorem sp_X6_readsSeat {l : Launch} {d : Nat} {σ : zMem} {g r : zR} {n : Int} (hd : 5 ≤ d) (hx : ztx (σ 223) n) (h6 : g 6 = n) (hi0 : 0 ≤ g 10 ∧ g 10 ≤ n) (hi1 : 0 ≤ g 11 ∧ g 11 ≤ n) (hr : 0 ≤ r 33 ∧ r 33 ≤ 7) : zSp l d mX6_readsSeat [.ref 217] (zM2 σ g r) (zrD σ g n (zrSeat (σ 223) n (g 10) (g 11) r)) := by
  refine zSp_of oX6_readsSeat (Nat.le_of_ble_eq_true rfl) ?_
  show zw l d mX6_readsSeat 0 [some (.ref 217), none] [] (zM2 σ g r) _
  unfold zrSeat
  refine zw_aload_n 1 dX6_readsSeat_0 rfl rfl ?_
  refine zw_getr 4 (219) (o := 2) dX6_readsSeat_1 rfl fX6_13 (by decide) rfl rfl ly217 ?_
  refine zw_bipush 6 dX6_readsSeat_4 rfl (by decide) ?_
  refine zw_iald 7 dX6_readsSeat_6 rfl ly219 (by omega) ?_
  try simp (disch := decide) only [zM2_r, zM2_g, zM2_217, zM2_219, zM2_ne]
  refine zw_istore_n 8 dX6_readsSeat_7 rfl (by decide) ?_
  refine zw_iload_n 9 dX6_readsSeat_8 rfl rfl ?_
  refine zw_bipush 11 dX6_readsSeat_9 rfl (by decide) ?_
  refine zw_icmp_eq 23 14 dX6_readsSeat_11 (by decide) rfl (by omega) (by omega) (fun h11 => ?_) (fun h11 => ?_)
  · refine zw_iconst 24 dX6_readsSeat_23 rfl ?_
    refine zw_zret dX6_readsSeat_24 rfl (by omega) ?_
    first
      | (rw [if_pos (show r 33 = 7 by omega)]; exact ⟨g, r, rfl, fun _ _ => rfl, hi0, hi1, rfl, rfl⟩)
      | (rw [if_neg (show ¬ zNb (σ 223) n (g 10) 0 5 = 1 by omega)]; exact ⟨g1, _, rfl, ho1.1, by omega, by omega, rfl, ob1⟩)
  · rw [if_neg (show ¬ r 33 = 7 by omega)]
    unfold zrE
    refine zw_aload_n 15 dX6_readsSeat_14 rfl rfl ?_
    refine zw_iconst 16 dX6_readsSeat_15 rfl ?_
    refine zw_iconst 17 dX6_readsSeat_16 rfl ?_
    refine zw_callV 20 _ _ dX6_readsSeat_17 rfl kX6_158 qX6_number ly217 ⟨_, rfl, rfl⟩ (by decide) (sn_X6_number (d := d - 1) (σ := σ) (g := g) (n := n) (lo := 0) (hi := 5) (by omega) (by omega) (by omega) hx (by assumption) (by omega)) (by omega) rfl rfl (Nat.le_of_ble_eq_true rfl) (fun r σ' hq => ?_)
    obtain ⟨g1, rfl, rfl, ho1, h61⟩ := hq
    have nb1 := zNb_b (σ 223) n (g 10) 0 5
    have op1 := ho1.2.1
    have ob1 := ho1.2.2.1
    have oz1 := ho1.2.2.2.2.2.2
    refine zw_if_ne 25 23 dX6_readsSeat_20 (by decide) rfl (by omega) (fun h20 => ?_) (fun h20 => ?_)
    · rw [if_pos (show zNb (σ 223) n (g 10) 0 5 = 1 by omega)]
      have on1 := zNb_1 (tx := σ 223) (n := n) (i := g 10) (lo := 0) (hi := 5) (by omega)
      have ov1 := ho1.2.2.2.2.1 on1.1
      rw [← op1, ← ov1.1]
      refine zw_aload_n 26 dX6_readsSeat_25 rfl rfl ?_
      refine zw_getr 29 (219) (o := 2) dX6_readsSeat_26 rfl fX6_13 (by decide) rfl rfl ly217 ?_
      refine zw_bipush 31 dX6_readsSeat_29 rfl (by decide) ?_
      refine zw_iload_n 32 dX6_readsSeat_31 rfl rfl ?_
      refine zw_iadd 33 dX6_readsSeat_32 rfl ?_
      refine zw_aload_n 34 dX6_readsSeat_33 rfl rfl ?_
      refine zw_gti 37 14 dX6_readsSeat_34 rfl fX6_129 (by decide) rfl rfl ly217 ?_
      try simp (disch := decide) only [zM2_r, zM2_g, zM2_217, zM2_219, zM2_ne]
      refine zw_iast 38 dX6_readsSeat_37 rfl ly219 (by omega) ?_
      try simp (disch := decide) only [zM2_r, zM2_g, zM2_217, zM2_219, zM2_ne]
      refine zw_aload_n 39 dX6_readsSeat_38 rfl rfl ?_
      refine zw_iconst 40 dX6_readsSeat_39 rfl ?_
      refine zw_iconst 41 dX6_readsSeat_40 rfl ?_
      refine zw_callV 44 _ _ dX6_readsSeat_41 rfl kX6_158 qX6_number ly217 ⟨_, rfl, rfl⟩ (by decide) (sn_X6_number (d := d - 1) (σ := σ) (g := g1) (n := n) (lo := 0) (hi := 3) (by omega) (by omega) (by omega) hx (by assumption) (by omega)) (by omega) rfl rfl (Nat.le_of_ble_eq_true rfl) (fun r σ' hq => ?_)
      obtain ⟨g2, rfl, rfl, ho2, h62⟩ := hq
      have nb2 := zNb_b (σ 223) n (g1 10) 0 3
      have op2 := ho2.2.1
      have ob2 := ho2.2.2.1
      have oz2 := ho2.2.2.2.2.2.2
      refine zw_if_ne 49 47 dX6_readsSeat_44 (by decide) rfl (by omega) (fun h44 => ?_) (fun h44 => ?_)
      · rw [if_pos (show zNb (σ 223) n (g1 10) 0 3 = 1 by omega)]
        have on2 := zNb_1 (tx := σ 223) (n := n) (i := g1 10) (lo := 0) (hi := 3) (by omega)
        have ov2 := ho2.2.2.2.2.1 on2.1
        rw [← op2, ← ov2.1]
        refine zw_aload_n 50 dX6_readsSeat_49 rfl rfl ?_
        refine zw_getr 53 (219) (o := 2) dX6_readsSeat_50 rfl fX6_13 (by decide) rfl rfl ly217 ?_
        refine zw_bipush 55 dX6_readsSeat_53 rfl (by decide) ?_
        refine zw_iload_n 56 dX6_readsSeat_55 rfl rfl ?_
        refine zw_iadd 57 dX6_readsSeat_56 rfl ?_
        refine zw_aload_n 58 dX6_readsSeat_57 rfl rfl ?_
        refine zw_gti 61 14 dX6_readsSeat_58 rfl fX6_129 (by decide) rfl rfl ly217 ?_
        try simp (disch := decide) only [zM2_r, zM2_g, zM2_217, zM2_219, zM2_ne]
        refine zw_iast 62 dX6_readsSeat_61 rfl ly219 (by omega) ?_
        try simp (disch := decide) only [zM2_r, zM2_g, zM2_217, zM2_219, zM2_ne]
        refine zw_aload_n 63 dX6_readsSeat_62 rfl rfl ?_
        refine zw_iconst 64 dX6_readsSeat_63 rfl ?_
        refine zw_bipush 66 dX6_readsSeat_64 rfl (by decide) ?_
        refine zw_callV 69 _ _ dX6_readsSeat_66 rfl kX6_158 qX6_number ly217 ⟨_, rfl, rfl⟩ (by decide) (sn_X6_number (d := d - 1) (σ := σ) (g := g2) (n := n) (lo := 0) (hi := 40) (by omega) (by omega) (by omega) hx (by assumption) (by omega)) (by omega) rfl rfl (Nat.le_of_ble_eq_true rfl) (fun r σ' hq => ?_)
        obtain ⟨g3, rfl, rfl, ho3, h63⟩ := hq
        have nb3 := zNb_b (σ 223) n (g2 10) 0 40
        have op3 := ho3.2.1
        have ob3 := ho3.2.2.1
        have oz3 := ho3.2.2.2.2.2.2
        refine zw_if_ne 74 72 dX6_readsSeat_69 (by decide) rfl (by omega) (fun h69 => ?_) (fun h69 => ?_)
        · rw [if_pos (show zNb (σ 223) n (g2 10) 0 40 = 1 by omega)]
          have on3 := zNb_1 (tx := σ 223) (n := n) (i := g2 10) (lo := 0) (hi := 40) (by omega)
          have ov3 := ho3.2.2.2.2.1 on3.1
          rw [← op3, ← ov3.1]
          refine zw_aload_n 75 dX6_readsSeat_74 rfl rfl ?_
          refine zw_getr 78 (219) (o := 2) dX6_readsSeat_75 rfl fX6_13 (by decide) rfl rfl ly217 ?_
          refine zw_bipush 80 dX6_readsSeat_78 rfl (by decide) ?_
          refine zw_iload_n 81 dX6_readsSeat_80 rfl rfl ?_
          refine zw_iadd 82 dX6_readsSeat_81 rfl ?_
          refine zw_aload_n 83 dX6_readsSeat_82 rfl rfl ?_
          refine zw_gti 86 14 dX6_readsSeat_83 rfl fX6_129 (by decide) rfl rfl ly217 ?_
          try simp (disch := decide) only [zM2_r, zM2_g, zM2_217, zM2_219, zM2_ne]
          refine zw_iast 87 dX6_readsSeat_86 rfl ly219 (by omega) ?_
          try simp (disch := decide) only [zM2_r, zM2_g, zM2_217, zM2_219, zM2_ne]
          refine zw_aload_n 88 dX6_readsSeat_87 rfl rfl ?_
          refine zw_getr 91 (219) (o := 2) dX6_readsSeat_88 rfl fX6_13 (by decide) rfl rfl ly217 ?_
          refine zw_bipush 93 dX6_readsSeat_91 rfl (by decide) ?_
          refine zw_dup2_11 94 dX6_readsSeat_93 rfl rfl rfl ?_
          refine zw_iald 95 dX6_readsSeat_94 rfl ly219 (by omega) ?_
          try simp (disch := decide) only [zM2_r, zM2_g, zM2_217, zM2_219, zM2_ne]
          refine zw_iconst 96 dX6_readsSeat_95 rfl ?_
          refine zw_iadd 97 dX6_readsSeat_96 rfl ?_
          refine zw_iast 98 dX6_readsSeat_97 rfl ly219 (by omega) ?_
          try simp (disch := decide) only [zM2_r, zM2_g, zM2_217, zM2_219, zM2_ne]
          refine zw_iconst 99 dX6_readsSeat_98 rfl ?_
          refine zw_zret dX6_readsSeat_99 rfl (by omega) ?_
          exact ⟨g3, _, rfl, (fun j hj => (ho3.1 j hj).trans ((fun j hj => (ho2.1 j hj).trans (ho1.1 j hj)) j hj)), by omega, by omega, rfl, rfl, by simp (disch := omega) only [zup_ne]⟩
        · refine zw_iconst 73 dX6_readsSeat_72 rfl ?_
          refine zw_zret dX6_readsSeat_73 rfl (by omega) ?_
          rw [if_neg (show ¬ zNb (σ 223) n (g2 10) 0 40 = 1 by omega)]
          exact ⟨g3, _, rfl, (fun j hj => (ho3.1 j hj).trans ((fun j hj => (ho2.1 j hj).trans (ho1.1 j hj)) j hj)), by omega, by omega, rfl, ob3⟩
      · refine zw_iconst 48 dX6_readsSeat_47 rfl ?_
        refine zw_zret dX6_readsSeat_48 rfl (by omega) ?_
        rw [if_neg (show ¬ zNb (σ 223) n (g1 10) 0 3 = 1 by omega)]
        exact ⟨g2, _, rfl, (fun j hj => (ho2.1 j hj).trans (ho1.1 j hj)), by omega, by omega, rfl, ob2⟩
    · refine zw_iconst 24 dX6_readsSeat_23 rfl ?_
      refine zw_zret dX6_readsSeat_24 rfl (by omega) ?_
      first
        | (rw [if_pos (show r 33 = 7 by omega)]; exact ⟨g, r, rfl, fun _ _ => rfl, hi0, hi1, rfl, rfl⟩)
        | (rw [if_neg (show ¬ zNb (σ 223) n (g 10) 0 5 = 1 by omega)]; exact ⟨g1, _, rfl, ho1.1, by omega, by omega, rfl, ob1⟩)
