/-- a scene more that may be undone -/
def zkp (N : zR) : zR := zup (zcy N N 0 (135 + 33 * N 134) 33) 134 (N 134 + 1)
theorem zrem_kp (N : zR) : zrem N = zkp (zr1 N) := rfl
def zrot (p : Nat → Nat) : Nat → Nat := fun i => if i < 7 then p (i + 1) else p 0
def zsq (f : zR) (n : Int) : zR := fun x => if 0 ≤ x ∧ x < n then f (x + 1) else f x
theorem zsq_0 (f : zR) : zsq f 0 = f := by funext x; exact if_neg (by omega)
theorem zsq_s (f : zR) {n : Int} (h : 0 ≤ n) : zup (zsq f n) n (f (n + 1)) = zsq f (n + 1) := by
  funext x
  unfold zup zsq
  by_cases h1 : x = n
  · subst h1; rw [if_pos rfl, if_pos (by omega)]
  · rw [if_neg h1]
    by_cases h2 : 0 ≤ x ∧ x < n
    · rw [if_pos h2, if_pos (by omega)]
    · rw [if_neg h2, if_neg (by omega)]
theorem zBd_r1 {N : zR} (hB : zBd N) (h0 : 0 ≤ N 134) : zBd (zr1 N) := by
  have := zr1_134 N ⟨h0, hB.2.2.2.2.2⟩
  unfold zBd
  rw [zr1_eq N (by omega), zr1_eq N (by omega), zr1_eq N (by omega), zr1_eq N (by omega), zr1_eq N (by omega)]
  obtain ⟨b1, b2, b3, b4, b5, b6⟩ := hB
  refine ⟨b1, b2, b3, b4, b5, ?_⟩
  rw [this]; split <;> omega
theorem zCh_rot {σ σ' : zMem} {a : Nat} {N : zR} {p : Nat → Nat} (hB : zBd N) (h8 : N 134 = 8) (hp : zPa σ a p) (hcp : zCp σ a p N) (hC : zCh σ a N) (hf : ∀ b, a ≤ b → b ≤ a + 48 → b ≠ a → b ≠ a + 10 → σ' b = σ b) (e0 : σ' a 0 = σ a 0) (e1 : σ' a 1 = σ a 1) (e2 : σ' a 2 = 7) (ep : ∀ i : Nat, i < 8 → σ' (a + 10) (i : Int) = ((a + 17 + 4 * zrot p i : Nat) : Int)) : zCh σ' a (zr1 N) := by
  have n134 : zr1 N 134 = 7 := by rw [zr1_134 N (by omega), if_pos h8]
  refine ⟨zCb_ag hB (fun j j0 j1 => zr1_eq N j1) (zCb_fr (fun b h0 h1 h2 h3 => hf b h0 (by omega) h3 h2) e0 e1 hC.1), e2.trans n134.symm, zrot p, ⟨fun i hi => ⟨?_, ep i hi⟩, fun i j hi hj e => ?_⟩, fun i hi hi2 => ?_⟩
  · unfold zrot
    split
    · exact (hp.1 _ (by omega)).1
    · exact (hp.1 _ (by omega)).1
  · unfold zrot at e
    by_cases q : i < 7 <;> by_cases q2 : j < 7
    · rw [if_pos q, if_pos q2] at e; have := hp.2 _ _ (by omega) (by omega) e; omega
    · rw [if_pos q, if_neg q2] at e; have := hp.2 _ _ (by omega) (by omega) e; omega
    · rw [if_neg q, if_pos q2] at e; have := hp.2 _ _ (by omega) (by omega) e; omega
    · omega
  · rw [n134] at hi2
    have g := (hp.1 (i + 1) (by omega)).1
    rw [show zrot p i = p (i + 1) from if_pos (by omega)]
    refine zSc_fr (fun b h0 h1 => hf b (by omega) (by omega) (by omega) (by omega)) (zSc_ag (fun j j0 j1 => ?_) (hcp (i + 1) (by omega) (by omega)))
    unfold zPt zr1
    rw [if_pos h8, zup_ne _ _ (by omega)]
    unfold zsf
    rw [if_pos (by omega)]; congr 1; omega
theorem zCh_kp {σ σ' : zMem} {a : Nat} {N : zR} {p : Nat → Nat} {k : Nat} (hB : zBd N) (hk : (k : Int) = N 134) (hk7 : k < 8) (hp : zPa σ a p) (hcp : zCp σ a p N) (hC : zCh σ a N) (hf : ∀ b, a ≤ b → b ≤ a + 48 → b ≠ a → ¬ (a + 17 + 4 * p k ≤ b ∧ b ≤ a + 17 + 4 * p k + 3) → σ' b = σ b) (e0 : σ' a 0 = σ a 0) (e1 : σ' a 1 = σ a 1) (e2 : σ' a 2 = N 134 + 1) (hs : zSc σ' (a + 17 + 4 * p k) N) : zCh σ' a (zkp N) := by
  have g := (hp.1 k hk7).1
  have n134 : zkp N 134 = N 134 + 1 := zup_same _ _ _
  have lo : ∀ j, j < 134 → zkp N j = N j := fun j hj => by unfold zkp; rw [zup_ne _ _ (by omega)]; exact if_neg (by omega)
  refine ⟨zCb_ag hB (fun j j0 j1 => lo j j1) (zCb_fr (fun b h0 h1 h2 h3 => hf b h0 (by omega) h3 (by omega)) e0 e1 hC.1), e2.trans n134.symm, p, zPa_fr (hf _ (by omega) (by omega) (by omega) (by omega)) hp, fun i hi hi2 => ?_⟩
  rw [n134] at hi2
  by_cases q : i = k
  · subst q
    refine zSc_ag (fun j j0 j1 => ?_) hs
    unfold zPt zkp
    rw [zup_ne _ _ (by omega)]
    unfold zcy
    rw [if_pos (by omega)]; congr 1; omega
  · have g2 := (hp.1 i hi).1
    have g3 : p i ≠ p k := fun e => q (hp.2 i k hi hk7 e)
    refine zSc_fr (fun b h0 h1 => hf b (by omega) (by omega) (by omega) (by omega)) (zSc_ag (fun j j0 j1 => ?_) (hcp i hi (by omega)))
    unfold zPt zkp
    rw [zup_ne _ _ (by omega)]
    unfold zcy
    rw [if_neg (by omega)]
theorem tl_X0_keepPast {l : Launch} {d : Nat} {σ : zMem} (hd : 2 ≤ d) {a : Nat} (ha : zly a = some (0, 13)) {N : zR} (hC : zCh σ a N) (hB : zBd N) (hu : 0 ≤ N 134 ∧ N 134 ≤ 7) : zw l d mX0_keepPast 58 [some (.ref a), none, none] [] σ (fun v σ1 => v = none ∧ zCh σ1 a (zkp N) ∧ ∀ r, ¬ (a ≤ r ∧ r ≤ a + 48) → σ1 r = σ r) := by
  obtain ⟨p, hp, hcp⟩ := hC.2.2
  have c2 := hC.2.1
  obtain ⟨k, hk⟩ := Int.eq_ofNat_of_zero_le hu.1
  have hk8 : k < 8 := by omega
  have gp := (hp.1 k hk8).1
  refine zw_aload_n 59 dX0_keepPast_58 rfl rfl ?_
  refine zw_getr 62 (a + 10) (o := 10) dX0_keepPast_59 rfl fX0_34 (by decide) rfl rfl ha ?_
  refine zw_aload_n 63 dX0_keepPast_62 rfl rfl ?_
  refine zw_gti 66 2 dX0_keepPast_63 rfl fX0_60 (by decide) rfl rfl ha ?_
  rw [c2, hk]
  refine zw_aald 67 (a + 17 + 4 * p k) dX0_keepPast_66 rfl (zl_sub ha 0 10 rfl rfl) (by decide) (by omega) (hp.1 k hk8).2 ?_
  refine zw_aload_n 68 dX0_keepPast_67 rfl rfl ?_
  refine zw_getr 71 (a + 6) (o := 6) dX0_keepPast_68 rfl fX0_30 (by decide) rfl rfl ha ?_
  refine zw_callV 74 _ _ dX0_keepPast_71 rfl kX0_75 qX2_become (zl_past ha (hp.1 k (by omega)).1) ⟨_, rfl, rfl⟩ (by decide) (sp_X2_become (d := d - 1) (by omega) (zl_past ha gp) (zl_sub ha 0 6 rfl rfl) (by omega) hC.1.2.1) (by omega) rfl rfl (Nat.le_of_ble_eq_true rfl) (fun r σ' hq => ?_)
  obtain ⟨rfl, q1, q2⟩ := hq
  refine zw_aload_n 75 dX0_keepPast_74 rfl rfl ?_
  refine zw_dup 76 dX0_keepPast_75 rfl rfl ?_
  refine zw_gti 79 2 dX0_keepPast_76 rfl fX0_60 (by decide) rfl rfl ha ?_
  rw [q2 a (by omega), c2]
  refine zw_iconst 80 dX0_keepPast_79 rfl ?_
  refine zw_iadd 81 dX0_keepPast_80 rfl ?_
  refine zw_pti 84 2 dX0_keepPast_81 rfl pX0_60 (by decide) rfl rfl ha ?_
  refine zw_vret dX0_keepPast_84 rfl ?_
  refine ⟨rfl, zCh_kp hB hk.symm hk8 hp hcp hC (fun b h0 h1 h2 h3 => ?_) ?_ ?_ ?_ (zSc_fr (fun b h0 h1 => ?_) q1), fun r hr => ?_⟩
  · rw [zwr_ne _ _ _ (by omega)]; exact q2 b h3
  · rw [zwr_ni _ _ _ (by omega), q2 a (by omega)]
  · rw [zwr_ni _ _ _ (by omega), q2 a (by omega)]
  · rw [zwr_same]
  · rw [zwr_ne _ _ _ (by omega)]
  · rw [zwr_ne _ _ _ (by omega)]; exact q2 r (by omega)
theorem lp_X0_keepPast {l : Launch} {d : Nat} {σ : zMem} {Q : Option Value → zMem → Prop} {a : Nat} (ha : zly a = some (0, 13)) {p : Nat → Nat} (hp : zPa σ a p) (kk : zw l d mX0_keepPast 44 [some (.ref a), some (.ref (a + 17 + 4 * p 0)), some (.int (zI 8))] [] (zwa σ (a + 10) (zsq (σ (a + 10)) (7))) Q) : ∀ (m n : Nat), n + 1 + m = 8 → zw l d mX0_keepPast 18 [some (.ref a), some (.ref (a + 17 + 4 * p 0)), some (.int (zI ((n : Int) + 1)))] [] (zwa σ (a + 10) (zsq (σ (a + 10)) (n))) Q := by
  intro m
  induction m with
  | zero =>
    intro n h1
    obtain rfl : n = 7 := by omega
    refine zw_iload_n 19 dX0_keepPast_18 rfl rfl ?_
    refine zw_bipush 21 dX0_keepPast_19 rfl (by decide) ?_
    refine zw_icmp_ge 44 24 dX0_keepPast_21 (by decide) rfl (by omega) (by omega) (fun h21 => ?_) (fun h21 => ?_)
    · exact kk
    · exfalso; omega
  | succ m ih =>
    intro n h1
    have hv : zwa σ (a + 10) (zsq (σ (a + 10)) n) (a + 10) ((n : Int) + 1) = ((a + 17 + 4 * p (n + 1) : Nat) : Int) := by
      rw [zwa_same]
      have := (hp.1 (n + 1) (by omega)).2
      rw [show (((n + 1 : Nat) : Int)) = (n : Int) + 1 by omega] at this
      rw [← this]; exact if_neg (by omega)
    have hv2 : σ (a + 10) ((n : Int) + 1) = ((a + 17 + 4 * p (n + 1) : Nat) : Int) := by
      have := (hp.1 (n + 1) (by omega)).2
      rwa [show (((n + 1 : Nat) : Int)) = (n : Int) + 1 by omega] at this
    have ih2 := ih (n + 1) (by omega)
    rw [show (((n + 1 : Nat) : Int)) = (n : Int) + 1 by omega] at ih2
    refine zw_iload_n 19 dX0_keepPast_18 rfl rfl ?_
    refine zw_bipush 21 dX0_keepPast_19 rfl (by decide) ?_
    refine zw_icmp_ge 44 24 dX0_keepPast_21 (by decide) rfl (by omega) (by omega) (fun h21 => ?_) (fun h21 => ?_)
    · exfalso; omega
    · refine zw_aload_n 25 dX0_keepPast_24 rfl rfl ?_
      refine zw_getr 28 (a + 10) (o := 10) dX0_keepPast_25 rfl fX0_34 (by decide) rfl rfl ha ?_
      refine zw_iload_n 29 dX0_keepPast_28 rfl rfl ?_
      refine zw_iconst 30 dX0_keepPast_29 rfl ?_
      refine zw_isub 31 dX0_keepPast_30 rfl ?_
      refine zw_aload_n 32 dX0_keepPast_31 rfl rfl ?_
      refine zw_getr 35 (a + 10) (o := 10) dX0_keepPast_32 rfl fX0_34 (by decide) rfl rfl ha ?_
      refine zw_iload_n 36 dX0_keepPast_35 rfl rfl ?_
      refine zw_aald 37 (a + 17 + 4 * p (n + 1)) dX0_keepPast_36 rfl (zl_sub ha 0 10 rfl rfl) (by decide) (by omega) hv ?_
      rw [show (n : Int) + 1 - 1 = (n : Int) by omega]
      refine zw_aast 38 dX0_keepPast_37 rfl (zl_sub ha 0 10 rfl rfl) (by omega) (zl_past ha (hp.1 (n + 1) (by omega)).1) ?_
      rw [zwr_wa, ← hv2, zsq_s _ (by omega)]
      refine zw_iinc 41 dX0_keepPast_38 rfl (by decide) rfl ?_
      refine zw_goto 18 dX0_keepPast_41 (by decide) ?_
      refine zw_loc [true, true, true] rfl ?_
      exact ih2
theorem t8_X0_keepPast {l : Launch} {d : Nat} {σ : zMem} (hd : 2 ≤ d) {a : Nat} (ha : zly a = some (0, 13)) {N : zR} (hC : zCh σ a N) (hB : zBd N) (h8 : N 134 = 8) {p : Nat → Nat} (hp : zPa σ a p) (hcp : zCp σ a p N) : zw l d mX0_keepPast 18 [some (.ref a), some (.ref (a + 17 + 4 * p 0)), some (.int (zI 1))] [] σ (fun v σ1 => v = none ∧ zCh σ1 a (zkp (zr1 N)) ∧ ∀ r, ¬ (a ≤ r ∧ r ≤ a + 48) → σ1 r = σ r) := by
  have kk : zw l d mX0_keepPast 44 [some (.ref a), some (.ref (a + 17 + 4 * p 0)), some (.int (zI 8))] [] (zwa σ (a + 10) (zsq (σ (a + 10)) (7))) (fun v σ1 => v = none ∧ zCh σ1 a (zkp (zr1 N)) ∧ ∀ r, ¬ (a ≤ r ∧ r ≤ a + 48) → σ1 r = σ r) := by
    refine zw_aload_n 45 dX0_keepPast_44 rfl rfl ?_
    refine zw_getr 48 (a + 10) (o := 10) dX0_keepPast_45 rfl fX0_34 (by decide) rfl rfl ha ?_
    refine zw_bipush 50 dX0_keepPast_48 rfl (by decide) ?_
    refine zw_aload_n 51 dX0_keepPast_50 rfl rfl ?_
    refine zw_aast 52 dX0_keepPast_51 rfl (zl_sub ha 0 10 rfl rfl) (by omega) (zl_past ha (hp.1 0 (by omega)).1) ?_
    refine zw_aload_n 53 dX0_keepPast_52 rfl rfl ?_
    refine zw_bipush 55 dX0_keepPast_53 rfl (by decide) ?_
    refine zw_pti 58 2 dX0_keepPast_55 rfl pX0_60 (by decide) rfl rfl ha ?_
    refine zw_loc [true, false, false] rfl ?_
    refine zw_mono (tl_X0_keepPast hd ha (N := zr1 N) (zCh_rot hB h8 hp hcp hC (fun b h0 h1 h2 h3 => ?_) ?_ ?_ ?_ (fun i hi => ?_)) (zBd_r1 hB (by omega)) (by rw [zr1_134 N (by omega), if_pos h8]; omega)) (fun v σ1 hq => ⟨hq.1, hq.2.1, fun r hr => (hq.2.2 r hr).trans ?_⟩)
    · simp (disch := omega) only [zwr_ne, zwa_ne]
    · simp (disch := omega) only [zwr_ne, zwr_ni, zwa_ne]
    · simp (disch := omega) only [zwr_ne, zwr_ni, zwa_ne]
    · simp (disch := omega) only [zwr_same]
    · rw [zwr_ne _ _ _ (by omega), zwr_wa, zwa_same]
      by_cases q : i < 7
      · rw [zup_ne _ _ (by omega)]
        unfold zsq
        rw [if_pos (by omega), show zrot p i = p (i + 1) from if_pos q, ← (hp.1 (i + 1) (by omega)).2]; congr 1
      · obtain rfl : i = 7 := by omega
        exact zup_same _ _ _
    · simp (disch := omega) only [zwr_ne, zwa_ne]
  have hl := lp_X0_keepPast (l := l) (d := d) (σ := σ) ha hp kk 7 0 (by omega)
  rw [show (((0 : Nat) : Int)) = 0 from rfl, zsq_0, zwa_id] at hl
  exact hl
theorem sp_X0_keepPast {l : Launch} {d : Nat} {σ : zMem} (hd : 2 ≤ d) {a : Nat} (ha : zly a = some (0, 13)) {N : zR} (hC : zCh σ a N) (hB : zBd N) (h0 : 0 ≤ N 134)  : zSp l d mX0_keepPast [.ref a] σ (fun v σ1 => v = none ∧ zCh σ1 a (zrem N) ∧ ∀ r, ¬ (a ≤ r ∧ r ≤ a + 48) → σ1 r = σ r) := by
  refine zSp_of oX0_keepPast (Nat.le_of_ble_eq_true rfl) ?_
  show zw l d mX0_keepPast 0 [some (.ref a), none, none] [] σ _
  have c2 := hC.2.1
  have hb6 := hB.2.2.2.2.2
  obtain ⟨p, hp, hcp⟩ := id hC.2.2
  rw [zrem_kp]
  refine zw_aload_n 1 dX0_keepPast_0 rfl rfl ?_
  refine zw_gti 4 2 dX0_keepPast_1 rfl fX0_60 (by decide) rfl rfl ha ?_
  rw [c2]
  refine zw_bipush 6 dX0_keepPast_4 rfl (by decide) ?_
  refine zw_icmp_lt 58 9 dX0_keepPast_6 (by decide) rfl (by omega) (by omega) (fun h6 => ?_) (fun h6 => ?_)
  · have e : zr1 N = N := if_neg (by omega)
    rw [e]
    exact tl_X0_keepPast hd ha hC hB (by omega)
  · refine zw_aload_n 10 dX0_keepPast_9 rfl rfl ?_
    refine zw_getr 13 (a + 10) (o := 10) dX0_keepPast_10 rfl fX0_34 (by decide) rfl rfl ha ?_
    refine zw_iconst 14 dX0_keepPast_13 rfl ?_
    refine zw_aald 15 (a + 17 + 4 * p 0) dX0_keepPast_14 rfl (zl_sub ha 0 10 rfl rfl) (by decide) (by omega) (hp.1 0 (by omega)).2 ?_
    refine zw_astore_n 16 dX0_keepPast_15 rfl (by decide) ?_
    refine zw_iconst 17 dX0_keepPast_16 rfl ?_
    refine zw_istore_n 18 dX0_keepPast_17 rfl (by decide) ?_
    exact t8_X0_keepPast hd ha hC hB (by omega) hp hcp
theorem zCh_134 {σ : zMem} {a : Nat} {N : zR} {x : Int} (hB : zBd N) (hx : x ≤ N 134) (hC : zCh σ a N) : zCh (zwr σ a 2 x) a (zup N 134 x) := by
  obtain ⟨c1, c2, p, c3, c4⟩ := hC
  refine ⟨zCb_ag hB (fun j j0 j1 => zup_ne _ _ (by omega)) (zCb_fr (fun b h0 h1 h2 h3 => zwr_ne _ _ _ (by omega)) (zwr_ni _ _ _ (by omega)) (zwr_ni _ _ _ (by omega)) c1), by rw [zwr_same, zup_same], p, zPa_fr (zwr_ne _ _ _ (by omega)) c3, fun i hi hi2 => ?_⟩
  rw [zup_same] at hi2
  exact zSc_fr (fun b h0 h1 => zwr_ne _ _ _ (by omega)) (zSc_ag (fun j j0 j1 => (zup_ne _ _ (by omega)).symm) (c4 i hi (by omega)))
theorem sp_X0_goBack {l : Launch} {d : Nat} {σ : zMem} (hd : 2 ≤ d) {a : Nat} (ha : zly a = some (0, 13)) {N : zR} (hC : zCh σ a N) (hB : zBd N) (h0 : 1 ≤ N 134)  : zSp l d mX0_goBack [.ref a] σ (fun v σ1 => v = none ∧ zCh σ1 a (zun N) ∧ ∀ r, ¬ (a ≤ r ∧ r ≤ a + 48) → σ1 r = σ r) := by
  refine zSp_of oX0_goBack (Nat.le_of_ble_eq_true rfl) ?_
  show zw l d mX0_goBack 0 [some (.ref a)] [] σ _
  have hC1 := zCh_134 (x := N 134 - 1) hB (by omega) hC
  have hB1 : zBd (zup N 134 (N 134 - 1)) := by
    obtain ⟨b1, b2, b3, b4, b5, b6⟩ := hB
    refine ⟨?_, ?_, ?_, ?_, ?_, ?_⟩
    · rw [zup_ne _ _ (by omega)]; exact b1
    · rw [zup_ne _ _ (by omega)]; exact b2
    · rw [zup_ne _ _ (by omega)]; exact b3
    · rw [zup_ne _ _ (by omega)]; exact b4
    · rw [zup_ne _ _ (by omega)]; exact b5
    · rw [zup_same]; omega
  obtain ⟨p, hp, hcp⟩ := hC.2.2
  have c2 := hC.2.1
  have hb6 := hB.2.2.2.2.2
  obtain ⟨k, hk⟩ := Int.eq_ofNat_of_zero_le (by omega : 0 ≤ N 134 - 1)
  have hk8 : k < 8 := by omega
  have gp := (hp.1 k hk8).1
  refine zw_aload_n 1 dX0_goBack_0 rfl rfl ?_
  refine zw_dup 2 dX0_goBack_1 rfl rfl ?_
  refine zw_gti 5 2 dX0_goBack_2 rfl fX0_60 (by decide) rfl rfl ha ?_
  rw [c2]
  refine zw_iconst 6 dX0_goBack_5 rfl ?_
  refine zw_isub 7 dX0_goBack_6 rfl ?_
  refine zw_pti 10 2 dX0_goBack_7 rfl pX0_60 (by decide) rfl rfl ha ?_
  refine zw_aload_n 11 dX0_goBack_10 rfl rfl ?_
  refine zw_getr 14 (a + 6) (o := 6) dX0_goBack_11 rfl fX0_30 (by decide) rfl rfl ha ?_
  refine zw_aload_n 15 dX0_goBack_14 rfl rfl ?_
  refine zw_getr 18 (a + 10) (o := 10) dX0_goBack_15 rfl fX0_34 (by decide) rfl rfl ha ?_
  refine zw_aload_n 19 dX0_goBack_18 rfl rfl ?_
  refine zw_gti 22 2 dX0_goBack_19 rfl fX0_60 (by decide) rfl rfl ha ?_
  rw [zwr_same, hk]
  refine zw_aald 23 (a + 17 + 4 * p k) dX0_goBack_22 rfl (zl_sub ha 0 10 rfl rfl) (by decide) (by omega) (by rw [zwr_ne _ _ _ (by omega)]; exact (hp.1 k hk8).2) ?_
  refine zw_callV 26 _ _ dX0_goBack_23 rfl kX0_75 qX2_become (zl_sub ha 0 6 rfl rfl) ⟨_, rfl, rfl⟩ (by decide) (sp_X2_become (d := d - 1) (by omega) (zl_sub ha 0 6 rfl rfl) (zl_past ha gp) (by omega) (t := zPt N k) (zSc_fr (fun b h0 h1 => zwr_ne _ _ _ (by omega)) (hcp k hk8 (by omega)))) (by omega) rfl rfl (Nat.le_of_ble_eq_true rfl) (fun r σ' hq => ?_)
  obtain ⟨rfl, q1, q2⟩ := hq
  refine zw_vret dX0_goBack_26 rfl ?_
  have q3 : zSc σ' (a + 6) (zun N) := zSc_ag (fun j j0 j1 => by
    unfold zun zcy
    rw [if_pos (by omega), zup_ne _ _ (by omega)]
    unfold zPt; congr 1; omega) q1
  rw [hk] at hC1 hB1
  refine ⟨rfl, zCh_sc hB1 (fun j j0 j1 => ?_) (fun b h0 h1 h2 => q2 b (by omega)) q3 hC1, fun r hr => (q2 r (by omega)).trans (zwr_ne _ _ _ (by omega))⟩
  unfold zun zcy
  rw [if_neg (by omega), hk]
theorem lp_X0_passUpToLast {l : Launch} {d : Nat} {σ : zMem} (hd : 5 ≤ d) {a : Nat} (ha : zly a = some (0, 13)) {n : Int} (hn : 0 ≤ n ∧ n < 1000) : ∀ (m : Nat) (k : Int), k + m = n → 0 ≤ k → ∀ (σc : zMem) (T : zR), zCh σc a T → zVT T → zBd T → (∀ r, ¬ (a ≤ r ∧ r ≤ a + 48) → σc r = σ r) → zw l d mX0_passUpToLast 2 [some (.ref a), some (.int (zI n)), some (.int (zI k))] [] σc (fun v σ1 => v = none ∧ zCh σ1 a (zyl m T) ∧ ∀ r, ¬ (a ≤ r ∧ r ≤ a + 48) → σ1 r = σ r) := by
  intro m
  induction m with
  | zero =>
    intro k hk hk0 σc T hC hT hB hf
    refine zw_iload_n 3 dX0_passUpToLast_2 rfl rfl ?_
    refine zw_iload_n 4 dX0_passUpToLast_3 rfl rfl ?_
    refine zw_icmp_ge 34 7 dX0_passUpToLast_4 (by decide) rfl (by omega) (by omega) (fun h4 => ?_) (fun h4 => ?_)
    · refine zw_vret dX0_passUpToLast_34 rfl ?_
      exact ⟨rfl, hC, hf⟩
    · exfalso; omega
  | succ m ih =>
    intro k hk hk0 σc T hC hT hB hf
    have hy := hC.1.2.1.2.2.2
    have hy2 := hT.2.2
    have e : ∀ i, 33 ≤ i → zyr T T i = T i := fun i hi => zyr_hi hT.1 hT.2.1 (Or.inl hi)
    refine zw_iload_n 3 dX0_passUpToLast_2 rfl rfl ?_
    refine zw_iload_n 4 dX0_passUpToLast_3 rfl rfl ?_
    refine zw_icmp_ge 34 7 dX0_passUpToLast_4 (by decide) rfl (by omega) (by omega) (fun h4 => ?_) (fun h4 => ?_)
    · refine zw_vret dX0_passUpToLast_34 rfl ?_
      first
        | (exfalso; omega)
        | exact ⟨rfl, by rw [zyl_end _ _ (by omega)]; exact hC, hf⟩
    · refine zw_aload_n 8 dX0_passUpToLast_7 rfl rfl ?_
      refine zw_getr 11 (a + 6) (o := 6) dX0_passUpToLast_8 rfl fX0_30 (by decide) rfl rfl ha ?_
      refine zw_gti 14 0 dX0_passUpToLast_11 rfl fX0_92 (by decide) rfl rfl (zl_sub ha 0 6 rfl rfl) ?_
      rw [hy]
      refine zw_sipush 17 dX0_passUpToLast_14 rfl (by decide) ?_
      refine zw_icmp_ge 34 20 dX0_passUpToLast_17 (by decide) rfl (by omega) (by omega) (fun h17 => ?_) (fun h17 => ?_)
      · refine zw_vret dX0_passUpToLast_34 rfl ?_
        first
          | (exfalso; omega)
          | exact ⟨rfl, by rw [zyl_end _ _ (by omega)]; exact hC, hf⟩
      · refine zw_aload_n 21 dX0_passUpToLast_20 rfl rfl ?_
        refine zw_aload_n 22 dX0_passUpToLast_21 rfl rfl ?_
        refine zw_getr 25 (a + 6) (o := 6) dX0_passUpToLast_22 rfl fX0_30 (by decide) rfl rfl ha ?_
        refine zw_callV 28 _ _ dX0_passUpToLast_25 rfl kX0_128 qX0_pass ha ⟨_, rfl, rfl⟩ (by decide) (sp_X0_pass (d := d - 1) (by omega) ha (zl_sub ha 0 6 rfl rfl) (by omega) hC.1.1 hC.1.2.1 hT.1 hT.2.1 (by omega)) (by omega) rfl rfl (Nat.le_of_ble_eq_true rfl) (fun r σ' hq => ?_)
        obtain ⟨rfl, q1, q2⟩ := hq
        refine zw_iinc 31 dX0_passUpToLast_28 rfl (by decide) rfl ?_
        refine zw_goto 2 dX0_passUpToLast_31 (by decide) ?_
        refine zw_loc [true, true, true] rfl ?_
        have e2 : zyl (m + 1) T = zyl m (zyr T T) := by rw [zyl, if_pos (by omega)]
        rw [e2]
        have hB2 : zBd (zyr T T) := by
          unfold zBd; rw [e 33 (by omega), e 48 (by omega), e 59 (by omega), e 78 (by omega), e 109 (by omega), e 134 (by omega)]; exact hB
        exact ih (k + 1) (by omega) (by omega) _ _ (zCh_sc hB (fun j j0 j1 => e j j0) (fun b h0 h1 h2 => q2 b (by omega)) q1 hC) (zVT_y hT (by omega)) hB2 (fun r hr => (q2 r (by omega)).trans (hf r hr))
theorem sp_X0_passUpToLast {l : Launch} {d : Nat} {σ : zMem} (hd : 5 ≤ d) {a : Nat} (ha : zly a = some (0, 13)) {n : Int} (hn : 0 ≤ n ∧ n < 1000) {T : zR} (hC : zCh σ a T) (hT : zVT T) (hB : zBd T)  : zSp l d mX0_passUpToLast [.ref a, .int (zI n)] σ (fun v σ1 => v = none ∧ zCh σ1 a (zyl n.toNat T) ∧ ∀ r, ¬ (a ≤ r ∧ r ≤ a + 48) → σ1 r = σ r) := by
  refine zSp_of oX0_passUpToLast (Nat.le_of_ble_eq_true rfl) ?_
  show zw l d mX0_passUpToLast 0 [some (.ref a), some (.int (zI n)), none] [] σ _
  refine zw_iconst 1 dX0_passUpToLast_0 rfl ?_
  refine zw_istore_n 2 dX0_passUpToLast_1 rfl (by decide) ?_
  exact lp_X0_passUpToLast hd ha hn n.toNat 0 (by omega) (by omega) σ T hC hT hB (fun r _ => rfl)
