/-! ===== what stands between two calls ===== -/
def zIn (σ : zMem) : Prop := zCh σ 2 (σ 218) ∧ zVN (σ 218) ∧ zSF σ 51
def zIm (σ : zMem) : Prop := ((σ 100 0 = 119 ∧ σ 100 1 = 168) ∧ zSF σ 119 ∧ zSF σ 168) ∧ ((σ 101 0 = σ 222 0 ∧ (σ 101 0 = 0 ∨ σ 101 0 = 1)) ∧ σ 101 1 = σ 222 1 ∧ (σ 101 1 = 0 ∨ σ 101 1 = 1)) ∧ (σ 101 0 = 1 → zCh σ 119 (fun j => σ 221 j) ∧ zVN (fun j => σ 221 j)) ∧ (σ 101 1 = 1 → zCh σ 168 (fun j => σ 221 (399 + j)) ∧ zVN (fun j => σ 221 (399 + j)))
def zTx (σ : zMem) : Prop := ztx (σ 223) (σ 217 6) ∧ zt7 σ (σ 223) (σ 217 6) ∧ σ 106 1 = σ 217 6
def zCt (σ : zMem) : Prop := ∀ k, 0 ≤ k → k ≤ 2 → σ 118 k = σ 224 k
def zIv (σ : zMem) : Prop := zIn σ ∧ zIm σ ∧ zTx σ ∧ (σ 1 12 = σ 217 7 ∧ σ 1 13 = σ 217 8) ∧ zCt σ
theorem zIn_mv {σ σ' : zMem} (h : ∀ b, (2 ≤ b ∧ b ≤ 99) ∨ b = 218 → σ' b = σ b) (hI : zIn σ) : zIn σ' := by
  obtain ⟨a, b, c⟩ := hI
  have e := h 218 (Or.inr rfl)
  exact ⟨by rw [e]; exact zCh_fr (fun b b0 b1 => h b (Or.inl (by omega))) a, by rw [e]; exact b, zSF_fr (fun b b0 b1 => h b (Or.inl (by omega))) c⟩
theorem zIm_mv {σ σ' : zMem} (h : ∀ b, (100 ≤ b ∧ b ≤ 101) ∨ (119 ≤ b ∧ b ≤ 216) ∨ b = 221 ∨ b = 222 → σ' b = σ b) (hI : zIm σ) : zIm σ' := by
  obtain ⟨⟨a, b, c⟩, d, e, f⟩ := hI
  have e1 := h 100 (by omega)
  have e2 := h 101 (by omega)
  have e3 := h 221 (by omega)
  have e4 := h 222 (by omega)
  unfold zIm
  rw [e1, e2, e3, e4]
  exact ⟨⟨a, zSF_fr (fun b b0 b1 => h b (by omega)) b, zSF_fr (fun b b0 b1 => h b (by omega)) c⟩, d, fun q => ⟨zCh_fr (fun b b0 b1 => h b (by omega)) (e q).1, (e q).2⟩, fun q => ⟨zCh_fr (fun b b0 b1 => h b (by omega)) (f q).1, (f q).2⟩⟩
theorem zTx_mv {σ σ' : zMem} (h1 : σ' 107 = σ 107) (h2 : σ' 223 = σ 223) (h3 : σ' 217 6 = σ 217 6) (h4 : σ' 106 1 = σ 106 1) (hI : zTx σ) : zTx σ' := by
  obtain ⟨a, b, c⟩ := hI
  unfold zTx zt7
  rw [h1, h2, h3, h4]
  exact ⟨a, b, c⟩
/-- all that is of worth is as it was, but for the counts of refusals -/
def zEq (σ σ' : zMem) : Prop := (∀ b, ¬ zSk b → b ≠ 118 → b ≠ 219 → b ≠ 224 → σ' b = σ b) ∧ σ' 106 1 = σ 106 1 ∧ σ' 217 6 = σ 217 6 ∧ σ' 217 7 = σ 217 7 ∧ σ' 217 8 = σ 217 8
theorem zEq_in {σ σ' : zMem} (h : zEq σ σ') (hI : zIn σ) : zIn σ' := zIn_mv (fun b hb => h.1 b (by unfold zSk; omega) (by omega) (by omega) (by omega)) hI
theorem zEq_im {σ σ' : zMem} (h : zEq σ σ') (hI : zIm σ) : zIm σ' := zIm_mv (fun b hb => h.1 b (by unfold zSk; omega) (by omega) (by omega) (by omega)) hI
theorem zEq_tx {σ σ' : zMem} (h : zEq σ σ') (hI : zTx σ) : zTx σ' := zTx_mv (h.1 107 (by unfold zSk; omega) (by omega) (by omega) (by omega)) (h.1 223 (by unfold zSk; omega) (by omega) (by omega) (by omega)) h.2.2.1 h.2.1 hI
theorem zIv_mv {σ σ' : zMem} (hI : zIv σ) (h : zEq σ σ') (hc : zCt σ') : zIv σ' := by
  obtain ⟨a, b, c, d, _⟩ := hI
  refine ⟨zEq_in h a, zEq_im h b, zEq_tx h c, ?_, hc⟩
  rw [h.1 1 (by unfold zSk; omega) (by omega) (by omega) (by omega), h.2.2.2.1, h.2.2.2.2]; exact d
theorem zNS_eq {σ σ' : zMem} (h : zNS σ σ') : zEq σ σ' := ⟨fun b hb _ _ _ => h.1 b hb, h.2⟩
theorem zEq.trans {σ σ1 σ2 : zMem} (h : zEq σ σ1) (h' : zEq σ1 σ2) : zEq σ σ2 := ⟨fun b b0 b1 b2 b3 => (h'.1 b b0 b1 b2 b3).trans (h.1 b b0 b1 b2 b3), h'.2.1.trans h.2.1, h'.2.2.1.trans h.2.2.1, h'.2.2.2.1.trans h.2.2.2.1, h'.2.2.2.2.trans h.2.2.2.2⟩
theorem zbm_eq (σ : zMem) {r : Nat} (w : Int) (hr : r = 118 ∨ r = 224) : zEq σ (zbm σ r w) := by
  have o : ∀ b, b ≠ r → zbm σ r w b = σ b := fun b hb => zwr_ne _ _ _ hb
  exact ⟨fun b _ b1 _ b2 => o b (by omega), by rw [o 106 (by omega)], by rw [o 217 (by omega)], by rw [o 217 (by omega)], by rw [o 217 (by omega)]⟩
theorem zbm_at (σ : zMem) (r : Nat) (w k : Int) : zbm σ r w r k = if k = w then σ r w + 1 else σ r k := by
  unfold zbm zwr; rw [zwa_same]; rfl
theorem zbm_o (σ : zMem) {r b : Nat} (w : Int) (h : b ≠ r) : zbm σ r w b = σ b := zwr_ne _ _ _ h
/-- refused on both sides -/
theorem zIv_bb {σ σ1 σ2 : zMem} {w : Int} (hI : zIv σ) (h1 : zNS (zbm σ 118 w) σ1) (h2 : zNS (zbm σ1 224 w) σ2) : zIv σ2 := by
  refine zIv_mv hI ((zbm_eq σ w (Or.inl rfl)).trans ((zNS_eq h1).trans ((zbm_eq σ1 w (Or.inr rfl)).trans (zNS_eq h2)))) ?_
  intro k k0 k1
  have hc := hI.2.2.2.2
  rw [h2.1 118 (by unfold zSk; omega), h2.1 224 (by unfold zSk; omega), zbm_o _ _ (by decide), zbm_at, h1.1 118 (by unfold zSk; omega), h1.1 224 (by unfold zSk; omega), zbm_o _ _ (show 224 ≠ 118 by decide), zbm_at, hc k k0 k1]
  by_cases q : k = w
  · rw [if_pos q, if_pos q, ← q, hc k k0 k1]
  · rw [if_neg q, if_neg q]
theorem zIv_nn {σ σ1 σ2 : zMem} (hI : zIv σ) (h1 : zNS σ σ1) (h2 : zNS σ1 σ2) : zIv σ2 := by
  refine zIv_mv hI ((zNS_eq h1).trans (zNS_eq h2)) ?_
  intro k k0 k1
  rw [h2.1 118 (by unfold zSk; omega), h2.1 224 (by unfold zSk; omega), h1.1 118 (by unfold zSk; omega), h1.1 224 (by unfold zSk; omega)]
  exact hI.2.2.2.2 k k0 k1
/-- the same whole number on both sides, and all stands -/
def zTwo (a b : Option Value) (σ2 : zMem) : Prop := (∃ y : Int, a = some (.int (zI y)) ∧ b = some (.int (zI y))) ∧ zIv σ2
theorem zAn_kp {σ σ1 : zMem} {C : Prop} {v w bad : Int} {a : Option Value} (h : zAn 118 C v w bad σ a σ1) : (∀ b, ¬ zSk b → b ≠ 118 → σ1 b = σ b) ∧ σ1 106 1 = σ 106 1 ∧ σ1 217 6 = σ 217 6 ∧ σ1 217 7 = σ 217 7 ∧ σ1 217 8 = σ 217 8 := by
  by_cases c : C
  · exact ⟨fun b b0 b1 => (h.1 c).2.1 b b0, (h.1 c).2.2⟩
  · have := (h.2 c).2
    refine ⟨fun b b0 b1 => (this.1 b b0).trans (zbm_o _ _ b1), ?_, ?_, ?_, ?_⟩
    · rw [this.2.1, zbm_o _ _ (by decide)]
    · rw [this.2.2.1, zbm_o _ _ (by decide)]
    · rw [this.2.2.2.1, zbm_o _ _ (by decide)]
    · rw [this.2.2.2.2, zbm_o _ _ (by decide)]
theorem zAn_218 {σ σ1 : zMem} {C : Prop} {v w bad : Int} {a : Option Value} (h : zAn 118 C v w bad σ a σ1) : σ1 218 = σ 218 := (zAn_kp h).1 218 (by unfold zSk; omega) (by decide)
theorem zIv_An {σ σ1 σ2 : zMem} {C : Prop} {v v' w bad : Int} {a b : Option Value} (hI : zIv σ) (hX : zAn 118 C v w bad σ a σ1) (hM : zAn 224 C v' w bad σ1 b σ2) (hv : C → v' = v) : zTwo a b σ2 := by
  by_cases c : C
  · have h1 := hX.1 c
    have h2 := hM.1 c
    rw [hv c] at h2
    exact ⟨⟨v, h1.1, h2.1⟩, zIv_nn hI h1.2 h2.2⟩
  · have h1 := hX.2 c
    have h2 := hM.2 c
    exact ⟨⟨bad, h1.1, h2.1⟩, zIv_bb hI h1.2 h2.2⟩
theorem zA3_kp {σ σ1 : zMem} {C F : Prop} {w1 b1 w2 b2 v : Int} {P : zMem → Prop} {a : Option Value} {bb : Nat} (h : zA3 C F σ 118 w1 b1 w2 b2 v P a σ1) (hb : bb ≠ 118) (hP : P σ1 → σ1 bb = σ bb) : σ1 bb = σ bb := by
  by_cases c : C
  · by_cases f : F
    · rw [← (h.2.1 c f).2]; exact zbm_o _ _ hb
    · exact hP (h.2.2 c f).2
  · rw [← (h.1 c).2]; exact zbm_o _ _ hb
theorem zIv_A3 {σ σ1 σ2 : zMem} {C F : Prop} {w1 b1 w2 b2 v v' : Int} {P P' : zMem → Prop} {a b : Option Value} (hI : zIv σ) (hX : zA3 C F σ 118 w1 b1 w2 b2 v P a σ1) (hM : zA3 C F σ1 224 w1 b1 w2 b2 v' P' b σ2) (hv : C → ¬ F → v' = v) (hP : C → ¬ F → P σ1 → P' σ2 → zIv σ2) : zTwo a b σ2 := by
  by_cases c : C
  · by_cases f : F
    · have h1 := hX.2.1 c f
      have h2 := hM.2.1 c f
      exact ⟨⟨b2, h1.1, h2.1⟩, zIv_bb hI (by rw [h1.2]; exact zNS_refl _) (by rw [h2.2]; exact zNS_refl _)⟩
    · have h1 := hX.2.2 c f
      have h2 := hM.2.2 c f
      rw [hv c f] at h2
      exact ⟨⟨v, h1.1, h2.1⟩, hP c f h1.2 h2.2⟩
  · have h1 := hX.1 c
    have h2 := hM.1 c
    exact ⟨⟨b1, h1.1, h2.1⟩, zIv_bb hI (by rw [h1.2]; exact zNS_refl _) (by rw [h2.2]; exact zNS_refl _)⟩
/-- the chapter anew on both sides -/
theorem zIv_cf {σ σ1 : zMem} {N N' : zR} (hI : zIv σ) (h : zCF σ N σ1) (hV : zVN N') (e : ∀ j, 0 ≤ j → j < 399 → N' j = N j) (hB : zBd N) : zIv (zwa σ1 218 N') := by
  obtain ⟨⟨a1, a2, a3⟩, hm, ht, hf, hc⟩ := hI
  obtain ⟨h1, h2⟩ := h
  have o : ∀ b, ¬ (2 ≤ b ∧ b ≤ 50) → ¬ (102 ≤ b ∧ b ≤ 105) → ¬ (109 ≤ b ∧ b ≤ 117) → b ≠ 218 → zwa σ1 218 N' b = σ b := fun b x y z u => by rw [zwa_ne _ _ u]; exact h2 b x y z
  refine ⟨⟨?_, by rw [zwa_same]; exact hV, zSF_fr (fun b b0 b1 => o b (by omega) (by omega) (by omega) (by omega)) a3⟩, zIm_mv (fun b hb => o b (by omega) (by omega) (by omega) (by omega)) hm, zTx_mv (o 107 (by omega) (by omega) (by omega) (by omega)) (o 223 (by omega) (by omega) (by omega) (by omega)) (by rw [o 217 (by omega) (by omega) (by omega) (by omega)]) (by rw [o 106 (by omega) (by omega) (by omega) (by omega)]) ht, ?_, fun k k0 k1 => ?_⟩
  · rw [zwa_same]
    exact zCh_fr (fun b b0 b1 => zwa_ne _ _ (by omega)) (zCh_ag hB e h1)
  · rw [o 1 (by omega) (by omega) (by omega) (by omega), o 217 (by omega) (by omega) (by omega) (by omega)]; exact hf
  · rw [o 118 (by omega) (by omega) (by omega) (by omega), o 224 (by omega) (by omega) (by omega) (by omega)]; exact hc k k0 k1
theorem zIv_cf2 {σ σ1 σ2 : zMem} {N : zR} (hI : zIv σ) (h : zCF σ N σ1) (hV : zVN N) (h2 : zwa σ1 218 N = σ2) : zIv σ2 := by
  rw [← h2]; exact zIv_cf hI h hV (fun _ _ _ => rfl) (zVN_bd hV)
/-- the rows 218 and 219 with nothing outside their places -/
def znr (f : zR) : zR := fun j => if 0 ≤ j ∧ j < 399 then f j else 0
def znm (σ : zMem) : zMem := zwa (zwa σ 218 (znr (σ 218))) 219 (znr (σ 219))
theorem znr_in (f : zR) {j : Int} (h : 0 ≤ j) (h2 : j < 399) : znr f j = f j := if_pos ⟨h, h2⟩
theorem znm_ag (σ : zMem) : zag2 σ (znm σ) := by
  intro r kn hr j hj
  unfold znm
  by_cases q : r = 219
  · subst q
    have : kn.2 = 399 := by
      have e : zly 219 = some (100, 399) := by decide +kernel
      rw [e] at hr; cases hr; rfl
    rw [zwa_same, znr_in _ (by omega) (by omega)]
  · rw [zwa_ne _ _ q]
    by_cases q2 : r = 218
    · subst q2
      have : kn.2 = 399 := by
        have e : zly 218 = some (100, 399) := by decide +kernel
        rw [e] at hr; cases hr; rfl
      rw [zwa_same, znr_in _ (by omega) (by omega)]
    · rw [zwa_ne _ _ q2]
theorem znm_218 (σ : zMem) : znm σ 218 = znr (σ 218) := by unfold znm; rw [zwa_ne _ _ (by decide), zwa_same]
theorem znm_o (σ : zMem) {b : Nat} (h : b ≠ 218) (h2 : b ≠ 219) : znm σ b = σ b := by unfold znm; rw [zwa_ne _ _ h2, zwa_ne _ _ h]
theorem znm_oo (σ : zMem) : zoo (znm σ 218) (znm σ 219) := by
  intro x hx
  rw [znm_218]
  unfold znm
  rw [zwa_same]
  unfold znr
  rw [if_neg hx, if_neg hx]
theorem znm_iv {σ : zMem} (hI : zIv σ) : zIv (znm σ) := by
  obtain ⟨⟨a1, a2, a3⟩, hm, ht, hf, hc⟩ := hI
  have o : ∀ b, b ≠ 218 → b ≠ 219 → znm σ b = σ b := fun b => znm_o σ
  refine ⟨⟨?_, ?_, zSF_fr (fun b b0 b1 => o b (by omega) (by omega)) a3⟩, zIm_mv (fun b hb => o b (by omega) (by omega)) hm, zTx_mv (o 107 (by omega) (by omega)) (o 223 (by omega) (by omega)) (by rw [o 217 (by omega) (by omega)]) (by rw [o 106 (by omega) (by omega)]) ht, ?_, fun k k0 k1 => ?_⟩
  · rw [znm_218]
    exact zCh_fr (fun b b0 b1 => o b (by omega) (by omega)) (zCh_ag (zVN_bd a2) (fun j j0 j1 => znr_in _ j0 j1) a1)
  · rw [znm_218]; exact zVN_ag (fun j j0 j1 => znr_in _ j0 j1) a2
  · rw [o 1 (by omega) (by omega), o 217 (by omega) (by omega)]; exact hf
  · rw [o 118 (by omega) (by omega), o 224 (by omega) (by omega)]; exact hc k k0 k1
