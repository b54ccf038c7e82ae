/-- the eight past scenes, in the order of the row that holds them -/
def zPa (σ : zMem) (a : Nat) (p : Nat → Nat) : Prop := (∀ i : Nat, i < 8 → p i < 8 ∧ σ (a + 10) (i : Int) = ((a + 17 + 4 * p i : Nat) : Int)) ∧ ∀ i j : Nat, i < 8 → j < 8 → p i = p j → i = j
def zWd (σ : zMem) (a : Nat) : Prop := σ (a + 11) 0 = 3 ∧ σ (a + 13) 0 = 5 ∧ σ (a + 15) 0 = 4
/-- a chapter's frame, whatever it holds -/
def zSF (σ : zMem) (a : Nat) : Prop := (∃ p, zPa σ a p) ∧ zWd σ a
def zPt (N : zR) (i : Nat) : zR := fun j => N (135 + 33 * (i : Int) + j)
def zCp (σ : zMem) (a : Nat) (p : Nat → Nat) (N : zR) : Prop := ∀ i : Nat, i < 8 → (i : Int) < N 134 → zSc σ (a + 17 + 4 * p i) (zPt N i)
def zCb (σ : zMem) (a : Nat) (N : zR) : Prop := zCs σ a N ∧ zSc σ (a + 6) N ∧ zRo σ (a + 11) 3 59 N ∧ zRo σ (a + 13) 5 78 N ∧ zRo σ (a + 15) 4 109 N
/-- the chapter at a holds what the row N tells -/
def zCh (σ : zMem) (a : Nat) (N : zR) : Prop := zCb σ a N ∧ σ a 2 = N 134 ∧ ∃ p, zPa σ a p ∧ zCp σ a p N
theorem zCh.st {σ : zMem} {a : Nat} {N : zR} (h : zCh σ a N) : zSF σ a := ⟨⟨h.2.2.choose, h.2.2.choose_spec.1⟩, h.1.2.2.1.1, h.1.2.2.2.1.1, h.1.2.2.2.2.1⟩
theorem zl_past {a : Nat} (ha : zly a = some (0, 13)) {k : Nat} (hk : k < 8) : zly (a + 17 + 4 * k) = some (2, 4) := by
  rcases (by omega : k = 0 ∨ k = 1 ∨ k = 2 ∨ k = 3 ∨ k = 4 ∨ k = 5 ∨ k = 6 ∨ k = 7) with rfl | rfl | rfl | rfl | rfl | rfl | rfl | rfl
  · exact zl_sub ha 0 17 rfl rfl
  · exact zl_sub ha 0 21 rfl rfl
  · exact zl_sub ha 0 25 rfl rfl
  · exact zl_sub ha 0 29 rfl rfl
  · exact zl_sub ha 0 33 rfl rfl
  · exact zl_sub ha 0 37 rfl rfl
  · exact zl_sub ha 0 41 rfl rfl
  · exact zl_sub ha 0 45 rfl rfl
theorem zPa_fr {σ σ' : zMem} {a : Nat} {p : Nat → Nat} (h : σ' (a + 10) = σ (a + 10)) (hp : zPa σ a p) : zPa σ' a p := by
  unfold zPa; rw [h]; exact hp
theorem zSF_fr {σ σ' : zMem} {a : Nat} (h : ∀ b, a + 10 ≤ b → b ≤ a + 16 → σ' b = σ b) (hp : zSF σ a) : zSF σ' a := by
  obtain ⟨⟨p, h1⟩, h2⟩ := hp
  refine ⟨⟨p, zPa_fr (h _ (by omega) (by omega)) h1⟩, ?_⟩
  unfold zWd; rw [h _ (by omega) (by omega), h _ (by omega) (by omega), h _ (by omega) (by omega)]; exact h2
theorem zCb_fr {σ σ' : zMem} {a : Nat} {N : zR} (h : ∀ b, a ≤ b → b ≤ a + 16 → b ≠ a + 10 → b ≠ a → σ' b = σ b) (h0 : σ' a 0 = σ a 0) (h1 : σ' a 1 = σ a 1) (hc : zCb σ a N) : zCb σ' a N := by
  obtain ⟨c1, c2, c3, c4, c5⟩ := hc
  refine ⟨?_, zSc_fr (fun b q q2 => h b (by omega) (by omega) (by omega) (by omega)) c2, zRo_fr (h _ (by omega) (by omega) (by omega) (by omega)) (h _ (by omega) (by omega) (by omega) (by omega)) c3, zRo_fr (h _ (by omega) (by omega) (by omega) (by omega)) (h _ (by omega) (by omega) (by omega) (by omega)) c4, zRo_fr (h _ (by omega) (by omega) (by omega) (by omega)) (h _ (by omega) (by omega) (by omega) (by omega)) c5⟩
  unfold zCs
  rw [h0, h1, h (a + 1) (by omega) (by omega) (by omega) (by omega), h (a + 2) (by omega) (by omega) (by omega) (by omega), h (a + 3) (by omega) (by omega) (by omega) (by omega), h (a + 4) (by omega) (by omega) (by omega) (by omega), h (a + 5) (by omega) (by omega) (by omega) (by omega)]
  exact c1
theorem zCp_fr {σ σ' : zMem} {a : Nat} {p : Nat → Nat} {N : zR} (h : ∀ b, a + 17 ≤ b → b ≤ a + 48 → σ' b = σ b) (hp : zPa σ a p) (hc : zCp σ a p N) : zCp σ' a p N := fun i hi hi2 => by
  have := (hp.1 i hi).1
  exact zSc_fr (fun b q q2 => h b (by omega) (by omega)) (hc i hi hi2)
theorem zCh_fr {σ σ' : zMem} {a : Nat} {N : zR} (h : ∀ b, a ≤ b → b ≤ a + 48 → σ' b = σ b) (hc : zCh σ a N) : zCh σ' a N := by
  obtain ⟨c1, c2, p, c3, c4⟩ := hc
  exact ⟨zCb_fr (fun b q q2 _ _ => h b q (by omega)) (by rw [h a (by omega) (by omega)]) (by rw [h a (by omega) (by omega)]) c1, by rw [h a (by omega) (by omega)]; exact c2, p, zPa_fr (h _ (by omega) (by omega)) c3, zCp_fr (fun b q q2 => h b (by omega) q2) c3 c4⟩
/-- how many there are at most -/
def zBd (N : zR) : Prop := N 33 ≤ 7 ∧ N 48 ≤ 5 ∧ N 59 ≤ 6 ∧ N 78 ≤ 6 ∧ N 109 ≤ 6 ∧ N 134 ≤ 8
theorem zRo_mv {σ σ' : zMem} {b : Nat} {w m : Int} {N N' : zR} (h : σ' b = σ b) (h1 : σ' (b + 1) = σ (b + 1)) (hN : N' m = N m) (hj : ∀ i j, 0 ≤ i → i < N m → 0 ≤ j → j < w → N' (m + 1 + w * i + j) = N (m + 1 + w * i + j)) (hR : zRo σ b w m N) : zRo σ' b w m N' := by
  refine ⟨by rw [h]; exact hR.1, by rw [h, hN]; exact hR.2.1, fun i j a1 a2 a3 a4 => ?_⟩
  rw [hN] at a2
  rw [h1, hj i j a1 a2 a3 a4]; exact hR.2.2 i j a1 a2 a3 a4
theorem zCb_ag {σ : zMem} {a : Nat} {N N' : zR} (hB : zBd N) (h : ∀ j, 0 ≤ j → j < 134 → N' j = N j) (hc : zCb σ a N) : zCb σ a N' := by
  obtain ⟨⟨c0, c1, c2, c3⟩, c4, c5, c6, c7⟩ := hc
  obtain ⟨b1, b2, b3, b4, b5, b6⟩ := hB
  refine ⟨⟨by rw [h 33 (by omega) (by omega)]; exact c0, by rw [h 48 (by omega) (by omega)]; exact c1, fun s h0 h1 => ?_, fun c h0 h1 => ?_⟩, zSc_ag (fun j j0 j1 => (h j j0 (by omega)).symm) c4, zRo_mv rfl rfl (h _ (by omega) (by omega)) (fun i j _ _ _ _ => h _ (by omega) (by omega)) c5, zRo_mv rfl rfl (h _ (by omega) (by omega)) (fun i j _ _ _ _ => h _ (by omega) (by omega)) c6, zRo_mv rfl rfl (h _ (by omega) (by omega)) (fun i j _ _ _ _ => h _ (by omega) (by omega)) c7⟩
  · rw [h 33 (by omega) (by omega)] at h1
    rw [h _ (by omega) (by omega), h _ (by omega) (by omega)]; exact c2 s h0 h1
  · rw [h 48 (by omega) (by omega)] at h1
    rw [h _ (by omega) (by omega), h _ (by omega) (by omega)]; exact c3 c h0 h1
theorem zCh_ag {σ : zMem} {a : Nat} {N N' : zR} (hB : zBd N) (h : ∀ j, 0 ≤ j → j < 399 → N' j = N j) (hc : zCh σ a N) : zCh σ a N' := by
  obtain ⟨c1, c2, p, c3, c4⟩ := hc
  refine ⟨zCb_ag hB (fun j j0 j1 => h j j0 (by omega)) c1, by rw [h 134 (by omega) (by omega)]; exact c2, p, c3, fun i hi hi2 => ?_⟩
  rw [h 134 (by omega) (by omega)] at hi2
  exact zSc_ag (fun j j0 j1 => (h (135 + 33 * (i : Int) + j) (by omega) (by omega)).symm) (c4 i hi hi2)
/-- only the scene is another -/
theorem zCh_sc {σ σ' : zMem} {a : Nat} {N N' : zR} (hB : zBd N) (hN : ∀ j, 33 ≤ j → j < 399 → N' j = N j) (hf : ∀ b, a ≤ b → b ≤ a + 48 → ¬ (a + 6 ≤ b ∧ b ≤ a + 9) → σ' b = σ b) (hs : zSc σ' (a + 6) N') (hc : zCh σ a N) : zCh σ' a N' := by
  obtain ⟨⟨⟨c0, c1, c2, c3⟩, c4, c5, c6, c7⟩, d1, p, d2, d3⟩ := hc
  obtain ⟨b1, b2, b3, b4, b5, b6⟩ := hB
  have q0 := hf a (by omega) (by omega) (by omega)
  refine ⟨⟨⟨by rw [q0, hN 33 (by omega) (by omega)]; exact c0, by rw [q0, hN 48 (by omega) (by omega)]; exact c1, fun s h0 h1 => ?_, fun c h0 h1 => ?_⟩, hs, zRo_mv (hf _ (by omega) (by omega) (by omega)) (hf _ (by omega) (by omega) (by omega)) (hN _ (by omega) (by omega)) (fun i j _ _ _ _ => hN _ (by omega) (by omega)) c5, zRo_mv (hf _ (by omega) (by omega) (by omega)) (hf _ (by omega) (by omega) (by omega)) (hN _ (by omega) (by omega)) (fun i j _ _ _ _ => hN _ (by omega) (by omega)) c6, zRo_mv (hf _ (by omega) (by omega) (by omega)) (hf _ (by omega) (by omega) (by omega)) (hN _ (by omega) (by omega)) (fun i j _ _ _ _ => hN _ (by omega) (by omega)) c7⟩, by rw [q0, hN 134 (by omega) (by omega)]; exact d1, p, zPa_fr (hf _ (by omega) (by omega) (by omega)) d2, fun i hi hi2 => ?_⟩
  · rw [hN 33 (by omega) (by omega)] at h1
    rw [hf _ (by omega) (by omega) (by omega), hf _ (by omega) (by omega) (by omega), hN _ (by omega) (by omega), hN _ (by omega) (by omega)]; exact c2 s h0 h1
  · rw [hN 48 (by omega) (by omega)] at h1
    rw [hf _ (by omega) (by omega) (by omega), hf _ (by omega) (by omega) (by omega), hf _ (by omega) (by omega) (by omega), hN _ (by omega) (by omega), hN _ (by omega) (by omega)]; exact c3 c h0 h1
  · rw [hN 134 (by omega) (by omega)] at hi2
    have g := (d2.1 i hi).1
    exact zSc_fr (fun b q q2 => hf b (by omega) (by omega) (by omega)) (zSc_ag (fun j j0 j1 => (hN (135 + 33 * (i : Int) + j) (by omega) (by omega)).symm) (d3 i hi hi2))
theorem zCh_seat {σ σ' : zMem} {a : Nat} {N : zR} {k t d : Int} (hB : zBd N) (hS : 0 ≤ N 33 ∧ N 33 < 7) (e0 : σ' a 0 = N 33 + 1) (e1 : σ' a 1 = σ a 1) (e2 : σ' a 2 = 0) (f1 : σ' (a + 1) = zup (σ (a + 1)) (N 33) k) (f2 : σ' (a + 2) = zup (σ (a + 2)) (N 33) t) (f3 : σ' (a + 9) = zup (σ (a + 9)) (N 33) d) (hf : ∀ b, a ≤ b → b ≤ a + 48 → b ≠ a → b ≠ a + 1 → b ≠ a + 2 → b ≠ a + 9 → σ' b = σ b) (hc : zCh σ a N) : zCh σ' a (zsN N k t d) := by
  obtain ⟨⟨⟨c0, c1, c2, c3⟩, ⟨c4, c41, c42, c43⟩, c5, c6, c7⟩, d1, p, d2, d3⟩ := hc
  obtain ⟨b1, b2, b3, b4, b5, b6⟩ := hB
  have n33 : zsN N k t d 33 = N 33 + 1 := by unfold zsN; simp (disch := omega) only [zup_same, zup_ne]
  have n134 : zsN N k t d 134 = 0 := by unfold zsN; simp (disch := omega) only [zup_same]
  have nk : zsN N k t d (34 + N 33) = k := by unfold zsN; simp (disch := omega) only [zup_same, zup_ne]
  have nt : zsN N k t d (41 + N 33) = t := by unfold zsN; simp (disch := omega) only [zup_same, zup_ne]
  have nd : zsN N k t d (25 + N 33) = d := by unfold zsN; simp (disch := omega) only [zup_same, zup_ne]
  have lo : ∀ j, j ≠ 34 + N 33 → j ≠ 41 + N 33 → j ≠ 25 + N 33 → j ≠ 33 → j ≠ 134 → zsN N k t d j = N j := fun j h1 h2 h3 h4 h5 => by unfold zsN; simp (disch := omega) only [zup_ne]
  refine ⟨⟨⟨e0.trans n33.symm, by rw [e1, lo 48 (by omega) (by omega) (by omega) (by omega) (by omega)]; exact c1, fun s h0 h1 => ?_, fun c h0 h1 => ?_⟩, ⟨fun c h0 h1 => ?_, fun i h0 h1 => ?_, fun s h0 h1 => ?_, ?_⟩, zRo_mv (hf _ (by omega) (by omega) (by omega) (by omega) (by omega) (by omega)) (hf _ (by omega) (by omega) (by omega) (by omega) (by omega) (by omega)) (lo _ (by omega) (by omega) (by omega) (by omega) (by omega)) (fun i j _ _ _ _ => lo _ (by omega) (by omega) (by omega) (by omega) (by omega)) c5, zRo_mv (hf _ (by omega) (by omega) (by omega) (by omega) (by omega) (by omega)) (hf _ (by omega) (by omega) (by omega) (by omega) (by omega) (by omega)) (lo _ (by omega) (by omega) (by omega) (by omega) (by omega)) (fun i j _ _ _ _ => lo _ (by omega) (by omega) (by omega) (by omega) (by omega)) c6, zRo_mv (hf _ (by omega) (by omega) (by omega) (by omega) (by omega) (by omega)) (hf _ (by omega) (by omega) (by omega) (by omega) (by omega) (by omega)) (lo _ (by omega) (by omega) (by omega) (by omega) (by omega)) (fun i j _ _ _ _ => lo _ (by omega) (by omega) (by omega) (by omega) (by omega)) c7⟩, e2.trans n134.symm, p, zPa_fr (hf _ (by omega) (by omega) (by omega) (by omega) (by omega) (by omega)) d2, fun i hi hi2 => by rw [n134] at hi2; omega⟩
  · rw [n33] at h1
    rw [f1, f2]
    by_cases q : s = N 33
    · rw [q, zup_same, zup_same, nk, nt]; exact ⟨rfl, rfl⟩
    · rw [zup_ne _ _ q, zup_ne _ _ q, lo _ (by omega) (by omega) (by omega) (by omega) (by omega), lo _ (by omega) (by omega) (by omega) (by omega) (by omega)]; exact c2 s h0 (by omega)
  · rw [lo 48 (by omega) (by omega) (by omega) (by omega) (by omega)] at h1
    rw [hf _ (by omega) (by omega) (by omega) (by omega) (by omega) (by omega), hf _ (by omega) (by omega) (by omega) (by omega) (by omega) (by omega), hf _ (by omega) (by omega) (by omega) (by omega) (by omega) (by omega), lo _ (by omega) (by omega) (by omega) (by omega) (by omega), lo _ (by omega) (by omega) (by omega) (by omega) (by omega)]; exact c3 c h0 h1
  · rw [hf _ (by omega) (by omega) (by omega) (by omega) (by omega) (by omega), lo _ (by omega) (by omega) (by omega) (by omega) (by omega)]; exact c4 c h0 h1
  · rw [hf _ (by omega) (by omega) (by omega) (by omega) (by omega) (by omega), lo _ (by omega) (by omega) (by omega) (by omega) (by omega)]; exact c41 i h0 h1
  · rw [show a + 6 + 3 = a + 9 by omega, f3]
    by_cases q : s = N 33
    · rw [q, zup_same, nd]
    · rw [zup_ne _ _ q, lo _ (by omega) (by omega) (by omega) (by omega) (by omega)]; exact c42 s h0 h1
  · rw [hf _ (by omega) (by omega) (by omega) (by omega) (by omega) (by omega), lo _ (by omega) (by omega) (by omega) (by omega) (by omega)]; exact c43
theorem zCh_canon {σ σ' : zMem} {a : Nat} {N : zR} {k w : Int} (hB : zBd N) (hS : 0 ≤ N 48 ∧ N 48 < 5) (e0 : σ' a 0 = σ a 0) (e1 : σ' a 1 = N 48 + 1) (e2 : σ' a 2 = 0) (f1 : σ' (a + 3) = zup (σ (a + 3)) (N 48) k) (f2 : σ' (a + 4) = zup (σ (a + 4)) (N 48) w) (f3 : σ' (a + 5) = zup (σ (a + 5)) (N 48) (zhv k w)) (hf : ∀ b, a ≤ b → b ≤ a + 48 → b ≠ a → b ≠ a + 3 → b ≠ a + 4 → b ≠ a + 5 → σ' b = σ b) (hc : zCh σ a N) : zCh σ' a (zcN N k w) := by
  obtain ⟨⟨⟨c0, c1, c2, c3⟩, c4, c5, c6, c7⟩, d1, p, d2, d3⟩ := hc
  obtain ⟨b1, b2, b3, b4, b5, b6⟩ := hB
  have n48 : zcN N k w 48 = N 48 + 1 := by unfold zcN; simp (disch := omega) only [zup_same, zup_ne]
  have n134 : zcN N k w 134 = 0 := by unfold zcN; simp (disch := omega) only [zup_same]
  have nk : zcN N k w (49 + N 48) = k := by unfold zcN; simp (disch := omega) only [zup_same, zup_ne]
  have nw : zcN N k w (54 + N 48) = w := by unfold zcN; simp (disch := omega) only [zup_same, zup_ne]
  have lo : ∀ j, j ≠ 49 + N 48 → j ≠ 54 + N 48 → j ≠ 48 → j ≠ 134 → zcN N k w j = N j := fun j h1 h2 h3 h4 => by unfold zcN; simp (disch := omega) only [zup_ne]
  refine ⟨⟨⟨by rw [e0, lo 33 (by omega) (by omega) (by omega) (by omega)]; exact c0, e1.trans n48.symm, fun s h0 h1 => ?_, fun c h0 h1 => ?_⟩, zSc_fr (fun b q q2 => hf b (by omega) (by omega) (by omega) (by omega) (by omega) (by omega)) (zSc_ag (fun j j0 j1 => (lo j (by omega) (by omega) (by omega) (by omega)).symm) c4), zRo_mv (hf _ (by omega) (by omega) (by omega) (by omega) (by omega) (by omega)) (hf _ (by omega) (by omega) (by omega) (by omega) (by omega) (by omega)) (lo _ (by omega) (by omega) (by omega) (by omega)) (fun i j _ _ _ _ => lo _ (by omega) (by omega) (by omega) (by omega)) c5, zRo_mv (hf _ (by omega) (by omega) (by omega) (by omega) (by omega) (by omega)) (hf _ (by omega) (by omega) (by omega) (by omega) (by omega) (by omega)) (lo _ (by omega) (by omega) (by omega) (by omega)) (fun i j _ _ _ _ => lo _ (by omega) (by omega) (by omega) (by omega)) c6, zRo_mv (hf _ (by omega) (by omega) (by omega) (by omega) (by omega) (by omega)) (hf _ (by omega) (by omega) (by omega) (by omega) (by omega) (by omega)) (lo _ (by omega) (by omega) (by omega) (by omega)) (fun i j _ _ _ _ => lo _ (by omega) (by omega) (by omega) (by omega)) c7⟩, e2.trans n134.symm, p, zPa_fr (hf _ (by omega) (by omega) (by omega) (by omega) (by omega) (by omega)) d2, fun i hi hi2 => by rw [n134] at hi2; omega⟩
  · rw [lo 33 (by omega) (by omega) (by omega) (by omega)] at h1
    rw [hf _ (by omega) (by omega) (by omega) (by omega) (by omega) (by omega), hf _ (by omega) (by omega) (by omega) (by omega) (by omega) (by omega), lo _ (by omega) (by omega) (by omega) (by omega), lo _ (by omega) (by omega) (by omega) (by omega)]; exact c2 s h0 h1
  · rw [n48] at h1
    rw [f1, f2, f3]
    by_cases q : c = N 48
    · rw [q, zup_same, zup_same, zup_same, nk, nw]; exact ⟨rfl, rfl, rfl⟩
    · rw [zup_ne _ _ q, zup_ne _ _ q, zup_ne _ _ q, lo _ (by omega) (by omega) (by omega) (by omega), lo _ (by omega) (by omega) (by omega) (by omega)]; exact c3 c h0 (by omega)
/-- nothing is there -/
theorem zCh_empty {σ : zMem} {a : Nat} (g : zR) (hst : zSF σ a) (h0 : σ a 0 = 0) (h1 : σ a 1 = 0) (h2 : σ a 2 = 0) (hs : zSc σ (a + 6) zS0) (w1 : σ (a + 11) 1 = 0) (w2 : σ (a + 13) 1 = 0) (w3 : σ (a + 15) 1 = 0) : zCh σ a (zem g) := by
  have e : ∀ j, 5 ≤ j → j < 399 → zem g j = 0 := fun j j0 j1 => by unfold zem; rw [if_neg (by omega), if_pos (by omega)]
  have e33 := e 33 (by omega) (by omega)
  have e48 := e 48 (by omega) (by omega)
  have e59 := e 59 (by omega) (by omega)
  have e78 := e 78 (by omega) (by omega)
  have e109 := e 109 (by omega) (by omega)
  have e134 := e 134 (by omega) (by omega)
  obtain ⟨⟨p, hp⟩, v1, v2, v3⟩ := hst
  refine ⟨⟨⟨h0.trans e33.symm, h1.trans e48.symm, fun s q q2 => by omega, fun c q q2 => by omega⟩, zSc_ag (fun j j0 j1 => ?_) hs, ⟨v1, w1.trans e59.symm, fun i j q q2 => by omega⟩, ⟨v2, w2.trans e78.symm, fun i j q q2 => by omega⟩, ⟨v3, w3.trans e109.symm, fun i j q q2 => by omega⟩⟩, h2.trans e134.symm, p, hp, fun i hi hi2 => by omega⟩
  unfold zS0 zem
  by_cases q : 0 ≤ j ∧ j < 5
  · rw [if_pos q, if_pos q]
  · rw [if_neg q, if_neg q, if_pos (by omega)]
theorem sp_X0_empty {l : Launch} {d : Nat} {σ : zMem} (hd : 2 ≤ d) {a : Nat} (ha : zly a = some (0, 13)) (hst : zSF σ a) (g : zR)  : zSp l d mX0_empty [.ref a] σ (fun v σ1 => v = none ∧ zCh σ1 a (zem g) ∧ ∀ r, ¬ (a ≤ r ∧ r ≤ a + 48) → σ1 r = σ r) := by
  refine zSp_of oX0_empty (Nat.le_of_ble_eq_true rfl) ?_
  show zw l d mX0_empty 0 [some (.ref a)] [] σ _
  refine zw_aload_n 1 dX0_empty_0 rfl rfl ?_
  refine zw_iconst 2 dX0_empty_1 rfl ?_
  refine zw_pti 5 0 dX0_empty_2 rfl pX0_53 (by decide) rfl rfl ha ?_
  refine zw_aload_n 6 dX0_empty_5 rfl rfl ?_
  refine zw_iconst 7 dX0_empty_6 rfl ?_
  refine zw_pti 10 1 dX0_empty_7 rfl pX0_57 (by decide) rfl rfl ha ?_
  refine zw_aload_n 11 dX0_empty_10 rfl rfl ?_
  refine zw_iconst 12 dX0_empty_11 rfl ?_
  refine zw_pti 15 2 dX0_empty_12 rfl pX0_60 (by decide) rfl rfl ha ?_
  refine zw_aload_n 16 dX0_empty_15 rfl rfl ?_
  refine zw_getr 19 (a + 6) (o := 6) dX0_empty_16 rfl fX0_30 (by decide) rfl rfl ha ?_
  refine zw_callV 22 _ _ dX0_empty_19 rfl kX0_63 qX2_empty (zl_sub ha 0 6 rfl rfl) ⟨_, rfl, rfl⟩ (by decide) (sp_X2_empty (d := d - 1) (by omega) (zl_sub ha 0 6 rfl rfl)) (by omega) rfl rfl (Nat.le_of_ble_eq_true rfl) (fun r σ' hq => ?_)
  obtain ⟨rfl, q1, q2⟩ := hq
  refine zw_aload_n 23 dX0_empty_22 rfl rfl ?_
  refine zw_getr 26 (a + 11) (o := 11) dX0_empty_23 rfl fX0_43 (by decide) rfl rfl ha ?_
  refine zw_iconst 27 dX0_empty_26 rfl ?_
  refine zw_pti 30 1 dX0_empty_27 rfl pX0_66 (by decide) rfl rfl (zl_sub ha 0 11 rfl rfl) ?_
  refine zw_aload_n 31 dX0_empty_30 rfl rfl ?_
  refine zw_getr 34 (a + 13) (o := 13) dX0_empty_31 rfl fX0_47 (by decide) rfl rfl ha ?_
  refine zw_iconst 35 dX0_empty_34 rfl ?_
  refine zw_pti 38 1 dX0_empty_35 rfl pX0_66 (by decide) rfl rfl (zl_sub ha 0 13 rfl rfl) ?_
  refine zw_aload_n 39 dX0_empty_38 rfl rfl ?_
  refine zw_getr 42 (a + 15) (o := 15) dX0_empty_39 rfl fX0_50 (by decide) rfl rfl ha ?_
  refine zw_iconst 43 dX0_empty_42 rfl ?_
  refine zw_pti 46 1 dX0_empty_43 rfl pX0_66 (by decide) rfl rfl (zl_sub ha 0 15 rfl rfl) ?_
  refine zw_vret dX0_empty_46 rfl ?_
  have k0 : ∀ r, ¬ (a + 6 ≤ r ∧ r ≤ a + 9) → σ' r = zwr (zwr (zwr σ a 0 0) a 1 0) a 2 0 r := fun r hr => q2 r (by omega)
  refine ⟨rfl, zCh_empty g ?_ ?_ ?_ ?_ (zSc_fr (fun b h0 h1 => ?_) q1) ?_ ?_ ?_, fun r hr => ?_⟩
  · obtain ⟨⟨p, hp⟩, v1, v2, v3⟩ := hst
    refine ⟨⟨p, zPa_fr ?_ hp⟩, ?_, ?_, ?_⟩
    · simp (disch := omega) only [zwr_ne, k0]
    · simp (disch := omega) only [zwr_ne, zwr_ni, k0]; exact v1
    · simp (disch := omega) only [zwr_ne, zwr_ni, k0]; exact v2
    · simp (disch := omega) only [zwr_ne, zwr_ni, k0]; exact v3
  · simp (disch := omega) only [zwr_ne, zwr_ni, zwr_same, k0]
  · simp (disch := omega) only [zwr_ne, zwr_ni, zwr_same, k0]
  · simp (disch := omega) only [zwr_ne, zwr_ni, zwr_same, k0]
  · simp (disch := omega) only [zwr_ne]
  · simp (disch := omega) only [zwr_ne, zwr_same]
  · simp (disch := omega) only [zwr_ne, zwr_same]
  · simp (disch := omega) only [zwr_same]
  · simp (disch := omega) only [zwr_ne, k0]
theorem sp_X0_addSeat {l : Launch} {d : Nat} {σ : zMem} {a : Nat} (ha : zly a = some (0, 13)) {N : zR} (hC : zCh σ a N) (hB : zBd N) (hS : 0 ≤ N 33 ∧ N 33 < 7) {k t e : Int}  : zSp l d mX0_addSeat [.ref a, .int (zI k), .int (zI t), .int (zI e)] σ (fun v σ1 => v = some (.int (zI (N 33))) ∧ zCh σ1 a (zsN N k t e) ∧ ∀ r, ¬ (a ≤ r ∧ r ≤ a + 48) → σ1 r = σ r) := by
  refine zSp_of oX0_addSeat (Nat.le_of_ble_eq_true rfl) ?_
  show zw l d mX0_addSeat 0 [some (.ref a), some (.int (zI k)), some (.int (zI t)), some (.int (zI e))] [] σ _
  have c0 := hC.1.1.1
  refine zw_aload_n 1 dX0_addSeat_0 rfl rfl ?_
  refine zw_getr 4 (a + 1) (o := 1) dX0_addSeat_1 rfl fX0_9 (by decide) rfl rfl ha ?_
  refine zw_aload_n 5 dX0_addSeat_4 rfl rfl ?_
  refine zw_gti 8 0 dX0_addSeat_5 rfl fX0_53 (by decide) rfl rfl ha ?_
  rw [c0]
  refine zw_iload_n 9 dX0_addSeat_8 rfl rfl ?_
  refine zw_iast 10 dX0_addSeat_9 rfl (zl_sub ha 0 1 rfl rfl) (by omega) ?_
  refine zw_aload_n 11 dX0_addSeat_10 rfl rfl ?_
  refine zw_getr 14 (a + 2) (o := 2) dX0_addSeat_11 rfl fX0_15 (by decide) rfl rfl ha ?_
  refine zw_aload_n 15 dX0_addSeat_14 rfl rfl ?_
  refine zw_gti 18 0 dX0_addSeat_15 rfl fX0_53 (by decide) rfl rfl ha ?_
  rw [zwr_ne _ _ _ (by omega), c0]
  refine zw_iload_n 19 dX0_addSeat_18 rfl rfl ?_
  refine zw_iast 20 dX0_addSeat_19 rfl (zl_sub ha 0 2 rfl rfl) (by omega) ?_
  refine zw_aload_n 21 dX0_addSeat_20 rfl rfl ?_
  refine zw_getr 24 (a + 6) (o := 6) dX0_addSeat_21 rfl fX0_30 (by decide) rfl rfl ha ?_
  refine zw_getr 27 (a + 9) (o := 3) dX0_addSeat_24 rfl fX0_82 (by decide) rfl rfl (zl_sub ha 0 6 rfl rfl) ?_
  refine zw_aload_n 28 dX0_addSeat_27 rfl rfl ?_
  refine zw_gti 31 0 dX0_addSeat_28 rfl fX0_53 (by decide) rfl rfl ha ?_
  rw [zwr_ne _ _ _ (by omega), zwr_ne _ _ _ (by omega), c0]
  refine zw_iload_n 32 dX0_addSeat_31 rfl rfl ?_
  refine zw_iast 33 dX0_addSeat_32 rfl (zl_sub ha 0 9 rfl rfl) (by omega) ?_
  refine zw_aload_n 34 dX0_addSeat_33 rfl rfl ?_
  refine zw_iconst 35 dX0_addSeat_34 rfl ?_
  refine zw_pti 38 2 dX0_addSeat_35 rfl pX0_60 (by decide) rfl rfl ha ?_
  refine zw_aload_n 39 dX0_addSeat_38 rfl rfl ?_
  refine zw_dup 40 dX0_addSeat_39 rfl rfl ?_
  refine zw_gti 43 0 dX0_addSeat_40 rfl fX0_53 (by decide) rfl rfl ha ?_
  rw [zwr_ni _ _ _ (by omega), zwr_ne _ _ _ (by omega), zwr_ne _ _ _ (by omega), zwr_ne _ _ _ (by omega), c0]
  refine zw_iconst 44 dX0_addSeat_43 rfl ?_
  refine zw_iadd 45 dX0_addSeat_44 rfl ?_
  refine zw_pti 48 0 dX0_addSeat_45 rfl pX0_53 (by decide) rfl rfl ha ?_
  refine zw_aload_n 49 dX0_addSeat_48 rfl rfl ?_
  refine zw_gti 52 0 dX0_addSeat_49 rfl fX0_53 (by decide) rfl rfl ha ?_
  rw [zwr_same]
  refine zw_iconst 53 dX0_addSeat_52 rfl ?_
  refine zw_isub 54 dX0_addSeat_53 rfl ?_
  refine zw_iret dX0_addSeat_54 rfl ?_
  refine ⟨by rw [show N 33 + 1 - 1 = N 33 by omega], zCh_seat hB hS ?_ ?_ ?_ ?_ ?_ ?_ (fun b h0 h1 h2 h3 h4 h5 => ?_) hC, fun r hr => ?_⟩
  · rw [zwr_same]
  · simp (disch := omega) only [zwr_ne, zwr_ni]
  · simp (disch := omega) only [zwr_ne, zwr_ni, zwr_same]
  · simp (disch := omega) only [zwr_ne, zwr, zwa_ne, zwa_same]
  · simp (disch := omega) only [zwr_ne, zwr, zwa_ne, zwa_same]
  · simp (disch := omega) only [zwr_ne, zwr, zwa_ne, zwa_same]
  · simp (disch := omega) only [zwr_ne]
  · simp (disch := omega) only [zwr_ne]
theorem sp_X0_addCanon {l : Launch} {d : Nat} {σ : zMem} (hd : 1 ≤ d) {a : Nat} (ha : zly a = some (0, 13)) {N : zR} (hC : zCh σ a N) (hB : zBd N) (hS : 0 ≤ N 48 ∧ N 48 < 5) {k w : Int} (hk : -2147483648 ≤ k ∧ k < 2147483648) (hw : 0 ≤ w ∧ w < 1000000)  : zSp l d mX0_addCanon [.ref a, .int (zI k), .int (zI w)] σ (fun v σ1 => v = some (.int (zI (N 48))) ∧ zCh σ1 a (zcN N k w) ∧ ∀ r, ¬ (a ≤ r ∧ r ≤ a + 48) → σ1 r = σ r) := by
  refine zSp_of oX0_addCanon (Nat.le_of_ble_eq_true rfl) ?_
  show zw l d mX0_addCanon 0 [some (.ref a), some (.int (zI k)), some (.int (zI w))] [] σ _
  have c0 := hC.1.1.2.1
  refine zw_aload_n 1 dX0_addCanon_0 rfl rfl ?_
  refine zw_getr 4 (a + 3) (o := 3) dX0_addCanon_1 rfl fX0_18 (by decide) rfl rfl ha ?_
  refine zw_aload_n 5 dX0_addCanon_4 rfl rfl ?_
  refine zw_gti 8 1 dX0_addCanon_5 rfl fX0_57 (by decide) rfl rfl ha ?_
  rw [c0]
  refine zw_iload_n 9 dX0_addCanon_8 rfl rfl ?_
  refine zw_iast 10 dX0_addCanon_9 rfl (zl_sub ha 0 3 rfl rfl) (by omega) ?_
  refine zw_aload_n 11 dX0_addCanon_10 rfl rfl ?_
  refine zw_getr 14 (a + 4) (o := 4) dX0_addCanon_11 rfl fX0_21 (by decide) rfl rfl ha ?_
  refine zw_aload_n 15 dX0_addCanon_14 rfl rfl ?_
  refine zw_gti 18 1 dX0_addCanon_15 rfl fX0_57 (by decide) rfl rfl ha ?_
  rw [zwr_ne _ _ _ (by omega), c0]
  refine zw_iload_n 19 dX0_addCanon_18 rfl rfl ?_
  refine zw_iast 20 dX0_addCanon_19 rfl (zl_sub ha 0 4 rfl rfl) (by omega) ?_
  refine zw_aload_n 21 dX0_addCanon_20 rfl rfl ?_
  refine zw_getr 24 (a + 5) (o := 5) dX0_addCanon_21 rfl fX0_24 (by decide) rfl rfl ha ?_
  refine zw_aload_n 25 dX0_addCanon_24 rfl rfl ?_
  refine zw_gti 28 1 dX0_addCanon_25 rfl fX0_57 (by decide) rfl rfl ha ?_
  rw [zwr_ne _ _ _ (by omega), zwr_ne _ _ _ (by omega), c0]
  refine zw_iload_n 29 dX0_addCanon_28 rfl rfl ?_
  refine zw_iload_n 30 dX0_addCanon_29 rfl rfl ?_
  refine zw_callN 33 _ _ dX0_addCanon_30 rfl kX0_85 qX5_heavy (sp_X5_heavy (d := d - 1) (k := k) (w := w) hk hw) (by omega) rfl rfl (Nat.le_of_ble_eq_true rfl) (fun r σ' hq => ?_)
  obtain ⟨rfl, rfl⟩ := hq
  refine zw_iast 34 dX0_addCanon_33 rfl (zl_sub ha 0 5 rfl rfl) (by omega) ?_
  refine zw_aload_n 35 dX0_addCanon_34 rfl rfl ?_
  refine zw_iconst 36 dX0_addCanon_35 rfl ?_
  refine zw_pti 39 2 dX0_addCanon_36 rfl pX0_60 (by decide) rfl rfl ha ?_
  refine zw_aload_n 40 dX0_addCanon_39 rfl rfl ?_
  refine zw_dup 41 dX0_addCanon_40 rfl rfl ?_
  refine zw_gti 44 1 dX0_addCanon_41 rfl fX0_57 (by decide) rfl rfl ha ?_
  rw [zwr_ni _ _ _ (by omega), zwr_ne _ _ _ (by omega), zwr_ne _ _ _ (by omega), zwr_ne _ _ _ (by omega), c0]
  refine zw_iconst 45 dX0_addCanon_44 rfl ?_
  refine zw_iadd 46 dX0_addCanon_45 rfl ?_
  refine zw_pti 49 1 dX0_addCanon_46 rfl pX0_57 (by decide) rfl rfl ha ?_
  refine zw_aload_n 50 dX0_addCanon_49 rfl rfl ?_
  refine zw_gti 53 1 dX0_addCanon_50 rfl fX0_57 (by decide) rfl rfl ha ?_
  rw [zwr_same]
  refine zw_iconst 54 dX0_addCanon_53 rfl ?_
  refine zw_isub 55 dX0_addCanon_54 rfl ?_
  refine zw_iret dX0_addCanon_55 rfl ?_
  refine ⟨by rw [show N 48 + 1 - 1 = N 48 by omega], zCh_canon hB hS ?_ ?_ ?_ ?_ ?_ ?_ (fun b h0 h1 h2 h3 h4 h5 => ?_) hC, fun r hr => ?_⟩
  · simp (disch := omega) only [zwr_ne, zwr_ni]
  · rw [zwr_same]
  · simp (disch := omega) only [zwr_ne, zwr_ni, zwr_same]
  · simp (disch := omega) only [zwr_ne, zwr, zwa_ne, zwa_same]
  · simp (disch := omega) only [zwr_ne, zwr, zwa_ne, zwa_same]
  · simp (disch := omega) only [zwr_ne, zwr, zwa_ne, zwa_same]
  · simp (disch := omega) only [zwr_ne]
  · simp (disch := omega) only [zwr_ne]
