theorem zVT_seat {r : zR} {x y z : Int} (h : zVT r) (hc : r 33 ≠ 7) (hx : 0 ≤ x ∧ x ≤ 5) (hy : 0 ≤ y ∧ y ≤ 3) (hz : 0 ≤ z ∧ z ≤ 40) : zVT (zup (zup (zup (zup r (34 + r 33) x) (41 + r 33) y) (25 + r 33) z) 33 (r 33 + 1)) := by
  obtain ⟨⟨s1, s2, s3, s4⟩, ⟨v1, v2, v3, v4, v5⟩, y0, y1⟩ := h
  have lo : ∀ j, j < 25 ∨ (32 ≤ j ∧ j < 33) ∨ 48 ≤ j → zup (zup (zup (zup r (34 + r 33) x) (41 + r 33) y) (25 + r 33) z) 33 (r 33 + 1) j = r j := fun j hj => by
    rw [zup_ne _ _ (by omega), zup_ne _ _ (by omega), zup_ne _ _ (by omega), zup_ne _ _ (by omega)]
  have e33 : zup (zup (zup (zup r (34 + r 33) x) (41 + r 33) y) (25 + r 33) z) 33 (r 33 + 1) 33 = r 33 + 1 := zup_same _ _ _
  refine ⟨⟨by rw [e33]; omega, by rw [lo 48 (by omega)]; exact s2, fun s h0 h1 => ?_, fun c h0 h1 => by rw [lo (49 + c) (by omega), lo (54 + c) (by omega)]; exact s4 c h0 h1⟩, ⟨fun c h0 h1 => ?_, fun i h0 h1 => by rw [lo (5 + i) (by omega)]; exact v2 i h0 h1, fun s h0 h1 => ?_, fun c c' h0 h1 h2 h3 h4 h5 => ?_, fun c h0 h1 h2 => ?_⟩, ?_⟩
  · have q := s3 s h0 h1
    have e1 : zup (zup (zup (zup r (34 + r 33) x) (41 + r 33) y) (25 + r 33) z) 33 (r 33 + 1) (34 + s) = r (34 + s) ∨ zup (zup (zup (zup r (34 + r 33) x) (41 + r 33) y) (25 + r 33) z) 33 (r 33 + 1) (34 + s) = x := by
      rw [zup_ne _ _ (by omega), zup_ne _ _ (by omega), zup_ne _ _ (by omega)]
      unfold zup; split
      · exact Or.inr rfl
      · exact Or.inl rfl
    have e2 : zup (zup (zup (zup r (34 + r 33) x) (41 + r 33) y) (25 + r 33) z) 33 (r 33 + 1) (41 + s) = r (41 + s) ∨ zup (zup (zup (zup r (34 + r 33) x) (41 + r 33) y) (25 + r 33) z) 33 (r 33 + 1) (41 + s) = y := by
      rw [zup_ne _ _ (by omega), zup_ne _ _ (by omega)]
      by_cases q2 : s = r 33
      · rw [q2, zup_same]; exact Or.inr rfl
      · rw [zup_ne _ _ (by omega), zup_ne _ _ (by omega)]; exact Or.inl rfl
    omega
  · rw [lo c (by omega), e33]; have := v1 c h0 h1; omega
  · have q := v3 s h0 h1
    have e1 : zup (zup (zup (zup r (34 + r 33) x) (41 + r 33) y) (25 + r 33) z) 33 (r 33 + 1) (25 + s) = r (25 + s) ∨ zup (zup (zup (zup r (34 + r 33) x) (41 + r 33) y) (25 + r 33) z) 33 (r 33 + 1) (25 + s) = z := by
      rw [zup_ne _ _ (by omega)]
      by_cases q2 : s = r 33
      · rw [q2, zup_same]; exact Or.inr rfl
      · rw [zup_ne _ _ (by omega), zup_ne _ _ (by omega), zup_ne _ _ (by omega)]; exact Or.inl rfl
    omega
  · rw [lo c (by omega), lo c' (by omega)] at h5
    rw [lo c (by omega)]; exact v4 c c' h0 h1 h2 h3 h4 h5
  · rw [lo 48 (by omega)] at h0
    rw [lo c (by omega)]
    exact ⟨(v5 c h0 h1 h2).1, fun k k0 k1 => by rw [lo (5 + 4 * c + k) (by omega)]; exact (v5 c h0 h1 h2).2 k k0 k1⟩
  · rw [lo 32 (by omega)]; exact ⟨y0, y1⟩
theorem zVT_canon {r : zR} {x y : Int} (h : zVT r) (hc : r 48 ≠ 5) (hx : 0 ≤ x ∧ x ≤ 5) (hy : 1 ≤ y ∧ y ≤ 9) : zVT (zup (zup (zup r (49 + r 48) x) (54 + r 48) y) 48 (r 48 + 1)) := by
  obtain ⟨⟨s1, s2, s3, s4⟩, ⟨v1, v2, v3, v4, v5⟩, y0, y1⟩ := h
  have lo : ∀ j, j < 48 → zup (zup (zup r (49 + r 48) x) (54 + r 48) y) 48 (r 48 + 1) j = r j := fun j hj => by
    rw [zup_ne _ _ (by omega), zup_ne _ _ (by omega), zup_ne _ _ (by omega)]
  have e48 : zup (zup (zup r (49 + r 48) x) (54 + r 48) y) 48 (r 48 + 1) 48 = r 48 + 1 := zup_same _ _ _
  refine ⟨⟨by rw [lo 33 (by omega)]; exact s1, by rw [e48]; omega, fun s h0 h1 => by rw [lo (34 + s) (by omega), lo (41 + s) (by omega)]; exact s3 s h0 h1, fun c h0 h1 => ?_⟩, ⟨fun c h0 h1 => by rw [lo c (by omega), lo 33 (by omega)]; exact v1 c h0 h1, fun i h0 h1 => by rw [lo (5 + i) (by omega)]; exact v2 i h0 h1, fun s h0 h1 => by rw [lo (25 + s) (by omega)]; exact v3 s h0 h1, fun c c' h0 h1 h2 h3 h4 h5 => ?_, fun c h0 h1 h2 => ?_⟩, ?_⟩
  · have q := s4 c h0 h1
    have e1 : zup (zup (zup r (49 + r 48) x) (54 + r 48) y) 48 (r 48 + 1) (49 + c) = r (49 + c) ∨ zup (zup (zup r (49 + r 48) x) (54 + r 48) y) 48 (r 48 + 1) (49 + c) = x := by
      rw [zup_ne _ _ (by omega), zup_ne _ _ (by omega)]
      unfold zup; split
      · exact Or.inr rfl
      · exact Or.inl rfl
    have e2 : zup (zup (zup r (49 + r 48) x) (54 + r 48) y) 48 (r 48 + 1) (54 + c) = r (54 + c) ∨ zup (zup (zup r (49 + r 48) x) (54 + r 48) y) 48 (r 48 + 1) (54 + c) = y := by
      rw [zup_ne _ _ (by omega)]
      by_cases q2 : c = r 48
      · rw [q2, zup_same]; exact Or.inr rfl
      · rw [zup_ne _ _ (by omega), zup_ne _ _ (by omega)]; exact Or.inl rfl
    omega
  · rw [lo c (by omega), lo c' (by omega)] at h5
    rw [lo c (by omega)]; exact v4 c c' h0 h1 h2 h3 h4 h5
  · rw [e48] at h0
    rw [lo c (by omega)]
    exact ⟨(v5 c (by omega) h1 h2).1, fun k k0 k1 => by rw [lo (5 + 4 * c + k) (by omega)]; exact (v5 c (by omega) h1 h2).2 k k0 k1⟩
  · rw [lo 32 (by omega)]; exact ⟨y0, y1⟩
theorem zVT_years : ∀ (n : Nat) {r : zR}, zVT r → zVT (zyl n r)
  | 0, r, h => h
  | n + 1, r, h => by
    unfold zyl
    by_cases q : r 32 < 999
    · rw [if_pos q]; exact zVT_years n (zVT_y h q)
    · rw [if_neg q]; exact zVT_years n h
theorem zoo_years {N : zR} : ∀ (n : Nat) {r : zR}, zVT r → zoo N r → zoo N (zyl n r)
  | 0, r, _, h => h
  | n + 1, r, hT, h => by
    unfold zyl
    by_cases q : r 32 < 999
    · rw [if_pos q]; exact zoo_years n (zVT_y hT q) (zoo_y hT h)
    · rw [if_neg q]; exact zoo_years n hT h
theorem zoo_up {N r : zR} {i x : Int} (h : zoo N r) (hi : 0 ≤ i ∧ i < 399) : zoo N (zup r i x) := fun j hj => by
  rw [zup_ne _ _ (by omega)]; exact h j hj
theorem zVT_sit {r : zR} {c s : Int} (h : zVT r) (hc : 0 ≤ c ∧ c < r 48) (hs0 : 0 ≤ s ∧ s < r 33) (hw : zwo r s = -1 ∨ zwo r s = c) : zVT (zup r c s) := by
  have hc5 := h.1.2.1
  have e : ∀ i, 33 ≤ i → zup r c s i = r i := fun i hi => zup_ne _ _ (by omega)
  exact ⟨zVs_congr e h.1, zVr_congr e (zVr_put h.1 h.2.1 hc hs0 hw), by rw [zup_ne _ _ (by omega)]; exact h.2.2⟩
/-- a read number's bounds; and that its end is further on -/
theorem zrE_ok {tx : zR} {n i lo hi j : Int} {K : Int → Int → Except Int (Int × zR)} {r : zR} (h : zrE tx n i lo hi K = .ok (j, r)) : (lo ≤ zTv tx n i ∧ zTv tx n i ≤ hi) ∧ K (zTe tx n i) (zTv tx n i) = .ok (j, r) := by
  unfold zrE at h
  rcases zNb_b tx n i lo hi with q | q
  · rw [if_neg (by omega)] at h; cases h
  · rw [if_pos q] at h; exact ⟨(zNb_1 q).2, h⟩
theorem zrSeat_V {tx : zR} {n i b j : Int} {r r' N : zR} (h : zrSeat tx n i b r = .ok (j, r')) (hT : zVT r) (ho : zoo N r) : zVT r' ∧ zoo N r' := by
  have hr := hT.1.1
  unfold zrSeat at h
  by_cases q : r 33 = 7
  · rw [if_pos q] at h; cases h
  · rw [if_neg q] at h
    obtain ⟨b1, h⟩ := zrE_ok h
    obtain ⟨b2, h⟩ := zrE_ok h
    obtain ⟨b3, h⟩ := zrE_ok h
    simp only [Except.ok.injEq, Prod.mk.injEq] at h
    rw [← h.2]
    exact ⟨zVT_seat hT q b1 b2 b3, zoo_up (zoo_up (zoo_up (zoo_up ho (by omega)) (by omega)) (by omega)) (by omega)⟩
theorem zrCanon_V {tx : zR} {n i b j : Int} {r r' N : zR} (h : zrCanon tx n i b r = .ok (j, r')) (hT : zVT r) (ho : zoo N r) : zVT r' ∧ zoo N r' := by
  have hr := hT.1.2.1
  unfold zrCanon at h
  by_cases q : r 48 = 5
  · rw [if_pos q] at h; cases h
  · rw [if_neg q] at h
    obtain ⟨b1, h⟩ := zrE_ok h
    obtain ⟨b2, h⟩ := zrE_ok h
    simp only [Except.ok.injEq, Prod.mk.injEq] at h
    rw [← h.2]
    exact ⟨zVT_canon hT q b1 b2, zoo_up (zoo_up (zoo_up ho (by omega)) (by omega)) (by omega)⟩
theorem zrSit_V {tx : zR} {n i j : Int} {r r' N : zR} (h : zrSit tx n i r = .ok (j, r')) (hT : zVT r) (ho : zoo N r) : zVT r' ∧ zoo N r' := by
  have hr := hT.1.2.1
  unfold zrSit at h
  obtain ⟨b1, h⟩ := zrE_ok h
  obtain ⟨b2, h⟩ := zrE_ok h
  by_cases q : zwo r (zTv tx n (zTe tx n i)) ≠ -1 ∧ zwo r (zTv tx n (zTe tx n i)) ≠ zTv tx n i
  · rw [if_pos q] at h; cases h
  · rw [if_neg q] at h
    simp only [Except.ok.injEq, Prod.mk.injEq] at h
    rw [← h.2]
    exact ⟨zVT_sit hT (by omega) (by omega) (by omega), zoo_up ho (by omega)⟩
theorem zrYears_V {tx : zR} {n i j : Int} {r r' N : zR} (h : zrYears tx n i r = .ok (j, r')) (hT : zVT r) (ho : zoo N r) : zVT r' ∧ zoo N r' := by
  unfold zrYears at h
  obtain ⟨b1, h⟩ := zrE_ok h
  simp only [Except.ok.injEq, Prod.mk.injEq] at h
  rw [← h.2]
  exact ⟨zVT_years _ hT, zoo_years _ hT ho⟩
theorem zrItem_V {tx : zR} {n i c j : Int} {r r' N : zR} (h : zrItem tx n i c r = .ok (j, r')) (hT : zVT r) (ho : zoo N r) : zVT r' ∧ zoo N r' := by
  unfold zrItem at h
  split at h
  · split at h
    · simp only [Except.ok.injEq, Prod.mk.injEq] at h
      rw [← h.2]; exact ⟨hT, ho⟩
    · cases h
  · split at h
    · cases h
    · split at h
      · exact zrSeat_V h hT ho
      · split at h
        · exact zrCanon_V h hT ho
        · split at h
          · exact zrSit_V h hT ho
          · split at h
            · exact zrYears_V h hT ho
            · cases h
