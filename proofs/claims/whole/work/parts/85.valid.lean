/-! ===== a chapter stays valid ===== -/
def zVa (N : zR) : Prop := ((0 ≤ N 59 ∧ N 59 ≤ 6) ∧ ∀ i, 0 ≤ i → i < N 59 → (0 ≤ N (60 + 3 * i) ∧ N (60 + 3 * i) < N 48) ∧ (0 ≤ N (60 + 3 * i + 1) ∧ N (60 + 3 * i + 1) ≤ 3) ∧ 0 ≤ N (60 + 3 * i + 2) ∧ N (60 + 3 * i + 2) ≤ 99)
def zVb (N : zR) : Prop := ((0 ≤ N 78 ∧ N 78 ≤ 6) ∧ ∀ i, 0 ≤ i → i < N 78 → (0 ≤ N (79 + 5 * i) ∧ N (79 + 5 * i) < N 33) ∧ (0 ≤ N (79 + 5 * i + 1) ∧ N (79 + 5 * i + 1) ≤ 40) ∧ (0 ≤ N (79 + 5 * i + 2) ∧ N (79 + 5 * i + 2) ≤ 99) ∧ (0 ≤ N (79 + 5 * i + 3) ∧ N (79 + 5 * i + 3) ≤ 99) ∧ 0 ≤ N (79 + 5 * i + 4) ∧ N (79 + 5 * i + 4) ≤ 40)
def zVc (N : zR) : Prop := ((0 ≤ N 109 ∧ N 109 ≤ 6) ∧ ∀ i, 0 ≤ i → i < N 109 → (0 ≤ N (110 + 4 * i) ∧ N (110 + 4 * i) < N 48) ∧ (0 ≤ N (110 + 4 * i + 1) ∧ N (110 + 4 * i + 1) ≤ 40) ∧ (0 ≤ N (110 + 4 * i + 2) ∧ N (110 + 4 * i + 2) ≤ 99) ∧ 0 ≤ N (110 + 4 * i + 3) ∧ N (110 + 4 * i + 3) ≤ 60)
def zVp (N : zR) : Prop := ((0 ≤ N 134 ∧ N 134 ≤ 8) ∧ ∀ j, 0 ≤ j → j < N 134 → zVr N (fun i => N (135 + 33 * j + i)) ∧ 0 ≤ N (135 + 33 * j + 32) ∧ N (135 + 33 * j + 32) ≤ 999)
theorem zVN_i {N : zR} : zVN N ↔ zVT N ∧ zVa N ∧ zVb N ∧ zVc N ∧ zVp N := ⟨fun ⟨a, b, c, d, e, f, g⟩ => ⟨⟨a, b, c⟩, d, e, f, g⟩, fun ⟨⟨a, b, c⟩, d, e, f, g⟩ => ⟨a, b, c, d, e, f, g⟩⟩
theorem zVa_mv {N N' : zR} (h : zVa N) (e : ∀ j, 59 ≤ j → j < 78 → N' j = N j) (e48 : N 48 ≤ N' 48) : zVa N' := by
  obtain ⟨a, b⟩ := h
  unfold zVa
  rw [e 59 (by omega) (by omega)]
  refine ⟨a, fun i i0 i1 => ?_⟩
  have := b i i0 i1
  rw [e (60 + 3 * i) (by omega) (by omega), e (60 + 3 * i + 1) (by omega) (by omega), e (60 + 3 * i + 2) (by omega) (by omega)]
  omega
theorem zVb_mv {N N' : zR} (h : zVb N) (e : ∀ j, 78 ≤ j → j < 109 → N' j = N j) (e33 : N 33 ≤ N' 33) : zVb N' := by
  obtain ⟨a, b⟩ := h
  unfold zVb
  rw [e 78 (by omega) (by omega)]
  refine ⟨a, fun i i0 i1 => ?_⟩
  have := b i i0 i1
  rw [e (79 + 5 * i) (by omega) (by omega), e (79 + 5 * i + 1) (by omega) (by omega), e (79 + 5 * i + 2) (by omega) (by omega), e (79 + 5 * i + 3) (by omega) (by omega), e (79 + 5 * i + 4) (by omega) (by omega)]
  omega
theorem zVc_mv {N N' : zR} (h : zVc N) (e : ∀ j, 109 ≤ j → j < 134 → N' j = N j) (e48 : N 48 ≤ N' 48) : zVc N' := by
  obtain ⟨a, b⟩ := h
  unfold zVc
  rw [e 109 (by omega) (by omega)]
  refine ⟨a, fun i i0 i1 => ?_⟩
  have := b i i0 i1
  rw [e (110 + 4 * i) (by omega) (by omega), e (110 + 4 * i + 1) (by omega) (by omega), e (110 + 4 * i + 2) (by omega) (by omega), e (110 + 4 * i + 3) (by omega) (by omega)]
  omega
theorem zVr_c2 {N N' t t' : zR} (e33 : N' 33 = N 33) (e48 : N' 48 = N 48) (e : ∀ j, 0 ≤ j → j < 32 → t' j = t j) (h : zVr N t) : zVr N' t' := by
  obtain ⟨a, b, c, d, f⟩ := h
  refine ⟨fun x x0 x1 => ?_, fun i i0 i1 => ?_, fun s s0 s1 => ?_, fun x y x0 x1 y0 y1 hn he => ?_, fun x hx x0 x1 => ?_⟩
  · rw [e33, e x x0 (by omega)]; exact a x x0 x1
  · rw [e _ (by omega) (by omega)]; exact b i i0 i1
  · rw [e _ (by omega) (by omega)]; exact c s s0 s1
  · rw [e x x0 (by omega)]
    rw [e x x0 (by omega), e y y0 (by omega)] at he
    exact d x y x0 x1 y0 y1 hn he
  · rw [e48] at hx
    rw [e x x0 (by omega)]
    refine ⟨(f x hx x0 x1).1, fun k k0 k1 => ?_⟩
    rw [e _ (by omega) (by omega)]; exact (f x hx x0 x1).2 k k0 k1
theorem zVp_mv {N N' : zR} (h : zVp N) (e33 : N' 33 = N 33) (e48 : N' 48 = N 48) (e134 : 0 ≤ N' 134 ∧ N' 134 ≤ N 134) (e : ∀ j, 135 ≤ j → j < 135 + 33 * N' 134 → N' j = N j) : zVp N' := by
  obtain ⟨a, b⟩ := h
  refine ⟨by omega, fun j j0 j1 => ?_⟩
  obtain ⟨b1, b2⟩ := b j j0 (by omega)
  refine ⟨zVr_c2 e33 e48 (fun i i0 i1 => e _ (by omega) (by omega)) b1, ?_⟩
  rw [e _ (by omega) (by omega)]; exact b2
theorem zVp_0 {N : zR} (h : N 134 = 0) : zVp N := ⟨by omega, fun j j0 j1 => by omega⟩
theorem zVN_ag {N N' : zR} (e : ∀ j, 0 ≤ j → j < 399 → N' j = N j) (h : zVN N) : zVN N' := by
  obtain ⟨hT, hA, hB, hC, hP⟩ := zVN_i.mp h
  obtain ⟨⟨s1, s2, s3, s4⟩, hv, hy⟩ := hT
  have e33 := e 33 (by omega) (by omega)
  have e48 := e 48 (by omega) (by omega)
  refine zVN_i.mpr ⟨⟨⟨by rw [e33]; exact s1, by rw [e48]; exact s2, fun s s0 s5 => ?_, fun c c0 c5 => ?_⟩, zVr_c2 e33 e48 (fun j j0 j1 => e j j0 (by omega)) hv, by rw [e 32 (by omega) (by omega)]; exact hy⟩, zVa_mv hA (fun j j0 j1 => e j (by omega) (by omega)) (by omega), zVb_mv hB (fun j j0 j1 => e j (by omega) (by omega)) (by omega), zVc_mv hC (fun j j0 j1 => e j (by omega) (by omega)) (by omega), ?_⟩
  · rw [e (34 + s) (by omega) (by omega), e (41 + s) (by omega) (by omega)]; exact s3 s s0 s5
  · rw [e (49 + c) (by omega) (by omega), e (54 + c) (by omega) (by omega)]; exact s4 c c0 c5
  · have e134 := e 134 (by omega) (by omega)
    have := hP.1
    exact zVp_mv hP e33 e48 (by omega) (fun j j0 j1 => e j (by omega) (by omega))
theorem zVN_em (g : zR) : zVN (zem g) := by
  refine zVN_i.mpr ⟨zVT_em g, ⟨?_, fun i i0 i1 => ?_⟩, ⟨?_, fun i i0 i1 => ?_⟩, ⟨?_, fun i i0 i1 => ?_⟩, zVp_0 (zem_hi g (by omega))⟩
  all_goals (first | rw [zem_hi g (by omega)] at i1 | rw [zem_hi g (by omega)]); omega
theorem zVN_zs {r : zR} (hT : zVT r) (hz : zZs r) : zVN r := by
  obtain ⟨a, b, c, e⟩ := hz
  exact zVN_i.mpr ⟨hT, ⟨by omega, fun i i0 i1 => by omega⟩, ⟨by omega, fun i i0 i1 => by omega⟩, ⟨by omega, fun i i0 i1 => by omega⟩, zVp_0 e⟩
theorem zVN_s {N : zR} (h : zVN N) {k t d : Int} (h7 : N 33 ≠ 7) (hk : 0 ≤ k ∧ k ≤ 5) (ht : 0 ≤ t ∧ t ≤ 3) (hd : 0 ≤ d ∧ d ≤ 40) : zVN (zsN N k t d) := by
  obtain ⟨hT, hA, hB, hC, hP⟩ := zVN_i.mp h
  have b := hT.1.1
  have hT2 := zVT_seat hT h7 hk ht hd
  have ef : zup (zup (zup N (34 + N 33) k) (41 + N 33) t) (25 + N 33) d 33 = N 33 := by rw [zup_ne _ _ (by omega), zup_ne _ _ (by omega), zup_ne _ _ (by omega)]
  have e : zsN N k t d = zup (zup (zup (zup (zup N (34 + N 33) k) (41 + N 33) t) (25 + N 33) d) 33 (N 33 + 1)) 134 0 := by
    unfold zsN; dsimp only; rw [ef]
  have o : ∀ j, 48 ≤ j → j ≠ 134 → zsN N k t d j = N j := fun j j0 j1 => by
    rw [e, zup_ne _ _ j1, zup_ne _ _ (by omega), zup_ne _ _ (by omega), zup_ne _ _ (by omega), zup_ne _ _ (by omega)]
  have o33 : zsN N k t d 33 = N 33 + 1 := by rw [e, zup_ne _ _ (by omega), zup_same]
  have o48 := o 48 (by omega) (by omega)
  refine zVN_i.mpr ⟨?_, zVa_mv hA (fun j j0 j1 => o j (by omega) (by omega)) (by omega), zVb_mv hB (fun j j0 j1 => o j (by omega) (by omega)) (by omega), zVc_mv hC (fun j j0 j1 => o j (by omega) (by omega)) (by omega), zVp_0 (by rw [e, zup_same])⟩
  rw [e]; exact zVT_lo (fun i hi => zup_ne _ _ (by omega)) hT2
theorem zVN_c {N : zR} (h : zVN N) {k w : Int} (h5 : N 48 ≠ 5) (hk : 0 ≤ k ∧ k ≤ 5) (hw : 1 ≤ w ∧ w ≤ 9) : zVN (zcN N k w) := by
  obtain ⟨hT, hA, hB, hC, hP⟩ := zVN_i.mp h
  have b := hT.1.2.1
  have hT2 := zVT_canon hT h5 hk hw
  have ef : zup (zup N (49 + N 48) k) (54 + N 48) w 48 = N 48 := by rw [zup_ne _ _ (by omega), zup_ne _ _ (by omega)]
  have e : zcN N k w = zup (zup (zup (zup N (49 + N 48) k) (54 + N 48) w) 48 (N 48 + 1)) 134 0 := by
    unfold zcN; dsimp only; rw [ef]
  have o : ∀ j, (59 ≤ j ∨ j = 33) → j ≠ 134 → zcN N k w j = N j := fun j j0 j1 => by
    rw [e, zup_ne _ _ j1, zup_ne _ _ (by omega), zup_ne _ _ (by omega), zup_ne _ _ (by omega)]
  have o33 := o 33 (by omega) (by omega)
  have o48 : zcN N k w 48 = N 48 + 1 := by rw [e, zup_ne _ _ (by omega), zup_same]
  refine zVN_i.mpr ⟨?_, zVa_mv hA (fun j j0 j1 => o j (by omega) (by omega)) (by omega), zVb_mv hB (fun j j0 j1 => o j (by omega) (by omega)) (by omega), zVc_mv hC (fun j j0 j1 => o j (by omega) (by omega)) (by omega), zVp_0 (by rw [e, zup_same])⟩
  rw [e]; exact zVT_lo (fun i hi => zup_ne _ _ (by omega)) hT2
/-- a row added to one of the tables -/
theorem zVT_ag {N N' : zR} (e : ∀ j, 0 ≤ j → j < 59 → N' j = N j) (h : zVT N) : zVT N' := by
  obtain ⟨⟨s1, s2, s3, s4⟩, hv, hy⟩ := h
  have e33 := e 33 (by omega) (by omega)
  have e48 := e 48 (by omega) (by omega)
  refine ⟨⟨by rw [e33]; exact s1, by rw [e48]; exact s2, fun s s0 s5 => ?_, fun c c0 c5 => ?_⟩, zVr_c2 e33 e48 (fun j j0 j1 => e j j0 (by omega)) hv, by rw [e 32 (by omega) (by omega)]; exact hy⟩
  · rw [e (34 + s) (by omega) (by omega), e (41 + s) (by omega) (by omega)]; exact s3 s s0 s5
  · rw [e (49 + c) (by omega) (by omega), e (54 + c) (by omega) (by omega)]; exact s4 c c0 c5
theorem zVN_w2 {N : zR} (h : zVN N) {c t x : Int} (h6 : N 59 ≠ 6) (hc : 0 ≤ c ∧ c < N 48) (ht : 0 ≤ t ∧ t ≤ 3) (hx : 0 ≤ x ∧ x ≤ 99) : zVN (zwN N c t x) := by
  obtain ⟨hT, hA, hB, hC, hP⟩ := zVN_i.mp h
  have b := hA.1
  have bp := hP.1
  have ef : zup (zup (zup N (60 + 3 * N 59) c) (60 + 3 * N 59 + 1) t) (60 + 3 * N 59 + 2) x 59 = N 59 := by rw [zup_ne _ _ (by omega), zup_ne _ _ (by omega), zup_ne _ _ (by omega)]
  have e : zwN N c t x = zup (zup (zup (zup N (60 + 3 * N 59) c) (60 + 3 * N 59 + 1) t) (60 + 3 * N 59 + 2) x) 59 (N 59 + 1) := by
    unfold zwN; dsimp only; rw [ef]
  have o : ∀ j, j ≠ 59 → ¬ (60 + 3 * N 59 ≤ j ∧ j < 60 + 3 * N 59 + 3) → zwN N c t x j = N j := fun j j0 j1 => by
    rw [e, zup_ne _ _ (by omega), zup_ne _ _ (by omega), zup_ne _ _ (by omega), zup_ne _ _ (by omega)]
  have o33 := o 33 (by omega) (by omega)
  have o48 := o 48 (by omega) (by omega)
  have o134 := o 134 (by omega) (by omega)
  have o59 : zwN N c t x 59 = N 59 + 1 := by rw [e, zup_same]
  refine zVN_i.mpr ⟨zVT_ag (fun j j0 j1 => o j (by omega) (by omega)) hT, ⟨by omega, fun i i0 i1 => ?_⟩, zVb_mv hB (fun j j0 j1 => o j (by omega) (by omega)) (by omega), zVc_mv hC (fun j j0 j1 => o j (by omega) (by omega)) (by omega), zVp_mv hP o33 o48 (by omega) (fun j j0 j1 => o j (by omega) (by omega))⟩
  by_cases q : i = N 59
  · have a0 : zwN N c t x (60 + 3 * i) = c := by rw [q, e, zup_ne _ _ (by omega), zup_ne _ _ (by omega), zup_ne _ _ (by omega), zup_same]
    have a1 : zwN N c t x (60 + 3 * i + 1) = t := by rw [q, e, zup_ne _ _ (by omega), zup_ne _ _ (by omega), zup_same]
    have a2 : zwN N c t x (60 + 3 * i + 2) = x := by rw [q, e, zup_ne _ _ (by omega), zup_same]
    omega
  · have := hA.2 i i0 (by omega)
    rw [o (60 + 3 * i) (by omega) (by omega), o (60 + 3 * i + 1) (by omega) (by omega), o (60 + 3 * i + 2) (by omega) (by omega)]; omega
theorem zVN_n2 {N : zR} (h : zVN N) {s d y w x : Int} (h6 : N 78 ≠ 6) (hs : 0 ≤ s ∧ s < N 33) (hd : 0 ≤ d ∧ d ≤ 40) (hy : 0 ≤ y ∧ y ≤ 99) (hw : 0 ≤ w ∧ w ≤ 99) (hx : 0 ≤ x ∧ x ≤ 40) : zVN (znN N s d y w x) := by
  obtain ⟨hT, hA, hB, hC, hP⟩ := zVN_i.mp h
  have b := hB.1
  have bp := hP.1
  have ba := hA.1
  have ef : zup (zup (zup (zup (zup N (79 + 5 * N 78) s) (79 + 5 * N 78 + 1) d) (79 + 5 * N 78 + 2) y) (79 + 5 * N 78 + 3) w) (79 + 5 * N 78 + 4) x 78 = N 78 := by rw [zup_ne _ _ (by omega), zup_ne _ _ (by omega), zup_ne _ _ (by omega), zup_ne _ _ (by omega), zup_ne _ _ (by omega)]
  have e : znN N s d y w x = zup (zup (zup (zup (zup (zup N (79 + 5 * N 78) s) (79 + 5 * N 78 + 1) d) (79 + 5 * N 78 + 2) y) (79 + 5 * N 78 + 3) w) (79 + 5 * N 78 + 4) x) 78 (N 78 + 1) := by
    unfold znN; dsimp only; rw [ef]
  have o : ∀ j, j ≠ 78 → ¬ (79 + 5 * N 78 ≤ j ∧ j < 79 + 5 * N 78 + 5) → znN N s d y w x j = N j := fun j j0 j1 => by
    rw [e, zup_ne _ _ (by omega), zup_ne _ _ (by omega), zup_ne _ _ (by omega), zup_ne _ _ (by omega), zup_ne _ _ (by omega), zup_ne _ _ (by omega)]
  have o33 := o 33 (by omega) (by omega)
  have o48 := o 48 (by omega) (by omega)
  have o134 := o 134 (by omega) (by omega)
  have o78 : znN N s d y w x 78 = N 78 + 1 := by rw [e, zup_same]
  refine zVN_i.mpr ⟨zVT_ag (fun j j0 j1 => o j (by omega) (by omega)) hT, zVa_mv hA (fun j j0 j1 => o j (by omega) (by omega)) (by omega), ⟨by omega, fun i i0 i1 => ?_⟩, zVc_mv hC (fun j j0 j1 => o j (by omega) (by omega)) (by omega), zVp_mv hP o33 o48 (by omega) (fun j j0 j1 => o j (by omega) (by omega))⟩
  by_cases q : i = N 78
  · have a0 : znN N s d y w x (79 + 5 * i) = s := by rw [q, e, zup_ne _ _ (by omega), zup_ne _ _ (by omega), zup_ne _ _ (by omega), zup_ne _ _ (by omega), zup_ne _ _ (by omega), zup_same]
    have a1 : znN N s d y w x (79 + 5 * i + 1) = d := by rw [q, e, zup_ne _ _ (by omega), zup_ne _ _ (by omega), zup_ne _ _ (by omega), zup_ne _ _ (by omega), zup_same]
    have a2 : znN N s d y w x (79 + 5 * i + 2) = y := by rw [q, e, zup_ne _ _ (by omega), zup_ne _ _ (by omega), zup_ne _ _ (by omega), zup_same]
    have a3 : znN N s d y w x (79 + 5 * i + 3) = w := by rw [q, e, zup_ne _ _ (by omega), zup_ne _ _ (by omega), zup_same]
    have a4 : znN N s d y w x (79 + 5 * i + 4) = x := by rw [q, e, zup_ne _ _ (by omega), zup_same]
    omega
  · have := hB.2 i i0 (by omega)
    rw [o (79 + 5 * i) (by omega) (by omega), o (79 + 5 * i + 1) (by omega) (by omega), o (79 + 5 * i + 2) (by omega) (by omega), o (79 + 5 * i + 3) (by omega) (by omega), o (79 + 5 * i + 4) (by omega) (by omega)]; omega
theorem zVN_m2 {N : zR} (h : zVN N) {c g w x : Int} (h6 : N 109 ≠ 6) (hc : 0 ≤ c ∧ c < N 48) (hg : 0 ≤ g ∧ g ≤ 40) (hw : 0 ≤ w ∧ w ≤ 99) (hx : 0 ≤ x ∧ x ≤ 60) : zVN (zmN N c g w x) := by
  obtain ⟨hT, hA, hB, hC, hP⟩ := zVN_i.mp h
  have b := hC.1
  have bp := hP.1
  have ef : zup (zup (zup (zup N (110 + 4 * N 109) c) (110 + 4 * N 109 + 1) g) (110 + 4 * N 109 + 2) w) (110 + 4 * N 109 + 3) x 109 = N 109 := by rw [zup_ne _ _ (by omega), zup_ne _ _ (by omega), zup_ne _ _ (by omega), zup_ne _ _ (by omega)]
  have e : zmN N c g w x = zup (zup (zup (zup (zup N (110 + 4 * N 109) c) (110 + 4 * N 109 + 1) g) (110 + 4 * N 109 + 2) w) (110 + 4 * N 109 + 3) x) 109 (N 109 + 1) := by
    unfold zmN; dsimp only; rw [ef]
  have o : ∀ j, j ≠ 109 → ¬ (110 + 4 * N 109 ≤ j ∧ j < 110 + 4 * N 109 + 4) → zmN N c g w x j = N j := fun j j0 j1 => by
    rw [e, zup_ne _ _ (by omega), zup_ne _ _ (by omega), zup_ne _ _ (by omega), zup_ne _ _ (by omega), zup_ne _ _ (by omega)]
  have o33 := o 33 (by omega) (by omega)
  have o48 := o 48 (by omega) (by omega)
  have o134 := o 134 (by omega) (by omega)
  have o109 : zmN N c g w x 109 = N 109 + 1 := by rw [e, zup_same]
  refine zVN_i.mpr ⟨zVT_ag (fun j j0 j1 => o j (by omega) (by omega)) hT, zVa_mv hA (fun j j0 j1 => o j (by omega) (by omega)) (by omega), zVb_mv hB (fun j j0 j1 => o j (by omega) (by omega)) (by omega), ⟨by omega, fun i i0 i1 => ?_⟩, zVp_mv hP o33 o48 (by omega) (fun j j0 j1 => o j (by omega) (by omega))⟩
  by_cases q : i = N 109
  · have a0 : zmN N c g w x (110 + 4 * i) = c := by rw [q, e, zup_ne _ _ (by omega), zup_ne _ _ (by omega), zup_ne _ _ (by omega), zup_ne _ _ (by omega), zup_same]
    have a1 : zmN N c g w x (110 + 4 * i + 1) = g := by rw [q, e, zup_ne _ _ (by omega), zup_ne _ _ (by omega), zup_ne _ _ (by omega), zup_same]
    have a2 : zmN N c g w x (110 + 4 * i + 2) = w := by rw [q, e, zup_ne _ _ (by omega), zup_ne _ _ (by omega), zup_same]
    have a3 : zmN N c g w x (110 + 4 * i + 3) = x := by rw [q, e, zup_ne _ _ (by omega), zup_same]
    omega
  · have := hC.2 i i0 (by omega)
    rw [o (110 + 4 * i) (by omega) (by omega), o (110 + 4 * i + 1) (by omega) (by omega), o (110 + 4 * i + 2) (by omega) (by omega), o (110 + 4 * i + 3) (by omega) (by omega)]; omega
theorem zVN_f {N : zR} (h : zVN N) {k : Int} (hk : k = 59 ∨ k = 78 ∨ k = 109) : zVN (zup N k 0) := by
  obtain ⟨hT, hA, hB, hC, hP⟩ := zVN_i.mp h
  have bp := hP.1
  have o : ∀ j, j ≠ k → zup N k 0 j = N j := fun j j0 => zup_ne _ _ j0
  have o33 := o 33 (by omega)
  have o48 := o 48 (by omega)
  have o134 := o 134 (by omega)
  refine zVN_i.mpr ⟨zVT_ag (fun j j0 j1 => o j (by omega)) hT, ?_, ?_, ?_, zVp_mv hP o33 o48 (by omega) (fun j j0 j1 => o j (by omega))⟩
  · by_cases q : k = 59
    · subst q; exact ⟨by rw [zup_same]; omega, fun i i0 i1 => by rw [zup_same] at i1; omega⟩
    · exact zVa_mv hA (fun j j0 j1 => o j (by omega)) (by omega)
  · by_cases q : k = 78
    · subst q; exact ⟨by rw [zup_same]; omega, fun i i0 i1 => by rw [zup_same] at i1; omega⟩
    · exact zVb_mv hB (fun j j0 j1 => o j (by omega)) (by omega)
  · by_cases q : k = 109
    · subst q; exact ⟨by rw [zup_same]; omega, fun i i0 i1 => by rw [zup_same] at i1; omega⟩
    · exact zVc_mv hC (fun j j0 j1 => o j (by omega)) (by omega)
theorem zVp_rem {N : zR} (h : zVN N) : zVp (zrem N) := by
  obtain ⟨hT, hA, hB, hC, hP⟩ := zVN_i.mp h
  have b := hP.1
  have lo : ∀ j, j < 134 → zrem N j = N j := fun j hj => zrem_lo N b hj
  have e33 := lo 33 (by omega)
  have e48 := lo 48 (by omega)
  have e134 := zrem_134 b
  by_cases q : N 134 = 8
  · have e7 : zr1 N 134 = 7 := by unfold zr1; rw [if_pos q, zup_same]; omega
    have rr : ∀ j, 0 ≤ j → j < 7 → ∀ i, 0 ≤ i → i < 33 → zrem N (135 + 33 * j + i) = N (135 + 33 * (j + 1) + i) := fun j j0 j1 i i0 i1 => by
      unfold zrem
      rw [e7, zup_ne _ _ (by omega)]
      unfold zcy
      rw [if_neg (by omega)]
      unfold zr1
      rw [if_pos q, zup_ne _ _ (by omega)]
      unfold zsf
      rw [if_pos (by omega)]; congr 1; omega
    have r7 : ∀ i, 0 ≤ i → i < 33 → zrem N (135 + 33 * 7 + i) = N i := fun i i0 i1 => by
      unfold zrem
      rw [e7, zup_ne _ _ (by omega)]
      unfold zcy
      rw [if_pos (by omega)]
      unfold zr1
      rw [if_pos q, zup_ne _ _ (by omega)]
      unfold zsf
      rw [if_neg (by omega)]; congr 1; omega
    refine ⟨by omega, fun j j0 j1 => ?_⟩
    by_cases q2 : j = 7
    · rw [q2]
      refine ⟨zVr_c2 e33 e48 (fun i i0 i1 => r7 i i0 (by omega)) hT.2.1, ?_⟩
      rw [r7 32 (by omega) (by omega)]; exact hT.2.2
    · obtain ⟨b1, b2⟩ := hP.2 (j + 1) (by omega) (by omega)
      refine ⟨zVr_c2 e33 e48 (fun i i0 i1 => rr j j0 (by omega) i i0 (by omega)) b1, ?_⟩
      rw [rr j j0 (by omega) 32 (by omega) (by omega)]; exact b2
  · have e1 : zr1 N = N := if_neg q
    rw [e1] at e134
    have rr : ∀ j, 0 ≤ j → j < N 134 → ∀ i, 0 ≤ i → i < 33 → zrem N (135 + 33 * j + i) = N (135 + 33 * j + i) := fun j j0 j1 i i0 i1 => by
      unfold zrem
      rw [e1, zup_ne _ _ (by omega)]
      unfold zcy
      rw [if_neg (by omega)]
    have r7 : ∀ i, 0 ≤ i → i < 33 → zrem N (135 + 33 * N 134 + i) = N i := fun i i0 i1 => by
      unfold zrem
      rw [e1, zup_ne _ _ (by omega)]
      unfold zcy
      rw [if_pos (by omega)]; congr 1; omega
    refine ⟨by omega, fun j j0 j1 => ?_⟩
    by_cases q2 : j = N 134
    · rw [q2]
      refine ⟨zVr_c2 e33 e48 (fun i i0 i1 => r7 i i0 (by omega)) hT.2.1, ?_⟩
      rw [r7 32 (by omega) (by omega)]; exact hT.2.2
    · obtain ⟨b1, b2⟩ := hP.2 j j0 (by omega)
      refine ⟨zVr_c2 e33 e48 (fun i i0 i1 => rr j j0 (by omega) i i0 (by omega)) b1, ?_⟩
      rw [rr j j0 (by omega) 32 (by omega) (by omega)]; exact b2
theorem zVN_rem {N : zR} (h : zVN N) : zVN (zrem N) := by
  obtain ⟨hT, hA, hB, hC, hP⟩ := zVN_i.mp h
  have lo : ∀ j, j < 134 → zrem N j = N j := fun j hj => zrem_lo N hP.1 hj
  have e33 := lo 33 (by omega)
  have e48 := lo 48 (by omega)
  exact zVN_i.mpr ⟨zVT_lo lo hT, zVa_mv hA (fun j j0 j1 => lo j (by omega)) (by omega), zVb_mv hB (fun j j0 j1 => lo j (by omega)) (by omega), zVc_mv hC (fun j j0 j1 => lo j (by omega)) (by omega), zVp_rem h⟩
/-- the row itself anew, the rest as it was -/
theorem zVN_row {N N' : zR} (h : zVN N) (hT : zVT N') (e : ∀ j, 33 ≤ j → N' j = N j) : zVN N' := by
  obtain ⟨_, hA, hB, hC, hP⟩ := zVN_i.mp h
  have e33 := e 33 (by omega)
  have e48 := e 48 (by omega)
  have e134 := e 134 (by omega)
  have := hP.1
  exact zVN_i.mpr ⟨hT, zVa_mv hA (fun j j0 j1 => e j (by omega)) (by omega), zVb_mv hB (fun j j0 j1 => e j (by omega)) (by omega), zVc_mv hC (fun j j0 j1 => e j (by omega)) (by omega), zVp_mv hP e33 e48 (by omega) (fun j j0 j1 => e j (by omega))⟩
theorem zVN_yl {N : zR} (h : zVN N) (n : Nat) : zVN (zyl n N) := zVN_row h (zVT_years n (zVN_T h)) (fun j hj => zyl_hi hj n (zVN_T h))
theorem zVT_off {N : zR} (h : zVT N) {c : Int} (hc : 0 ≤ c ∧ c < N 48) : zVT (zup N c (-1)) := by
  obtain ⟨hs, ⟨v1, v2, v3, v4, v5⟩, hy⟩ := h
  have b := hs.2.1
  have b1 := hs.1
  have e : ∀ i, 33 ≤ i → zup N c (-1) i = N i := fun i hi => zup_ne _ _ (by omega)
  refine ⟨zVs_congr e hs, zVr_congr e ⟨fun a a0 a1 => ?_, fun i i0 i1 => ?_, fun s s0 s1 => ?_, fun a b2 ha ha1 hb hb1 hne he => ?_, fun a ha a0 a1 => ?_⟩, by rw [zup_ne _ _ (by omega)]; exact hy⟩
  · by_cases q : a = c
    · rw [q, zup_same]; omega
    · rw [zup_ne _ _ q]; exact v1 a a0 a1
  · rw [zup_ne _ _ (by omega)]; exact v2 i i0 i1
  · rw [zup_ne _ _ (by omega)]; exact v3 s s0 s1
  · by_cases q : a = c
    · rw [q, zup_same]
    · rw [zup_ne _ _ q] at he ⊢
      by_cases q2 : b2 = c
      · rw [q2, zup_same] at he; exact he
      · rw [zup_ne _ _ q2] at he; exact v4 a b2 ha ha1 hb hb1 hne he
  · rw [zup_ne _ _ (by omega)]
    refine ⟨(v5 a ha a0 a1).1, fun k k0 k1 => ?_⟩
    rw [zup_ne _ _ (by omega)]; exact (v5 a ha a0 a1).2 k k0 k1
theorem zVN_sit {N : zR} (h : zVN N) {c s : Int} (hc : 0 ≤ c ∧ c < N 48) (hs : -1 ≤ s ∧ s < N 33) (hw : s ≠ -1 → zwo N s = -1 ∨ zwo N s = c) : zVN (zup N c s) := by
  have hb := (zVN_T h).1.2.1
  refine zVN_row h ?_ (fun j hj => zup_ne _ _ (by omega))
  by_cases q : s = -1
  · rw [q]; exact zVT_off (zVN_T h) hc
  · exact zVT_sit (zVN_T h) hc (by omega) (hw q)
theorem zVN_sw {N : zR} (h : zVN N) {a b : Int} (ha : 0 ≤ a ∧ a < N 48) (hb : 0 ≤ b ∧ b < N 48) : zVN (zsw N a b) := by
  obtain ⟨hs, ⟨v1, v2, v3, v4, v5⟩, hy⟩ := zVN_T h
  have b5 := hs.2.1
  have b1 := hs.1
  have e : ∀ i, 5 ≤ i → zsw N a b i = N i := fun i hi => by unfold zsw; rw [zup_ne _ _ (by omega), zup_ne _ _ (by omega)]
  have ea : ∀ i, i ≠ a → i ≠ b → zsw N a b i = N i := fun i h1 h2 => by unfold zsw; rw [zup_ne _ _ h2, zup_ne _ _ h1]
  have eb : zsw N a b b = N a := by unfold zsw; rw [zup_same]
  have ec : a ≠ b → zsw N a b a = N b := fun q => by unfold zsw; rw [zup_ne _ _ q, zup_same]
  have pw : ∀ i, zsw N a b i = N (if i = b then a else if i = a then b else i) := fun i => by
    by_cases q : i = b
    · rw [q, eb, if_pos rfl]
    · rw [if_neg q]
      by_cases q2 : i = a
      · rw [q2, ec (by omega), if_pos rfl]
      · rw [if_neg q2]; exact ea i q2 q
  refine zVN_row h ⟨zVs_congr (fun i hi => e i (by omega)) hs, zVr_congr (fun i hi => e i (by omega)) ⟨fun i i0 i1 => ?_, fun i i0 i1 => ?_, fun s s0 s1 => ?_, fun i j hi hi1 hj hj1 hne he => ?_, fun i hi i0 i1 => ?_⟩, by rw [e 32 (by omega)]; exact hy⟩ (fun j hj => e j (by omega))
  · rw [pw]
    apply v1 <;> (split <;> (try split) <;> omega)
  · rw [e _ (by omega)]; exact v2 i i0 i1
  · rw [e _ (by omega)]; exact v3 s s0 s1
  · rw [pw, pw j] at he
    rw [pw]
    refine v4 _ (if j = b then a else if j = a then b else j) ?_ ?_ ?_ ?_ ?_ he
    all_goals (repeat' split) <;> omega
  · rw [ea i (by omega) (by omega)]
    refine ⟨(v5 i hi i0 i1).1, fun k k0 k1 => ?_⟩
    rw [e _ (by omega)]; exact (v5 i hi i0 i1).2 k k0 k1
theorem zVN_un {N : zR} (h : zVN N) (h0 : N 134 ≠ 0) : zVN (zun N) := by
  obtain ⟨hT, hA, hB, hC, hP⟩ := zVN_i.mp h
  have b := hP.1
  have o : ∀ j, 33 ≤ j → j ≠ 134 → zun N j = N j := fun j j0 j1 => by
    unfold zun zcy; rw [if_neg (by omega), zup_ne _ _ j1]
  have r : ∀ j, 0 ≤ j → j < 33 → zun N j = N (135 + 33 * (N 134 - 1) + j) := fun j j0 j1 => by
    unfold zun zcy; rw [if_pos (by omega), zup_ne _ _ (by omega)]; congr 1; omega
  have o134 : zun N 134 = N 134 - 1 := by unfold zun zcy; rw [if_neg (by omega), zup_same]
  have e33 := o 33 (by omega) (by omega)
  have e48 := o 48 (by omega) (by omega)
  obtain ⟨b1, b2⟩ := hP.2 (N 134 - 1) (by omega) (by omega)
  obtain ⟨⟨s1, s2, s3, s4⟩, hv, hy⟩ := hT
  refine zVN_i.mpr ⟨⟨⟨by rw [e33]; exact s1, by rw [e48]; exact s2, fun s s0 s5 => ?_, fun c c0 c5 => ?_⟩, zVr_c2 e33 e48 (fun j j0 j1 => r j j0 (by omega)) b1, by rw [r 32 (by omega) (by omega)]; exact b2⟩, zVa_mv hA (fun j j0 j1 => o j (by omega) (by omega)) (by omega), zVb_mv hB (fun j j0 j1 => o j (by omega) (by omega)) (by omega), zVc_mv hC (fun j j0 j1 => o j (by omega) (by omega)) (by omega), zVp_mv hP e33 e48 (by omega) (fun j j0 j1 => o j (by omega) (by omega))⟩
  · rw [o (34 + s) (by omega) (by omega), o (41 + s) (by omega) (by omega)]; exact s3 s s0 s5
  · rw [o (49 + c) (by omega) (by omega), o (54 + c) (by omega) (by omega)]; exact s4 c c0 c5
