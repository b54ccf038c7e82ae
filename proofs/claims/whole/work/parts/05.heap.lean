/-! ===== fields ===== -/
theorem zcls : ∀ (ci : Nat) (q : vw_C), vwCl[ci]? = some q → (∀ w ∈ u_ws q.1 q.2.1 q.2.2, w ∈ ztbl) ∧ (∀ k, k < q.2.2 → (q.2.1 k).1 = q.1) ∧ (∀ a, a < q.2.2 → ∀ b, b < q.2.2 → a ≠ b → (q.2.1 a).2.1 ≠ (q.2.1 b).2.1) ∧ ∃ ty : Nat → FieldType, ∀ k, k < q.2.2 → parseFieldDescriptor (q.2.1 k).2.2.1 = some (ty k) := by
  intro ci q h
  match ci, h with
  | 0, h => cases h; exact ⟨by decide +kernel, by decide +kernel, nmX0, tyX0, tyX0_ok⟩
  | 1, h => cases h; exact ⟨by decide +kernel, by decide +kernel, nmX1, tyX1, tyX1_ok⟩
  | 2, h => cases h; exact ⟨by decide +kernel, by decide +kernel, nmX2, tyX2, tyX2_ok⟩
  | 3, h => cases h; exact ⟨by decide +kernel, by decide +kernel, nmX3, tyX3, tyX3_ok⟩
  | 4, h => cases h; exact ⟨by decide +kernel, by decide +kernel, nmX4, tyX4, tyX4_ok⟩
  | 5, h => cases h; exact ⟨by decide +kernel, by decide +kernel, nmX5, tyX5, tyX5_ok⟩
  | 6, h => cases h; exact ⟨by decide +kernel, by decide +kernel, nmX6, tyX6, tyX6_ok⟩
  | k + 7, h => simp [vwCl] at h
def zfl (own : String) (idx ci j : Nat) : Prop := ∃ q : vw_C, vwCl[ci]? = some q ∧ j < q.2.2 ∧ Cond.fieldLink own idx q.1 (q.2.1 j).2.1 (q.2.1 j).2.2.1 ∈ ztbl
def zfp (own : String) (idx ci j : Nat) (ty : FieldType) : Prop := ∃ q : vw_C, vwCl[ci]? = some q ∧ j < q.2.2 ∧ Cond.fieldLink own idx q.1 (q.2.1 j).2.1 (q.2.1 j).2.2.1 ∈ ztbl ∧ (q.2.1 j).2.2.2 = false ∧ parseFieldDescriptor (q.2.1 j).2.2.1 = some ty
def zlyc (r : Nat) : Bool := match zly r with
  | some kn => if kn.1 < 100 then (match vwCl[kn.1]? with
    | some q => kn.2 == q.2.2
    | none => false) else decide (kn.2 < 1000)
  | none => true
theorem zlyc_ok : ∀ r, r < 300 → zlyc r = true := by decide +kernel
theorem zly_cls : ∀ r, r < 300 → ∀ kn, zly r = some kn → kn.1 < 100 → ∃ q, vwCl[kn.1]? = some q ∧ kn.2 = q.2.2 := by
  intro r hr kn h hk
  have h2 := zlyc_ok r hr
  unfold zlyc at h2
  rw [h] at h2
  dsimp only at h2
  rw [if_pos hk] at h2
  split at h2
  · rename_i q hq
    exact ⟨q, hq, by simpa using h2⟩
  · cases h2
theorem zly_300 {r : Nat} {kn : Nat × Nat} (h : zly r = some kn) : r < 300 := by
  unfold zly at h
  split at h
  · cases h
  · have := (List.getElem?_eq_some_iff.mp h).1
    rw [zLAY_len] at this
    omega
section ZH
variable {l : Launch} {d : Nat} {M : zMth} {pc : Nat} {L : List (Option Value)} {st : List Value} {σ : zMem} {Q : Option Value → zMem → Prop} {k : Nat}
theorem zE_obj (G : zG) (f : Int → Int) (r : Nat) {ci N : Nat} (h : ci < 100) : zE G f r (ci, N) = .inr (ci, (List.range N).map (fun j => zfv G f ci r j)) := if_pos h
theorem zE_int (G : zG) (f : Int → Int) (r : Nat) {k n : Nat} (h : 100 ≤ k) (h2 : k < 103) : zE G f r (k, n) = .inl (zGA G k, n, .inl (fun j => zI (f j))) := by
  show (if k < 100 then _ else if k < 103 then _ else _) = _
  rw [if_neg (by omega), if_pos h2]
theorem zE_ref (G : zG) (f : Int → Int) (r : Nat) {k n : Nat} (h : 103 ≤ k) : zE G f r (k, n) = .inl (zGA G k, n, .inr (.inr (.inr (.inr (fun j => some (zad G (f j).toNat)))))) := by
  show (if k < 100 then _ else if k < 103 then _ else _) = _
  rw [if_neg (by omega), if_neg (by omega)]
/-- a field is read: v, as the layout says it -/
theorem zw_get (pc' : Nat) {idx ci j a N : Nat} {v : Value} (hd : decode M.2.2.1 pc = .ok (.getfield idx, 3)) (hp : pc + 3 = pc') (hf : zfl M.1 idx ci j) (hc : ci < 100) (hy : zly a = some (ci, N)) (hv : ∀ G, zfv G (σ a) ci a j = ztr G v) (kk : zw l d M pc' L (v :: st) σ Q) : zw l d M pc L (.ref a :: st) σ Q := by
  subst hp; intro G p e R s m args below meth c cells slots Z hC H locs ls hP hS hl
  obtain ⟨⟨C, T, n⟩, hq, hj, hw⟩ := hf
  obtain ⟨hin, hcl, hnm, ty, hty⟩ := zcls ci _ hq
  obtain ⟨q2, hq2, hN⟩ := zly_cls a (zly_300 hy) _ hy hc
  have e2 : q2 = (C, T, n) := Option.some.inj (hq2.symm.trans hq)
  subst e2
  dsimp only at hN hj hw hin hcl
  subst hN
  have hx := zWs_get (G := G) (σ := σ) hy
  rw [zE_obj G _ _ hc] at hx
  exact va_get (C := C) (T := T) (N := N) (ref := C) hC.1 hC.2.1 hC.2.2.2.2.1 hin hC.2.2.2.1 hC.2.2.2.2.2.1 hP (a - 1) hx hq j hj (hC.2.2.2.2.1 _ hw) (by rw [hcl j hj]; exact fun _ h => h) (v := ztr G v) (by rw [← hv G]; simp [hj]) hd (kk G p e R s m args below meth c cells slots Z hC H locs ls hP hS hl)
theorem zw_geti (pc' : Nat) {idx ci j a N : Nat} (hd : decode M.2.2.1 pc = .ok (.getfield idx, 3)) (hp : pc + 3 = pc') (hf : zfl M.1 idx ci j) (hc : ci < 100) (ht : zft ci j = 0) (hy : zly a = some (ci, N)) (kk : zw l d M pc' L (.int (zI (σ a (j : Int))) :: st) σ Q) : zw l d M pc L (.ref a :: st) σ Q :=
  zw_get pc' hd hp hf hc hy (fun G => by simp [zfv, ht, ztr]) kk
theorem zw_getl (pc' : Nat) {idx ci j a N : Nat} (hd : decode M.2.2.1 pc = .ok (.getfield idx, 3)) (hp : pc + 3 = pc') (hf : zfl M.1 idx ci j) (hc : ci < 100) (ht : zft ci j = 1) (hy : zly a = some (ci, N)) (kk : zw l d M pc' L (.long (zL (σ a (j : Int))) :: st) σ Q) : zw l d M pc L (.ref a :: st) σ Q :=
  zw_get pc' hd hp hf hc hy (fun G => by simp [zfv, ht, ztr]) kk
theorem zw_getr (pc' a' : Nat) {idx ci j a N o : Nat} (hd : decode M.2.2.1 pc = .ok (.getfield idx, 3)) (hp : pc + 3 = pc') (hf : zfl M.1 idx ci j) (hc : ci < 100) (ht : zft ci j = o + 2) (ha : a + o = a') (hy : zly a = some (ci, N)) (kk : zw l d M pc' L (.ref a' :: st) σ Q) : zw l d M pc L (.ref a :: st) σ Q :=
  zw_get pc' hd hp hf hc hy (fun G => by subst ha; simp [zfv, ht, ztr]) kk
theorem zfv_up {G : zG} {f : Int → Int} {ci r j N : Nat} {x : Int} {v : Value} (hv : zfv G (zup f j x) ci r j = v) (hj : j < N) : (List.range N).map (fun i => zfv G (zup f (j : Int) x) ci r i) = ((List.range N).map (fun i => zfv G f ci r i)).set j v := by
  apply List.ext_getElem?
  intro i
  by_cases hi : i = j
  · subst hi
    rw [List.getElem?_set_self (by simpa using hj)]
    simp [hj, hv]
  · rw [List.getElem?_set_ne (Ne.symm hi)]
    have hne : ¬ (i : Int) = (j : Int) := by omega
    simp only [List.getElem?_map]
    rcases Nat.lt_or_ge i N with h | h
    · simp [h, zfv, zup, hne]
    · simp [Nat.not_lt.mpr h, h]
theorem zw_put (pc' : Nat) {idx ci j a N : Nat} {ty : FieldType} {v : Value} (x : Int) (hd : decode M.2.2.1 pc = .ok (.putfield idx, 3)) (hp : pc + 3 = pc') (hf : zfp M.1 idx ci j ty) (hc : ci < 100) (hy : zly a = some (ci, N)) (hv : ∀ G, zfv G (zup (σ a) j x) ci a j = ztr G v) (hn : ∀ G, narrow ty (ztr G v) = ztr G v) (hfit : ∀ G, fits ty (ztr G v) = true) (kk : zw l d M pc' L st (zwr σ a j x) Q) : zw l d M pc L (v :: .ref a :: st) σ Q := by
  subst hp; intro G p e R s m args below meth c cells slots Z hC H locs ls hP hS hl
  obtain ⟨⟨C, T, n⟩, hq, hj, hw, hfin, hpt⟩ := hf
  obtain ⟨hin, hcl, hnm, ty0, hty⟩ := zcls ci _ hq
  obtain ⟨q2, hq2, hN⟩ := zly_cls a (zly_300 hy) _ hy hc
  have e2 : q2 = (C, T, n) := Option.some.inj (hq2.symm.trans hq)
  subst e2
  dsimp only at hN hj hw hin hcl hfin hpt hnm hty
  subst hN
  have hx := zWs_get (G := G) (σ := σ) hy
  rw [zE_obj G _ _ hc] at hx
  refine va_put (C := C) (T := T) (N := N) (ref := C) hC.1 hC.2.1 hC.2.2.2.2.1 hin ty0 hty hnm hC.2.2.2.1 hC.2.2.2.2.2.1 hP (zWs_D G σ) hS (a - 1) hx hq j hj (hC.2.2.2.2.1 _ hw) (by rw [hcl j hj]; exact fun _ h => h) hfin (ty := ty) (v := ztr G v) hpt (hn G) (hfit G) (by simpa using hj) hd (fun H1 locs1 hP1 hD1 hS1 => ?_)
  rw [zWs_set hy (zup (σ a) j x) (by rw [zE_obj G _ _ hc, zfv_up (hv G) hj])] at hP1
  exact kk G p e R s m args below meth c cells slots Z hC H1 locs1 ls hP1 hS1 hl
theorem zw_puti (pc' : Nat) {idx ci j a N : Nat} {x : Int} (hd : decode M.2.2.1 pc = .ok (.putfield idx, 3)) (hp : pc + 3 = pc') (hf : zfp M.1 idx ci j .int) (hc : ci < 100) (ht : zft ci j = 0) (hy : zly a = some (ci, N)) (kk : zw l d M pc' L st (zwr σ a j x) Q) : zw l d M pc L (.int (zI x) :: .ref a :: st) σ Q :=
  zw_put pc' x hd hp hf hc hy (fun G => by simp [zfv, ht, ztr, zup]) (fun G => rfl) (fun G => rfl) kk
theorem zw_putz (pc' : Nat) {idx ci j a N : Nat} {x : Int} (hd : decode M.2.2.1 pc = .ok (.putfield idx, 3)) (hp : pc + 3 = pc') (hf : zfp M.1 idx ci j .boolean) (hc : ci < 100) (ht : zft ci j = 0) (hy : zly a = some (ci, N)) (hx : x = 0 ∨ x = 1) (kk : zw l d M pc' L st (zwr σ a j x) Q) : zw l d M pc L (.int (zI x) :: .ref a :: st) σ Q :=
  zw_put pc' x hd hp hf hc hy (fun G => by simp [zfv, ht, ztr, zup]) (fun G => by rcases hx with rfl | rfl <;> rfl) (fun G => by rcases hx with rfl | rfl <;> rfl) kk
theorem zw_putl (pc' : Nat) {idx ci j a N : Nat} {x : Int} (hd : decode M.2.2.1 pc = .ok (.putfield idx, 3)) (hp : pc + 3 = pc') (hf : zfp M.1 idx ci j .long) (hc : ci < 100) (ht : zft ci j = 1) (hy : zly a = some (ci, N)) (kk : zw l d M pc' L st (zwr σ a j x) Q) : zw l d M pc L (.long (zL x) :: .ref a :: st) σ Q :=
  zw_put pc' x hd hp hf hc hy (fun G => by simp [zfv, ht, ztr, zup]) (fun G => rfl) (fun G => rfl) kk
/-! ===== arrays ===== -/
theorem zly_n : ∀ r, r < 300 → ∀ kn, zly r = some kn → 100 ≤ kn.1 → kn.2 < 1000 := by
  intro r hr kn h hk
  have h2 := zlyc_ok r hr
  unfold zlyc at h2
  rw [h] at h2
  dsimp only at h2
  rw [if_neg (by omega)] at h2
  exact of_decide_eq_true h2
theorem zT_at (G : zG) : (zT G)[0]? = some (zGA G 100, .int) ∧ (zT G)[1]? = some (zGA G 101, .boolean) ∧ (zT G)[2]? = some (zGA G 102, .byte) ∧ (zT G)[3]? = some (zGA G 103, .object RX2) ∧ (zT G)[4]? = some (zGA G 104, .object RX0) := ⟨rfl, rfl, rfl, rfl, rfl⟩
theorem zI_at {f : Int → Int} {i : Int} {n : Nat} (h : 0 ≤ i) (h2 : i < n) (hn : n < 1000) : f ((zI i).toNatClampNeg : Int) = f i := by
  rw [zI_clamp h (by omega)]
  congr 1
  omega
theorem zw_iald (pc' : Nat) {a n : Nat} {i : Int} (hd : decode M.2.2.1 pc = .ok (.iaload, 1)) (hp : pc + 1 = pc') (hy : zly a = some (100, n)) (hi : 0 ≤ i ∧ i < n) (kk : zw l d M pc' L (.int (zI (σ a i)) :: st) σ Q) : zw l d M pc L (.int (zI i) :: .ref a :: st) σ Q := by
  subst hp; intro G p e R s m args below meth c cells slots Z hC H locs ls hP hS hl
  have hx := zWs_get (G := G) (σ := σ) hy
  rw [zE_int G _ _ (by decide) (by decide)] at hx
  have hn := zly_n a (zly_300 hy) _ hy (by first | decide | omega)
  exact va_iald hC.1 hC.2.1 hC.2.2.2.2.2.1 hP (a - 1) 0 hx (zT_at G).1 (zI_in hi.1 hi.2 (by omega)) hd (by rw [zI_at (f := σ a) hi.1 hi.2 hn]; exact kk G p e R s m args below meth c cells slots Z hC H locs ls hP hS hl)
theorem zw_bald (pc' : Nat) {a n : Nat} {i : Int} (hd : decode M.2.2.1 pc = .ok (.baload, 1)) (hp : pc + 1 = pc') (hy : zly a = some (102, n)) (hi : 0 ≤ i ∧ i < n) (kk : zw l d M pc' L (.int (zI (σ a i)) :: st) σ Q) : zw l d M pc L (.int (zI i) :: .ref a :: st) σ Q := by
  subst hp; intro G p e R s m args below meth c cells slots Z hC H locs ls hP hS hl
  have hx := zWs_get (G := G) (σ := σ) hy
  rw [zE_int G _ _ (by decide) (by decide)] at hx
  have hn := zly_n a (zly_300 hy) _ hy (by first | decide | omega)
  exact va_bald hC.1 hC.2.1 hC.2.2.2.2.2.1 hP (a - 1) 2 hx (zT_at G).2.2.1 (zI_in hi.1 hi.2 (by omega)) hd (by rw [zI_at (f := σ a) hi.1 hi.2 hn]; exact kk G p e R s m args below meth c cells slots Z hC H locs ls hP hS hl)
theorem zw_zald (pc' : Nat) {a n : Nat} {i : Int} (hd : decode M.2.2.1 pc = .ok (.baload, 1)) (hp : pc + 1 = pc') (hy : zly a = some (101, n)) (hi : 0 ≤ i ∧ i < n) (kk : zw l d M pc' L (.int (zI (σ a i)) :: st) σ Q) : zw l d M pc L (.int (zI i) :: .ref a :: st) σ Q := by
  subst hp; intro G p e R s m args below meth c cells slots Z hC H locs ls hP hS hl
  have hx := zWs_get (G := G) (σ := σ) hy
  rw [zE_int G _ _ (by decide) (by decide)] at hx
  have hn := zly_n a (zly_300 hy) _ hy (by first | decide | omega)
  exact va_zald hC.1 hC.2.1 hC.2.2.2.2.2.1 hP (a - 1) 1 hx (zT_at G).2.1 (zI_in hi.1 hi.2 (by omega)) hd (by rw [zI_at (f := σ a) hi.1 hi.2 hn]; exact kk G p e R s m args below meth c cells slots Z hC H locs ls hP hS hl)
theorem zw_aald (pc' : Nat) (a' : Nat) {a k n : Nat} {i : Int} (hd : decode M.2.2.1 pc = .ok (.aaload, 1)) (hp : pc + 1 = pc') (hy : zly a = some (k, n)) (hk : k = 103 ∨ k = 104) (hi : 0 ≤ i ∧ i < n) (ha : σ a i = (a' : Int)) (kk : zw l d M pc' L (.ref a' :: st) σ Q) : zw l d M pc L (.int (zI i) :: .ref a :: st) σ Q := by
  subst hp; intro G p e R s m args below meth c cells slots Z hC H locs ls hP hS hl
  have hx := zWs_get (G := G) (σ := σ) hy
  rw [zE_ref G _ _ (by rcases hk with rfl | rfl <;> decide)] at hx
  have hn := zly_n a (zly_300 hy) _ hy (by first | decide | omega)
  have e1 : some (zad G (σ a ((zI i).toNatClampNeg : Int)).toNat) = some (zad G a') := by rw [zI_at (f := σ a) hi.1 hi.2 hn, ha]; rfl
  rcases hk with rfl | rfl
  · exact va_aldq hC.1 hC.2.1 hC.2.2.2.2.2.1 hP (a - 1) 3 hx (zT_at G).2.2.2.1 (zI_in hi.1 hi.2 (by omega)) hd (by rw [e1]; exact kk G p e R s m args below meth c cells slots Z hC H locs ls hP hS hl)
  · exact va_aldq hC.1 hC.2.1 hC.2.2.2.2.2.1 hP (a - 1) 4 hx (zT_at G).2.2.2.2 (zI_in hi.1 hi.2 (by omega)) hd (by rw [e1]; exact kk G p e R s m args below meth c cells slots Z hC H locs ls hP hS hl)
theorem zup_fn {f : Int → Int} {i x : Int} {n : Nat} (h : 0 ≤ i) (h2 : i < n) (hn : n < 1000) : (fun j : Nat => zI (zup f i x (j : Int))) = upd (fun j : Nat => zI (f (j : Int))) (zI i).toNatClampNeg (zI x) := by
  funext j
  rw [zI_clamp h (by omega)]
  by_cases hj : j = i.toNat
  · subst hj
    simp [zup, upd, Int.toNat_of_nonneg h]
  · have : ¬ (j : Int) = i := by omega
    simp [zup, upd, hj, this]
theorem zw_iast (pc' : Nat) {a n : Nat} {i x : Int} (hd : decode M.2.2.1 pc = .ok (.iastore, 1)) (hp : pc + 1 = pc') (hy : zly a = some (100, n)) (hi : 0 ≤ i ∧ i < n) (kk : zw l d M pc' L st (zwr σ a i x) Q) : zw l d M pc L (.int (zI x) :: .int (zI i) :: .ref a :: st) σ Q := by
  subst hp; intro G p e R s m args below meth c cells slots Z hC H locs ls hP hS hl
  have hx := zWs_get (G := G) (σ := σ) hy
  rw [zE_int G _ _ (by decide) (by decide)] at hx
  have hn := zly_n a (zly_300 hy) _ hy (by first | decide | omega)
  refine va_iast hC.1 hC.2.1 hC.2.2.2.2.2.1 hP (zWs_D G σ) hS (a - 1) 0 hx (zT_at G).1 (zI_in hi.1 hi.2 (by omega)) hd (fun H1 locs1 hP1 hD1 hS1 => ?_)
  rw [zWs_set hy (zup (σ a) i x) (by rw [zE_int G _ _ (by decide) (by decide), zup_fn hi.1 hi.2 hn])] at hP1
  exact kk G p e R s m args below meth c cells slots Z hC H1 locs1 ls hP1 hS1 hl
theorem zw_bast (pc' : Nat) {a n : Nat} {i x : Int} (hd : decode M.2.2.1 pc = .ok (.bastore, 1)) (hp : pc + 1 = pc') (hy : zly a = some (102, n)) (hi : 0 ≤ i ∧ i < n) (hv : (zI x).toInt8.toInt32 = zI x) (kk : zw l d M pc' L st (zwr σ a i x) Q) : zw l d M pc L (.int (zI x) :: .int (zI i) :: .ref a :: st) σ Q := by
  subst hp; intro G p e R s m args below meth c cells slots Z hC H locs ls hP hS hl
  have hx := zWs_get (G := G) (σ := σ) hy
  rw [zE_int G _ _ (by decide) (by decide)] at hx
  have hn := zly_n a (zly_300 hy) _ hy (by first | decide | omega)
  refine va_bast hC.1 hC.2.1 hC.2.2.2.2.2.1 hP (zWs_D G σ) hS (a - 1) 2 hx (zT_at G).2.2.1 (zI_in hi.1 hi.2 (by omega)) hd (fun H1 locs1 hP1 hD1 hS1 => ?_)
  rw [vp_nar_byte, hv] at hP1
  rw [zWs_set hy (zup (σ a) i x) (by rw [zE_int G _ _ (by decide) (by decide), zup_fn hi.1 hi.2 hn])] at hP1
  exact kk G p e R s m args below meth c cells slots Z hC H1 locs1 ls hP1 hS1 hl
end ZH
