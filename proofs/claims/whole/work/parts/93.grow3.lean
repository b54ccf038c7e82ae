def zfF (own : String) (idx ci j : Nat) (ty : FieldType) : Prop := ∃ q : vw_C, vwCl[ci]? = some q ∧ j < q.2.2 ∧ Cond.fieldLink own idx q.1 (q.2.1 j).2.1 (q.2.1 j).2.2.1 ∈ ztbl ∧ (q.2.1 j).2.2.2 = true ∧ q.1 = own ∧ parseFieldDescriptor (q.2.1 j).2.2.1 = some ty
section ZN3
variable {l : Launch} {d : Nat} {M : zMth} {pc : Nat} {L : List (Option Value)} {st : List Value} {σ : zMem} {k bc bs : Nat} {Q : zQn}
/-- one cell of the picture is written anew -/
theorem zPg_set {G : zG} {H H1 : Heap} {kn : Nat × Nat} {s : State} {locs : List Loc} {a w : Nat} {f : Int → Int} (hP : zPg G σ k H) (hS : va_S (zA G) s.heap H locs) (hy : zly a = some kn) (hk : a ≤ k) (hat : va_at (zGD G) vwCl (zad G a, zE2 G f a kn) H1) (e2 : H1.size = H.size) (e3 : ∀ q, q ≠ zad G a → H1[q]? = H[q]?) : zPg G (zwa σ a f) k H1 ∧ va_S (zA G) s.heap H1 (locs ++ [⟨zad G a, w⟩]) := by
  have hx := zW2_get (G := G) (σ := σ) hy hk
  refine ⟨⟨?_, by rw [e2]; exact hP.2⟩, hS.put e2 e3 ((zW2_D G σ k).2 _ _ hx)⟩
  rw [← zW2_set hy hk f rfl]
  exact hP.1.set (zW2_D G σ k) hx hat e3
theorem zn_putF (pc' : Nat) {idx ci j a N : Nat} {ty : FieldType} {v : Value} (x : Int) (hd : decode M.2.2.1 pc = .ok (.putfield idx, 3)) (hp : pc + 3 = pc') (hf : zfF M.1 idx ci j ty) (hin0 : M.2.1.name = "<init>") (hc : ci < 100) (hy : zly a = some (ci, N)) (hak : a ≤ k) (hv : ∀ G, zfv2 G (zup (σ a) j x) ci a j = ztr G v) (hn : ∀ G, narrow ty (ztr G v) = ztr G v) (hfit : ∀ G, fits ty (ztr G v) = true) (kk : zn l d M pc' L st (zwr σ a j x) k bc bs Q) : zn l d M pc L (v :: .ref a :: st) σ k bc bs Q := by
  subst hp; intro G p e R s m args below meth c mc ms Z hC cells slots hcb hsb H locs ls hP hS hl
  obtain ⟨⟨C, T, n⟩, hq, hj, hw, hfin, hdecl, hpt⟩ := hf
  obtain ⟨hin, hcl, hnm, ty0, hty⟩ := zcls ci _ hq
  obtain ⟨q2, hq2, hN⟩ := zly_cls a (zly_300 hy) _ hy hc
  have e2 : q2 = (C, T, n) := Option.some.inj (hq2.symm.trans hq)
  subst e2
  dsimp only at hN hj hw hin hcl hfin hpt hnm hty hdecl
  subst hN
  have hx := zW2_get (G := G) (σ := σ) hy hak
  rw [zE2_obj G _ _ hc] at hx
  have hts := hC.2.2.2.2.1
  have hK := hC.2.2.2.2.2.1
  have hap := va_apart (own := M.1) hts hin ty0 hty hnm hK hq
  obtain ⟨r, h1, cell, q1, q2, q3, q4⟩ := hP.1 (a - 1) _ hx
  have hr : r = (C, T, N) := Option.some.inj (h1.symm.trans hq)
  subst hr
  obtain ⟨hS0, hfc, kC, hkC, hkind⟩ := hK.1 ci _ hq
  obtain ⟨cf, kf, fi, f, hi, hsl⟩ := hS0 j hj
  have hlay := hts _ (hin _ (u_in_lay hj))
  unfold u_lay at hlay
  rw [if_pos hfin] at hlay
  have hst := (u_facts hfc hkC (u_lays hts hin hj) hi).1
  have hcf : m.cls = cf := by
    obtain ⟨_, _, c', _, _, _, -, -, hf', -, -, -, hown2, -⟩ := Cond.laysFinal_spec hlay
    have e1 : c' = cf := by have := hi.symm.trans hf'; simp at this; exact this.1.symm
    rw [hcl j hj, hdecl] at hown2
    rw [← e1]; exact Option.some.inj (hC.2.2.2.1.symm.trans hown2)
  have h6 := u_fits hfc hkC hkind (Or.inr hlay) hi hpt (hn G) (hfit G)
  refine W.putFinK hC.1 hC.2.1 hC.2.2.2.1 (hts _ hw) (by rw [← hcl j hj]; exact hi) hst hcf (hC.2.2.2.2.2.2.2.2.2.2.1.1 hin0) (by rw [q2]; exact h6) q1 q3 (by rw [hsl]; exact k2_hasslot (q4 j hj)) rfl rfl hd fun H' e1 e2 e3 => ?_
  rw [hsl] at e1 ⊢
  have h2 := zPg_set (w := (zGD G).2 ci j) (f := zup (σ a) j x) hP hS hy hak (by
    rw [zE2_obj G _ _ hc, zfv2_up (hv G) hj]
    exact ⟨_, hq, t_OB.to (V := updV (vp_V ((List.range N).map (fun i => zfv2 G (σ a) ci a i))) j (ztr G v)) ⟨_, e1, q2, q3, t_set q4 hap hj (ztr G v)⟩ (fun i _ => vp_updV_set (by simpa using hj) (ztr G v) i)⟩) e2 e3
  exact kk G p e R s m args below meth c mc ms Z hC cells slots hcb hsb H' _ ls h2.1 h2.2 hl
theorem zn_putN (pc' : Nat) {idx ci j a N : Nat} {ty : FieldType} {v : Value} (x : Int) (hd : decode M.2.2.1 pc = .ok (.putfield idx, 3)) (hp : pc + 3 = pc') (hf : zfp M.1 idx ci j ty) (hc : ci < 100) (hy : zly a = some (ci, N)) (hak : a ≤ k) (hv : ∀ G, zfv2 G (zup (σ a) j x) ci a j = ztr G v) (hn : ∀ G, narrow ty (ztr G v) = ztr G v) (hfit : ∀ G, fits ty (ztr G v) = true) (kk : zn l d M pc' L st (zwr σ a j x) k bc bs Q) : zn l d M pc L (v :: .ref a :: st) σ k bc bs Q := by
  subst hp; intro G p e R s m args below meth c mc ms Z hC cells slots hcb hsb H locs ls hP hS hl
  obtain ⟨⟨C, T, n⟩, hq, hj, hw, hfin, hpt⟩ := hf
  obtain ⟨hin, hcl, hnm, ty0, hty⟩ := zcls ci _ hq
  obtain ⟨q2, hq2, hN⟩ := zly_cls a (zly_300 hy) _ hy hc
  have e2 : q2 = (C, T, n) := Option.some.inj (hq2.symm.trans hq)
  subst e2
  dsimp only at hN hj hw hin hcl hfin hpt hnm hty
  subst hN
  have hx := zW2_get (G := G) (σ := σ) hy hak
  rw [zE2_obj G _ _ hc] at hx
  have hts := hC.2.2.2.2.1
  have hK := hC.2.2.2.2.2.1
  have hap := va_apart (own := M.1) hts hin ty0 hty hnm hK hq
  obtain ⟨r, h1, cell, q1, q2, q3, q4⟩ := hP.1 (a - 1) _ hx
  have hr : r = (C, T, N) := Option.some.inj (h1.symm.trans hq)
  subst hr
  obtain ⟨hS0, hfc, kC, hkC, hkind⟩ := hK.1 ci _ hq
  obtain ⟨cf, kf, fi, f, hi, hsl⟩ := hS0 j hj
  have hlay := hts _ (hin _ (u_in_lay hj))
  unfold u_lay at hlay
  rw [if_neg (by rw [hfin]; decide)] at hlay
  have hst := (u_facts hfc hkC (u_lays hts hin hj) hi).1
  have h6 := u_store hfc hkC hkind hlay hi hpt (hn G) (hfit G)
  refine W.putK hC.1 hC.2.1 (f := f) ⟨hC.2.2.2.1, hts _ hw, ⟨_, _, _, by rw [← hcl j hj]; exact hi⟩, hst⟩ (by rw [q2]; exact h6) q1 q3 (by rw [hsl]; exact k2_hasslot (q4 j hj)) rfl rfl hd fun H' e1 e2 e3 => ?_
  rw [hsl] at e1 ⊢
  have h2 := zPg_set (w := (zGD G).2 ci j) (f := zup (σ a) j x) hP hS hy hak (by
    rw [zE2_obj G _ _ hc, zfv2_up (hv G) hj]
    exact ⟨_, hq, t_OB.to (V := updV (vp_V ((List.range N).map (fun i => zfv2 G (σ a) ci a i))) j (ztr G v)) ⟨_, e1, q2, q3, t_set q4 hap hj (ztr G v)⟩ (fun i _ => vp_updV_set (by simpa using hj) (ztr G v) i)⟩) e2 e3
  exact kk G p e R s m args below meth c mc ms Z hC cells slots hcb hsb H' _ ls h2.1 h2.2 hl
/-- a reference field that is laid -/
theorem zn_getr (pc' a' : Nat) {idx ci j a N o : Nat} (hd : decode M.2.2.1 pc = .ok (.getfield idx, 3)) (hp : pc + 3 = pc') (hf : zfl M.1 idx ci j) (hc : ci < 100) (ht : zft ci j = o + 2) (ha : a + o = a') (hy : zly a = some (ci, N)) (hak : a ≤ k) (h1 : σ a j ≠ 0) (kk : zn l d M pc' L (.ref a' :: st) σ k bc bs Q) : zn l d M pc L (.ref a :: st) σ k bc bs Q := by
  subst hp; intro G p e R s m args below meth c mc ms Z hC cells slots hcb hsb H locs ls hP hS hl
  obtain ⟨⟨C, T, n⟩, hq, hj, hw⟩ := hf
  obtain ⟨hin, hcl, hnm, ty, hty⟩ := zcls ci _ hq
  obtain ⟨q2, hq2, hN⟩ := zly_cls a (zly_300 hy) _ hy hc
  have e2 : q2 = (C, T, n) := Option.some.inj (hq2.symm.trans hq)
  subst e2
  dsimp only at hN hj hw hin hcl
  subst hN
  have hx := zW2_get (G := G) (σ := σ) hy hak
  rw [zE2_obj G _ _ hc] at hx
  exact va_get (C := C) (T := T) (N := N) (ref := C) hC.1 hC.2.1 hC.2.2.2.2.1 hin hC.2.2.2.1 hC.2.2.2.2.2.1 hP.1 (a - 1) hx hq j hj (hC.2.2.2.2.1 _ hw) (by rw [hcl j hj]; exact fun _ h => h) (v := ztr G (.ref a')) (by subst ha; simp [hj, zfv2, ht, ztr, h1]) hd (kk G p e R s m args below meth c mc ms Z hC cells slots hcb hsb H locs ls hP hS hl)
theorem zn_iast (pc' : Nat) {a n : Nat} {i x : Int} (hd : decode M.2.2.1 pc = .ok (.iastore, 1)) (hp : pc + 1 = pc') (hy : zly a = some (100, n)) (hak : a ≤ k) (hi : 0 ≤ i ∧ i < n) (kk : zn l d M pc' L st (zwr σ a i x) k bc bs Q) : zn l d M pc L (.int (zI x) :: .int (zI i) :: .ref a :: st) σ k bc bs Q := by
  subst hp; intro G p e R s m args below meth c mc ms Z hC cells slots hcb hsb H locs ls hP hS hl
  have hx := zW2_get (G := G) (σ := σ) hy hak
  rw [zE2_int G _ _ (by decide) (by decide)] at hx
  have hn := zly_n a (zly_300 hy) _ hy (by first | decide | omega)
  have hK := hC.2.2.2.2.2.1
  have hi2 := zI_in hi.1 hi.2 (show n < 2147483648 by dsimp only at hn; omega)
  refine W.iast hC.1 hC.2.1 (hP.1 (a - 1) _ hx) ((hK.2 0 _ (zT_at G).1).1 n (fun j => .int (zI (σ a j)))) (fun q => by cases q) (by show ¬ (zI i < 0 ∨ (arrV _ _ _).slots.size ≤ _); rw [arrV_size]; exact hi2) rfl rfl hd fun H1 e1 z oq => ?_
  have h2 := zPg_set (w := (zI i).toNatClampNeg) (f := zup (σ a) i x) hP hS hy hak (by
    rw [zE2_int G _ _ (by decide) (by decide), zup_fn hi.1 hi.2 hn]
    show H1[_]? = some (vp_cell _ _)
    rw [e1]
    rw [vp_cell_i, vp_cell_i, arrV_store]
    congr 2
    funext q
    by_cases hq : q = (zI i).toNatClampNeg
    · subst hq
      simp [updV, upd]
    · simp [updV, upd, hq]) z oq
  exact kk G p e R s m args below meth c mc ms Z hC cells slots hcb hsb H1 _ ls h2.1 h2.2 hl
theorem zn_alen (pc' : Nat) {a n : Nat} (hd : decode M.2.2.1 pc = .ok (.arraylength, 1)) (hp : pc + 1 = pc') (hy : zly a = some (100, n)) (hak : a ≤ k) (kk : zn l d M pc' L (.int (zI (n : Int)) :: st) σ k bc bs Q) : zn l d M pc L (.ref a :: st) σ k bc bs Q := by
  subst hp; intro G p e R s m args below meth c mc ms Z hC cells slots hcb hsb H locs ls hP hS hl
  have hx := zW2_get (G := G) (σ := σ) hy hak
  rw [zE2_int G _ _ (by decide) (by decide)] at hx
  exact va_alen hC.1 hC.2.1 hC.2.2.2.2.2.1 hP.1 (a - 1) 0 hx (zT_at G).1 (zI_nat n).symm hd (kk G p e R s m args below meth c mc ms Z hC cells slots hcb hsb H locs ls hP hS hl)
theorem zn_aast (pc' t0 ci : Nat) {a kd n v N : Nat} {r : vw_C} {i : Int} (hd : decode M.2.2.1 pc = .ok (.aastore, 1)) (hp : pc + 1 = pc') (hy : zly a = some (kd, n)) (hkd : 103 ≤ kd) (hT : ∀ G, (zT G)[t0]? = some (zGA G kd, .object r.1)) (hcl : vwCl[ci]? = some r) (hci : ci < 100) (hak : a ≤ k) (hi : 0 ≤ i ∧ i < n) (hv : zly v = some (ci, N)) (hvk : v ≤ k) (kk : zn l d M pc' L st (zwr σ a i v) k bc bs Q) : zn l d M pc L (.ref v :: .int (zI i) :: .ref a :: st) σ k bc bs Q := by
  subst hp; intro G p e R s m args below meth c mc ms Z hC cells slots hcb hsb H locs ls hP hS hl
  have hx := zW2_get (G := G) (σ := σ) hy hak
  have hx1 := zW2_get (G := G) (σ := σ) hv hvk
  rw [zE2_ref G _ _ hkd] at hx
  rw [zE2_obj G _ _ hci] at hx1
  have hn := zly_n a (zly_300 hy) _ hy (by dsimp only; omega)
  dsimp only at hn
  have hK := hC.2.2.2.2.2.1
  have hi2 := zI_in hi.1 hi.2 (show n < 2147483648 by omega)
  have hv0 := (zly_lt hv).1
  obtain ⟨r', hr', cellV, g1, g2, g3, -⟩ := hP.1 (v - 1) _ hx1
  have hcls := (hK.1 ci r hcl).2
  obtain ⟨kA, comp, k1, k2, k3, -⟩ := (hK.2 t0 _ (hT G)).2
  have hcomp : comp = (zGD G).1 ci := Option.some.inj (k3.symm.trans hcls.1)
  subst hcomp
  obtain ⟨kC, hkC, -⟩ := hcls.2
  refine W.aast hC.1 hC.2.1 (hP.1 (a - 1) _ hx) (fun q h => by cases h) (fun h => by cases h) k1 k2 rfl hkC ⟨fun q => hi2 (Or.inl q), by show _ < (arrV _ _ _).slots.size; rw [arrV_size]; exact Nat.not_le.mp fun q => hi2 (Or.inr q)⟩ g1 (fun q h => by rw [g3] at h; cases h) (by rw [g2]; exact hkC) (by rw [g2]; exact va_assign hcls) rfl rfl hd fun H1 e1 z oq => ?_
  have h2 := zPg_set (w := (zI i).toNatClampNeg) (f := zup (σ a) i v) hP hS hy hak (by
    rw [zE2_ref G _ _ hkd]
    show H1[_]? = some (vp_cell _ _)
    rw [e1]
    rw [vp_cell_q, vp_cell_q, arrV_store]
    congr 2
    funext q
    rw [zI_clamp hi.1 (by omega)]
    by_cases hq : q = i.toNat
    · subst hq
      simp [updV, va_rf, zup, Int.toNat_of_nonneg hi.1]
      rw [if_neg (by omega)]
    · have : ¬ (q : Int) = i := by omega
      simp [updV, zup, hq, this]) z oq
  exact kk G p e R s m args below meth c mc ms Z hC cells slots hcb hsb H1 _ ls h2.1 h2.2 hl
end ZN3
