theorem zad_k1 (G : zG) {k : Nat} (h : k < 300) : zad G (k + 1) = zGB G + k := by
  unfold zad
  rw [if_neg (by omega), if_pos (by omega)]; omega
theorem zE2_obj (G : zG) (f : Int → Int) (r : Nat) {ci N : Nat} (h : ci < 100) : zE2 G f r (ci, N) = .inr (ci, (List.range N).map (fun j => zfv2 G f ci r j)) := if_pos h
theorem zE2_int (G : zG) (f : Int → Int) (r : Nat) {k n : Nat} (h : 100 ≤ k) (h2 : k < 103) : zE2 G f r (k, n) = .inl (zGA G k, n, .inl (fun j => zI (f j))) := by
  show (if k < 100 then _ else if k < 103 then _ else _) = _
  rw [if_neg (by omega), if_pos h2]
theorem zE2_ref (G : zG) (f : Int → Int) (r : Nat) {k n : Nat} (h : 103 ≤ k) : zE2 G f r (k, n) = .inl (zGA G k, n, .inr (.inr (.inr (.inr (fun j => if f j = 0 then none else some (zad G (f j).toNat)))))) := by
  show (if k < 100 then _ else if k < 103 then _ else _) = _
  rw [if_neg (by omega), if_neg (by omega)]
/-- a new field's value -/
def zdv (ci j : Nat) : Value := match zft ci j with
  | 0 => .int 0
  | 1 => .long 0
  | _ + 2 => .null
theorem zdv_ok : ∀ (ci : Nat) (q : vw_C), vwCl[ci]? = some q → ∀ j, j < q.2.2 → (parseFieldDescriptor (q.2.1 j).2.2.1).map defaultValue = some (zdv ci j) := by
  intro ci q h
  match ci, h with
  | 0, h => cases h; decide +kernel
  | 1, h => cases h; decide +kernel
  | 2, h => cases h; decide +kernel
  | 3, h => cases h; decide +kernel
  | 4, h => cases h; decide +kernel
  | 5, h => cases h; decide +kernel
  | 6, h => cases h; decide +kernel
  | k + 7, h => simp [vwCl] at h
theorem zfv2_0 (G : zG) (ci r j : Nat) : zfv2 G (fun _ => 0) ci r j = zdv ci j := by
  unfold zfv2 zdv
  cases zft ci j with
  | zero => rfl
  | succ n => cases n <;> rfl
def zfw (own : String) (idx ci N : Nat) : Prop := ∃ q : vw_C, vwCl[ci]? = some q ∧ q.2.2 = N ∧ Cond.classLink own idx q.1 ∈ ztbl ∧ Cond.instantiable q.1 N ∈ ztbl ∧ Cond.initialized q.1 ∈ ztbl
section ZN2
variable {l : Launch} {d : Nat} {M : zMth} {pc : Nat} {L : List (Option Value)} {st : List Value} {σ : zMem} {k bc bs : Nat} {Q : zQn}
theorem zPg_push {G : zG} {H H1 : Heap} {kn : Nat × Nat} {s : State} {locs : List Loc} (hP : zPg G σ k H) (hS : va_S (zA G) s.heap H locs) (hy : zly (k + 1) = some kn) (hat : va_at (zGD G) vwCl (zad G (k + 1), zE2 G (σ (k + 1)) (k + 1) kn) H1) (z1 : H1.size = zGB G + k + 1) (o1 : ∀ q, q < zGB G + k → H1[q]? = H[q]?) : zPg G σ (k + 1) H1 ∧ va_S (zA G) s.heap H1 locs := by
  have hz := hP.2
  refine ⟨⟨?_, by omega⟩, ⟨Nat.le_trans hS.1 (by omega), fun q h1 h2 => (o1 q ?_).trans (hS.2.1 q h1 h2), hS.2.2⟩⟩
  · rw [← zW2_push hy]
    refine va_P.app (hP.1.kept (fun i x hx => o1 x.1 ?_)) (fun i x hx => ?_)
    · have := zW2_at hx
      omega
    · have hi : i < 1 := (List.getElem?_eq_some_iff.mp hx).1
      rw [show i = 0 by omega] at hx
      cases hx
      exact hat
  · have := hS.1
    omega
theorem zn_new (pc' : Nat) {idx ci N : Nat} (hd : decode M.2.2.1 pc = .ok (.new idx, 3)) (hp : pc + 3 = pc') (hy : zly (k + 1) = some (ci, N)) (hci : ci < 100) (hw : zfw M.1 idx ci N) (h0 : σ (k + 1) = fun _ => 0) (kk : zn l d M pc' L (.ref (k + 1) :: st) σ (k + 1) bc bs Q) : zn l d M pc L st σ k (bc + 1) (bs + N) Q := by
  subst hp; intro G p e R s m args below meth c mc ms Z hC cells slots hcb hsb H locs ls hP hS hl
  obtain ⟨⟨C, T, n⟩, hq, hN, w1, w2, w3⟩ := hw
  dsimp only at hN w1 w2 w3
  subst hN
  obtain ⟨hin, hcl, hnm, ty, hty⟩ := zcls ci _ hq
  dsimp only at hin hty
  have hts := hC.2.2.2.2.1
  have hK := hC.2.2.2.2.2.1
  have hR := hC.2.2.2.2.2.2.2.2.2.1
  have hKn := hK.1 ci _ hq
  have hk3 : k < 300 := by have := zly_300 hy; omega
  have ea := zad_k1 G hk3
  refine W.newcK hC.1 hC.2.1 hC.2.2.2.1 (hts _ w1) (hts _ w2) (hts _ w3) rfl hd (by omega) (by omega) hKn.2.1 hP.2 (fun H1 kC hkC e1 z1 o1 => ?_)
  have hfs : ∀ j, j < n → defaultValue (ty j) = vp_V ((List.range n).map (fun j => zfv2 G (σ (k + 1)) ci (k + 1) j)) j := fun j hj => by
    have h1 := zdv_ok ci _ hq j hj
    dsimp only at h1
    rw [hty j hj] at h1
    rw [h0]
    simp [vp_V, hj, zfv2_0]
    exact Option.some.inj h1
  have h1 := zPg_push hP hS hy (by
    rw [zE2_obj _ _ _ hci, ea]
    exact ⟨_, hq, (u_born ty hts hin hKn hkC e1 hty).to hfs⟩) z1 o1
  have h := kk G p e R s m args below meth c mc ms Z hC (cells + 1) (slots + n) (by omega) (by omega) H1 locs ls h1.1 h1.2 hl
  rw [List.map_cons] at h
  unfold ztr at h
  dsimp only at h
  rw [ea] at h
  exact h
theorem zn_newa (pc' i kd : Nat) {at_ : ArrayType} {n : Nat} {x : Int} (hd : decode M.2.2.1 pc = .ok (.newarray at_, 2)) (hp : pc + 2 = pc') (hy : zly (k + 1) = some (kd, n)) (hkd : 100 ≤ kd ∧ kd < 103) (hT : ∀ G, (zT G)[i]? = some (zGA G kd, newarray.typeOf at_)) (hra : ∀ (U : State) (cA : ClassId), va_RA U cA (newarray.typeOf at_) → U.vm.findClass ("[" ++ (newarray.typeOf at_).toString) = some cA) (hdv : defaultValue (newarray.typeOf at_) = .int 0) (hw : Cond.arrayClass (newarray.typeOf at_) ∈ ztbl) (hcb : n * componentBytes (newarray.typeOf at_) ≤ 536870912) (hx : x = n) (h0 : σ (k + 1) = fun _ => 0) (kk : zn l d M pc' L (.ref (k + 1) :: st) σ (k + 1) bc bs Q) : zn l d M pc L (.int (zI x) :: st) σ k (bc + 1) (bs + n) Q := by
  subst hp; intro G p e R s m args below meth c mc ms Z hC cells slots hcb1 hsb H locs ls hP hS hl
  have hts := hC.2.2.2.2.1
  have hK := hC.2.2.2.2.2.1
  have hR := hC.2.2.2.2.2.2.2.2.2.1
  have hk3 : k < 300 := by have := zly_300 hy; omega
  have hn9 := zly_n (k + 1) (zly_300 hy) _ hy (by exact hkd.1)
  dsimp only at hn9
  have ea := zad_k1 G hk3
  refine va_newaK hC.1 hC.2.1 (hts _ hw) rfl hd rfl (n := zI x) (by
    rw [show (0 : Int32) = zI 0 from rfl, zI_lt (by omega) (by omega) (by omega) (by omega)]; omega) (N := n) (by rw [zI_clamp (by omega) (by omega)]; omega) hcb (by omega) (by omega) hP.2 (fun H1 cA e1 z1 o1 hAr hNm => ?_)
  have hcA : zGA G kd = cA := Option.some.inj ((hra _ _ (hK.2 i _ (hT G)).2).symm.trans hNm)
  have h1 := zPg_push hP hS hy (by
    rw [zE2_int _ _ _ hkd.1 hkd.2, ea, h0, hcA]
    show H1[_]? = some (vp_cell _ _)
    rw [vp_cell_i]
    rw [hdv] at e1
    exact e1) z1 o1
  have h := kk G p e R s m args below meth c mc ms Z hC (cells + 1) (slots + n) (by omega) (by omega) H1 locs ls h1.1 h1.2 hl
  rw [List.map_cons] at h
  unfold ztr at h
  dsimp only at h
  rw [ea] at h
  exact h
theorem zn_newq (pc' i kd : Nat) {idx n : Nat} {C : String} {x : Int} (hd : decode M.2.2.1 pc = .ok (.anewarray idx, 3)) (hp : pc + 3 = pc') (hy : zly (k + 1) = some (kd, n)) (hkd : 103 ≤ kd) (hT : ∀ G, (zT G)[i]? = some (zGA G kd, .object C)) (hw : Cond.classLink M.1 idx C ∈ ztbl ∧ (C = RX2 ∨ C = RX0)) (hx : x = n) (h0 : σ (k + 1) = fun _ => 0) (kk : zn l d M pc' L (.ref (k + 1) :: st) σ (k + 1) bc bs Q) : zn l d M pc L (.int (zI x) :: st) σ k (bc + 1) (bs + n) Q := by
  subst hp; intro G p e R s m args below meth c mc ms Z hC cells slots hcb1 hsb H locs ls hP hS hl
  have hts := hC.2.2.2.2.1
  have hK := hC.2.2.2.2.2.1
  have hR := hC.2.2.2.2.2.2.2.2.2.1
  have hk3 : k < 300 := by have := zly_300 hy; omega
  have hn9 := zly_n (k + 1) (zly_300 hy) _ hy (by omega)
  dsimp only at hn9
  have ea := zad_k1 G hk3
  have hAO : va_AO C s := by
    rcases hw.2 with q | q <;> rw [q]
    · exact hC.2.2.2.2.2.2.2.2.2.2.1.2.1.1
    · exact hC.2.2.2.2.2.2.2.2.2.2.1.2.1.2
  have en : (zI x).toNatClampNeg = n := by rw [zI_clamp (by omega) (by omega)]; omega
  refine W.anew hC.1 hC.2.1 hC.2.2.2.1 (hts _ hw.1) (va_AO.use hAO) rfl hd rfl (n := zI x) (by
    rw [show (0 : Int32) = zI 0 from rfl, zI_lt (by omega) (by omega) (by omega) (by omega)]; omega) (by rw [en]; omega) (by omega) (by rw [en]; omega) (fun cA kA comp f1 f2 f3 f4 => ?_)
  rw [en]
  generalize hH1 : H.push ({ cls := cA, slots := Array.replicate n .null, vm := .none } : Cell) = H1
  have z1 : H1.size = zGB G + k + 1 := by rw [← hH1, Array.size_push, hP.2]
  have e1 : H1[zGB G + k]? = some (arrV cA n (fun _ => .null)) := by rw [← hH1, ← hP.2, Array.getElem?_push_size, ← arrV_new]
  have o1 : ∀ q : Nat, q < zGB G + k → H1[q]? = H[q]? := fun q hq => by rw [← hH1, Array.getElem?_push, if_neg (by have := hP.2; omega)]
  obtain ⟨kA2, comp2, g1, g2, g3, g4⟩ := (hK.2 i _ (hT G)).2
  have hcA : zGA G kd = cA := Option.some.inj (g4.symm.trans f1)
  have h1 := zPg_push hP hS hy (by
    rw [zE2_ref _ _ _ hkd, ea, h0, hcA]
    show H1[_]? = some (vp_cell _ _)
    rw [vp_cell_q]
    exact e1) z1 o1
  have h := kk G p e R s m args below meth c mc ms Z hC (cells + 1) (slots + n) (by omega) (by omega) H1 locs ls h1.1 h1.2 hl
  rw [List.map_cons] at h
  unfold ztr at h
  dsimp only at h
  rw [ea] at h
  rw [hP.2]
  exact h
theorem zfv2_up {G : zG} {f : Int → Int} {ci r j N : Nat} {x : Int} {v : Value} (hv : zfv2 G (zup f j x) ci r j = v) (hj : j < N) : (List.range N).map (fun i => zfv2 G (zup f (j : Int) x) ci r i) = ((List.range N).map (fun i => zfv2 G f ci r i)).set j v := by
  apply List.ext_getElem?
  intro i
  by_cases hi : i = j
  · subst hi
    rw [List.getElem?_set_self (by simpa using hj)]
    simp [hj, hv]
  · rw [List.getElem?_set_ne (Ne.symm hi)]
    have hne : ¬ (i : Int) = (j : Int) := by omega
    simp only [List.getElem?_map]
    rcases Nat.lt_or_ge i N with h | h
    · simp [h, zfv2, zup, hne]
    · simp [Nat.not_lt.mpr h, h]
end ZN2
