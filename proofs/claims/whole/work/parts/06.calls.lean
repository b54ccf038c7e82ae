section ZY
variable {l : Launch} {d : Nat} {M : zMth} {pc : Nat} {L : List (Option Value)} {st : List Value} {σ : zMem} {Q : Option Value → zMem → Prop} {k : Nat}
theorem zw_zast (pc' : Nat) {a n : Nat} {i x : Int} (hd : decode M.2.2.1 pc = .ok (.bastore, 1)) (hp : pc + 1 = pc') (hy : zly a = some (101, n)) (hi : 0 ≤ i ∧ i < n) (hx : x = 0 ∨ x = 1) (kk : zw l d M pc' L st (zwr σ a i x) Q) : zw l d M pc L (.int (zI x) :: .int (zI i) :: .ref a :: st) σ Q := by
  subst hp; intro G p e R s m args below meth c cells slots Z hC H locs ls hP hS hl
  have hx0 := zWs_get (G := G) (σ := σ) hy
  rw [zE_int G _ _ (by decide) (by decide)] at hx0
  have hn := zly_n a (zly_300 hy) _ hy (by omega)
  refine va_zast hC.1 hC.2.1 hC.2.2.2.2.2.1 hP (zWs_D G σ) hS (a - 1) 1 hx0 (zT_at G).2.1 (zI_in hi.1 hi.2 (by omega)) hd (fun H1 locs1 hP1 hD1 hS1 => ?_)
  rw [show vp_nar .boolean (zI x) = zI x by rcases hx with rfl | rfl <;> rfl] at hP1
  rw [zWs_set hy (zup (σ a) i x) (by rw [zE_int G _ _ (by decide) (by decide), zup_fn hi.1 hi.2 hn])] at hP1
  exact kk G p e R s m args below meth c cells slots Z hC H1 locs1 ls hP1 hS1 hl
theorem zup_fr {G : zG} {f : Int → Int} {i : Int} {v n : Nat} (h : 0 ≤ i) (h2 : i < n) (hn : n < 1000) : (fun j : Nat => some (zad G (zup f i (v : Int) (j : Int)).toNat)) = va_up (fun j : Nat => some (zad G (f (j : Int)).toNat)) (zI i).toNatClampNeg (some (zad G v)) := by
  funext j
  rw [zI_clamp h (by omega)]
  by_cases hj : j = i.toNat
  · subst hj
    simp [zup, va_up, Int.toNat_of_nonneg h]
  · have : ¬ (j : Int) = i := by omega
    simp [zup, va_up, hj, this]
theorem zw_aast (pc' : Nat) {a n v : Nat} {i : Int} (hd : decode M.2.2.1 pc = .ok (.aastore, 1)) (hp : pc + 1 = pc') (hy : zly a = some (103, n)) (hi : 0 ≤ i ∧ i < n) (hv : zly v = some (2, 4)) (kk : zw l d M pc' L st (zwr σ a i v) Q) : zw l d M pc L (.ref v :: .int (zI i) :: .ref a :: st) σ Q := by
  subst hp; intro G p e R s m args below meth c cells slots Z hC H locs ls hP hS hl
  have hx0 := zWs_get (G := G) (σ := σ) hy
  have hx1 := zWs_get (G := G) (σ := σ) hv
  rw [zE_ref G _ _ (by decide)] at hx0
  rw [zE_obj G _ _ (by decide)] at hx1
  have hn := zly_n a (zly_300 hy) _ hy (by omega)
  refine va_astq (r := (RX2, TX2, 4)) hC.1 hC.2.1 hC.2.2.2.2.2.1 hP (zWs_D G σ) hS (a - 1) 3 (v - 1) 2 hx0 (zT_at G).2.2.2.1 hx1 rfl (zI_in hi.1 hi.2 (by omega)) hd (fun H1 locs1 hP1 hD1 hS1 => ?_)
  rw [zWs_set hy (zup (σ a) i v) (by rw [zE_ref G _ _ (by decide), zup_fr hi.1 hi.2 hn])] at hP1
  exact kk G p e R s m args below meth c cells slots Z hC H1 locs1 ls hP1 hS1 hl
theorem zw_alen (pc' : Nat) {a n : Nat} (hd : decode M.2.2.1 pc = .ok (.arraylength, 1)) (hp : pc + 1 = pc') (hy : zly a = some (100, n)) (kk : zw l d M pc' L (.int (zI (n : Int)) :: st) σ Q) : zw l d M pc L (.ref a :: st) σ Q := by
  subst hp; intro G p e R s m args below meth c cells slots Z hC H locs ls hP hS hl
  have hx0 := zWs_get (G := G) (σ := σ) hy
  rw [zE_int G _ _ (by decide) (by decide)] at hx0
  exact va_alen hC.1 hC.2.1 hC.2.2.2.2.2.1 hP (a - 1) 0 hx0 (zT_at G).1 (zI_nat n).symm hd (kk G p e R s m args below meth c cells slots Z hC H locs ls hP hS hl)
/-- System.arraycopy from the beginnings -/
def zcw (own : String) (idx : Nat) : Prop := Cond.methodLink own idx arraycopyName ∈ ztbl ∧ Cond.native arraycopyName ∈ ztbl ∧ Cond.static arraycopyName ∈ ztbl ∧ Cond.initialized "java/lang/System" ∈ ztbl
def zcp (f g : Int → Int) (n : Int) : Int → Int := fun j => if 0 ≤ j ∧ j < n then f j else g j
theorem zw_copy (pc' : Nat) {idx a0 a n0 n1 : Nat} {n : Int} (hd : decode M.2.2.1 pc = .ok (.invokestatic idx, 3)) (hp : pc + 3 = pc') (hw : zcw M.1 idx) (hy0 : zly a0 = some (100, n0)) (hy : zly a = some (100, n1)) (hn : 0 ≤ n ∧ n ≤ n0 ∧ n ≤ n1) (hst : st = []) (hdd : 1 ≤ d) (kk : zw l d M pc' L st (zwa σ a (zcp (σ a0) (σ a) n)) Q) : zw l d M pc L (.int (zI n) :: .int (zI 0) :: .ref a :: .int (zI 0) :: .ref a0 :: st) σ Q := by
  subst hp; subst hst; intro G p e R s m args below meth c cells slots Z hC H locs ls hP hS hl
  have hx0 := zWs_get (G := G) (σ := σ) hy0
  have hx1 := zWs_get (G := G) (σ := σ) hy
  rw [zE_int G _ _ (by decide) (by decide)] at hx0 hx1
  have h0 := zly_n a0 (zly_300 hy0) _ hy0 (by omega)
  have h1 := zly_n a (zly_300 hy) _ hy (by omega)
  dsimp only at h0 h1
  have e0 : (zI 0).toNatClampNeg = 0 := rfl
  have en : (zI n).toNatClampNeg = n.toNat := zI_clamp hn.1 (by omega)
  have hts := hC.2.2.2.2.1
  obtain ⟨w1, w2, w3, w4⟩ := hw
  have hR := hC.2.2.2.2.2.2.2.2.2.1
  refine va_copyi (ty := .int) hC.1 hC.2.1 (hC.2.2.1.trans hl.1.symm) hC.2.2.2.1 (hts _ w1) (hts _ w2) (hts _ w3) (hts _ w4) hC.2.2.2.2.2.1 hP (zWs_D G σ) hS (a0 - 1) (a - 1) 0 0 hx0 hx1 (zT_at G).1 (zT_at G).1 rfl (by decide) (by decide) ?_ (by rw [e0, en]; omega) (by rw [e0, en]; omega) (fun _ _ => rfl) (by omega) ?_ hd (fun H1 locs1 hP1 hD1 hS1 => ?_)
  · rw [show (0 : Int32) = zI 0 from rfl, zI_lt (by omega) (by omega) (by omega) (by omega)]; omega
  · refine Nat.le_trans (Nat.le_of_ble_eq_true rfl : (List.map (fun v : Value => v.category) (List.map (ztr G) [])).sum + (nativeFrameWords "java/lang/System" "arraycopy" 5 + 11) ≤ 64) ?_
    omega
  · rw [zWs_set hy (zcp (σ a0) (σ a) n) (by
      rw [zE_int G _ _ (by decide) (by decide), e0, en]
      congr 4
      funext j
      simp only [zcp, va_cpy]
      by_cases hj : j < n.toNat
      · rw [if_pos (by omega), if_pos (by omega)]
        simp
      · rw [if_neg (by omega), if_neg (by omega)])] at hP1
    exact kk G p e R s m args below meth c cells slots Z hC H1 locs1 ls hP1 hS1 hl
/-! ===== returns ===== -/
theorem zw_ret {v : Option Value} (hr : zrt M pc v) (hst : st = v.toList) (hq : Q v σ) : zw l d M pc L st σ Q := by
  subst hst; intro G p e R s m args below meth c cells slots Z hC H locs ls hP hS hl
  have := hC.2.2.2.2.2.2.2.2.2.2 v σ H locs ls pc hr hq hP hS
  cases v <;> exact this
theorem zw_iret {x : Int} (hd : decode M.2.2.1 pc = .ok (.ireturn, 1)) (hr : M.2.2.2.2 = some .int) (hq : Q (some (.int (zI x))) σ) : zw l d M pc L [.int (zI x)] σ Q := zw_ret (v := some (.int (zI x))) ⟨.int, hr, rfl, hd⟩ rfl hq
theorem zw_zret {x : Int} (hd : decode M.2.2.1 pc = .ok (.ireturn, 1)) (hr : M.2.2.2.2 = some .boolean) (hx : x = 0 ∨ x = 1) (hq : Q (some (.int (zI x))) σ) : zw l d M pc L [.int (zI x)] σ Q := zw_ret (v := some (.int (zI x))) ⟨.boolean, hr, by rcases hx with rfl | rfl <;> rfl, hd⟩ rfl hq
theorem zw_lret {x : Int} (hd : decode M.2.2.1 pc = .ok (.lreturn, 1)) (hr : M.2.2.2.2 = some .long) (hq : Q (some (.long (zL x))) σ) : zw l d M pc L [.long (zL x)] σ Q := zw_ret (v := some (.long (zL x))) ⟨hr, hd⟩ rfl hq
theorem zw_vret (hd : decode M.2.2.1 pc = .ok (.return_, 1)) (hr : M.2.2.2.2 = none) (hq : Q none σ) : zw l d M pc L [] σ Q := zw_ret (v := none) ⟨hr, hd⟩ rfl hq
/-! ===== a contract out of the method's run ===== -/
theorem zsl_spec (G : zG) : ∀ (vs : List Value) (n i : Nat) (v : Value), (zsl vs)[i]? = some (some v) → (n + i, ztr G v) ∈ lv_args n (vs.map (ztr G))
  | [], n, i, v, h => by simp [zsl] at h
  | w :: vs, n, i, v, h => by
    rw [List.map_cons, lv_args, ztr_cat]
    by_cases hc : w.category = 2
    · have e : zsl (w :: vs) = some w :: none :: zsl vs := by cases w <;> simp_all [zsl, Value.category]
      rw [e] at h
      rw [if_pos hc]
      match i, h with
      | 0, h => simp at h; subst h; exact List.mem_cons_self
      | 1, h => simp at h
      | i + 2, h =>
        have := zsl_spec G vs (n + 2) i v (by simpa using h)
        rw [show n + (i + 2) = n + 2 + i by omega]
        exact List.mem_cons_of_mem _ this
    · have e : zsl (w :: vs) = some w :: zsl vs := by cases w <;> simp_all [zsl, Value.category]
      rw [e] at h
      rw [if_neg hc]
      match i, h with
      | 0, h => simp at h; subst h; exact List.mem_cons_self
      | i + 1, h =>
        have := zsl_spec G vs (n + 1) i v (by simpa using h)
        rw [show n + (i + 1) = n + 1 + i by omega]
        exact List.mem_cons_of_mem _ this
theorem zsl_len (G : zG) : ∀ vs : List Value, (lg_sl (vs.map (ztr G))).length = (zsl vs).length
  | [] => rfl
  | w :: vs => by
    have ih := zsl_len G vs
    unfold lg_sl at ih ⊢
    rw [List.map_cons, List.flatMap_cons, List.length_append, ih, ztr_cat]
    by_cases hc : w.category = 2
    · have e : zsl (w :: vs) = some w :: none :: zsl vs := by cases w <;> simp_all [zsl, Value.category]
      rw [e, if_pos hc]; simp; omega
    · have e : zsl (w :: vs) = some w :: zsl vs := by cases w <;> simp_all [zsl, Value.category]
      rw [e, if_neg hc]; simp; omega
theorem zen_lv (G : zG) {vs : List Value} {n : Nat} (h : (zsl vs).length ≤ n) : zlv G ((lg_sl (vs.map (ztr G)) ++ List.replicate (n - (lg_sl (vs.map (ztr G))).length) Slot.unset).toArray) n (zen n vs) := by
  have h0 := lv_entry (vs.map (ztr G)) (n := n) (by rw [zsl_len]; exact h)
  refine ⟨h0.1, h0.2.1, fun i v hv => ?_⟩
  unfold zen at hv
  by_cases hi : i < (zsl vs).length
  · rw [List.getElem?_append_left hi] at hv
    have := zsl_spec G vs 0 i v hv
    rw [Nat.zero_add] at this
    exact h0.2.2 _ this
  · rw [List.getElem?_append_right (by omega)] at hv
    simp [List.getElem?_replicate] at hv
/-- the facts of a method: a plain class name, its words -/
def zMok (M : zMth) : Prop := plainName M.2.1.cls = true ∧ M.2.1.cls = M.1 ∧ Cond.code M.2.1 M.2.2.1 M.2.2.2.1 M.2.2.2.2 ∈ ztbl ∧ M.2.2.2.1 ≤ 40
theorem zSp_of {args : List Value} (hM : zMok M) (hlen : (zsl args).length ≤ M.2.2.2.1) (h : zw l d M 0 (zen M.2.2.2.1 args) [] σ Q) : zSp l d M args σ Q := by
  intro G
  refine Met.ofW (cc := M.2.2.1) (maxL := M.2.2.2.1) (ret := M.2.2.2.2) hM.1 rfl ?_
  intro p e s m args0 below meth c s₁ B hml hv
  obtain ⟨rfl, hP, hK, hStr, hScr, hOld⟩ := hv
  have hts0 := atoms_spec (ws := Cond.code M.2.1 M.2.2.1 M.2.2.2.1 M.2.2.2.2 :: ztbl) B.pre
  have hown : s.vm.findClass M.1 = some m.cls := by rw [← hM.2.1]; exact findClass_of_methodNamed B.named
  rw [lg_entry_eq]
  refine h G p e _ s m _ below meth c 0 0 _ ⟨B.exec, B.bytes, hml, hown, fun w hw => hts0 w (List.mem_cons_of_mem _ hw), hK, hStr, hScr, hOld, ⟨Nat.le_refl _, Nat.le_refl _, Nat.le_refl _, Nat.le_refl _⟩, ?_⟩ s.heap [] _ hP va_S.rf (zen_lv G hlen)
  intro r σ' H locs ls pc hr hQ hP' hS'
  match r, hr with
  | none, hr => exact W.vret B.exec B.bytes (B.returns.trans hr.1) (fun t ht hW => ⟨⟨none, σ', rfl, hQ, by rw [ht]; exact hP'⟩, hS'.F ht⟩) hS'.2.2 hr.2 B.notSynchronized
  | some (.int v), hr =>
    obtain ⟨ty, h1, h2, h3⟩ := hr
    exact W.zret B.exec B.bytes (B.returns.trans h1) h2 (fun t ht hW => ⟨⟨some (.int v), σ', rfl, hQ, by rw [ht]; exact hP'⟩, hS'.F ht⟩) hS'.2.2 h3 B.notSynchronized
  | some (.long v), hr => exact W.lret B.exec B.bytes (B.returns.trans hr.1) (fun t ht hW => ⟨⟨some (.long v), σ', rfl, hQ, by rw [ht]; exact hP'⟩, hS'.F ht⟩) hS'.2.2 hr.2 B.notSynchronized
end ZY
/-! ===== calls ===== -/
theorem zB.calling {G : zG} {σ : zMem} {U : State} {g : JFrame} {mk : MethodId} {a : Array Value} (h : zB G σ U) : zB G σ (U.calling g mk a) := by
  obtain ⟨hP, hK, hStr, hScr, hOld⟩ := h
  refine ⟨hP, va_K.moved (u := U) (U := U.calling g mk a) (Vm.Alike.refl U.vm) hK, ⟨⟨fun i hi => vk_R.same (u := U) rfl (hStr.1.1 i hi), hStr.1.2.same (s := U) rfl⟩, hStr.2.moved (u := U) (U := U.calling g mk a) (Vm.Alike.refl U.vm)⟩, hScr.moved (s := U) (U := U.calling g mk a) (Vm.Alike.refl U.vm), hOld⟩
theorem zPc_blind {G : zG} {σ : zMem} {av : List Value} : FrameBlind (va_Pc av (zB G σ)) := fun _ _ _ _ h => ⟨h.1, h.2.calling⟩
section ZC
variable {l : Launch} {d : Nat} {M : zMth} {pc : Nat} {L : List (Option Value)} {st : List Value} {σ : zMem} {Q : Option Value → zMem → Prop} {k : Nat}
/-- the facts of a method that is called -/
def zcm (M' : zMth) (n : Nat) : Prop := Cond.initialized M'.2.1.cls ∈ ztbl ∧ Cond.code M'.2.1 M'.2.2.1 M'.2.2.2.1 M'.2.2.2.2 ∈ ztbl ∧ M'.2.1.cls ≠ "java/lang/invoke/MethodHandle" ∧ M'.2.1.cls ≠ "java/lang/invoke/VarHandle" ∧ (parseMethodDescriptor M'.2.1.desc).map (fun d => d.parameters.length) = some n ∧ M'.2.2.2.1 ≤ 40
/-- a call by invokevirtual of own's pool entry idx -/
def zcv (own : String) (idx : Nat) (M' : zMth) : Prop := Cond.methodLink own idx M'.2.1 ∈ ztbl ∧ Cond.instanceMethod M'.2.1 ∈ ztbl ∧ Cond.selects M'.2.1.cls M'.2.1 M'.2.1 ∈ ztbl
def zcs (own : String) (idx : Nat) (M' : zMth) : Prop := Cond.methodLink own idx M'.2.1 ∈ ztbl ∧ Cond.static M'.2.1 ∈ ztbl
/-- by invokestatic of a nest mate's private one -/
def zcn (own : String) (idx : Nat) (M' : zMth) : Prop := (own, idx, M'.2.1) ∈ zNl ∧ Cond.static M'.2.1 ∈ ztbl
theorem zws_ok {M' : zMth} {n : Nat} (h : zcm M' n) : ∀ w ∈ Cond.code M'.2.1 M'.2.2.1 M'.2.2.2.1 M'.2.2.2.2 :: ztbl, w ∈ ztbl := fun w hw => (List.mem_cons.mp hw).elim (fun e => by rw [e]; exact h.2.1) id
theorem zpre {G : zG} {s U : State} {H : Heap} {locs : List Loc} {av : List Value} (hP : va_P (zGD G) vwCl (zWs G σ) H) (hK : va_K (zGD G) vwCl (zT G) s) (hStr : zStr G s) (hScr : zScr G s) (hOld : zOld G s) (hS : va_S (zA G) s.heap H locs) (hU : U.heap = H) (hW : s.WarmedH U.vm) : va_Pc av (zB G σ) av.toArray U := by
  refine ⟨rfl, by rw [hU]; exact hP, hK.moved hW.alike, hStr.warm hW, hScr.moved hW.alike, ?_, ?_, hOld.2.2⟩
  · rw [hU]; exact Nat.le_trans hOld.1 hS.1
  · intro q hq
    rw [hU, hS.2.1 q (Nat.lt_of_lt_of_le hq hOld.1) (fun h => absurd hq (Nat.not_lt.mpr h))]
    exact hOld.2.1 q hq
theorem zgo {G : zG} {p : Program} {e : Env} {R : Room} {s : State} {m : MethodId} {args : Array Value} {below : List Frame} {meth : Method} {c : Code} {cells slots : Nat} {Z : State → Prop} {H : Heap} {locs : List Loc} {ls : Array Slot} {st0 rest : List Value} {Q' : Option Value → zMem → Prop} {av : Array Value} (hC : zC l d M Q G p e R s m args below meth c cells slots Z) (hS : va_S (zA G) s.heap H locs) (hl : zlv G ls M.2.2.2.1 L)
    (hr : va_Run p l e R s m args below meth c H locs cells slots 0 0 (F0 m pc ls st0) (rest.map (ztr G)) (zQ G Q' av) (zA G)) (kk : ∀ r σ', Q' r σ' → zw l d M (pc + 3) L (r.toList ++ rest) σ' Q) : W p l e R s m args below meth c H locs cells slots Z (F0 m pc ls st0) := by
  intro T hT X
  obtain ⟨v, st₀, t, T', Lc, h0, X', hL, e1, e2, ⟨⟨r, σ', hv, hq, hP'⟩, hz, hk⟩, stp⟩ := hr T hT X
  cases hv
  rw [h0] at hz hk
  have hS' : va_S (zA G) s.heap T'.heap (locs ++ Lc) := ⟨Nat.le_trans hS.1 (by rw [e1]; exact hz), fun q h1 h2 => by rw [e1, hk q (Nat.lt_of_lt_of_le h1 hS.1) h2]; exact hS.2.1 q h1 h2, fun q hq => (List.mem_append.mp hq).elim (hS.2.2 q) (hL q)⟩
  have hP'' : va_P (zGD G) vwCl (zWs G σ') T'.heap := by rw [e1]; exact hP'
  obtain ⟨t2, a1, b1⟩ := kk r σ' hq G p e R s m args below meth c cells slots Z hC T'.heap (locs ++ Lc) ls hP'' hS' hl T' rfl X'
  refine ⟨t2, stp t2 ?_, b1⟩
  have e3 : (r.toList ++ rest).map (ztr G) = (r.map (ztr G)).toList ++ rest.map (ztr G) := by cases r <;> simp
  rw [e3] at a1
  exact a1
theorem zroom {R : Room} {d d' : Nat} {maxL : Nat} (h1 : d ≤ R.frames) (h2 : 64 * d ≤ R.locals) (hd : d' < d) (hm : maxL ≤ 40) : (zrm d').frames + 1 ≤ R.frames ∧ 8 + (maxL + 11) + (zrm d').locals ≤ R.locals := by
  constructor
  · show d' + 1 ≤ R.frames
    omega
  · show 8 + (maxL + 11) + 64 * d' ≤ R.locals
    omega
theorem zw_callV (pc' : Nat) (As : List Value) (rest : List Value) {idx a ci N n d' : Nat} {M' : zMth} {Q' : Option Value → zMem → Prop} (hd : decode M.2.2.1 pc = .ok (.invokevirtual idx, 3)) (hp : pc + 3 = pc') (hc : zcv M.1 idx M') (hm : zcm M' n) (hy : zly a = some (ci, N)) (hci : ∃ q, vwCl[ci]? = some q ∧ q.1 = M'.2.1.cls) (hc2 : ci < 100) (hsp : zSp l d' M' (.ref a :: As) σ Q') (hdd : d' < d) (hn : As.length = n) (hst : st = As.reverse ++ .ref a :: rest) (hcat : (rest.map (fun v => v.category)).sum ≤ 8) (kk : ∀ r σ', Q' r σ' → zw l d M pc' L (r.toList ++ rest) σ' Q) : zw l d M pc L st σ Q := by
  subst hp; subst hst; intro G p e R s m args below meth c cells slots Z hC H locs ls hP hS hl
  obtain ⟨hx, hb, hml, hown, hts, hK, hStr, hScr, hOld, hR, hret⟩ := id hC
  obtain ⟨q, hq, hqc⟩ := hci
  obtain ⟨m1, m2, m3, m4, m5, m6⟩ := id hm
  have hx0 := zWs_get (G := G) (σ := σ) hy
  rw [zE_obj G _ _ hc2] at hx0
  have hrec := va_recv hK hP hq hx0
  rw [hqc] at hrec
  refine zgo hC hS hl (rest := rest) (va_runV (C := M'.2.1.cls) (b := zad G a) (As := As.map (ztr G)) (rest := rest.map (ztr G)) (n := n) (rm := zrm d') ⟨hx, hb, hml, hown, hts⟩ (hsp G) (cwV n hts (zgood (fun w hw => ?_)) rfl rfl rfl ⟨rfl, m3, m4, m5⟩ (zroom hR.1 hR.2.1 hdd m6)) ⟨zPc_blind, hrec, fun U hU hW => zpre hP hK hStr hScr hOld hS hU hW⟩ rfl (by simpa using hn) hl.1 (by simp [ztr]) (lv_room (by simpa [Function.comp_def, ztr_cat] using hcat)) hd ⟨by simpa using hR.2.2.1, by simpa using hR.2.2.2⟩) kk
  rcases List.mem_append.mp hw with hw | hw
  · simp only [List.mem_cons, List.not_mem_nil, or_false] at hw
    rcases hw with rfl | rfl | rfl | rfl
    · exact hc.1
    · exact hc.2.1
    · exact hc.2.2
    · exact m1
  · exact zws_ok hm w hw
theorem zw_callS (pc' : Nat) (As : List Value) (rest : List Value) {idx n d' : Nat} {M' : zMth} {Q' : Option Value → zMem → Prop} (hd : decode M.2.2.1 pc = .ok (.invokestatic idx, 3)) (hp : pc + 3 = pc') (hc : zcs M.1 idx M') (hm : zcm M' n) (hsp : zSp l d' M' As σ Q') (hdd : d' < d) (hn : As.length = n) (hst : st = As.reverse ++ rest) (hcat : (rest.map (fun v => v.category)).sum ≤ 8) (kk : ∀ r σ', Q' r σ' → zw l d M pc' L (r.toList ++ rest) σ' Q) : zw l d M pc L st σ Q := by
  subst hp; subst hst; intro G p e R s m args below meth c cells slots Z hC H locs ls hP hS hl
  obtain ⟨hx, hb, hml, hown, hts, hK, hStr, hScr, hOld, hR, hret⟩ := id hC
  obtain ⟨m1, m2, m3, m4, m5, m6⟩ := id hm
  refine zgo hC hS hl (rest := rest) (va_runS (As := As.map (ztr G)) (rest := rest.map (ztr G)) (n := n) (rm := zrm d') ⟨hx, hb, hml, hown, hts⟩ (hsp G) (va_cwS n hts (zgood (fun w hw => ?_)) rfl rfl rfl ⟨m3, m4, m5⟩ (zroom hR.1 hR.2.1 hdd m6)) ⟨zPc_blind, fun U hU hW => zpre hP hK hStr hScr hOld hS hU hW⟩ rfl (by simpa using hn) hl.1 (by simp) (lv_room (by simpa [Function.comp_def, ztr_cat] using hcat)) hd ⟨by simpa using hR.2.2.1, by simpa using hR.2.2.2⟩) kk
  rcases List.mem_append.mp hw with hw | hw
  · simp only [List.mem_cons, List.not_mem_nil, or_false] at hw
    rcases hw with rfl | rfl | rfl
    · exact hc.1
    · exact hc.2
    · exact m1
  · exact zws_ok hm w hw
theorem zw_callN (pc' : Nat) (As : List Value) (rest : List Value) {idx n d' : Nat} {M' : zMth} {Q' : Option Value → zMem → Prop} (hd : decode M.2.2.1 pc = .ok (.invokestatic idx, 3)) (hp : pc + 3 = pc') (hc : zcn M.1 idx M') (hm : zcm M' n) (hsp : zSp l d' M' As σ Q') (hdd : d' < d) (hn : As.length = n) (hst : st = As.reverse ++ rest) (hcat : (rest.map (fun v => v.category)).sum ≤ 8) (kk : ∀ r σ', Q' r σ' → zw l d M pc' L (r.toList ++ rest) σ' Q) : zw l d M pc L st σ Q := by
  subst hp; subst hst; intro G p e R s m args below meth c cells slots Z hC H locs ls hP hS hl
  obtain ⟨hx, hb, hml, hown, hts, hK, hStr, hScr, hOld, hR, hret⟩ := id hC
  obtain ⟨m1, m2, m3, m4, m5, m6⟩ := id hm
  refine zgo hC hS hl (rest := rest) (va_runSN (host := RX5) (As := As.map (ztr G)) (rest := rest.map (ztr G)) (n := n) (rm := zrm d') ⟨hx, hb, hml, hown, hts⟩ (hsp G) ⟨va_cnB n hts (zgood (zws_ok hm)) rfl rfl rfl (hStr.1.2 _ hc.1) (hts _ m1) ⟨m3, m4, m5⟩ (zroom hR.1 hR.2.1 hdd m6), hts _ hc.2, trivial⟩ ⟨zPc_blind, fun U hU hW => zpre hP hK hStr hScr hOld hS hU hW⟩ rfl (by simpa using hn) hl.1 (by simp) (lv_room (by simpa [Function.comp_def, ztr_cat] using hcat)) hd ⟨by simpa using hR.2.2.1, by simpa using hR.2.2.2⟩) kk
end ZC
