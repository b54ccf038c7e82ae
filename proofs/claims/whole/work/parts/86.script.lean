/-! ===== the judgement over one script ===== -/
def zx (xs : Nat → Int32) (xl : Nat) (l : Launch) (d : Nat) (M : zMth) (pc : Nat) (L : List (Option Value)) (st : List Value) (σ : zMem) (Q : Option Value → zMem → Prop) : Prop :=
  ∀ (G : zG), zGx G = xs → zGL G = xl → ∀ (p : Program) (e : Env) (R : Room) (s : State) (m : MethodId) (args : Array Value) (below : List Frame) (meth : Method) (c : Code) (cells slots : Nat) (Z : State → Prop), zC l d M Q G p e R s m args below meth c cells slots Z →
  ∀ (H : Heap) (locs : List Loc) (ls : Array Slot), va_P (zGD G) vwCl (zWs G σ) H → va_S (zA G) s.heap H locs → zlv G ls M.2.2.2.1 L → W p l e R s m args below meth c H locs cells slots Z (F0 m pc ls (st.map (ztr G)))
section ZX
variable {xs : Nat → Int32} {xl : Nat} {l : Launch} {d : Nat} {M : zMth} {pc : Nat} {L : List (Option Value)} {st : List Value} {σ : zMem} {Q : Option Value → zMem → Prop} {k : Nat}
theorem zx_of (h : zw l d M pc L st σ Q) : zx xs xl l d M pc L st σ Q := fun G _ _ => h G
theorem zx_iconst (pc' : Nat) {n : Int} (hd : decode M.2.2.1 pc = .ok (.iconst n, 1)) (hp : pc + 1 = pc') (kk : zx xs xl l d M pc' L (.int (zI n) :: st) σ Q) : zx xs xl l d M pc L st σ Q := by
  subst hp; intro G hX hN p e R s m args below meth c cells slots Z hC H locs ls hP hS hl
  exact lv_iconst hC.1 hC.2.1 hd rfl (kk G hX hN p e R s m args below meth c cells slots Z hC H locs ls hP hS hl)
theorem zx_bipush (pc' : Nat) {n : Int} (hd : decode M.2.2.1 pc = .ok (.bipush n, 2)) (hp : pc + 2 = pc') (hv : (Int8.ofInt n).toInt32 = zI n) (kk : zx xs xl l d M pc' L (.int (zI n) :: st) σ Q) : zx xs xl l d M pc L st σ Q := by
  subst hp; intro G hX hN p e R s m args below meth c cells slots Z hC H locs ls hP hS hl
  exact lv_bipush hC.1 hC.2.1 hd hv (kk G hX hN p e R s m args below meth c cells slots Z hC H locs ls hP hS hl)
theorem zx_iload_n (pc' : Nat) {i : Fin 4} {x : Int} (hd : decode M.2.2.1 pc = .ok (.iload_n i, 1)) (hp : pc + 1 = pc') (hL : L[(i : Nat)]? = some (some (.int (zI x)))) (kk : zx xs xl l d M pc' L (.int (zI x) :: st) σ Q) : zx xs xl l d M pc L st σ Q := by
  subst hp; intro G hX hN p e R s m args below meth c cells slots Z hC H locs ls hP hS hl
  exact lv_iload_n hC.1 hC.2.1 hd rfl (hl.2.2 _ _ hL) (kk G hX hN p e R s m args below meth c cells slots Z hC H locs ls hP hS hl)
theorem zx_aload_n (pc' : Nat) {i : Fin 4} {a : Nat} (hd : decode M.2.2.1 pc = .ok (.aload_n i, 1)) (hp : pc + 1 = pc') (hL : L[(i : Nat)]? = some (some (.ref a))) (kk : zx xs xl l d M pc' L (.ref a :: st) σ Q) : zx xs xl l d M pc L st σ Q := by
  subst hp; intro G hX hN p e R s m args below meth c cells slots Z hC H locs ls hP hS hl
  exact lv_aload_n hC.1 hC.2.1 hd rfl (hl.2.2 _ _ hL) (kk G hX hN p e R s m args below meth c cells slots Z hC H locs ls hP hS hl)
theorem zx_istore_n (pc' : Nat) {i : Fin 4} {x : Int32} (hd : decode M.2.2.1 pc = .ok (.istore_n i, 1)) (hp : pc + 1 = pc') (hn : (i : Nat) < M.2.2.2.1) (kk : zx xs xl l d M pc' (zs1 i (.int x) L) st σ Q) : zx xs xl l d M pc L (.int x :: st) σ Q := by
  subst hp; intro G hX hN p e R s m args below meth c cells slots Z hC H locs ls hP hS hl
  exact lv_istore_n hC.1 hC.2.1 hd rfl hl.has hn rfl (fun ls' h => kk G hX hN p e R s m args below meth c cells slots Z hC H locs ls' hP hS (zlv.st1 (v := .int x) h))
theorem zx_iinc (pc' : Nat) {i : Nat} {n x : Int} (hd : decode M.2.2.1 pc = .ok (.iinc i n, 3)) (hp : pc + 3 = pc') (hn : i < M.2.2.2.1) (hL : L[i]? = some (some (.int (zI x)))) (kk : zx xs xl l d M pc' (zs1 i (.int (zI (x + n))) L) st σ Q) : zx xs xl l d M pc L st σ Q := by
  subst hp; intro G hX hN p e R s m args below meth c cells slots Z hC H locs ls hP hS hl
  obtain ⟨k, hk⟩ := List.getElem?_of_mem (zas_mem (G := G) hL)
  exact lv_iinc (v := zI (x + n)) hC.1 hC.2.1 hd hl.has (k := k) hk (zI_add x n) hn rfl (fun ls' h => kk G hX hN p e R s m args below meth c cells slots Z hC H locs ls' hP hS (zlv.st1 (v := .int (zI (x + n))) h))
theorem zx_iadd (pc' : Nat) {a b : Int} (hd : decode M.2.2.1 pc = .ok (.iadd, 1)) (hp : pc + 1 = pc') (kk : zx xs xl l d M pc' L (.int (zI (a + b)) :: st) σ Q) : zx xs xl l d M pc L (.int (zI b) :: .int (zI a) :: st) σ Q := by
  subst hp; intro G hX hN p e R s m args below meth c cells slots Z hC H locs ls hP hS hl
  exact lv_iadd hC.1 hC.2.1 hd (by rw [zI_add]; exact kk G hX hN p e R s m args below meth c cells slots Z hC H locs ls hP hS hl)
theorem zx_isub (pc' : Nat) {a b : Int} (hd : decode M.2.2.1 pc = .ok (.isub, 1)) (hp : pc + 1 = pc') (kk : zx xs xl l d M pc' L (.int (zI (a - b)) :: st) σ Q) : zx xs xl l d M pc L (.int (zI b) :: .int (zI a) :: st) σ Q := by
  subst hp; intro G hX hN p e R s m args below meth c cells slots Z hC H locs ls hP hS hl
  exact lv_isub hC.1 hC.2.1 hd (by rw [zI_sub]; exact kk G hX hN p e R s m args below meth c cells slots Z hC H locs ls hP hS hl)
theorem zx_goto (tgt : Nat) {off : Int} (hd : decode M.2.2.1 pc = .ok (.goto off, 3)) (ht : (pc : Int) + off = (tgt : Int)) (kk : zx xs xl l d M tgt L st σ Q) : zx xs xl l d M pc L st σ Q := by
  intro G hX hN p e R s m args below meth c cells slots Z hC H locs ls hP hS hl
  exact lv_goto hC.1 hC.2.1 hd ht (kk G hX hN p e R s m args below meth c cells slots Z hC H locs ls hP hS hl)
theorem zx_tableOut (tgt : Nat) {dflt lo hi : Int} {offs : Array Int} {len : Nat} {x : Int} (hd : decode M.2.2.1 pc = .ok (.tableswitch dflt lo hi offs, len)) (hb : -2147483648 ≤ x ∧ x < 2147483648) (h : x < lo ∨ hi < x) (ht : (pc : Int) + dflt = (tgt : Int)) (kk : zx xs xl l d M tgt L st σ Q) : zx xs xl l d M pc L (.int (zI x) :: st) σ Q := by
  intro G hX hN p e R s m args below meth c cells slots Z hC H locs ls hP hS hl
  exact lv_tableOut hC.1 hC.2.1 hd (by rw [zI_toInt hb.1 hb.2]; exact h) ht (kk G hX hN p e R s m args below meth c cells slots Z hC H locs ls hP hS hl)
theorem zx_tableIn (tgt : Nat) {dflt lo hi : Int} {offs : Array Int} {len : Nat} {x : Int} {off : Int} (hd : decode M.2.2.1 pc = .ok (.tableswitch dflt lo hi offs, len)) (hb : -2147483648 ≤ x ∧ x < 2147483648) (h1 : ¬ x < lo) (h2 : ¬ hi < x) (ho : offs[(x - lo).toNat]? = some off) (ht : (pc : Int) + off = (tgt : Int)) (kk : zx xs xl l d M tgt L st σ Q) : zx xs xl l d M pc L (.int (zI x) :: st) σ Q := by
  intro G hX hN p e R s m args below meth c cells slots Z hC H locs ls hP hS hl
  have e0 := zI_toInt hb.1 hb.2
  exact lv_tableIn hC.1 hC.2.1 hd (by rw [e0]; exact h1) (by rw [e0]; exact h2) (by rw [e0]; exact ho) ht (kk G hX hN p e R s m args below meth c cells slots Z hC H locs ls hP hS hl)
theorem zx_icmp_gt (tgt pc2 : Nat) {a b : Int} {off : Int} (hd : decode M.2.2.1 pc = .ok (.if_icmp .gt off, 3)) (ht : (pc : Int) + off = (tgt : Int)) (hp : pc + 3 = pc2) (ha : -2147483648 ≤ a ∧ a < 2147483648) (hb : -2147483648 ≤ b ∧ b < 2147483648) (kt : b < a → zx xs xl l d M tgt L st σ Q) (kf : a ≤ b → zx xs xl l d M pc2 L st σ Q) : zx xs xl l d M pc L (.int (zI b) :: .int (zI a) :: st) σ Q := by
  subst hp; intro G hX hN p e R s m args below meth c cells slots Z hC H locs ls hP hS hl
  exact lv_icmp_gt hC.1 hC.2.1 hd ht (fun q => kt ((zI_lt (a := b) (b := a) hb.1 hb.2 ha.1 ha.2).mp q) G hX hN p e R s m args below meth c cells slots Z hC H locs ls hP hS hl) (fun q => kf (Int.not_lt.mp (fun z => q ((zI_lt (a := b) (b := a) hb.1 hb.2 ha.1 ha.2).mpr z))) G hX hN p e R s m args below meth c cells slots Z hC H locs ls hP hS hl)
theorem zxgo {G : zG} {p : Program} {e : Env} {R : Room} {s : State} {m : MethodId} {args : Array Value} {below : List Frame} {meth : Method} {c : Code} {cells slots : Nat} {Z : State → Prop} {H : Heap} {locs : List Loc} {ls : Array Slot} {st0 rest : List Value} {Q' : Option Value → zMem → Prop} {av : Array Value} (hX0 : zGx G = xs) (hN0 : zGL G = xl) (hC : zC l d M Q G p e R s m args below meth c cells slots Z) (hS : va_S (zA G) s.heap H locs) (hl : zlv G ls M.2.2.2.1 L)
    (hr : va_Run p l e R s m args below meth c H locs cells slots 0 0 (F0 m pc ls st0) (rest.map (ztr G)) (zQ G Q' av) (zA G)) (kk : ∀ r σ', Q' r σ' → zx xs xl l d M (pc + 3) L (r.toList ++ rest) σ' Q) : W p l e R s m args below meth c H locs cells slots Z (F0 m pc ls st0) := by
  intro T hT X
  obtain ⟨v, st₀, t, T', Lc, h0, X', hL, e1, e2, ⟨⟨r, σ', hv, hq, hP'⟩, hz, hk⟩, stp⟩ := hr T hT X
  cases hv
  rw [h0] at hz hk
  have hS' : va_S (zA G) s.heap T'.heap (locs ++ Lc) := ⟨Nat.le_trans hS.1 (by rw [e1]; exact hz), fun q h1 h2 => by rw [e1, hk q (Nat.lt_of_lt_of_le h1 hS.1) h2]; exact hS.2.1 q h1 h2, fun q hq => (List.mem_append.mp hq).elim (hS.2.2 q) (hL q)⟩
  have hP'' : va_P (zGD G) vwCl (zWs G σ') T'.heap := by rw [e1]; exact hP'
  obtain ⟨t2, a1, b1⟩ := kk r σ' hq G hX0 hN0 p e R s m args below meth c cells slots Z hC T'.heap (locs ++ Lc) ls hP'' hS' hl T' rfl X'
  refine ⟨t2, stp t2 ?_, b1⟩
  have e3 : (r.toList ++ rest).map (ztr G) = (r.map (ztr G)).toList ++ rest.map (ztr G) := by cases r <;> simp
  rw [e3] at a1
  exact a1
theorem zx_callV (pc' : Nat) (As : List Value) (rest : List Value) {idx a ci N n d' : Nat} {M' : zMth} {Q' : Option Value → zMem → Prop} (hd : decode M.2.2.1 pc = .ok (.invokevirtual idx, 3)) (hp : pc + 3 = pc') (hc : zcv M.1 idx M') (hm : zcm M' n) (hy : zly a = some (ci, N)) (hci : ∃ q, vwCl[ci]? = some q ∧ q.1 = M'.2.1.cls) (hc2 : ci < 100) (hsp : zSp l d' M' (.ref a :: As) σ Q') (hdd : d' < d) (hn : As.length = n) (hst : st = As.reverse ++ .ref a :: rest) (hcat : (rest.map (fun v => v.category)).sum ≤ 8) (kk : ∀ r σ', Q' r σ' → zx xs xl l d M pc' L (r.toList ++ rest) σ' Q) : zx xs xl l d M pc L st σ Q := by
  subst hp; subst hst; intro G hX hN p e R s m args below meth c cells slots Z hC H locs ls hP hS hl
  obtain ⟨hx, hb, hml, hown, hts, hK, hStr, hScr, hOld, hR, hret⟩ := id hC
  obtain ⟨q, hq, hqc⟩ := hci
  obtain ⟨m1, m2, m3, m4, m5, m6⟩ := id hm
  have hx0 := zWs_get (G := G) (σ := σ) hy
  rw [zE_obj G _ _ hc2] at hx0
  have hrec := va_recv hK hP hq hx0
  rw [hqc] at hrec
  refine zxgo hX hN hC hS hl (rest := rest) (va_runV (C := M'.2.1.cls) (b := zad G a) (As := As.map (ztr G)) (rest := rest.map (ztr G)) (n := n) (rm := zrm d') ⟨hx, hb, hml, hown, hts⟩ (hsp G) (cwV n hts (zgood (fun w hw => ?_)) rfl rfl rfl ⟨rfl, m3, m4, m5⟩ (zroom hR.1 hR.2.1 hdd m6)) ⟨zPc_blind, hrec, fun U hU hW => zpre hP hK hStr hScr hOld hS hU hW⟩ rfl (by simpa using hn) hl.1 (by simp [ztr]) (lv_room (by simpa [Function.comp_def, ztr_cat] using hcat)) hd ⟨by simpa using hR.2.2.1, by simpa using hR.2.2.2⟩) kk
  rcases List.mem_append.mp hw with hw | hw
  · simp only [List.mem_cons, List.not_mem_nil, or_false] at hw
    rcases hw with rfl | rfl | rfl | rfl
    · exact hc.1
    · exact hc.2.1
    · exact hc.2.2
    · exact m1
  · exact zws_ok hm w hw
def zxv (xs : Nat → Int32) (k : Int) : Int := (xs k.toNat).toInt
theorem zxv_b (xs : Nat → Int32) (k : Int) : -2147483648 ≤ zxv xs k ∧ zxv xs k < 2147483648 := ⟨Int32.le_toInt _, Int32.toInt_lt _⟩
theorem zScr.here {G : zG} {s : State} (hScr : zScr G s) (hOld : zOld G s) : va_X (zGb G) (zGL G) (zGx G) s s.heap ∧ zGb G < s.heap.size ∧ ¬ zA G (zGb G) := by
  obtain ⟨⟨scr, h1, h2, h3, h4, h5⟩, hb⟩ := hScr
  refine ⟨⟨scr, ?_, h2, h3, h4, h5⟩, Nat.lt_of_lt_of_le hb hOld.1, fun q => absurd hb (Nat.not_lt.mpr q)⟩
  rw [hOld.2.1 _ hb]; exact h1
theorem zx_sld (pc' : Nat) {i : Int} (hd : decode M.2.2.1 pc = .ok (.iaload, 1)) (hp : pc + 1 = pc') (hi : 0 ≤ i ∧ i < xl) (hn : xl ≤ 3072) (kk : zx xs xl l d M pc' L (.int (zI (zxv xs i)) :: st) σ Q) : zx xs xl l d M pc L (.int (zI i) :: .ref 0 :: st) σ Q := by
  subst hp; intro G hX hN p e R s m args below meth c cells slots Z hC H locs ls hP hS hl
  obtain ⟨h1, h2, h3⟩ := zScr.here hC.2.2.2.2.2.2.2.1 hC.2.2.2.2.2.2.2.2.1
  have h := kk G hX hN p e R s m args below meth c cells slots Z hC H locs ls hP hS hl
  subst hX; subst hN
  unfold zxv at h
  rw [zI_of] at h
  have e0 : (zI i).toNatClampNeg = i.toNat := zI_clamp hi.1 (by omega)
  rw [← e0] at h
  exact va_sld hC.1 hC.2.1 h1 h2 h3 hS (zI_in hi.1 hi.2 (by omega)) hd h
theorem zx_slen (pc' : Nat) (hd : decode M.2.2.1 pc = .ok (.arraylength, 1)) (hp : pc + 1 = pc') (kk : zx xs xl l d M pc' L (.int (zI (xl : Int)) :: st) σ Q) : zx xs xl l d M pc L (.ref 0 :: st) σ Q := by
  subst hp; intro G hX hN p e R s m args below meth c cells slots Z hC H locs ls hP hS hl
  obtain ⟨h1, h2, h3⟩ := zScr.here hC.2.2.2.2.2.2.2.1 hC.2.2.2.2.2.2.2.2.1
  have h := kk G hX hN p e R s m args below meth c cells slots Z hC H locs ls hP hS hl
  subst hX; subst hN
  exact va_slen hC.1 hC.2.1 h1 h2 h3 hS hd h
theorem zand63 (x : Int32) : ∃ w : Int, x &&& zI 63 = zI w ∧ 0 ≤ w ∧ w ≤ 63 := by
  refine ⟨(x &&& zI 63).toInt, (zI_of _).symm, ?_⟩
  have h1 : (x &&& zI 63).toBitVec = x.toBitVec &&& 63#32 := by rw [Int32.toBitVec_and]; rfl
  have h2 : (x.toBitVec &&& 63#32).toNat ≤ 63 := by rw [BitVec.toNat_and]; exact Nat.and_le_right
  have h3 : (x &&& zI 63).toInt = ((x.toBitVec &&& 63#32).toNat : Int) := by
    show (x &&& zI 63).toBitVec.toInt = _
    rw [h1, BitVec.toInt_eq_toNat_of_lt (by omega)]
  omega
theorem zx_and63 (pc' : Nat) {v : Int} (hd : decode M.2.2.1 pc = .ok (.iand, 1)) (hp : pc + 1 = pc') (kk : ∀ w : Int, 0 ≤ w → w ≤ 63 → zx xs xl l d M pc' L (.int (zI w) :: st) σ Q) : zx xs xl l d M pc L (.int (zI 63) :: .int (zI v) :: st) σ Q := by
  subst hp; intro G hX hN p e R s m args below meth c cells slots Z hC H locs ls hP hS hl
  obtain ⟨w, hw, w0, w1⟩ := zand63 (zI v)
  exact lv_iand hC.1 hC.2.1 hd (by rw [hw]; exact kk w w0 w1 G hX hN p e R s m args below meth c cells slots Z hC H locs ls hP hS hl)
theorem zx_eqi (tgt : Nat) {a : Int} {off : Int} (hd : decode M.2.2.1 pc = .ok (.if_icmp .eq off, 3)) (ht : (pc : Int) + off = (tgt : Int)) (kt : zx xs xl l d M tgt L st σ Q) : zx xs xl l d M pc L (.int (zI a) :: .int (zI a) :: st) σ Q := by
  intro G hX hN p e R s m args below meth c cells slots Z hC H locs ls hP hS hl
  exact lv_icmp_eq hC.1 hC.2.1 hd ht (fun _ => kt G hX hN p e R s m args below meth c cells slots Z hC H locs ls hP hS hl) (fun q => absurd rfl q)
theorem zx_eql (tgt : Nat) {a : Int} {off : Int} (hd : decode M.2.2.1 pc = .ok (.lcmp, 1)) (hd2 : decode M.2.2.1 (pc + 1) = .ok (.ifCond .eq off, 3)) (ht : ((pc + 1 : Nat) : Int) + off = (tgt : Int)) (kt : zx xs xl l d M tgt L st σ Q) : zx xs xl l d M pc L (.long (zL a) :: .long (zL a) :: st) σ Q := by
  intro G hX hN p e R s m args below meth c cells slots Z hC H locs ls hP hS hl
  refine W.lcmp hC.1 hC.2.1 hd ?_
  refine lv_if_eq hC.1 hC.2.1 hd2 ht (fun _ => kt G hX hN p e R s m args below meth c cells slots Z hC H locs ls hP hS hl) (fun q => absurd (by
    unfold lg_cmp
    rw [if_neg (by rw [gt_iff_lt]; exact Int64.lt_irrefl), if_pos rfl]) q)
/-- the picture read otherwise outside the rows' places -/
def zag2 (σ σ' : zMem) : Prop := ∀ r kn, zly r = some kn → ∀ j : Nat, j < kn.2 → σ r j = σ' r j
theorem zarr_c {cA : ClassId} {n : Nat} {f g : Nat → Value} (h : ∀ j, j < n → f j = g j) : arrV cA n f = arrV cA n g := by
  unfold arrV
  congr 1
  apply Array.ext
  · simp
  · intro i h1 h2
    simp only [Array.getElem_ofFn]
    exact h i (by simpa using h1)
theorem zag2_P {G : zG} {σ σ' : zMem} {H : Heap} (h : zag2 σ σ') (hP : va_P (zGD G) vwCl (zWs G σ) H) : va_P (zGD G) vwCl (zWs G σ') H := by
  intro k q hk
  have hl : k < zLAY.length := by
    have := (List.getElem?_eq_some_iff.mp hk).1
    simpa [zWs] using this
  have hy : zly (k + 1) = some zLAY[k] := by
    unfold zly
    rw [if_neg (by omega)]
    simp [hl]
  have e1 := zWs_get (G := G) (σ := σ) hy
  have e2 := zWs_get (G := G) (σ := σ') hy
  rw [show k + 1 - 1 = k by omega] at e1 e2
  rw [e2] at hk
  cases hk
  have hat := hP k _ e1
  have hag := h (k + 1) _ hy
  generalize zLAY[k] = kn at hat hag ⊢
  obtain ⟨ci, n⟩ := kn
  by_cases c1 : ci < 100
  · rw [zE_obj G _ _ c1] at hat ⊢
    have e : (List.range n).map (fun j => zfv G (σ' (k + 1)) ci (k + 1) j) = (List.range n).map (fun j => zfv G (σ (k + 1)) ci (k + 1) j) := by
      apply List.map_congr_left
      intro j hj
      have := hag j (List.mem_range.mp hj)
      unfold zfv
      rw [this]
    rw [e]; exact hat
  · by_cases c2 : ci < 103
    · rw [zE_int G _ _ (by omega) c2] at hat ⊢
      refine Eq.trans hat ?_
      show some (vp_cell _ (n, .inl _)) = some (vp_cell _ (n, .inl _))
      rw [vp_cell_i, vp_cell_i]
      congr 1
      exact zarr_c (fun j hj => by rw [hag j hj])
    · rw [zE_ref G _ _ (by omega)] at hat ⊢
      refine Eq.trans hat ?_
      show some (vp_cell _ (n, .inr _)) = some (vp_cell _ (n, .inr _))
      rw [vp_cell_q, vp_cell_q]
      congr 1
      exact zarr_c (fun j hj => by rw [hag j hj])
theorem zx_ag {σ' : zMem} (h : zag2 σ σ') (kk : zx xs xl l d M pc L st σ' Q) : zx xs xl l d M pc L st σ Q := fun G hX hN p e R s m args below meth c cells slots Z hC H locs ls hP hS hl => kk G hX hN p e R s m args below meth c cells slots Z hC H locs ls (zag2_P h hP) hS hl
end ZX
