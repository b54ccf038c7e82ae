/-! ===== the picture while it grows: the first k cells of the layout; a reference that is not laid yet is 0 in the memory ===== -/
abbrev zQn := zMem → Nat → Prop
def zfv2 (G : zG) (f : Int → Int) (ci r j : Nat) : Value := match zft ci j with
  | 0 => .int (zI (f j))
  | 1 => .long (zL (f j))
  | o + 2 => if f j = 0 then .null else .ref (zad G (r + o))
def zE2 (G : zG) (f : Int → Int) (r : Nat) (kn : Nat × Nat) : va_E :=
  if kn.1 < 100 then .inr (kn.1, (List.range kn.2).map (fun j => zfv2 G f kn.1 r j))
  else if kn.1 < 103 then .inl (zGA G kn.1, kn.2, .inl (fun j => zI (f j)))
  else .inl (zGA G kn.1, kn.2, .inr (.inr (.inr (.inr (fun j => if f j = 0 then none else some (zad G (f j).toNat))))))
def zW2 (G : zG) (σ : zMem) (k : Nat) : va_W := (zLAY.take k).zipIdx.map (fun q => (zad G (q.2 + 1), zE2 G (σ (q.2 + 1)) (q.2 + 1) q.1))
theorem zW2_get {G : zG} {σ : zMem} {k r : Nat} {kn : Nat × Nat} (h : zly r = some kn) (hk : r ≤ k) : (zW2 G σ k)[r - 1]? = some (zad G r, zE2 G (σ r) r kn) := by
  unfold zly at h
  split at h
  · cases h
  · rename_i h0
    have e : r - 1 + 1 = r := by omega
    have h2 : (zLAY.take k)[r - 1]? = some kn := by rw [List.getElem?_take, if_pos (by omega)]; exact h
    simp [zW2, List.getElem?_zipIdx, h2, e]
theorem zW2_len (G : zG) (σ : zMem) {k : Nat} (hk : k ≤ 228) : (zW2 G σ k).length = k := by
  simp [zW2, zLAY_len]; omega
theorem zW2_set {G : zG} {σ : zMem} {k r : Nat} {kn : Nat × Nat} (h : zly r = some kn) (hk : r ≤ k) (f : Int → Int) {e : va_E} (he : zE2 G f r kn = e) : (zW2 G σ k).set (r - 1) (zad G r, e) = zW2 G (zwa σ r f) k := by
  have h0 := (zly_lt h).1
  have hl : r - 1 < (zW2 G σ k).length := (List.getElem?_eq_some_iff.mp (zW2_get (G := G) (σ := σ) h hk)).1
  apply List.ext_getElem?
  intro i
  by_cases hi : i = r - 1
  · subst hi
    rw [List.getElem?_set_self hl, zW2_get h hk]
    simp [zwa, he]
  · rw [List.getElem?_set_ne (Ne.symm hi)]
    have hne : ¬ i + 1 = r := by omega
    simp only [zW2, List.getElem?_map, List.getElem?_zipIdx, Nat.zero_add, zwa]
    cases (zLAY.take k)[i]? <;> simp [hne]
theorem zW2_at {G : zG} {σ : zMem} {k i : Nat} {q : Nat × va_E} (h : (zW2 G σ k)[i]? = some q) : i < k ∧ i < 228 ∧ q.1 = zGB G + i ∧ ∃ kn, zly (i + 1) = some kn ∧ q.2 = zE2 G (σ (i + 1)) (i + 1) kn := by
  have hl := (List.getElem?_eq_some_iff.mp h).1
  have hl2 : i < k ∧ i < 228 := by
    simp [zW2, zLAY_len] at hl; omega
  have hL : i < zLAY.length := by rw [zLAY_len]; exact hl2.2
  have h2 : (zLAY.take k)[i]? = some zLAY[i] := by rw [List.getElem?_take, if_pos hl2.1, List.getElem?_eq_getElem hL]
  simp [zW2, List.getElem?_zipIdx, h2] at h
  refine ⟨hl2.1, hl2.2, ?_, zLAY[i], ?_, ?_⟩
  · rw [← h]
    simp only [zad]
    rw [if_neg (by omega), if_pos (by omega)]
    omega
  · unfold zly
    rw [if_neg (by omega)]
    simp [hL]
  · rw [← h]
theorem zW2_D (G : zG) (σ : zMem) (k : Nat) : va_D (zA G) (zW2 G σ k) := by
  refine ⟨fun i j p q hp hq h => ?_, fun i q h => ?_⟩
  · have h1 := (zW2_at hp).2.2.1
    have h2 := (zW2_at hq).2.2.1
    omega
  · have h1 := (zW2_at h).2.2.1
    show zGB G ≤ q.1
    omega
theorem zW2_push {G : zG} {σ : zMem} {k : Nat} {kn : Nat × Nat} (h : zly (k + 1) = some kn) : zW2 G σ k ++ [(zad G (k + 1), zE2 G (σ (k + 1)) (k + 1) kn)] = zW2 G σ (k + 1) := by
  have hk : k + 1 ≤ 228 := by
    unfold zly at h
    rw [if_neg (by omega)] at h
    have := (List.getElem?_eq_some_iff.mp h).1
    rw [zLAY_len] at this; omega
  apply List.ext_getElem?
  intro i
  by_cases hi : i < k
  · rw [List.getElem?_append_left (by rw [zW2_len _ _ (by omega)]; exact hi)]
    simp only [zW2, List.getElem?_map, List.getElem?_zipIdx, List.getElem?_take]
    rw [if_pos hi, if_pos (by omega)]
  · rw [List.getElem?_append_right (by rw [zW2_len _ _ (by omega)]; omega), zW2_len _ _ (by omega)]
    by_cases q : i = k
    · subst q
      have e := zW2_get (G := G) (σ := σ) h (Nat.le_refl _)
      rw [show i + 1 - 1 = i by omega] at e
      rw [e, Nat.sub_self]; rfl
    · rw [List.getElem?_eq_none (by simp; omega), List.getElem?_eq_none (by rw [zW2_len _ _ (by omega)]; omega)]
def zPg (G : zG) (σ : zMem) (k : Nat) (H : Heap) : Prop := va_P (zGD G) vwCl (zW2 G σ k) H ∧ H.size = zGB G + k
def zAo (U : State) : Prop := va_AO RX2 U ∧ va_AO RX0 U
theorem zAo.moved {u U : State} (hvm : u.vm.Alike U.vm) (h : zAo u) : zAo U := ⟨h.1.moved hvm, h.2.moved hvm⟩
def zB2 (G : zG) (σ : zMem) (k : Nat) (U : State) : Prop := zPg G σ k U.heap ∧ va_K (zGD G) vwCl (zT G) U ∧ zStr G U ∧ zScr G U ∧ zOld G U ∧ zAo U
def zQ2 (G : zG) (Q : zQn) : Array Value → State → Outcome → State → Prop := fun _ st oc t => (∃ (σ' : zMem) (k' : Nat), oc = .returned none ∧ Q σ' k' ∧ zPg G σ' k' t.heap) ∧ va_F (zA G) st t
def zrn (d bc bs : Nat) : Room := { frames := d, cells := bc, slots := bs, locals := 64 * d }
def zKp (l : Launch) (d : Nat) (M : zMth) (args : List Value) (σ : zMem) (k bc bs : Nat) (Q : zQn) : Prop :=
  ∀ G : zG, Met l M.2.1 (Cond.code M.2.1 M.2.2.1 M.2.2.2.1 M.2.2.2.2 :: ztbl) (zrn d bc bs) (va_Pc (args.map (ztr G)) (zB2 G σ k)) (zQ2 G Q) bc bs (zA G)
def zCn (l : Launch) (d : Nat) (M : zMth) (Q : zQn) (G : zG) (p : Program) (e : Env) (R : Room) (s : State) (m : MethodId) (args : Array Value) (below : List Frame) (meth : Method) (c : Code) (mc ms : Nat) (Z : State → Prop) : Prop :=
  p.tables.exec = Jvm.exec ∧ c.code = M.2.2.1 ∧ c.maxLocals = M.2.2.2.1 ∧ s.vm.findClass M.1 = some m.cls ∧ (∀ w ∈ ztbl, w.before args s = true) ∧ va_K (zGD G) vwCl (zT G) s ∧ zStr G s ∧ zScr G s ∧ zOld G s ∧ (d ≤ R.frames ∧ 64 * d ≤ R.locals ∧ mc ≤ R.cells ∧ ms ≤ R.slots) ∧ ((M.2.1.name = "<init>" → meth.name = "<init>") ∧ zAo s ∧ (M.2.2.2.2 = some .boolean → zGL G ≤ 3072) ∧ ∀ (H : Heap) (locs : List Loc) (ls : Array Slot) (pc : Nat), M.2.2.2.2 = some .boolean → decode M.2.2.1 pc = .ok (.ireturn, 1) → va_S (zA G) s.heap H locs → W p l e R s m args below meth c H locs mc ms Z (F0 m pc ls [.int (zI 1)])) ∧
  ∀ (σ' : zMem) (k' : Nat) (H : Heap) (locs : List Loc) (ls : Array Slot) (pc : Nat), M.2.2.2.2 = none → decode M.2.2.1 pc = .ok (.return_, 1) → Q σ' k' → zPg G σ' k' H → va_S (zA G) s.heap H locs → W p l e R s m args below meth c H locs mc ms Z (F0 m pc ls [])
def zn (l : Launch) (d : Nat) (M : zMth) (pc : Nat) (L : List (Option Value)) (st : List Value) (σ : zMem) (k bc bs : Nat) (Q : zQn) : Prop :=
  ∀ (G : zG) (p : Program) (e : Env) (R : Room) (s : State) (m : MethodId) (args : Array Value) (below : List Frame) (meth : Method) (c : Code) (mc ms : Nat) (Z : State → Prop), zCn l d M Q G p e R s m args below meth c mc ms Z →
  ∀ (cells slots : Nat), cells + bc ≤ mc → slots + bs ≤ ms → ∀ (H : Heap) (locs : List Loc) (ls : Array Slot), zPg G σ k H → va_S (zA G) s.heap H locs → zlv G ls M.2.2.2.1 L → W p l e R s m args below meth c H locs cells slots Z (F0 m pc ls (st.map (ztr G)))
section ZN
variable {l : Launch} {d : Nat} {M : zMth} {pc : Nat} {L : List (Option Value)} {st : List Value} {σ : zMem} {k bc bs : Nat} {Q : zQn}
theorem zn_iconst (pc' : Nat) {n : Int} (hd : decode M.2.2.1 pc = .ok (.iconst n, 1)) (hp : pc + 1 = pc') (kk : zn l d M pc' L (.int (zI n) :: st) σ k bc bs Q) : zn l d M pc L st σ k bc bs Q := by
  subst hp; intro G p e R s m args below meth c mc ms Z hC cells slots hcb hsb H locs ls hP hS hl
  exact lv_iconst hC.1 hC.2.1 hd rfl (kk G p e R s m args below meth c mc ms Z hC cells slots hcb hsb H locs ls hP hS hl)
theorem zn_bipush (pc' : Nat) {n : Int} (hd : decode M.2.2.1 pc = .ok (.bipush n, 2)) (hp : pc + 2 = pc') (hv : (Int8.ofInt n).toInt32 = zI n) (kk : zn l d M pc' L (.int (zI n) :: st) σ k bc bs Q) : zn l d M pc L st σ k bc bs Q := by
  subst hp; intro G p e R s m args below meth c mc ms Z hC cells slots hcb hsb H locs ls hP hS hl
  exact lv_bipush hC.1 hC.2.1 hd hv (kk G p e R s m args below meth c mc ms Z hC cells slots hcb hsb H locs ls hP hS hl)
theorem zn_sipush (pc' : Nat) {n : Int} (hd : decode M.2.2.1 pc = .ok (.sipush n, 3)) (hp : pc + 3 = pc') (hv : (Int16.ofInt n).toInt32 = zI n) (kk : zn l d M pc' L (.int (zI n) :: st) σ k bc bs Q) : zn l d M pc L st σ k bc bs Q := by
  subst hp; intro G p e R s m args below meth c mc ms Z hC cells slots hcb hsb H locs ls hP hS hl
  exact lv_sipush hC.1 hC.2.1 hd hv (kk G p e R s m args below meth c mc ms Z hC cells slots hcb hsb H locs ls hP hS hl)
theorem zn_lconst (pc' : Nat) {n : Fin 2} (v : Int) (hd : decode M.2.2.1 pc = .ok (.lconst n, 1)) (hp : pc + 1 = pc') (hv : Int64.ofNat (n : Nat) = zL v) (kk : zn l d M pc' L (.long (zL v) :: st) σ k bc bs Q) : zn l d M pc L st σ k bc bs Q := by
  subst hp; intro G p e R s m args below meth c mc ms Z hC cells slots hcb hsb H locs ls hP hS hl
  exact lv_lconst hC.1 hC.2.1 hd hv (kk G p e R s m args below meth c mc ms Z hC cells slots hcb hsb H locs ls hP hS hl)
theorem zn_iload_n (pc' : Nat) {i : Fin 4} {x : Int} (hd : decode M.2.2.1 pc = .ok (.iload_n i, 1)) (hp : pc + 1 = pc') (hL : L[(i : Nat)]? = some (some (.int (zI x)))) (kk : zn l d M pc' L (.int (zI x) :: st) σ k bc bs Q) : zn l d M pc L st σ k bc bs Q := by
  subst hp; intro G p e R s m args below meth c mc ms Z hC cells slots hcb hsb H locs ls hP hS hl
  exact lv_iload_n hC.1 hC.2.1 hd rfl (hl.2.2 _ _ hL) (kk G p e R s m args below meth c mc ms Z hC cells slots hcb hsb H locs ls hP hS hl)
theorem zn_aload_n (pc' : Nat) {i : Fin 4} {a : Nat} (hd : decode M.2.2.1 pc = .ok (.aload_n i, 1)) (hp : pc + 1 = pc') (hL : L[(i : Nat)]? = some (some (.ref a))) (kk : zn l d M pc' L (.ref a :: st) σ k bc bs Q) : zn l d M pc L st σ k bc bs Q := by
  subst hp; intro G p e R s m args below meth c mc ms Z hC cells slots hcb hsb H locs ls hP hS hl
  exact lv_aload_n hC.1 hC.2.1 hd rfl (hl.2.2 _ _ hL) (kk G p e R s m args below meth c mc ms Z hC cells slots hcb hsb H locs ls hP hS hl)
theorem zn_istore_n (pc' : Nat) {i : Fin 4} {x : Int32} (hd : decode M.2.2.1 pc = .ok (.istore_n i, 1)) (hp : pc + 1 = pc') (hn : (i : Nat) < M.2.2.2.1) (kk : zn l d M pc' (zs1 i (.int x) L) st σ k bc bs Q) : zn l d M pc L (.int x :: st) σ k bc bs Q := by
  subst hp; intro G p e R s m args below meth c mc ms Z hC cells slots hcb hsb H locs ls hP hS hl
  exact lv_istore_n hC.1 hC.2.1 hd rfl hl.has hn rfl (fun ls' h => kk G p e R s m args below meth c mc ms Z hC cells slots hcb hsb H locs ls' hP hS (zlv.st1 (v := .int x) h))
theorem zn_iinc (pc' : Nat) {i : Nat} {n x : Int} (hd : decode M.2.2.1 pc = .ok (.iinc i n, 3)) (hp : pc + 3 = pc') (hn : i < M.2.2.2.1) (hL : L[i]? = some (some (.int (zI x)))) (kk : zn l d M pc' (zs1 i (.int (zI (x + n))) L) st σ k bc bs Q) : zn l d M pc L st σ k bc bs Q := by
  subst hp; intro G p e R s m args below meth c mc ms Z hC cells slots hcb hsb H locs ls hP hS hl
  obtain ⟨k, hk⟩ := List.getElem?_of_mem (zas_mem (G := G) hL)
  exact lv_iinc (v := zI (x + n)) hC.1 hC.2.1 hd hl.has (k := k) hk (zI_add x n) hn rfl (fun ls' h => kk G p e R s m args below meth c mc ms Z hC cells slots hcb hsb H locs ls' hP hS (zlv.st1 (v := .int (zI (x + n))) h))
theorem zn_dup (pc' : Nat) {v : Value} (hd : decode M.2.2.1 pc = .ok (.dup, 1)) (hp : pc + 1 = pc') (hv : v.category = 1) (kk : zn l d M pc' L (v :: v :: st) σ k bc bs Q) : zn l d M pc L (v :: st) σ k bc bs Q := by
  subst hp; intro G p e R s m args below meth c mc ms Z hC cells slots hcb hsb H locs ls hP hS hl
  exact lv_dup hC.1 hC.2.1 hd (by rw [ztr_cat]; exact hv) (kk G p e R s m args below meth c mc ms Z hC cells slots hcb hsb H locs ls hP hS hl)
theorem zn_goto (tgt : Nat) {off : Int} (hd : decode M.2.2.1 pc = .ok (.goto off, 3)) (ht : (pc : Int) + off = (tgt : Int)) (kk : zn l d M tgt L st σ k bc bs Q) : zn l d M pc L st σ k bc bs Q := by
  intro G p e R s m args below meth c mc ms Z hC cells slots hcb hsb H locs ls hP hS hl
  exact lv_goto hC.1 hC.2.1 hd ht (kk G p e R s m args below meth c mc ms Z hC cells slots hcb hsb H locs ls hP hS hl)
theorem zn_icmp_ge (tgt pc2 : Nat) {a b : Int} {off : Int} (hd : decode M.2.2.1 pc = .ok (.if_icmp .ge off, 3)) (ht : (pc : Int) + off = (tgt : Int)) (hp : pc + 3 = pc2) (ha : -2147483648 ≤ a ∧ a < 2147483648) (hb : -2147483648 ≤ b ∧ b < 2147483648) (kt : b ≤ a → zn l d M tgt L st σ k bc bs Q) (kf : a < b → zn l d M pc2 L st σ k bc bs Q) : zn l d M pc L (.int (zI b) :: .int (zI a) :: st) σ k bc bs Q := by
  subst hp; intro G p e R s m args below meth c mc ms Z hC cells slots hcb hsb H locs ls hP hS hl
  exact lv_icmp_ge hC.1 hC.2.1 hd ht (fun q => kt ((zI_le (a := b) (b := a) hb.1 hb.2 ha.1 ha.2).mp q) G p e R s m args below meth c mc ms Z hC cells slots hcb hsb H locs ls hP hS hl) (fun q => kf (Int.not_le.mp (fun z => q ((zI_le (a := b) (b := a) hb.1 hb.2 ha.1 ha.2).mpr z))) G p e R s m args below meth c mc ms Z hC cells slots hcb hsb H locs ls hP hS hl)
theorem zn_vret (hd : decode M.2.2.1 pc = .ok (.return_, 1)) (hr : M.2.2.2.2 = none) (hq : Q σ k) : zn l d M pc L [] σ k bc bs Q := by
  intro G p e R s m args below meth c mc ms Z hC cells slots hcb hsb H locs ls hP hS hl
  exact W.widen (by omega) (by omega) (hC.2.2.2.2.2.2.2.2.2.2.2 σ k H locs ls pc hr hd hq hP hS)
theorem zn_objInit (pc' : Nat) {idx a : Nat} (hd : decode M.2.2.1 pc = .ok (.invokespecial idx, 3)) (hp : pc + 3 = pc') (hw : Cond.methodLink M.1 idx Lib.objectInit ∈ ztbl ∧ Cond.instanceMethod Lib.objectInit ∈ ztbl ∧ Cond.code Lib.objectInit ⟨#[0xb1]⟩ 1 none ∈ ztbl) (hst : st = [.ref a]) (hdd : 1 ≤ d) (kk : zn l d M pc' L [] σ k bc bs Q) : zn l d M pc L st σ k bc bs Q := by
  subst hp; subst hst; intro G p e R s m args below meth c mc ms Z hC cells slots hcb hsb H locs ls hP hS hl
  obtain ⟨w1, w2, w3⟩ := hw
  have hts := hC.2.2.2.2.1
  have hR := hC.2.2.2.2.2.2.2.2.2.1
  refine W.objInit hC.1 hC.2.1 hC.2.2.2.1 (hts _ w1) (hts _ w2) (hts _ w3) rfl (hl.1.trans hC.2.2.1.symm) rfl hd (by omega) ?_ ?_
  · show 0 + 0 + 12 ≤ R.locals
    omega
  · exact kk G p e R s m args below meth c mc ms Z hC cells slots hcb hsb H locs ls hP hS hl
/-- a contract out of the method's run -/
theorem zKp_of {args : List Value} (hM : zMok M) (hr : M.2.2.2.2 = none) (hlen : (zsl args).length ≤ M.2.2.2.1) (h : zn l d M 0 (zen M.2.2.2.1 args) [] σ k bc bs Q) : zKp l d M args σ k bc bs Q := by
  intro G
  refine Met.ofW (cc := M.2.2.1) (maxL := M.2.2.2.1) (ret := M.2.2.2.2) hM.1 rfl ?_
  intro p e s m args0 below meth c s₁ B hml hv
  obtain ⟨rfl, hP, hK, hStr, hScr, hOld, hAo⟩ := hv
  have hts0 := atoms_spec (ws := Cond.code M.2.1 M.2.2.1 M.2.2.2.1 M.2.2.2.2 :: ztbl) B.pre
  have hown : s.vm.findClass M.1 = some m.cls := by rw [← hM.2.1]; exact findClass_of_methodNamed B.named
  rw [lg_entry_eq]
  refine h G p e _ s m _ below meth c bc bs _ ⟨B.exec, B.bytes, hml, hown, fun w hw => hts0 w (List.mem_cons_of_mem _ hw), hK, hStr, hScr, hOld, ⟨Nat.le_refl _, Nat.le_refl _, Nat.le_refl _, Nat.le_refl _⟩, ⟨fun h9 => (name_of_methodNamed B.named B.method).1.trans h9, hAo, (fun h9 => by rw [hr] at h9; cases h9), fun _ _ _ _ h9 => by rw [hr] at h9; cases h9⟩, ?_⟩ 0 0 (by omega) (by omega) s.heap [] _ hP va_S.rf (zen_lv G hlen)
  intro σ' k' H locs ls pc hr hd hQ hP' hS'
  exact W.vret B.exec B.bytes (B.returns.trans hr) (fun t ht hW => ⟨⟨σ', k', rfl, hQ, by rw [ht]; exact hP'⟩, hS'.F ht⟩) hS'.2.2 hd B.notSynchronized
end ZN
