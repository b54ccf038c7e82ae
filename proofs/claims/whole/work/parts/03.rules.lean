/-! ===== the judgement ===== -/
def zrt (M : zMth) (pc : Nat) : Option Value → Prop
  | none => M.2.2.2.2 = none ∧ decode M.2.2.1 pc = .ok (.return_, 1)
  | some (.int v) => ∃ ty, M.2.2.2.2 = some ty ∧ narrow ty (.int v) = .int v ∧ decode M.2.2.1 pc = .ok (.ireturn, 1)
  | some (.long _) => M.2.2.2.2 = some .long ∧ decode M.2.2.1 pc = .ok (.lreturn, 1)
  | _ => False
/-- a method's run, as the kit sees it: what stays, and what is wanted at the end -/
def zC (l : Launch) (d : Nat) (M : zMth) (Q : Option Value → zMem → Prop) (G : zG) (p : Program) (e : Env) (R : Room) (s : State) (m : MethodId) (args : Array Value) (below : List Frame) (meth : Method) (c : Code) (cells slots : Nat) (Z : State → Prop) : Prop :=
  p.tables.exec = Jvm.exec ∧ c.code = M.2.2.1 ∧ c.maxLocals = M.2.2.2.1 ∧ s.vm.findClass M.1 = some m.cls ∧ (∀ w ∈ ztbl, w.before args s = true) ∧ va_K (zGD G) vwCl (zT G) s ∧ zStr G s ∧ zScr G s ∧ zOld G s ∧ (d ≤ R.frames ∧ 64 * d ≤ R.locals ∧ cells ≤ R.cells ∧ slots ≤ R.slots) ∧
  ∀ (r : Option Value) (σ' : zMem) (H : Heap) (locs : List Loc) (ls : Array Slot) (pc : Nat), zrt M pc r → Q r σ' → va_P (zGD G) vwCl (zWs G σ') H → va_S (zA G) s.heap H locs → W p l e R s m args below meth c H locs cells slots Z (F0 m pc ls ((r.map (ztr G)).toList))
def zw (l : Launch) (d : Nat) (M : zMth) (pc : Nat) (L : List (Option Value)) (st : List Value) (σ : zMem) (Q : Option Value → zMem → Prop) : Prop :=
  ∀ (G : zG) (p : Program) (e : Env) (R : Room) (s : State) (m : MethodId) (args : Array Value) (below : List Frame) (meth : Method) (c : Code) (cells slots : Nat) (Z : State → Prop), zC l d M Q G p e R s m args below meth c cells slots Z →
  ∀ (H : Heap) (locs : List Loc) (ls : Array Slot), va_P (zGD G) vwCl (zWs G σ) H → va_S (zA G) s.heap H locs → zlv G ls M.2.2.2.1 L → W p l e R s m args below meth c H locs cells slots Z (F0 m pc ls (st.map (ztr G)))
section ZW
variable {l : Launch} {d : Nat} {M : zMth} {pc : Nat} {L : List (Option Value)} {st : List Value} {σ : zMem} {Q : Option Value → zMem → Prop} {k : Nat}
theorem zw_mono {Q' : Option Value → zMem → Prop} (h : zw l d M pc L st σ Q') (hQ : ∀ r σ', Q' r σ' → Q r σ') : zw l d M pc L st σ Q := by
  intro G p e R s m args below meth c cells slots Z hC
  obtain ⟨a1, a2, a3, a4, a5, a6, a7, a8, a9, a10, hret⟩ := hC
  exact h G p e R s m args below meth c cells slots Z ⟨a1, a2, a3, a4, a5, a6, a7, a8, a9, a10, fun r σ' H locs ls pc h1 h2 => hret r σ' H locs ls pc h1 (hQ r σ' h2)⟩
/-! constants, locals, stack -/
theorem zw_iconst (pc' : Nat) {n : Int} (hd : decode M.2.2.1 pc = .ok (.iconst n, 1)) (hp : pc + 1 = pc') (kk : zw l d M pc' L (.int (zI n) :: st) σ Q) : zw l d M pc L st σ Q := by
  subst hp; intro G p e R s m args below meth c cells slots Z hC H locs ls hP hS hl
  exact lv_iconst hC.1 hC.2.1 hd rfl (kk G p e R s m args below meth c cells slots Z hC H locs ls hP hS hl)
theorem zw_bipush (pc' : Nat) {n : Int} (hd : decode M.2.2.1 pc = .ok (.bipush n, 2)) (hp : pc + 2 = pc') (hv : (Int8.ofInt n).toInt32 = zI n) (kk : zw l d M pc' L (.int (zI n) :: st) σ Q) : zw l d M pc L st σ Q := by
  subst hp; intro G p e R s m args below meth c cells slots Z hC H locs ls hP hS hl
  exact lv_bipush hC.1 hC.2.1 hd hv (kk G p e R s m args below meth c cells slots Z hC H locs ls hP hS hl)
theorem zw_sipush (pc' : Nat) {n : Int} (hd : decode M.2.2.1 pc = .ok (.sipush n, 3)) (hp : pc + 3 = pc') (hv : (Int16.ofInt n).toInt32 = zI n) (kk : zw l d M pc' L (.int (zI n) :: st) σ Q) : zw l d M pc L st σ Q := by
  subst hp; intro G p e R s m args below meth c cells slots Z hC H locs ls hP hS hl
  exact lv_sipush hC.1 hC.2.1 hd hv (kk G p e R s m args below meth c cells slots Z hC H locs ls hP hS hl)
theorem zw_lconst (pc' : Nat) {n : Fin 2} (v : Int) (hd : decode M.2.2.1 pc = .ok (.lconst n, 1)) (hp : pc + 1 = pc') (hv : Int64.ofNat (n : Nat) = zL v) (kk : zw l d M pc' L (.long (zL v) :: st) σ Q) : zw l d M pc L st σ Q := by
  subst hp; intro G p e R s m args below meth c cells slots Z hC H locs ls hP hS hl
  exact lv_lconst hC.1 hC.2.1 hd hv (kk G p e R s m args below meth c cells slots Z hC H locs ls hP hS hl)
theorem zw_ldc (pc' : Nat) {i : Nat} (v : Int) (hd : decode M.2.2.1 pc = .ok (.ldc i, 2)) (hp : pc + 2 = pc') (hw : Cond.constant M.1 i (zI v) ∈ ztbl) (kk : zw l d M pc' L (.int (zI v) :: st) σ Q) : zw l d M pc L st σ Q := by
  subst hp; intro G p e R s m args below meth c cells slots Z hC H locs ls hP hS hl
  exact lv_ldc hC.1 hC.2.1 hC.2.2.2.1 (hC.2.2.2.2.1 _ hw) hd (kk G p e R s m args below meth c cells slots Z hC H locs ls hP hS hl)
theorem zw_ldc2 (pc' : Nat) {i : Nat} (v : Int) (hd : decode M.2.2.1 pc = .ok (.ldc2_w i, 3)) (hp : pc + 3 = pc') (hw : Cond.constantLong M.1 i (zL v) ∈ ztbl) (kk : zw l d M pc' L (.long (zL v) :: st) σ Q) : zw l d M pc L st σ Q := by
  subst hp; intro G p e R s m args below meth c cells slots Z hC H locs ls hP hS hl
  exact lv_ldc2 hC.1 hC.2.1 hC.2.2.2.1 (hC.2.2.2.2.1 _ hw) hd (kk G p e R s m args below meth c cells slots Z hC H locs ls hP hS hl)
theorem zw_iload_n (pc' : Nat) {i : Fin 4} {x : Int} (hd : decode M.2.2.1 pc = .ok (.iload_n i, 1)) (hp : pc + 1 = pc') (hL : L[(i : Nat)]? = some (some (.int (zI x)))) (kk : zw l d M pc' L (.int (zI x) :: st) σ Q) : zw l d M pc L st σ Q := by
  subst hp; intro G p e R s m args below meth c cells slots Z hC H locs ls hP hS hl
  exact lv_iload_n hC.1 hC.2.1 hd rfl (hl.2.2 _ _ hL) (kk G p e R s m args below meth c cells slots Z hC H locs ls hP hS hl)
theorem zw_iload (pc' : Nat) {i : Nat} {x : Int} (hd : decode M.2.2.1 pc = .ok (.iload i, 2)) (hp : pc + 2 = pc') (hL : L[i]? = some (some (.int (zI x)))) (kk : zw l d M pc' L (.int (zI x) :: st) σ Q) : zw l d M pc L st σ Q := by
  subst hp; intro G p e R s m args below meth c cells slots Z hC H locs ls hP hS hl
  exact lv_iload hC.1 hC.2.1 hd (hl.2.2 _ _ hL) (kk G p e R s m args below meth c cells slots Z hC H locs ls hP hS hl)
theorem zw_lload_n (pc' : Nat) {i : Fin 4} {x : Int} (hd : decode M.2.2.1 pc = .ok (.lload_n i, 1)) (hp : pc + 1 = pc') (hL : L[(i : Nat)]? = some (some (.long (zL x)))) (kk : zw l d M pc' L (.long (zL x) :: st) σ Q) : zw l d M pc L st σ Q := by
  subst hp; intro G p e R s m args below meth c cells slots Z hC H locs ls hP hS hl
  exact lv_lload_n hC.1 hC.2.1 hd rfl (hl.2.2 _ _ hL) (kk G p e R s m args below meth c cells slots Z hC H locs ls hP hS hl)
theorem zw_lload (pc' : Nat) {i : Nat} {x : Int} (hd : decode M.2.2.1 pc = .ok (.lload i, 2)) (hp : pc + 2 = pc') (hL : L[i]? = some (some (.long (zL x)))) (kk : zw l d M pc' L (.long (zL x) :: st) σ Q) : zw l d M pc L st σ Q := by
  subst hp; intro G p e R s m args below meth c cells slots Z hC H locs ls hP hS hl
  exact lv_lload hC.1 hC.2.1 hd (hl.2.2 _ _ hL) (kk G p e R s m args below meth c cells slots Z hC H locs ls hP hS hl)
theorem zw_aload_n (pc' : Nat) {i : Fin 4} {a : Nat} (hd : decode M.2.2.1 pc = .ok (.aload_n i, 1)) (hp : pc + 1 = pc') (hL : L[(i : Nat)]? = some (some (.ref a))) (kk : zw l d M pc' L (.ref a :: st) σ Q) : zw l d M pc L st σ Q := by
  subst hp; intro G p e R s m args below meth c cells slots Z hC H locs ls hP hS hl
  exact lv_aload_n hC.1 hC.2.1 hd rfl (hl.2.2 _ _ hL) (kk G p e R s m args below meth c cells slots Z hC H locs ls hP hS hl)
theorem zw_aload (pc' : Nat) {i : Nat} {a : Nat} (hd : decode M.2.2.1 pc = .ok (.aload i, 2)) (hp : pc + 2 = pc') (hL : L[i]? = some (some (.ref a))) (kk : zw l d M pc' L (.ref a :: st) σ Q) : zw l d M pc L st σ Q := by
  subst hp; intro G p e R s m args below meth c cells slots Z hC H locs ls hP hS hl
  exact lv_aload hC.1 hC.2.1 hd (hl.2.2 _ _ hL) (kk G p e R s m args below meth c cells slots Z hC H locs ls hP hS hl)
theorem zw_istore_n (pc' : Nat) {i : Fin 4} {x : Int32} (hd : decode M.2.2.1 pc = .ok (.istore_n i, 1)) (hp : pc + 1 = pc') (hn : (i : Nat) < M.2.2.2.1) (kk : zw l d M pc' (zs1 i (.int x) L) st σ Q) : zw l d M pc L (.int x :: st) σ Q := by
  subst hp; intro G p e R s m args below meth c cells slots Z hC H locs ls hP hS hl
  exact lv_istore_n hC.1 hC.2.1 hd rfl hl.has hn rfl (fun ls' h => kk G p e R s m args below meth c cells slots Z hC H locs ls' hP hS (zlv.st1 (v := .int x) h))
theorem zw_istore (pc' : Nat) {i : Nat} {x : Int32} (hd : decode M.2.2.1 pc = .ok (.istore i, 2)) (hp : pc + 2 = pc') (hn : i < M.2.2.2.1) (kk : zw l d M pc' (zs1 i (.int x) L) st σ Q) : zw l d M pc L (.int x :: st) σ Q := by
  subst hp; intro G p e R s m args below meth c cells slots Z hC H locs ls hP hS hl
  exact lv_istore hC.1 hC.2.1 hd hl.has hn rfl (fun ls' h => kk G p e R s m args below meth c cells slots Z hC H locs ls' hP hS (zlv.st1 (v := .int x) h))
theorem zw_lstore_n (pc' : Nat) {i : Fin 4} {x : Int64} (hd : decode M.2.2.1 pc = .ok (.lstore_n i, 1)) (hp : pc + 1 = pc') (hn : (i : Nat) + 1 < M.2.2.2.1) (kk : zw l d M pc' (zs2 i (.long x) L) st σ Q) : zw l d M pc L (.long x :: st) σ Q := by
  subst hp; intro G p e R s m args below meth c cells slots Z hC H locs ls hP hS hl
  exact lv_lstore_n hC.1 hC.2.1 hd rfl hl.has hn rfl (fun ls' h => kk G p e R s m args below meth c cells slots Z hC H locs ls' hP hS (zlv.st2 (v := .long x) h))
theorem zw_lstore (pc' : Nat) {i : Nat} {x : Int64} (hd : decode M.2.2.1 pc = .ok (.lstore i, 2)) (hp : pc + 2 = pc') (hn : i + 1 < M.2.2.2.1) (kk : zw l d M pc' (zs2 i (.long x) L) st σ Q) : zw l d M pc L (.long x :: st) σ Q := by
  subst hp; intro G p e R s m args below meth c cells slots Z hC H locs ls hP hS hl
  exact lv_lstore hC.1 hC.2.1 hd hl.has hn rfl (fun ls' h => kk G p e R s m args below meth c cells slots Z hC H locs ls' hP hS (zlv.st2 (v := .long x) h))
theorem zw_astore_n (pc' : Nat) {i : Fin 4} {a : Nat} (hd : decode M.2.2.1 pc = .ok (.astore_n i, 1)) (hp : pc + 1 = pc') (hn : (i : Nat) < M.2.2.2.1) (kk : zw l d M pc' (zs1 i (.ref a) L) st σ Q) : zw l d M pc L (.ref a :: st) σ Q := by
  subst hp; intro G p e R s m args below meth c cells slots Z hC H locs ls hP hS hl
  exact lv_astore_n hC.1 hC.2.1 hd rfl hl.has hn rfl (fun ls' h => kk G p e R s m args below meth c cells slots Z hC H locs ls' hP hS (zlv.st1 (v := .ref a) h))
theorem zw_astore (pc' : Nat) {i : Nat} {a : Nat} (hd : decode M.2.2.1 pc = .ok (.astore i, 2)) (hp : pc + 2 = pc') (hn : i < M.2.2.2.1) (kk : zw l d M pc' (zs1 i (.ref a) L) st σ Q) : zw l d M pc L (.ref a :: st) σ Q := by
  subst hp; intro G p e R s m args below meth c cells slots Z hC H locs ls hP hS hl
  exact lv_astore hC.1 hC.2.1 hd hl.has hn rfl (fun ls' h => kk G p e R s m args below meth c cells slots Z hC H locs ls' hP hS (zlv.st1 (v := .ref a) h))
theorem zw_iinc (pc' : Nat) {i : Nat} {n x : Int} (hd : decode M.2.2.1 pc = .ok (.iinc i n, 3)) (hp : pc + 3 = pc') (hn : i < M.2.2.2.1) (hL : L[i]? = some (some (.int (zI x)))) (kk : zw l d M pc' (zs1 i (.int (zI (x + n))) L) st σ Q) : zw l d M pc L st σ Q := by
  subst hp; intro G p e R s m args below meth c cells slots Z hC H locs ls hP hS hl
  obtain ⟨k, hk⟩ := List.getElem?_of_mem (zas_mem (G := G) hL)
  exact lv_iinc (v := zI (x + n)) hC.1 hC.2.1 hd hl.has (k := k) hk (zI_add x n) hn rfl (fun ls' h => kk G p e R s m args below meth c cells slots Z hC H locs ls' hP hS (zlv.st1 (v := .int (zI (x + n))) h))
theorem zw_dup (pc' : Nat) {v : Value} (hd : decode M.2.2.1 pc = .ok (.dup, 1)) (hp : pc + 1 = pc') (hv : v.category = 1) (kk : zw l d M pc' L (v :: v :: st) σ Q) : zw l d M pc L (v :: st) σ Q := by
  subst hp; intro G p e R s m args below meth c cells slots Z hC H locs ls hP hS hl
  exact lv_dup hC.1 hC.2.1 hd (by rw [ztr_cat]; exact hv) (kk G p e R s m args below meth c cells slots Z hC H locs ls hP hS hl)
theorem zw_pop (pc' : Nat) {v : Value} (hd : decode M.2.2.1 pc = .ok (.pop, 1)) (hp : pc + 1 = pc') (hv : v.category = 1) (kk : zw l d M pc' L st σ Q) : zw l d M pc L (v :: st) σ Q := by
  subst hp; intro G p e R s m args below meth c cells slots Z hC H locs ls hP hS hl
  exact lv_pop hC.1 hC.2.1 hd (by rw [ztr_cat]; exact hv) (kk G p e R s m args below meth c cells slots Z hC H locs ls hP hS hl)
/-! arithmetic -/
theorem zw_iadd (pc' : Nat) {a b : Int} (hd : decode M.2.2.1 pc = .ok (.iadd, 1)) (hp : pc + 1 = pc') (kk : zw l d M pc' L (.int (zI (a + b)) :: st) σ Q) : zw l d M pc L (.int (zI b) :: .int (zI a) :: st) σ Q := by
  subst hp; intro G p e R s m args below meth c cells slots Z hC H locs ls hP hS hl
  exact lv_iadd hC.1 hC.2.1 hd (by rw [zI_add]; exact kk G p e R s m args below meth c cells slots Z hC H locs ls hP hS hl)
theorem zw_isub (pc' : Nat) {a b : Int} (hd : decode M.2.2.1 pc = .ok (.isub, 1)) (hp : pc + 1 = pc') (kk : zw l d M pc' L (.int (zI (a - b)) :: st) σ Q) : zw l d M pc L (.int (zI b) :: .int (zI a) :: st) σ Q := by
  subst hp; intro G p e R s m args below meth c cells slots Z hC H locs ls hP hS hl
  exact lv_isub hC.1 hC.2.1 hd (by rw [zI_sub]; exact kk G p e R s m args below meth c cells slots Z hC H locs ls hP hS hl)
theorem zw_imul (pc' : Nat) {a b : Int} (hd : decode M.2.2.1 pc = .ok (.imul, 1)) (hp : pc + 1 = pc') (kk : zw l d M pc' L (.int (zI (a * b)) :: st) σ Q) : zw l d M pc L (.int (zI b) :: .int (zI a) :: st) σ Q := by
  subst hp; intro G p e R s m args below meth c cells slots Z hC H locs ls hP hS hl
  exact lv_imul hC.1 hC.2.1 hd (by rw [zI_mul]; exact kk G p e R s m args below meth c cells slots Z hC H locs ls hP hS hl)
theorem zw_ladd (pc' : Nat) {a b : Int} (hd : decode M.2.2.1 pc = .ok (.ladd, 1)) (hp : pc + 1 = pc') (kk : zw l d M pc' L (.long (zL (a + b)) :: st) σ Q) : zw l d M pc L (.long (zL b) :: .long (zL a) :: st) σ Q := by
  subst hp; intro G p e R s m args below meth c cells slots Z hC H locs ls hP hS hl
  exact lv_ladd hC.1 hC.2.1 hd (by rw [zL_add]; exact kk G p e R s m args below meth c cells slots Z hC H locs ls hP hS hl)
theorem zw_lsub (pc' : Nat) {a b : Int} (hd : decode M.2.2.1 pc = .ok (.lsub, 1)) (hp : pc + 1 = pc') (kk : zw l d M pc' L (.long (zL (a - b)) :: st) σ Q) : zw l d M pc L (.long (zL b) :: .long (zL a) :: st) σ Q := by
  subst hp; intro G p e R s m args below meth c cells slots Z hC H locs ls hP hS hl
  exact lv_lsub hC.1 hC.2.1 hd (by rw [zL_sub]; exact kk G p e R s m args below meth c cells slots Z hC H locs ls hP hS hl)
theorem zw_lmul (pc' : Nat) {a b : Int} (hd : decode M.2.2.1 pc = .ok (.lmul, 1)) (hp : pc + 1 = pc') (kk : zw l d M pc' L (.long (zL (a * b)) :: st) σ Q) : zw l d M pc L (.long (zL b) :: .long (zL a) :: st) σ Q := by
  subst hp; intro G p e R s m args below meth c cells slots Z hC H locs ls hP hS hl
  exact lv_lmul hC.1 hC.2.1 hd (by rw [zL_mul]; exact kk G p e R s m args below meth c cells slots Z hC H locs ls hP hS hl)
end ZW
