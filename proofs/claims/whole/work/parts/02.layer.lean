/-! ===== numbers ===== -/
def zI (n : Int) : Int32 := Int32.ofInt n
def zL (n : Int) : Int64 := Int64.ofInt n
theorem zI_add (a b : Int) : zI a + zI b = zI (a + b) := (Int32.ofInt_add a b).symm
theorem zI_sub (a b : Int) : zI a - zI b = zI (a - b) := (Int32.ofInt_sub a b).symm
theorem zI_mul (a b : Int) : zI a * zI b = zI (a * b) := (Int32.ofInt_mul a b).symm
theorem zL_add (a b : Int) : zL a + zL b = zL (a + b) := (Int64.ofInt_add a b).symm
theorem zL_sub (a b : Int) : zL a - zL b = zL (a - b) := (Int64.ofInt_sub a b).symm
theorem zL_mul (a b : Int) : zL a * zL b = zL (a * b) := (Int64.ofInt_mul a b).symm
theorem zI_toInt {a : Int} (h : -2147483648 ≤ a) (h2 : a < 2147483648) : (zI a).toInt = a := Int32.toInt_ofInt_of_le h h2
theorem zL_toInt {a : Int} (h : -9223372036854775808 ≤ a) (h2 : a < 9223372036854775808) : (zL a).toInt = a := Int64.toInt_ofInt_of_le h h2
theorem zI_of (x : Int32) : zI x.toInt = x := Int32.ofInt_toInt x
theorem zI_clamp {a : Int} (h : 0 ≤ a) (h2 : a < 2147483648) : (zI a).toNatClampNeg = a.toNat := by
  show (zI a).toInt.toNat = a.toNat
  rw [zI_toInt (by omega) h2]
theorem zI_in {a : Int} {n : Nat} (h : 0 ≤ a) (h2 : a < n) (hn : n < 2147483648) : vp_in (zI a) n := by
  rw [vp_in_iff, zI_toInt (by omega) (by omega)]
  exact ⟨h, h2⟩
theorem zI_eq {a b : Int} (ha : -2147483648 ≤ a) (ha2 : a < 2147483648) (hb : -2147483648 ≤ b) (hb2 : b < 2147483648) : zI a = zI b ↔ a = b := by
  constructor
  · intro h
    have := congrArg Int32.toInt h
    rwa [zI_toInt ha ha2, zI_toInt hb hb2] at this
  · intro h; rw [h]
theorem zI_lt {a b : Int} (ha : -2147483648 ≤ a) (ha2 : a < 2147483648) (hb : -2147483648 ≤ b) (hb2 : b < 2147483648) : zI a < zI b ↔ a < b := by
  rw [Int32.lt_iff_toInt_lt, zI_toInt ha ha2, zI_toInt hb hb2]
theorem zI_le {a b : Int} (ha : -2147483648 ≤ a) (ha2 : a < 2147483648) (hb : -2147483648 ≤ b) (hb2 : b < 2147483648) : zI a ≤ zI b ↔ a ≤ b := by
  rw [Int32.le_iff_toInt_le, zI_toInt ha ha2, zI_toInt hb hb2]
/-! ===== the system's layout ===== -/
abbrev zMth := String × MethodName × ByteArray × Nat × Option FieldType
abbrev zMem := Nat → Int → Int
/-- b, B, adK, adV, the heap at the law's start, the classes' numbers, the arrays' class numbers, the script's length and contents -/
abbrev zG := Nat × Nat × (Nat → Nat) × (Nat → Nat) × Heap × va_G × (Nat → ClassId) × Nat × (Nat → Int32)
abbrev zGb (G : zG) : Nat := G.1
abbrev zGB (G : zG) : Nat := G.2.1
abbrev zGK (G : zG) : Nat → Nat := G.2.2.1
abbrev zGV (G : zG) : Nat → Nat := G.2.2.2.1
abbrev zGH (G : zG) : Heap := G.2.2.2.2.1
abbrev zGD (G : zG) : va_G := G.2.2.2.2.2.1
abbrev zGA (G : zG) : Nat → ClassId := G.2.2.2.2.2.2.1
abbrev zGL (G : zG) : Nat := G.2.2.2.2.2.2.2.1
abbrev zGx (G : zG) : Nat → Int32 := G.2.2.2.2.2.2.2.2
def zad (G : zG) (r : Nat) : Nat := if r = 0 then zGb G else if r < 10000 then zGB G + (r - 1) else zGK G (r - 10000)
def ztr (G : zG) : Value → Value
  | .ref r => .ref (zad G r)
  | v => v
def zlyRows : List (Nat × Nat) := [(1, 3), (100, 30)]
def zlySc : List (Nat × Nat) := [(2, 4), (100, 5), (100, 20), (100, 7)]
def zlyCh : List (Nat × Nat) := [(0, 13), (100, 7), (100, 7), (100, 5), (100, 5), (100, 5)] ++ zlySc ++ [(103, 8)] ++ zlyRows ++ zlyRows ++ zlyRows ++ zlySc ++ zlySc ++ zlySc ++ zlySc ++ zlySc ++ zlySc ++ zlySc ++ zlySc
/-- the cells from relative address 1 on: (class, fields) or (kind of array, length) -/
def zLAY : List (Nat × Nat) := [(5, 14)] ++ zlyCh ++ zlyCh ++ [(104, 2), (101, 2)] ++ zlySc ++ [(4, 8), (102, 150), (100, 3)] ++ [(3, 7), (100, 5), (100, 5), (100, 40), (100, 6)] ++ [(100, 7), (100, 6), (100, 7), (100, 7), (100, 3)] ++ zlyCh ++ zlyCh ++ [(6, 24), (100, 399), (100, 399), (100, 33), (100, 798), (101, 2), (100, 150), (100, 3), (100, 40), (100, 7), (100, 7), (100, 120)]
def zly (r : Nat) : Option (Nat × Nat) := if r = 0 then none else zLAY[r - 1]?
/-- a field's type: 0 int, 1 long, k + 2: the cell k places on -/
def zFT : List (List Nat) := [[0, 0, 0, 3, 4, 5, 6, 7, 8, 12, 13, 15, 17], [0, 0, 3], [0, 3, 4, 5], [0, 0, 0, 3, 4, 5, 6], [3, 0, 0, 0, 0, 0, 0, 4], [3, 52, 101, 102, 103, 107, 110, 115, 116, 117, 118, 119, 1, 1], [3, 4, 5, 6, 7, 8, 0, 1, 1, 9, 0, 0, 0, 0, 0, 0, 0, 0, 10, 11, 12, 13, 0, 1]]
def zft (ci j : Nat) : Nat := (zFT.getD ci []).getD j 0
def zfv (G : zG) (f : Int → Int) (ci r j : Nat) : Value := match zft ci j with
  | 0 => .int (zI (f j))
  | 1 => .long (zL (f j))
  | o + 2 => .ref (zad G (r + o))
def zE (G : zG) (f : Int → Int) (r : Nat) (kn : Nat × Nat) : va_E :=
  if kn.1 < 100 then .inr (kn.1, (List.range kn.2).map (fun j => zfv G f kn.1 r j))
  else if kn.1 < 103 then .inl (zGA G kn.1, kn.2, .inl (fun j => zI (f j)))
  else .inl (zGA G kn.1, kn.2, .inr (.inr (.inr (.inr (fun j => some (zad G (f j).toNat))))))
def zWs (G : zG) (σ : zMem) : va_W := zLAY.zipIdx.map (fun q => (zad G (q.2 + 1), zE G (σ (q.2 + 1)) (q.2 + 1) q.1))
/-- one cell anew -/
def zwa (σ : zMem) (r : Nat) (f : Int → Int) : zMem := fun b => if b = r then f else σ b
def zup (f : Int → Int) (i x : Int) : Int → Int := fun j => if j = i then x else f j
def zwr (σ : zMem) (r : Nat) (i x : Int) : zMem := zwa σ r (zup (σ r) i x)
theorem zLAY_len : zLAY.length = 228 := by decide +kernel
theorem zWs_get {G : zG} {σ : zMem} {r : Nat} {kn : Nat × Nat} (h : zly r = some kn) : (zWs G σ)[r - 1]? = some (zad G r, zE G (σ r) r kn) := by
  unfold zly at h
  split at h
  · cases h
  · rename_i h0
    have e : r - 1 + 1 = r := by omega
    simp [zWs, List.getElem?_zipIdx, h, e]
theorem zly_lt {r : Nat} {kn : Nat × Nat} (h : zly r = some kn) : r ≠ 0 ∧ r < 10000 := by
  unfold zly at h
  split at h
  · cases h
  · rename_i h0
    have := (List.getElem?_eq_some_iff.mp h).1
    rw [zLAY_len] at this
    exact ⟨h0, by omega⟩
theorem zWs_set {G : zG} {σ : zMem} {r : Nat} {kn : Nat × Nat} (h : zly r = some kn) (f : Int → Int) {e : va_E} (he : zE G f r kn = e) : (zWs G σ).set (r - 1) (zad G r, e) = zWs G (zwa σ r f) := by
  have h0 := (zly_lt h).1
  have hl : r - 1 < (zWs G σ).length := (List.getElem?_eq_some_iff.mp (zWs_get (G := G) (σ := σ) h)).1
  apply List.ext_getElem?
  intro i
  by_cases hi : i = r - 1
  · subst hi
    rw [List.getElem?_set_self hl, zWs_get h]
    simp [zwa, he]
  · rw [List.getElem?_set_ne (Ne.symm hi)]
    have hne : ¬ i + 1 = r := by omega
    simp only [zWs, List.getElem?_map, List.getElem?_zipIdx, Nat.zero_add, zwa]
    cases zLAY[i]? <;> simp [hne]
def zA (G : zG) : Nat → Prop := fun q => zGB G ≤ q
theorem zWs_D (G : zG) (σ : zMem) : va_D (zA G) (zWs G σ) := by
  have key : ∀ (k : Nat) (q : Nat × va_E), (zWs G σ)[k]? = some q → k < 228 ∧ q.1 = zGB G + k := by
    intro k q h
    have hl : k < 228 := by
      have := (List.getElem?_eq_some_iff.mp h).1
      simpa [zWs, zLAY_len] using this
    have hL : k < zLAY.length := by rw [zLAY_len]; exact hl
    simp [zWs, List.getElem?_zipIdx, List.getElem?_eq_getElem hL] at h
    refine ⟨hl, ?_⟩
    rw [← h]
    simp only [zad]
    rw [if_neg (by omega), if_pos (by omega)]
    omega
  refine ⟨fun i j p q hp hq h => ?_, fun k q h => ?_⟩
  · have h1 := key i p hp
    have h2 := key j q hq
    omega
  · have h1 := key k q h
    show zGB G ≤ q.1
    omega
def zT (G : zG) : List (ClassId × FieldType) := [(zGA G 100, .int), (zGA G 101, .boolean), (zGA G 102, .byte), (zGA G 103, .object RX2), (zGA G 104, .object RX0)]
/-! ===== the words ===== -/
def ztbl : List Cond := lw_tbl.filter goodWord
theorem zw_in {w : Cond} (i : Nat) (h : tables_1[i]? = some w) (hg : goodWord w = true) : w ∈ ztbl := List.mem_filter.mpr ⟨List.mem_append_right _ (List.mem_of_getElem? h), hg⟩
theorem zs_in {w : Cond} (i : Nat) (h : (k2_sels lw_privs)[i]? = some w) (hg : goodWord w = true) : w ∈ ztbl := List.mem_filter.mpr ⟨List.mem_append_left _ (List.mem_of_getElem? h), hg⟩
theorem ztbl_good (w : Cond) : GoodIn ztbl (w :: ztbl) → True := fun _ => trivial
theorem zgood {ws : List Cond} (h : ∀ w ∈ ws, w ∈ ztbl) : GoodIn ztbl ws := fun w hw => ⟨h w hw, good_of_word (List.mem_filter.mp (h w hw)).2⟩
/-! ===== strings, the script ===== -/
def zSi : Nat → Nat
  | 0 => 109 | 1 => 115 | 2 => 117 | 3 => 119 | _ => 121
def zSt : Nat → String
  | 0 => "chapter" | 1 => "seat" | 2 => "canon" | 3 => "sits" | _ => "years"
def zSn : List Nat := [7, 4, 5, 4, 5]
def zSb : List (List Int32) := [[99, 104, 97, 112, 116, 101, 114], [115, 101, 97, 116], [99, 97, 110, 111, 110], [115, 105, 116, 115], [121, 101, 97, 114, 115]]
/-- the links to a nest mate's private methods -/
def zNl : List (String × Nat × MethodName) := [(RX5, 36, yX4_init), (RX5, 43, yX3_init), (RX0, 85, yX5_heavy), (RX4, 87, yX5_within), (RX0, 95, yX5_given), (RX0, 99, yX5_accepted), (RX0, 118, yX5_worn)]
def zNst (U : State) : Prop := ∀ q ∈ zNl, va_Nw (.methodLinkNest q.1 q.2.1 q.2.2 RX5) U
theorem zNst.warm {s U : State} (hW : s.WarmedH U.vm) (h : zNst s) : zNst U := fun q hq => va_Nw.warmM hW (h q hq)
theorem zNst.same {s U : State} (hv : s.vm = U.vm) (h : zNst s) : zNst U := fun q hq => va_Nw.same (u := s) rfl hv (h q hq)
/-- the strings' cells, and two statics of the library that nobody writes; 10 + i of zGK is where string i's bytes lie, 5 the formatter if there is one -/
def zSS (G : zG) (U : State) : Prop := vk_S 5 zSn zSb (zGK G) (zGV G) (zA G) U (zGH G) ∧ (∀ i, i < 5 → zGV G i = zGK G (10 + i)) ∧ va_Z "java/lang/String" "COMPACT_STRINGS" "Z" (.int 1) (zA G) U (zGH G) ∧ ∃ v : Value, (v = .null ∨ v = .ref (zGK G 5)) ∧ va_Z "jdk/internal/util/Preconditions" "SIOOBE_FORMATTER" "Ljava/util/function/BiFunction;" v (zA G) U (zGH G)
theorem zSS.moved {G : zG} {u U : State} (hvm : u.vm.Alike U.vm) (h : zSS G u) : zSS G U := ⟨h.1.moved hvm, h.2.1, h.2.2.1.moved hvm, h.2.2.2.choose, h.2.2.2.choose_spec.1, h.2.2.2.choose_spec.2.moved hvm⟩
def zStr (G : zG) (U : State) : Prop := ((∀ i, i < 5 → vk_R RX4 (zSi i) (zSt i) (zGK G i) U) ∧ zNst U) ∧ zSS G U
def zScr (G : zG) (U : State) : Prop := va_X (zGb G) (zGL G) (zGx G) U (zGH G) ∧ zGb G < zGB G
def zOld (G : zG) (U : State) : Prop := zGB G ≤ U.heap.size ∧ (∀ q, q < zGB G → U.heap[q]? = (zGH G)[q]?) ∧ zGB G ≤ (zGH G).size
theorem zStr.warm {G : zG} {s U : State} (hW : s.WarmedH U.vm) (h : zStr G s) : zStr G U := ⟨⟨fun i hi => (h.1.1 i hi).warm hW, h.1.2.warm hW⟩, h.2.moved hW.alike⟩
theorem zScr.moved {G : zG} {s U : State} (hvm : s.vm.Alike U.vm) (h : zScr G s) : zScr G U := ⟨h.1.moved hvm, h.2⟩
/-- what a method finds, and leaves -/
def zB (G : zG) (σ : zMem) (U : State) : Prop := va_P (zGD G) vwCl (zWs G σ) U.heap ∧ va_K (zGD G) vwCl (zT G) U ∧ zStr G U ∧ zScr G U ∧ zOld G U
def zQ (G : zG) (Q : Option Value → zMem → Prop) : Array Value → State → Outcome → State → Prop := fun _ st oc t => (∃ (r : Option Value) (σ' : zMem), oc = .returned (r.map (ztr G)) ∧ Q r σ' ∧ va_P (zGD G) vwCl (zWs G σ') t.heap) ∧ va_F (zA G) st t
def zrm (d : Nat) : Room := { frames := d, cells := 0, slots := 0, locals := 64 * d }
def zSp (l : Launch) (d : Nat) (M : zMth) (args : List Value) (σ : zMem) (Q : Option Value → zMem → Prop) : Prop :=
  ∀ G : zG, Met l M.2.1 (Cond.code M.2.1 M.2.2.1 M.2.2.2.1 M.2.2.2.2 :: ztbl) (zrm d) (va_Pc (args.map (ztr G)) (zB G σ)) (zQ G Q) 0 0 (zA G)
/-! ===== locals ===== -/
def zkl : Option Value → Option Value
  | some (.long _) => none
  | some (.double _) => none
  | o => o
def zs1 : Nat → Value → List (Option Value) → List (Option Value)
  | _, _, [] => []
  | 0, v, _ :: L => some v :: L
  | i + 1, v, o :: L => (if i = 0 then zkl o else o) :: zs1 i v L
def zs2 : Nat → Value → List (Option Value) → List (Option Value)
  | _, _, [] => []
  | 0, v, [_] => [some v]
  | 0, v, _ :: _ :: L => some v :: none :: L
  | i + 1, v, o :: L => (if i = 0 then zkl o else o) :: zs2 i v L
theorem zkl_spec {o : Option Value} {w : Value} (h : zkl o = some w) : o = some w ∧ ¬ w.category = 2 := by
  unfold zkl at h
  split at h
  · cases h
  · cases h
  · rename_i h1 h2
    subst h
    refine ⟨rfl, ?_⟩
    cases w <;> simp_all [Value.category]
theorem zs1_spec (i : Nat) (v : Value) (L : List (Option Value)) : ∀ (j : Nat) (w : Value), (zs1 i v L)[j]? = some (some w) → (j = i ∧ w = v) ∨ (j ≠ i ∧ L[j]? = some (some w) ∧ ¬ (j + 1 = i ∧ w.category = 2)) := by
  induction L generalizing i with
  | nil => intro j w h; cases i <;> simp [zs1] at h
  | cons o L ih =>
    intro j w h
    cases i with
    | zero =>
      simp only [zs1] at h
      cases j with
      | zero => simp at h; exact Or.inl ⟨rfl, h.symm⟩
      | succ j => exact Or.inr ⟨by omega, by simpa using h, by omega⟩
    | succ i =>
      simp only [zs1] at h
      cases j with
      | zero =>
        simp at h
        split at h
        · rename_i h0
          have := zkl_spec h
          exact Or.inr ⟨by omega, by simp [this.1], fun q => this.2 q.2⟩
        · rename_i h0
          exact Or.inr ⟨by omega, by simp [h], fun q => h0 (by omega)⟩
      | succ j =>
        rw [List.getElem?_cons_succ] at h
        rcases ih i j w h with q | q
        · exact Or.inl ⟨by omega, q.2⟩
        · exact Or.inr ⟨by omega, by simpa using q.2.1, fun z => q.2.2 ⟨by omega, z.2⟩⟩
theorem zs2_spec (i : Nat) (v : Value) (L : List (Option Value)) : ∀ (j : Nat) (w : Value), (zs2 i v L)[j]? = some (some w) → (j = i ∧ w = v) ∨ (j ≠ i ∧ j ≠ i + 1 ∧ L[j]? = some (some w) ∧ ¬ (j + 1 = i ∧ w.category = 2)) := by
  induction L generalizing i with
  | nil => intro j w h; cases i <;> simp [zs2] at h
  | cons o L ih =>
    intro j w h
    cases i with
    | zero =>
      cases L with
      | nil =>
        simp only [zs2] at h
        cases j with
        | zero => simp at h; exact Or.inl ⟨rfl, h.symm⟩
        | succ j => simp at h
      | cons o2 L =>
        simp only [zs2] at h
        match j, h with
        | 0, h => simp at h; exact Or.inl ⟨rfl, h.symm⟩
        | 1, h => simp at h
        | j + 2, h => exact Or.inr ⟨by omega, by omega, by simpa using h, by omega⟩
    | succ i =>
      simp only [zs2] at h
      cases j with
      | zero =>
        simp at h
        split at h
        · rename_i h0
          have := zkl_spec h
          exact Or.inr ⟨by omega, by omega, by simp [this.1], fun q => this.2 q.2⟩
        · rename_i h0
          exact Or.inr ⟨by omega, by omega, by simp [h], fun q => h0 (by omega)⟩
      | succ j =>
        rw [List.getElem?_cons_succ] at h
        rcases ih i j w h with q | q
        · exact Or.inl ⟨by omega, q.2⟩
        · exact Or.inr ⟨by omega, by omega, by simpa using q.2.2.1, fun z => q.2.2.2 ⟨by omega, z.2⟩⟩
def zsl : List Value → List (Option Value)
  | [] => []
  | .long x :: vs => some (.long x) :: none :: zsl vs
  | .double x :: vs => some (.double x) :: none :: zsl vs
  | v :: vs => some v :: zsl vs
def zen (n : Nat) (vs : List Value) : List (Option Value) := zsl vs ++ List.replicate (n - (zsl vs).length) none
def zlv (G : zG) (ls : Array Slot) (n : Nat) (L : List (Option Value)) : Prop := ls.size = n ∧ lv_wf ls ∧ ∀ (i : Nat) (v : Value), L[i]? = some (some v) → ls[i]? = some (Slot.val (ztr G v))
def zas (G : zG) (L : List (Option Value)) : List (Nat × Value) := (List.range L.length).filterMap (fun i => match L[i]? with | some (some v) => some (i, ztr G v) | _ => none)
theorem zas_mem {G : zG} {L : List (Option Value)} {i : Nat} {v : Value} (h : L[i]? = some (some v)) : (i, ztr G v) ∈ zas G L := by
  refine List.mem_filterMap.mpr ⟨i, List.mem_range.mpr (List.getElem?_eq_some_iff.mp h).1, ?_⟩
  rw [h]
theorem zlv.has {G : zG} {ls : Array Slot} {n : Nat} {L : List (Option Value)} (h : zlv G ls n L) : lv_has ls n (zas G L) := by
  refine ⟨h.1, h.2.1, fun q hq => ?_⟩
  obtain ⟨i, -, hi⟩ := List.mem_filterMap.mp hq
  split at hi
  · rename_i v hv
    cases hi
    exact h.2.2 i v hv
  · cases hi
theorem ztr_cat (G : zG) (v : Value) : (ztr G v).category = v.category := by cases v <;> rfl
theorem zlv.st1 {G : zG} {ls : Array Slot} {n i : Nat} {L : List (Option Value)} {v : Value} (h : lv_has ls n ((i, ztr G v) :: (zas G L).filter (fun q => !(q.1 == i) && !(q.1 + 1 == i && q.2.category == 2)))) : zlv G ls n (zs1 i v L) := by
  refine ⟨h.1, h.2.1, fun j w hj => ?_⟩
  rcases zs1_spec i v L j w hj with ⟨rfl, rfl⟩ | ⟨h1, h2, h3⟩
  · exact h.2.2 (_, _) List.mem_cons_self
  · refine h.2.2 (j, ztr G w) (List.mem_cons_of_mem _ (List.mem_filter.mpr ⟨zas_mem h2, ?_⟩))
    simp only [ztr_cat]
    simp [h1]
    omega
theorem zlv.st2 {G : zG} {ls : Array Slot} {n i : Nat} {L : List (Option Value)} {v : Value} (h : lv_has ls n ((i, ztr G v) :: (zas G L).filter (fun q => !(q.1 == i) && (!(q.1 == i + 1) && !(q.1 + 1 == i && q.2.category == 2))))) : zlv G ls n (zs2 i v L) := by
  refine ⟨h.1, h.2.1, fun j w hj => ?_⟩
  rcases zs2_spec i v L j w hj with ⟨rfl, rfl⟩ | ⟨h1, h0, h2, h3⟩
  · exact h.2.2 (_, _) List.mem_cons_self
  · refine h.2.2 (j, ztr G w) (List.mem_cons_of_mem _ (List.mem_filter.mpr ⟨zas_mem h2, ?_⟩))
    simp only [ztr_cat]
    simp [h1, h0]
    omega
