/-! ===== orders of the seats ===== -/
def zpk (f : zR) : Nat → Int
  | 0 => -1
  | k + 1 => if f ((k : Int) + 1) < f k then zpk f k else (k : Int)
def zpj (f : zR) (k : Int) : Nat → Int
  | 0 => 0
  | j + 1 => if f ((j : Int) + 1) < f k then zpj f k j else (j : Int) + 1
def zrv : Nat → zR → Int → Int → zR
  | 0, f, _, _ => f
  | m + 1, f, x, y => if x < y then zrv m (zup (zup f x (f y)) y (f x)) (x + 1) (y - 1) else f
def znt (n : Nat) (f : zR) (k j : Int) : zR := zrv 7 (zup (zup f k (f j)) j (f k)) (k + 1) ((n : Int) - 1)
def zfo (l : List Nat) : zR := fun i => ((l.getD i.toNat 0 : Nat) : Int)
/-- v as a written number -/
def zfc {α : Type} (v : Nat) (K : Nat → α) : α := if v = 0 then K 0 else if v = 1 then K 1 else if v = 2 then K 2 else if v = 3 then K 3 else if v = 4 then K 4 else if v = 5 then K 5 else if v = 6 then K 6 else if v = 7 then K 7 else K v
theorem zfc_eq {α : Type} (v : Nat) (K : Nat → α) : zfc v K = K v := by
  unfold zfc
  repeat' split
  all_goals first | rfl | simp_all
def zfL (g : Nat → Nat) : Nat → List Nat → List Nat
  | 0, acc => acc
  | i + 1, acc => zfc (g i) (fun v => zfL g i (v :: acc))
theorem zfL_eq (g : Nat → Nat) : ∀ (n : Nat) (acc : List Nat), zfL g n acc = (List.range n).map g ++ acc
  | 0, acc => rfl
  | i + 1, acc => by rw [zfL, zfc_eq, zfL_eq g i, List.range_succ]; simp
def znq (n : Nat) (l : List Nat) : Option (List Nat) :=
  zfc (zpk (zfo l) (n - 1) + 1).toNat (fun k1 => if k1 = 0 then none else zfc (zpj (zfo l) ((k1 : Int) - 1) (n - 1)).toNat (fun j => some (zfL (fun i => (znt n (zfo l) ((k1 : Int) - 1) (j : Int) (i : Int)).toNat) n [])))
def zpw (n : Nat) : Nat → List Nat → List (List Nat)
  | 0, _ => []
  | f + 1, l => l :: (match znq n l with
    | some l' => zpw n f l'
    | none => [])
def zpd (n : Nat) : Nat → List Nat → List (List Nat)
  | 0, pre => [pre.reverse]
  | m + 1, pre => (List.range n).flatMap (fun v => if pre.contains v then [] else zpd n m (v :: pre))
set_option maxRecDepth 1000000 in
theorem zpw_ok : ∀ n, n < 7 → zpw n 6000 (zfL id n []) = zpd n n [] ∧ (zpd n n []).length < 6000 := by decide +kernel
def zpq (n : Nat) : Nat → List Nat → List (List Nat) × Option (List Nat)
  | 0, l => ([], some l)
  | f + 1, l => match znq n l with
    | some l' => (l :: (zpq n f l').1, (zpq n f l').2)
    | none => ([l], none)
theorem zpq_some (n : Nat) : ∀ (f : Nat) (l l' : List Nat) (L : List (List Nat)) (g : Nat), zpq n f l = (L, some l') → zpw n (f + g) l = L ++ zpw n g l'
  | 0, l, l', L, g, h => by
    simp [zpq] at h
    obtain ⟨rfl, rfl⟩ := h
    simp
  | f + 1, l, l', L, g, h => by
    rw [zpq] at h
    rw [show f + 1 + g = f + g + 1 by omega, zpw]
    cases hz : znq n l with
    | none => rw [hz] at h; simp at h
    | some l2 =>
      rw [hz] at h
      simp only [Prod.mk.injEq] at h
      have := zpq_some n f l2 l' _ g (Prod.ext rfl h.2)
      rw [← h.1]
      simp only [List.cons_append, this]
theorem zpq_none (n : Nat) : ∀ (f : Nat) (l : List Nat) (L : List (List Nat)) (g : Nat), zpq n f l = (L, none) → zpw n (f + g) l = L
  | 0, l, L, g, h => by simp [zpq] at h
  | f + 1, l, L, g, h => by
    rw [zpq] at h
    rw [show f + 1 + g = f + g + 1 by omega, zpw]
    cases hz : znq n l with
    | none =>
      rw [hz] at h
      simp only [Prod.mk.injEq] at h
      rw [← h.1]
    | some l2 =>
      rw [hz] at h
      simp only [Prod.mk.injEq] at h
      have := zpq_none n f l2 _ g (Prod.ext rfl h.2)
      rw [← h.1]
      simp only [this]
set_option maxRecDepth 1000000 in
theorem zpc0 : zpq 7 120 [0, 1, 2, 3, 4, 5, 6] = (zpd 7 5 [1, 0], some [0, 2, 1, 3, 4, 5, 6]) := by decide +kernel
set_option maxRecDepth 1000000 in
theorem zpc1 : zpq 7 120 [0, 2, 1, 3, 4, 5, 6] = (zpd 7 5 [2, 0], some [0, 3, 1, 2, 4, 5, 6]) := by decide +kernel
set_option maxRecDepth 1000000 in
theorem zpc2 : zpq 7 120 [0, 3, 1, 2, 4, 5, 6] = (zpd 7 5 [3, 0], some [0, 4, 1, 2, 3, 5, 6]) := by decide +kernel
set_option maxRecDepth 1000000 in
theorem zpc3 : zpq 7 120 [0, 4, 1, 2, 3, 5, 6] = (zpd 7 5 [4, 0], some [0, 5, 1, 2, 3, 4, 6]) := by decide +kernel
set_option maxRecDepth 1000000 in
theorem zpc4 : zpq 7 120 [0, 5, 1, 2, 3, 4, 6] = (zpd 7 5 [5, 0], some [0, 6, 1, 2, 3, 4, 5]) := by decide +kernel
set_option maxRecDepth 1000000 in
theorem zpc5 : zpq 7 120 [0, 6, 1, 2, 3, 4, 5] = (zpd 7 5 [6, 0], some [1, 0, 2, 3, 4, 5, 6]) := by decide +kernel
set_option maxRecDepth 1000000 in
theorem zpc6 : zpq 7 120 [1, 0, 2, 3, 4, 5, 6] = (zpd 7 5 [0, 1], some [1, 2, 0, 3, 4, 5, 6]) := by decide +kernel
set_option maxRecDepth 1000000 in
theorem zpc7 : zpq 7 120 [1, 2, 0, 3, 4, 5, 6] = (zpd 7 5 [2, 1], some [1, 3, 0, 2, 4, 5, 6]) := by decide +kernel
set_option maxRecDepth 1000000 in
theorem zpc8 : zpq 7 120 [1, 3, 0, 2, 4, 5, 6] = (zpd 7 5 [3, 1], some [1, 4, 0, 2, 3, 5, 6]) := by decide +kernel
set_option maxRecDepth 1000000 in
theorem zpc9 : zpq 7 120 [1, 4, 0, 2, 3, 5, 6] = (zpd 7 5 [4, 1], some [1, 5, 0, 2, 3, 4, 6]) := by decide +kernel
set_option maxRecDepth 1000000 in
theorem zpc10 : zpq 7 120 [1, 5, 0, 2, 3, 4, 6] = (zpd 7 5 [5, 1], some [1, 6, 0, 2, 3, 4, 5]) := by decide +kernel
set_option maxRecDepth 1000000 in
theorem zpc11 : zpq 7 120 [1, 6, 0, 2, 3, 4, 5] = (zpd 7 5 [6, 1], some [2, 0, 1, 3, 4, 5, 6]) := by decide +kernel
set_option maxRecDepth 1000000 in
theorem zpc12 : zpq 7 120 [2, 0, 1, 3, 4, 5, 6] = (zpd 7 5 [0, 2], some [2, 1, 0, 3, 4, 5, 6]) := by decide +kernel
set_option maxRecDepth 1000000 in
theorem zpc13 : zpq 7 120 [2, 1, 0, 3, 4, 5, 6] = (zpd 7 5 [1, 2], some [2, 3, 0, 1, 4, 5, 6]) := by decide +kernel
set_option maxRecDepth 1000000 in
theorem zpc14 : zpq 7 120 [2, 3, 0, 1, 4, 5, 6] = (zpd 7 5 [3, 2], some [2, 4, 0, 1, 3, 5, 6]) := by decide +kernel
set_option maxRecDepth 1000000 in
theorem zpc15 : zpq 7 120 [2, 4, 0, 1, 3, 5, 6] = (zpd 7 5 [4, 2], some [2, 5, 0, 1, 3, 4, 6]) := by decide +kernel
set_option maxRecDepth 1000000 in
theorem zpc16 : zpq 7 120 [2, 5, 0, 1, 3, 4, 6] = (zpd 7 5 [5, 2], some [2, 6, 0, 1, 3, 4, 5]) := by decide +kernel
set_option maxRecDepth 1000000 in
theorem zpc17 : zpq 7 120 [2, 6, 0, 1, 3, 4, 5] = (zpd 7 5 [6, 2], some [3, 0, 1, 2, 4, 5, 6]) := by decide +kernel
set_option maxRecDepth 1000000 in
theorem zpc18 : zpq 7 120 [3, 0, 1, 2, 4, 5, 6] = (zpd 7 5 [0, 3], some [3, 1, 0, 2, 4, 5, 6]) := by decide +kernel
set_option maxRecDepth 1000000 in
theorem zpc19 : zpq 7 120 [3, 1, 0, 2, 4, 5, 6] = (zpd 7 5 [1, 3], some [3, 2, 0, 1, 4, 5, 6]) := by decide +kernel
set_option maxRecDepth 1000000 in
theorem zpc20 : zpq 7 120 [3, 2, 0, 1, 4, 5, 6] = (zpd 7 5 [2, 3], some [3, 4, 0, 1, 2, 5, 6]) := by decide +kernel
set_option maxRecDepth 1000000 in
theorem zpc21 : zpq 7 120 [3, 4, 0, 1, 2, 5, 6] = (zpd 7 5 [4, 3], some [3, 5, 0, 1, 2, 4, 6]) := by decide +kernel
set_option maxRecDepth 1000000 in
theorem zpc22 : zpq 7 120 [3, 5, 0, 1, 2, 4, 6] = (zpd 7 5 [5, 3], some [3, 6, 0, 1, 2, 4, 5]) := by decide +kernel
set_option maxRecDepth 1000000 in
theorem zpc23 : zpq 7 120 [3, 6, 0, 1, 2, 4, 5] = (zpd 7 5 [6, 3], some [4, 0, 1, 2, 3, 5, 6]) := by decide +kernel
set_option maxRecDepth 1000000 in
theorem zpc24 : zpq 7 120 [4, 0, 1, 2, 3, 5, 6] = (zpd 7 5 [0, 4], some [4, 1, 0, 2, 3, 5, 6]) := by decide +kernel
set_option maxRecDepth 1000000 in
theorem zpc25 : zpq 7 120 [4, 1, 0, 2, 3, 5, 6] = (zpd 7 5 [1, 4], some [4, 2, 0, 1, 3, 5, 6]) := by decide +kernel
set_option maxRecDepth 1000000 in
theorem zpc26 : zpq 7 120 [4, 2, 0, 1, 3, 5, 6] = (zpd 7 5 [2, 4], some [4, 3, 0, 1, 2, 5, 6]) := by decide +kernel
set_option maxRecDepth 1000000 in
theorem zpc27 : zpq 7 120 [4, 3, 0, 1, 2, 5, 6] = (zpd 7 5 [3, 4], some [4, 5, 0, 1, 2, 3, 6]) := by decide +kernel
set_option maxRecDepth 1000000 in
theorem zpc28 : zpq 7 120 [4, 5, 0, 1, 2, 3, 6] = (zpd 7 5 [5, 4], some [4, 6, 0, 1, 2, 3, 5]) := by decide +kernel
set_option maxRecDepth 1000000 in
theorem zpc29 : zpq 7 120 [4, 6, 0, 1, 2, 3, 5] = (zpd 7 5 [6, 4], some [5, 0, 1, 2, 3, 4, 6]) := by decide +kernel
set_option maxRecDepth 1000000 in
theorem zpc30 : zpq 7 120 [5, 0, 1, 2, 3, 4, 6] = (zpd 7 5 [0, 5], some [5, 1, 0, 2, 3, 4, 6]) := by decide +kernel
set_option maxRecDepth 1000000 in
theorem zpc31 : zpq 7 120 [5, 1, 0, 2, 3, 4, 6] = (zpd 7 5 [1, 5], some [5, 2, 0, 1, 3, 4, 6]) := by decide +kernel
set_option maxRecDepth 1000000 in
theorem zpc32 : zpq 7 120 [5, 2, 0, 1, 3, 4, 6] = (zpd 7 5 [2, 5], some [5, 3, 0, 1, 2, 4, 6]) := by decide +kernel
set_option maxRecDepth 1000000 in
theorem zpc33 : zpq 7 120 [5, 3, 0, 1, 2, 4, 6] = (zpd 7 5 [3, 5], some [5, 4, 0, 1, 2, 3, 6]) := by decide +kernel
set_option maxRecDepth 1000000 in
theorem zpc34 : zpq 7 120 [5, 4, 0, 1, 2, 3, 6] = (zpd 7 5 [4, 5], some [5, 6, 0, 1, 2, 3, 4]) := by decide +kernel
set_option maxRecDepth 1000000 in
theorem zpc35 : zpq 7 120 [5, 6, 0, 1, 2, 3, 4] = (zpd 7 5 [6, 5], some [6, 0, 1, 2, 3, 4, 5]) := by decide +kernel
set_option maxRecDepth 1000000 in
theorem zpc36 : zpq 7 120 [6, 0, 1, 2, 3, 4, 5] = (zpd 7 5 [0, 6], some [6, 1, 0, 2, 3, 4, 5]) := by decide +kernel
set_option maxRecDepth 1000000 in
theorem zpc37 : zpq 7 120 [6, 1, 0, 2, 3, 4, 5] = (zpd 7 5 [1, 6], some [6, 2, 0, 1, 3, 4, 5]) := by decide +kernel
set_option maxRecDepth 1000000 in
theorem zpc38 : zpq 7 120 [6, 2, 0, 1, 3, 4, 5] = (zpd 7 5 [2, 6], some [6, 3, 0, 1, 2, 4, 5]) := by decide +kernel
set_option maxRecDepth 1000000 in
theorem zpc39 : zpq 7 120 [6, 3, 0, 1, 2, 4, 5] = (zpd 7 5 [3, 6], some [6, 4, 0, 1, 2, 3, 5]) := by decide +kernel
set_option maxRecDepth 1000000 in
theorem zpc40 : zpq 7 120 [6, 4, 0, 1, 2, 3, 5] = (zpd 7 5 [4, 6], some [6, 5, 0, 1, 2, 3, 4]) := by decide +kernel
set_option maxRecDepth 1000000 in
theorem zpc41 : zpq 7 120 [6, 5, 0, 1, 2, 3, 4] = (zpd 7 5 [5, 6], none) := by decide +kernel
