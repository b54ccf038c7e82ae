/-! ===== orders of the seats ===== -/
def zpk (f : zR) : Nat → Int
  | 0 => -1
  | k + 1 => if f ((k : Int) + 1) < f k then zpk f k else (k : Int)
def zpj (f : zR) (k : Int) : Nat → Int
  | 0 => 0
  | j + 1 => if f ((j : Int) + 1) < f k then zpj f k j else (j : Int) + 1
def zrv : Nat → zR → Int → Int → zR
  | 0, f, _, _ => f
  | m + 1, f, x, y => if x < y then zrv m (zup (zup f x (f y)) y (f x)) (x + 1) (y - 1) else f
def znt (n : Nat) (f : zR) (k j : Int) : zR := zrv 7 (zup (zup f k (f j)) j (f k)) (k + 1) ((n : Int) - 1)
def zfo (l : List Nat) : zR := fun i => ((l.getD i.toNat 0 : Nat) : Int)
/-- v as a written number -/
def zfc {α : Type} (v : Nat) (K : Nat → α) : α := if v = 0 then K 0 else if v = 1 then K 1 else if v = 2 then K 2 else if v = 3 then K 3 else if v = 4 then K 4 else if v = 5 then K 5 else if v = 6 then K 6 else if v = 7 then K 7 else K v
theorem zfc_eq {α : Type} (v : Nat) (K : Nat → α) : zfc v K = K v := by
  unfold zfc
  repeat' split
  all_goals first | rfl | simp_all
def zfL (g : Nat → Nat) : Nat → List Nat → List Nat
  | 0, acc => acc
  | i + 1, acc => zfc (g i) (fun v => zfL g i (v :: acc))
theorem zfL_eq (g : Nat → Nat) : ∀ (n : Nat) (acc : List Nat), zfL g n acc = (List.range n).map g ++ acc
  | 0, acc => rfl
  | i + 1, acc => by rw [zfL, zfc_eq, zfL_eq g i, List.range_succ]; simp
def znq (n : Nat) (l : List Nat) : Option (List Nat) :=
  zfc (zpk (zfo l) (n - 1) + 1).toNat (fun k1 => if k1 = 0 then none else zfc (zpj (zfo l) ((k1 : Int) - 1) (n - 1)).toNat (fun j => some (zfL (fun i => (znt n (zfo l) ((k1 : Int) - 1) (j : Int) (i : Int)).toNat) n [])))
def zpw (n : Nat) : Nat → List Nat → List (List Nat)
  | 0, _ => []
  | f + 1, l => l :: (match znq n l with
    | some l' => zpw n f l'
    | none => [])
def zpd (n : Nat) : Nat → List Nat → List (List Nat)
  | 0, pre => [pre.reverse]
  | m + 1, pre => (List.range n).flatMap (fun v => if pre.contains v then [] else zpd n m (v :: pre))
set_option maxRecDepth 1000000 in
theorem zpw_ok : ∀ n, n < 6 → zpw n 6000 (zfL id n []) = zpd n n [] ∧ (zpd n n []).length < 6000 := by decide +kernel
