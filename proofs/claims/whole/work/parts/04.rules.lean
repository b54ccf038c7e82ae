/-! ===== more numbers ===== -/
theorem zI_nat (n : Nat) : zI (n : Int) = nI n := by
  show Int32.ofInt (n : Int) = Int32.ofNat n
  exact Int32.ofInt_eq_ofNat
theorem zL_nat (n : Nat) : zL (n : Int) = lN n := by
  show Int64.ofInt (n : Int) = Int64.ofNat n
  exact Int64.ofInt_eq_ofNat
theorem zI_div {a b : Int} (h : 0 ≤ a) (h1 : a < 2147483648) (h2 : 0 < b) (h3 : b < 2147483648) : zI a / zI b = zI (a / b) := by
  obtain ⟨x, rfl⟩ := Int.eq_ofNat_of_zero_le h
  obtain ⟨y, rfl⟩ := Int.eq_ofNat_of_zero_le (Int.le_of_lt h2)
  rw [← Int.natCast_ediv, zI_nat, zI_nat, zI_nat]
  exact pk_div (by omega) (by omega) (by omega)
theorem zI_rem {a b : Int} (h : 0 ≤ a) (h1 : a < 2147483648) (h2 : 0 < b) (h3 : b < 2147483648) : zI a - zI a / zI b * zI b = zI (a % b) := by
  obtain ⟨x, rfl⟩ := Int.eq_ofNat_of_zero_le h
  obtain ⟨y, rfl⟩ := Int.eq_ofNat_of_zero_le (Int.le_of_lt h2)
  rw [← Int.natCast_emod, zI_nat, zI_nat, zI_nat]
  exact pk_rem (by omega) (by omega) (by omega)
theorem zL_div {a b : Int} (h : 0 ≤ a) (h1 : a < 9223372036854775808) (h2 : 0 < b) (h3 : b < 9223372036854775808) : zL a / zL b = zL (a / b) := by
  obtain ⟨x, rfl⟩ := Int.eq_ofNat_of_zero_le h
  obtain ⟨y, rfl⟩ := Int.eq_ofNat_of_zero_le (Int.le_of_lt h2)
  rw [← Int.natCast_ediv, zL_nat, zL_nat, zL_nat]
  exact pk_lDiv (by omega) (by omega) (by omega)
theorem zL_rem {a b : Int} (h : 0 ≤ a) (h1 : a < 9223372036854775808) (h2 : 0 < b) (h3 : b < 9223372036854775808) : zL a - zL a / zL b * zL b = zL (a % b) := by
  obtain ⟨x, rfl⟩ := Int.eq_ofNat_of_zero_le h
  obtain ⟨y, rfl⟩ := Int.eq_ofNat_of_zero_le (Int.le_of_lt h2)
  rw [← Int.natCast_emod, zL_nat, zL_nat, zL_nat]
  exact pk_lRem (by omega) (by omega) (by omega)
theorem zI_ne0 {b : Int} (h2 : 0 < b) (h3 : b < 2147483648) : ¬ zI b = 0 := by
  rw [show (0 : Int32) = zI 0 from rfl, zI_eq (by omega) h3 (by omega) (by omega)]; omega
theorem zL_eq {a b : Int} (ha : -9223372036854775808 ≤ a) (ha2 : a < 9223372036854775808) (hb : -9223372036854775808 ≤ b) (hb2 : b < 9223372036854775808) : zL a = zL b ↔ a = b := by
  constructor
  · intro h
    have := congrArg Int64.toInt h
    rwa [zL_toInt ha ha2, zL_toInt hb hb2] at this
  · intro h; rw [h]
theorem zL_ne0 {b : Int} (h2 : 0 < b) (h3 : b < 9223372036854775808) : ¬ zL b = 0 := by
  rw [show (0 : Int64) = zL 0 from rfl, zL_eq (by omega) h3 (by omega) (by omega)]; omega
theorem zI_long {a : Int} (h : -2147483648 ≤ a) (h1 : a < 2147483648) : (zI a).toInt64 = zL a := by
  apply Int64.toInt_inj.mp
  rw [zL_toInt (by omega) (by omega), Int32.toInt_toInt64, zI_toInt h h1]
def zcmp (a b : Int) : Int := if a < b then -1 else if a = b then 0 else 1
theorem zcmp_spec (a b : Int) : (a < b ∧ zcmp a b = -1) ∨ (a = b ∧ zcmp a b = 0) ∨ (b < a ∧ zcmp a b = 1) := by
  unfold zcmp
  by_cases h : a < b
  · exact Or.inl ⟨h, if_pos h⟩
  · by_cases h2 : a = b
    · exact Or.inr (Or.inl ⟨h2, by rw [if_neg h, if_pos h2]⟩)
    · exact Or.inr (Or.inr ⟨by omega, by rw [if_neg h, if_neg h2]⟩)
theorem zcmp_eq {a b : Int} (ha : -9223372036854775808 ≤ a) (ha2 : a < 9223372036854775808) (hb : -9223372036854775808 ≤ b) (hb2 : b < 9223372036854775808) : lg_cmp (zL a) (zL b) = zI (zcmp a b) := by
  have hl : ∀ x y : Int, -9223372036854775808 ≤ x → x < 9223372036854775808 → -9223372036854775808 ≤ y → y < 9223372036854775808 → (zL x < zL y ↔ x < y) := fun x y h1 h2 h3 h4 => by
    rw [Int64.lt_iff_toInt_lt, zL_toInt h1 h2, zL_toInt h3 h4]
  unfold lg_cmp
  rcases zcmp_spec a b with ⟨h, e⟩ | ⟨h, e⟩ | ⟨h, e⟩
  · rw [e, if_neg (by rw [gt_iff_lt, hl b a hb hb2 ha ha2]; omega), if_neg (by rw [zL_eq ha ha2 hb hb2]; omega)]; rfl
  · rw [e, if_neg (by rw [gt_iff_lt, hl b a hb hb2 ha ha2]; omega), if_pos (by rw [zL_eq ha ha2 hb hb2]; exact h)]; rfl
  · rw [e, if_pos (by rw [gt_iff_lt, hl b a hb hb2 ha ha2]; exact h)]; rfl
section ZX
variable {l : Launch} {d : Nat} {M : zMth} {pc : Nat} {L : List (Option Value)} {st : List Value} {σ : zMem} {Q : Option Value → zMem → Prop} {k : Nat}
theorem zw_idiv (pc' : Nat) {a b : Int} (hd : decode M.2.2.1 pc = .ok (.idiv, 1)) (hp : pc + 1 = pc') (h : 0 ≤ a ∧ a < 2147483648) (h2 : 0 < b ∧ b < 2147483648) (kk : zw l d M pc' L (.int (zI (a / b)) :: st) σ Q) : zw l d M pc L (.int (zI b) :: .int (zI a) :: st) σ Q := by
  subst hp; intro G p e R s m args below meth c cells slots Z hC H locs ls hP hS hl
  exact lv_idiv hC.1 hC.2.1 hd (zI_ne0 h2.1 h2.2) (by rw [zI_div h.1 h.2 h2.1 h2.2]; exact kk G p e R s m args below meth c cells slots Z hC H locs ls hP hS hl)
theorem zw_irem (pc' : Nat) {a b : Int} (hd : decode M.2.2.1 pc = .ok (.irem, 1)) (hp : pc + 1 = pc') (h : 0 ≤ a ∧ a < 2147483648) (h2 : 0 < b ∧ b < 2147483648) (kk : zw l d M pc' L (.int (zI (a % b)) :: st) σ Q) : zw l d M pc L (.int (zI b) :: .int (zI a) :: st) σ Q := by
  subst hp; intro G p e R s m args below meth c cells slots Z hC H locs ls hP hS hl
  exact lv_irem hC.1 hC.2.1 hd (zI_ne0 h2.1 h2.2) (by rw [zI_rem h.1 h.2 h2.1 h2.2]; exact kk G p e R s m args below meth c cells slots Z hC H locs ls hP hS hl)
theorem zw_ldiv (pc' : Nat) {a b : Int} (hd : decode M.2.2.1 pc = .ok (.ldiv, 1)) (hp : pc + 1 = pc') (h : 0 ≤ a ∧ a < 9223372036854775808) (h2 : 0 < b ∧ b < 9223372036854775808) (kk : zw l d M pc' L (.long (zL (a / b)) :: st) σ Q) : zw l d M pc L (.long (zL b) :: .long (zL a) :: st) σ Q := by
  subst hp; intro G p e R s m args below meth c cells slots Z hC H locs ls hP hS hl
  exact lv_ldiv hC.1 hC.2.1 hd (zL_ne0 h2.1 h2.2) (by rw [zL_div h.1 h.2 h2.1 h2.2]; exact kk G p e R s m args below meth c cells slots Z hC H locs ls hP hS hl)
theorem zw_lrem (pc' : Nat) {a b : Int} (hd : decode M.2.2.1 pc = .ok (.lrem, 1)) (hp : pc + 1 = pc') (h : 0 ≤ a ∧ a < 9223372036854775808) (h2 : 0 < b ∧ b < 9223372036854775808) (kk : zw l d M pc' L (.long (zL (a % b)) :: st) σ Q) : zw l d M pc L (.long (zL b) :: .long (zL a) :: st) σ Q := by
  subst hp; intro G p e R s m args below meth c cells slots Z hC H locs ls hP hS hl
  exact lv_lrem hC.1 hC.2.1 hd (zL_ne0 h2.1 h2.2) (by rw [zL_rem h.1 h.2 h2.1 h2.2]; exact kk G p e R s m args below meth c cells slots Z hC H locs ls hP hS hl)
theorem zw_i2l (pc' : Nat) {a : Int} (hd : decode M.2.2.1 pc = .ok (.i2l, 1)) (hp : pc + 1 = pc') (h : -2147483648 ≤ a ∧ a < 2147483648) (kk : zw l d M pc' L (.long (zL a) :: st) σ Q) : zw l d M pc L (.int (zI a) :: st) σ Q := by
  subst hp; intro G p e R s m args below meth c cells slots Z hC H locs ls hP hS hl
  exact lv_i2l hC.1 hC.2.1 hd (zI_long h.1 h.2) (kk G p e R s m args below meth c cells slots Z hC H locs ls hP hS hl)
theorem zw_l2i (pc' : Nat) {a : Int} (hd : decode M.2.2.1 pc = .ok (.l2i, 1)) (hp : pc + 1 = pc') (h : -2147483648 ≤ a ∧ a < 2147483648) (kk : zw l d M pc' L (.int (zI a) :: st) σ Q) : zw l d M pc L (.long (zL a) :: st) σ Q := by
  subst hp; intro G p e R s m args below meth c cells slots Z hC H locs ls hP hS hl
  refine lv_l2i hC.1 hC.2.1 hd ?_ (kk G p e R s m args below meth c cells slots Z hC H locs ls hP hS hl)
  rw [← zI_long h.1 h.2]; exact Int32.toInt32_toInt64 _
theorem zw_i2b (pc' : Nat) {a : Int} (hd : decode M.2.2.1 pc = .ok (.i2b, 1)) (hp : pc + 1 = pc') (hv : (zI a).toInt8.toInt32 = zI a) (kk : zw l d M pc' L (.int (zI a) :: st) σ Q) : zw l d M pc L (.int (zI a) :: st) σ Q := by
  subst hp; intro G p e R s m args below meth c cells slots Z hC H locs ls hP hS hl
  exact lv_i2b hC.1 hC.2.1 hd hv (kk G p e R s m args below meth c cells slots Z hC H locs ls hP hS hl)
theorem zw_i2c (pc' : Nat) {a : Int} (hd : decode M.2.2.1 pc = .ok (.i2c, 1)) (hp : pc + 1 = pc') (hv : ((zI a).toUInt32 % 65536).toInt32 = zI a) (kk : zw l d M pc' L (.int (zI a) :: st) σ Q) : zw l d M pc L (.int (zI a) :: st) σ Q := by
  subst hp; intro G p e R s m args below meth c cells slots Z hC H locs ls hP hS hl
  exact lv_i2c hC.1 hC.2.1 hd hv (kk G p e R s m args below meth c cells slots Z hC H locs ls hP hS hl)
theorem zw_ishl (pc' : Nat) (v : Int) {a b : Int} (hd : decode M.2.2.1 pc = .ok (.ishl, 1)) (hp : pc + 1 = pc') (hv : zI a <<< (zI b &&& 31) = zI v) (kk : zw l d M pc' L (.int (zI v) :: st) σ Q) : zw l d M pc L (.int (zI b) :: .int (zI a) :: st) σ Q := by
  subst hp; intro G p e R s m args below meth c cells slots Z hC H locs ls hP hS hl
  exact lv_ishl hC.1 hC.2.1 hd (by rw [hv]; exact kk G p e R s m args below meth c cells slots Z hC H locs ls hP hS hl)
theorem zw_ishr (pc' : Nat) (v : Int) {a b : Int} (hd : decode M.2.2.1 pc = .ok (.ishr, 1)) (hp : pc + 1 = pc') (hv : zI a >>> (zI b &&& 31) = zI v) (kk : zw l d M pc' L (.int (zI v) :: st) σ Q) : zw l d M pc L (.int (zI b) :: .int (zI a) :: st) σ Q := by
  subst hp; intro G p e R s m args below meth c cells slots Z hC H locs ls hP hS hl
  exact lv_ishr hC.1 hC.2.1 hd (by rw [hv]; exact kk G p e R s m args below meth c cells slots Z hC H locs ls hP hS hl)
theorem zw_iand (pc' : Nat) (v : Int) {a b : Int} (hd : decode M.2.2.1 pc = .ok (.iand, 1)) (hp : pc + 1 = pc') (hv : zI a &&& zI b = zI v) (kk : zw l d M pc' L (.int (zI v) :: st) σ Q) : zw l d M pc L (.int (zI b) :: .int (zI a) :: st) σ Q := by
  subst hp; intro G p e R s m args below meth c cells slots Z hC H locs ls hP hS hl
  exact lv_iand hC.1 hC.2.1 hd (by rw [hv]; exact kk G p e R s m args below meth c cells slots Z hC H locs ls hP hS hl)
theorem zw_ior (pc' : Nat) (v : Int) {a b : Int} (hd : decode M.2.2.1 pc = .ok (.ior, 1)) (hp : pc + 1 = pc') (hv : zI a ||| zI b = zI v) (kk : zw l d M pc' L (.int (zI v) :: st) σ Q) : zw l d M pc L (.int (zI b) :: .int (zI a) :: st) σ Q := by
  subst hp; intro G p e R s m args below meth c cells slots Z hC H locs ls hP hS hl
  exact lv_ior hC.1 hC.2.1 hd (by rw [hv]; exact kk G p e R s m args below meth c cells slots Z hC H locs ls hP hS hl)
theorem zw_lcmp (pc' : Nat) {a b : Int} (hd : decode M.2.2.1 pc = .ok (.lcmp, 1)) (hp : pc + 1 = pc') (ha : -9223372036854775808 ≤ a ∧ a < 9223372036854775808) (hb : -9223372036854775808 ≤ b ∧ b < 9223372036854775808) (kk : zw l d M pc' L (.int (zI (zcmp a b)) :: st) σ Q) : zw l d M pc L (.long (zL b) :: .long (zL a) :: st) σ Q := by
  subst hp; intro G p e R s m args below meth c cells slots Z hC H locs ls hP hS hl
  exact W.lcmp hC.1 hC.2.1 hd (by rw [zcmp_eq ha.1 ha.2 hb.1 hb.2]; exact kk G p e R s m args below meth c cells slots Z hC H locs ls hP hS hl)
theorem zw_dup2_11 (pc' : Nat) {v w : Value} (hd : decode M.2.2.1 pc = .ok (.dup2, 1)) (hp : pc + 1 = pc') (hv : v.category = 1) (hw : w.category = 1) (kk : zw l d M pc' L (v :: w :: v :: w :: st) σ Q) : zw l d M pc L (v :: w :: st) σ Q := by
  subst hp; intro G p e R s m args below meth c cells slots Z hC H locs ls hP hS hl
  exact lv_dup2_11 hC.1 hC.2.1 hd (by rw [ztr_cat]; exact hv) (by rw [ztr_cat]; exact hw) (kk G p e R s m args below meth c cells slots Z hC H locs ls hP hS hl)
/-! branches -/
theorem zw_goto (tgt : Nat) {off : Int} (hd : decode M.2.2.1 pc = .ok (.goto off, 3)) (ht : (pc : Int) + off = (tgt : Int)) (kk : zw l d M tgt L st σ Q) : zw l d M pc L st σ Q := by
  intro G p e R s m args below meth c cells slots Z hC H locs ls hP hS hl
  exact lv_goto hC.1 hC.2.1 hd ht (kk G p e R s m args below meth c cells slots Z hC H locs ls hP hS hl)
theorem zw_tableOut (tgt : Nat) {dflt lo hi : Int} {offs : Array Int} {len : Nat} {x : Int} (hd : decode M.2.2.1 pc = .ok (.tableswitch dflt lo hi offs, len)) (hb : -2147483648 ≤ x ∧ x < 2147483648) (h : x < lo ∨ hi < x) (ht : (pc : Int) + dflt = (tgt : Int)) (kk : zw l d M tgt L st σ Q) : zw l d M pc L (.int (zI x) :: st) σ Q := by
  intro G p e R s m args below meth c cells slots Z hC H locs ls hP hS hl
  exact lv_tableOut hC.1 hC.2.1 hd (by rw [zI_toInt hb.1 hb.2]; exact h) ht (kk G p e R s m args below meth c cells slots Z hC H locs ls hP hS hl)
theorem zw_tableIn (tgt : Nat) {dflt lo hi : Int} {offs : Array Int} {len : Nat} {x : Int} {off : Int} (hd : decode M.2.2.1 pc = .ok (.tableswitch dflt lo hi offs, len)) (hb : -2147483648 ≤ x ∧ x < 2147483648) (h1 : ¬ x < lo) (h2 : ¬ hi < x) (ho : offs[(x - lo).toNat]? = some off) (ht : (pc : Int) + off = (tgt : Int)) (kk : zw l d M tgt L st σ Q) : zw l d M pc L (.int (zI x) :: st) σ Q := by
  intro G p e R s m args below meth c cells slots Z hC H locs ls hP hS hl
  have e0 := zI_toInt hb.1 hb.2
  exact lv_tableIn hC.1 hC.2.1 hd (by rw [e0]; exact h1) (by rw [e0]; exact h2) (by rw [e0]; exact ho) ht (kk G p e R s m args below meth c cells slots Z hC H locs ls hP hS hl)
theorem zw_icmp_eq (tgt pc2 : Nat) {a b : Int} {off : Int} (hd : decode M.2.2.1 pc = .ok (.if_icmp .eq off, 3)) (ht : (pc : Int) + off = (tgt : Int)) (hp : pc + 3 = pc2) (ha : -2147483648 ≤ a ∧ a < 2147483648) (hb : -2147483648 ≤ b ∧ b < 2147483648) (kt : a = b → zw l d M tgt L st σ Q) (kf : ¬ a = b → zw l d M pc2 L st σ Q) : zw l d M pc L (.int (zI b) :: .int (zI a) :: st) σ Q := by
  subst hp; intro G p e R s m args below meth c cells slots Z hC H locs ls hP hS hl
  exact lv_icmp_eq hC.1 hC.2.1 hd ht (fun q => kt ((zI_eq (a := a) (b := b) ha.1 ha.2 hb.1 hb.2).mp q) G p e R s m args below meth c cells slots Z hC H locs ls hP hS hl) (fun q => kf (fun z => q ((zI_eq (a := a) (b := b) ha.1 ha.2 hb.1 hb.2).mpr z)) G p e R s m args below meth c cells slots Z hC H locs ls hP hS hl)
theorem zw_if_eq (tgt pc2 : Nat) {a : Int} {off : Int} (hd : decode M.2.2.1 pc = .ok (.ifCond .eq off, 3)) (ht : (pc : Int) + off = (tgt : Int)) (hp : pc + 3 = pc2) (ha : -2147483648 ≤ a ∧ a < 2147483648) (kt : a = 0 → zw l d M tgt L st σ Q) (kf : ¬ a = 0 → zw l d M pc2 L st σ Q) : zw l d M pc L (.int (zI a) :: st) σ Q := by
  subst hp; intro G p e R s m args below meth c cells slots Z hC H locs ls hP hS hl
  exact lv_if_eq hC.1 hC.2.1 hd ht (fun q => kt ((zI_eq (a := a) (b := 0) ha.1 ha.2 (by decide : (-2147483648 : Int) ≤ 0) (by decide : (0 : Int) < 2147483648)).mp q) G p e R s m args below meth c cells slots Z hC H locs ls hP hS hl) (fun q => kf (fun z => q ((zI_eq (a := a) (b := 0) ha.1 ha.2 (by decide : (-2147483648 : Int) ≤ 0) (by decide : (0 : Int) < 2147483648)).mpr z)) G p e R s m args below meth c cells slots Z hC H locs ls hP hS hl)
theorem zw_icmp_ne (tgt pc2 : Nat) {a b : Int} {off : Int} (hd : decode M.2.2.1 pc = .ok (.if_icmp .ne off, 3)) (ht : (pc : Int) + off = (tgt : Int)) (hp : pc + 3 = pc2) (ha : -2147483648 ≤ a ∧ a < 2147483648) (hb : -2147483648 ≤ b ∧ b < 2147483648) (kt : ¬ a = b → zw l d M tgt L st σ Q) (kf : a = b → zw l d M pc2 L st σ Q) : zw l d M pc L (.int (zI b) :: .int (zI a) :: st) σ Q := by
  subst hp; intro G p e R s m args below meth c cells slots Z hC H locs ls hP hS hl
  exact lv_icmp_ne hC.1 hC.2.1 hd ht (fun q => kt (fun z => q ((zI_eq (a := a) (b := b) ha.1 ha.2 hb.1 hb.2).mpr z)) G p e R s m args below meth c cells slots Z hC H locs ls hP hS hl) (fun q => kf ((zI_eq (a := a) (b := b) ha.1 ha.2 hb.1 hb.2).mp q) G p e R s m args below meth c cells slots Z hC H locs ls hP hS hl)
theorem zw_if_ne (tgt pc2 : Nat) {a : Int} {off : Int} (hd : decode M.2.2.1 pc = .ok (.ifCond .ne off, 3)) (ht : (pc : Int) + off = (tgt : Int)) (hp : pc + 3 = pc2) (ha : -2147483648 ≤ a ∧ a < 2147483648) (kt : ¬ a = 0 → zw l d M tgt L st σ Q) (kf : a = 0 → zw l d M pc2 L st σ Q) : zw l d M pc L (.int (zI a) :: st) σ Q := by
  subst hp; intro G p e R s m args below meth c cells slots Z hC H locs ls hP hS hl
  exact lv_if_ne hC.1 hC.2.1 hd ht (fun q => kt (fun z => q ((zI_eq (a := a) (b := 0) ha.1 ha.2 (by decide : (-2147483648 : Int) ≤ 0) (by decide : (0 : Int) < 2147483648)).mpr z)) G p e R s m args below meth c cells slots Z hC H locs ls hP hS hl) (fun q => kf ((zI_eq (a := a) (b := 0) ha.1 ha.2 (by decide : (-2147483648 : Int) ≤ 0) (by decide : (0 : Int) < 2147483648)).mp q) G p e R s m args below meth c cells slots Z hC H locs ls hP hS hl)
theorem zw_icmp_lt (tgt pc2 : Nat) {a b : Int} {off : Int} (hd : decode M.2.2.1 pc = .ok (.if_icmp .lt off, 3)) (ht : (pc : Int) + off = (tgt : Int)) (hp : pc + 3 = pc2) (ha : -2147483648 ≤ a ∧ a < 2147483648) (hb : -2147483648 ≤ b ∧ b < 2147483648) (kt : a < b → zw l d M tgt L st σ Q) (kf : b ≤ a → zw l d M pc2 L st σ Q) : zw l d M pc L (.int (zI b) :: .int (zI a) :: st) σ Q := by
  subst hp; intro G p e R s m args below meth c cells slots Z hC H locs ls hP hS hl
  exact lv_icmp_lt hC.1 hC.2.1 hd ht (fun q => kt ((zI_lt (a := a) (b := b) ha.1 ha.2 hb.1 hb.2).mp q) G p e R s m args below meth c cells slots Z hC H locs ls hP hS hl) (fun q => kf (Int.not_lt.mp (fun z => q ((zI_lt (a := a) (b := b) ha.1 ha.2 hb.1 hb.2).mpr z))) G p e R s m args below meth c cells slots Z hC H locs ls hP hS hl)
theorem zw_if_lt (tgt pc2 : Nat) {a : Int} {off : Int} (hd : decode M.2.2.1 pc = .ok (.ifCond .lt off, 3)) (ht : (pc : Int) + off = (tgt : Int)) (hp : pc + 3 = pc2) (ha : -2147483648 ≤ a ∧ a < 2147483648) (kt : a < 0 → zw l d M tgt L st σ Q) (kf : 0 ≤ a → zw l d M pc2 L st σ Q) : zw l d M pc L (.int (zI a) :: st) σ Q := by
  subst hp; intro G p e R s m args below meth c cells slots Z hC H locs ls hP hS hl
  exact lv_if_lt hC.1 hC.2.1 hd ht (fun q => kt ((zI_lt (a := a) (b := 0) ha.1 ha.2 (by decide : (-2147483648 : Int) ≤ 0) (by decide : (0 : Int) < 2147483648)).mp q) G p e R s m args below meth c cells slots Z hC H locs ls hP hS hl) (fun q => kf (Int.not_lt.mp (fun z => q ((zI_lt (a := a) (b := 0) ha.1 ha.2 (by decide : (-2147483648 : Int) ≤ 0) (by decide : (0 : Int) < 2147483648)).mpr z))) G p e R s m args below meth c cells slots Z hC H locs ls hP hS hl)
theorem zw_icmp_ge (tgt pc2 : Nat) {a b : Int} {off : Int} (hd : decode M.2.2.1 pc = .ok (.if_icmp .ge off, 3)) (ht : (pc : Int) + off = (tgt : Int)) (hp : pc + 3 = pc2) (ha : -2147483648 ≤ a ∧ a < 2147483648) (hb : -2147483648 ≤ b ∧ b < 2147483648) (kt : b ≤ a → zw l d M tgt L st σ Q) (kf : a < b → zw l d M pc2 L st σ Q) : zw l d M pc L (.int (zI b) :: .int (zI a) :: st) σ Q := by
  subst hp; intro G p e R s m args below meth c cells slots Z hC H locs ls hP hS hl
  exact lv_icmp_ge hC.1 hC.2.1 hd ht (fun q => kt ((zI_le (a := b) (b := a) hb.1 hb.2 ha.1 ha.2).mp q) G p e R s m args below meth c cells slots Z hC H locs ls hP hS hl) (fun q => kf (Int.not_le.mp (fun z => q ((zI_le (a := b) (b := a) hb.1 hb.2 ha.1 ha.2).mpr z))) G p e R s m args below meth c cells slots Z hC H locs ls hP hS hl)
theorem zw_if_ge (tgt pc2 : Nat) {a : Int} {off : Int} (hd : decode M.2.2.1 pc = .ok (.ifCond .ge off, 3)) (ht : (pc : Int) + off = (tgt : Int)) (hp : pc + 3 = pc2) (ha : -2147483648 ≤ a ∧ a < 2147483648) (kt : 0 ≤ a → zw l d M tgt L st σ Q) (kf : a < 0 → zw l d M pc2 L st σ Q) : zw l d M pc L (.int (zI a) :: st) σ Q := by
  subst hp; intro G p e R s m args below meth c cells slots Z hC H locs ls hP hS hl
  exact lv_if_ge hC.1 hC.2.1 hd ht (fun q => kt ((zI_le (a := 0) (b := a) (by decide : (-2147483648 : Int) ≤ 0) (by decide : (0 : Int) < 2147483648) ha.1 ha.2).mp q) G p e R s m args below meth c cells slots Z hC H locs ls hP hS hl) (fun q => kf (Int.not_le.mp (fun z => q ((zI_le (a := 0) (b := a) (by decide : (-2147483648 : Int) ≤ 0) (by decide : (0 : Int) < 2147483648) ha.1 ha.2).mpr z))) G p e R s m args below meth c cells slots Z hC H locs ls hP hS hl)
theorem zw_icmp_gt (tgt pc2 : Nat) {a b : Int} {off : Int} (hd : decode M.2.2.1 pc = .ok (.if_icmp .gt off, 3)) (ht : (pc : Int) + off = (tgt : Int)) (hp : pc + 3 = pc2) (ha : -2147483648 ≤ a ∧ a < 2147483648) (hb : -2147483648 ≤ b ∧ b < 2147483648) (kt : b < a → zw l d M tgt L st σ Q) (kf : a ≤ b → zw l d M pc2 L st σ Q) : zw l d M pc L (.int (zI b) :: .int (zI a) :: st) σ Q := by
  subst hp; intro G p e R s m args below meth c cells slots Z hC H locs ls hP hS hl
  exact lv_icmp_gt hC.1 hC.2.1 hd ht (fun q => kt ((zI_lt (a := b) (b := a) hb.1 hb.2 ha.1 ha.2).mp q) G p e R s m args below meth c cells slots Z hC H locs ls hP hS hl) (fun q => kf (Int.not_lt.mp (fun z => q ((zI_lt (a := b) (b := a) hb.1 hb.2 ha.1 ha.2).mpr z))) G p e R s m args below meth c cells slots Z hC H locs ls hP hS hl)
theorem zw_if_gt (tgt pc2 : Nat) {a : Int} {off : Int} (hd : decode M.2.2.1 pc = .ok (.ifCond .gt off, 3)) (ht : (pc : Int) + off = (tgt : Int)) (hp : pc + 3 = pc2) (ha : -2147483648 ≤ a ∧ a < 2147483648) (kt : 0 < a → zw l d M tgt L st σ Q) (kf : a ≤ 0 → zw l d M pc2 L st σ Q) : zw l d M pc L (.int (zI a) :: st) σ Q := by
  subst hp; intro G p e R s m args below meth c cells slots Z hC H locs ls hP hS hl
  exact lv_if_gt hC.1 hC.2.1 hd ht (fun q => kt ((zI_lt (a := 0) (b := a) (by decide : (-2147483648 : Int) ≤ 0) (by decide : (0 : Int) < 2147483648) ha.1 ha.2).mp q) G p e R s m args below meth c cells slots Z hC H locs ls hP hS hl) (fun q => kf (Int.not_lt.mp (fun z => q ((zI_lt (a := 0) (b := a) (by decide : (-2147483648 : Int) ≤ 0) (by decide : (0 : Int) < 2147483648) ha.1 ha.2).mpr z))) G p e R s m args below meth c cells slots Z hC H locs ls hP hS hl)
theorem zw_icmp_le (tgt pc2 : Nat) {a b : Int} {off : Int} (hd : decode M.2.2.1 pc = .ok (.if_icmp .le off, 3)) (ht : (pc : Int) + off = (tgt : Int)) (hp : pc + 3 = pc2) (ha : -2147483648 ≤ a ∧ a < 2147483648) (hb : -2147483648 ≤ b ∧ b < 2147483648) (kt : a ≤ b → zw l d M tgt L st σ Q) (kf : b < a → zw l d M pc2 L st σ Q) : zw l d M pc L (.int (zI b) :: .int (zI a) :: st) σ Q := by
  subst hp; intro G p e R s m args below meth c cells slots Z hC H locs ls hP hS hl
  exact lv_icmp_le hC.1 hC.2.1 hd ht (fun q => kt ((zI_le (a := a) (b := b) ha.1 ha.2 hb.1 hb.2).mp q) G p e R s m args below meth c cells slots Z hC H locs ls hP hS hl) (fun q => kf (Int.not_le.mp (fun z => q ((zI_le (a := a) (b := b) ha.1 ha.2 hb.1 hb.2).mpr z))) G p e R s m args below meth c cells slots Z hC H locs ls hP hS hl)
theorem zw_if_le (tgt pc2 : Nat) {a : Int} {off : Int} (hd : decode M.2.2.1 pc = .ok (.ifCond .le off, 3)) (ht : (pc : Int) + off = (tgt : Int)) (hp : pc + 3 = pc2) (ha : -2147483648 ≤ a ∧ a < 2147483648) (kt : a ≤ 0 → zw l d M tgt L st σ Q) (kf : 0 < a → zw l d M pc2 L st σ Q) : zw l d M pc L (.int (zI a) :: st) σ Q := by
  subst hp; intro G p e R s m args below meth c cells slots Z hC H locs ls hP hS hl
  exact lv_if_le hC.1 hC.2.1 hd ht (fun q => kt ((zI_le (a := a) (b := 0) ha.1 ha.2 (by decide : (-2147483648 : Int) ≤ 0) (by decide : (0 : Int) < 2147483648)).mp q) G p e R s m args below meth c cells slots Z hC H locs ls hP hS hl) (fun q => kf (Int.not_le.mp (fun z => q ((zI_le (a := a) (b := 0) ha.1 ha.2 (by decide : (-2147483648 : Int) ≤ 0) (by decide : (0 : Int) < 2147483648)).mpr z))) G p e R s m args below meth c cells slots Z hC H locs ls hP hS hl)
end ZX
