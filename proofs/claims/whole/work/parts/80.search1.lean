theorem zbest_app (w : List Nat → Int) : ∀ (L M : List (List Nat)) (a : Int × List Nat), zbest w (L ++ M) a = zbest w M (zbest w L a)
  | [], M, a => rfl
  | l :: L, M, a => zbest_app w L M _
theorem zbest_no (w : List Nat → Int) : ∀ (L : List (List Nat)) (a : Int × List Nat), (∀ l, l ∈ L → w l ≤ a.1) → zbest w L a = a
  | [], a, _ => rfl
  | l :: L, a, h => by
    have h1 := h l List.mem_cons_self
    show zbest w L (if a.1 < w l then (w l, l) else a) = a
    rw [if_neg (by omega)]
    exact zbest_no w L a (fun x hx => h x (List.mem_cons_of_mem _ hx))
theorem zbest_w {w w' : List Nat → Int} : ∀ (L : List (List Nat)) (a : Int × List Nat), (∀ l, l ∈ L → w l = w' l) → zbest w L a = zbest w' L a
  | [], a, _ => rfl
  | l :: L, a, h => by
    show zbest w L (if a.1 < w l then (w l, l) else a) = zbest w' L (if a.1 < w' l then (w' l, l) else a)
    rw [h l List.mem_cons_self]
    exact zbest_w L _ (fun x hx => h x (List.mem_cons_of_mem _ hx))
/-- how many wishes come true by the seats that are laid (the last canon's first) -/
def zpt (N : zR) (n : Nat) : List Nat → Int
  | [] => 0
  | v :: pre => zpt N n pre + zfu N n (pre.length : Int) ((v : Int) - 1)
theorem zpt_zct (N : zR) (n : Nat) : ∀ l : List Nat, zct (fun c => zfu N n c (zat l.length l c)) l.length = zpt N n l
  | [] => rfl
  | v :: pre => by
    have ih := zpt_zct N n pre
    show zct (fun c => zfu N n c (zat (pre.length + 1) (v :: pre) c)) (pre.length + 1) = zpt N n pre + zfu N n (pre.length : Int) ((v : Int) - 1)
    rw [zct]
    have e1 : zct (fun c => zfu N n c (zat (pre.length + 1) (v :: pre) c)) pre.length = zct (fun c => zfu N n c (zat pre.length pre c)) pre.length := zct_congr _ (fun k k0 k1 => by
      have e2 : zat (pre.length + 1) (v :: pre) k = zat pre.length pre k := by
        unfold zat
        rw [show pre.length + 1 - 1 - k.toNat = (pre.length - 1 - k.toNat) + 1 by omega, List.getD_cons_succ]
      rw [e2])
    have e3 : zat (pre.length + 1) (v :: pre) (pre.length : Int) = (v : Int) - 1 := by
      unfold zat
      rw [show pre.length + 1 - 1 - ((pre.length : Int)).toNat = 0 by omega, List.getD_cons_zero]
    rw [e1, ih, e3]
theorem zwl_pt {N : zR} {n : Nat} {l : List Nat} (h : l.length = (N 48).toNat) : zwl N n l = zpt N n l := by
  unfold zwl; rw [← h]; exact zpt_zct N n l
def zbk (S r : Nat) (pre : List Nat) (v : Nat) : List (List Nat) := if v = 0 ∨ pre.contains v = false then zdf S r (v :: pre) else []
theorem zdf_s (S r : Nat) (pre : List Nat) : zdf S (r + 1) pre = (List.range (S + 1)).flatMap (zbk S r pre) := rfl
theorem zbk_s (S r : Nat) (pre : List Nat) (j : Nat) : (List.range (j + 1)).flatMap (zbk S r pre) = (List.range j).flatMap (zbk S r pre) ++ zbk S r pre j := by
  rw [List.range_succ, List.flatMap_append]
  congr 1
  show zbk S r pre j ++ [] = _
  rw [List.append_nil]
theorem zdf_len (S : Nat) : ∀ (r : Nat) (pre l : List Nat), l ∈ zdf S r pre → l.length = pre.length + r
  | 0, pre, l, h => by
    rw [List.mem_singleton.mp h]; rfl
  | r + 1, pre, l, h => by
    rw [zdf_s] at h
    obtain ⟨v, _, hv⟩ := List.mem_flatMap.mp h
    unfold zbk at hv
    split at hv
    · have := zdf_len S r (v :: pre) l hv
      rw [List.length_cons] at this
      omega
    · cases hv
/-- the most that canon c can bring -/
def zmg (N : zR) (n S : Nat) (c : Int) : Int := zmx (fun k => zfu N n c (k - 1)) (S + 1)
/-- the most that the last r of C canons can bring -/
def zhp (N : zR) (n S C : Nat) : Nat → Int
  | 0 => 0
  | r + 1 => zhp N n S C r + zmg N n S ((C : Int) - 1 - r)
theorem zpt_le (N : zR) (n S C : Nat) : ∀ (r : Nat) (pre l : List Nat), pre.length + r = C → l ∈ zdf S r pre → zpt N n l ≤ zpt N n pre + zhp N n S C r
  | 0, pre, l, _, h => by
    rw [List.mem_singleton.mp h]
    show zpt N n pre ≤ zpt N n pre + 0
    omega
  | r + 1, pre, l, hl, h => by
    rw [zdf_s] at h
    obtain ⟨v, hv0, hv⟩ := List.mem_flatMap.mp h
    have hvS := List.mem_range.mp hv0
    unfold zbk at hv
    split at hv
    · have h1 := zpt_le N n S C r (v :: pre) l (by rw [List.length_cons]; omega) hv
      have h2 : zpt N n (v :: pre) = zpt N n pre + zfu N n (pre.length : Int) ((v : Int) - 1) := rfl
      have h3 := zmx_ge (g := fun k => zfu N n (pre.length : Int) (k - 1)) (S + 1) (v : Int) (by omega) (by omega)
      have h4 : zhp N n S C (r + 1) = zhp N n S C r + zmg N n S ((C : Int) - 1 - r) := rfl
      rw [show (C : Int) - 1 - r = (pre.length : Int) by omega] at h4
      have h5 : zmg N n S (pre.length : Int) = zmx (fun k => zfu N n (pre.length : Int) (k - 1)) (S + 1) := rfl
      have h6 : (fun k => zfu N n (pre.length : Int) (k - 1)) (v : Int) = zfu N n (pre.length : Int) ((v : Int) - 1) := rfl
      omega
    · cases hv
theorem zpt_b {N : zR} (hN : 0 ≤ N 59 ∧ N 59 ≤ 6) (n : Nat) : ∀ l : List Nat, 0 ≤ zpt N n l ∧ zpt N n l ≤ 6 * l.length
  | [] => ⟨Int.le_refl _, Int.le_refl _⟩
  | v :: pre => by
    have h1 := zpt_b hN n pre
    have h2 := zfu_b N hN n (pre.length : Int) ((v : Int) - 1)
    have h3 : zpt N n (v :: pre) = zpt N n pre + zfu N n (pre.length : Int) ((v : Int) - 1) := rfl
    rw [List.length_cons]
    omega
theorem zmg_b {N : zR} (hN : 0 ≤ N 59 ∧ N 59 ≤ 6) (n S : Nat) (c : Int) : 0 ≤ zmg N n S c ∧ zmg N n S c ≤ 6 := ⟨zmx_0 _ _, zmx_le (by omega) _ (fun k _ _ => (zfu_b N hN n c (k - 1)).2)⟩
theorem zhp_b {N : zR} (hN : 0 ≤ N 59 ∧ N 59 ≤ 6) (n S C : Nat) : ∀ r : Nat, 0 ≤ zhp N n S C r ∧ zhp N n S C r ≤ 6 * r
  | 0 => ⟨Int.le_refl _, Int.le_refl _⟩
  | r + 1 => by
    have h1 := zhp_b hN n S C r
    have h2 := zmg_b hN n S ((C : Int) - 1 - r)
    have h3 : zhp N n S C (r + 1) = zhp N n S C r + zmg N n S ((C : Int) - 1 - r) := rfl
    omega
theorem zrl_cons {c v : Nat} {pre : List Nat} {f f' : zR} (h : zrl c pre f) (hv : f' (c : Int) = (v : Int) - 1) (hf : ∀ k, 0 ≤ k → k < (c : Int) → f' k = f k) (h7 : v ≤ 7) : zrl (c + 1) (v :: pre) f' := by
  obtain ⟨h1, h2, h3⟩ := h
  refine ⟨by rw [List.length_cons, h1], fun i x hx => ?_, fun x hx => ?_⟩
  · match i, hx with
    | 0, hx =>
      rw [List.getElem?_cons_zero] at hx
      cases hx
      rw [← hv]; congr 1; omega
    | i + 1, hx =>
      rw [List.getElem?_cons_succ] at hx
      have hi : i < pre.length := (List.getElem?_eq_some_iff.mp hx).1
      have := h2 i x hx
      rw [← this, show ((c + 1 : Nat) : Int) - 1 - ((i + 1 : Nat) : Int) = (c : Int) - 1 - i by omega]
      exact hf _ (by omega) (by omega)
  · rcases List.mem_cons.mp hx with q | q
    · rw [q]; exact h7
    · exact h3 x q
theorem zrl_mv {c : Nat} {pre : List Nat} {f f' : zR} (h : zrl c pre f) (hf : ∀ k, 0 ≤ k → k < (c : Int) → f' k = f k) : zrl c pre f' := by
  obtain ⟨h1, h2, h3⟩ := h
  refine ⟨h1, fun i x hx => ?_, h3⟩
  have hi : i < pre.length := (List.getElem?_eq_some_iff.mp hx).1
  rw [hf _ (by omega) (by omega)]; exact h2 i x hx
/-- the seats that are taken, as bits -/
def zbb (u : Nat) (pre : List Nat) : Prop := u < 128 ∧ ∀ s : Nat, s < 7 → (u / 2 ^ s % 2 = 1 ↔ (s + 1) ∈ pre)
theorem zua_ok : ∀ u : Nat, u < 128 → ∀ s : Nat, s < 7 → zI (u : Int) &&& zI ((2 ^ s : Nat) : Int) = zI (((if u / 2 ^ s % 2 = 1 then 2 ^ s else 0 : Nat)) : Int) := by decide +kernel
theorem zu0_ok : ∀ u : Nat, u < 128 → zI (u : Int) &&& zI 0 = zI 0 ∧ zI (u : Int) ||| zI 0 = zI (u : Int) := by decide +kernel
theorem zuo_ok : ∀ u : Nat, u < 128 → ∀ s : Nat, s < 7 → u / 2 ^ s % 2 = 0 → zI (u : Int) ||| zI ((2 ^ s : Nat) : Int) = zI ((u + 2 ^ s : Nat) : Int) ∧ u + 2 ^ s < 128 := by decide +kernel
set_option maxRecDepth 100000 in
theorem zub_ok : ∀ u : Nat, u < 128 → ∀ s : Nat, s < 7 → u / 2 ^ s % 2 = 0 → ∀ k : Nat, k < 7 → (u + 2 ^ s) / 2 ^ k % 2 = if k = s then 1 else u / 2 ^ k % 2 := by decide +kernel
theorem zbb_add {u s : Nat} {pre : List Nat} (h : zbb u pre) (hs : s < 7) (h0 : u / 2 ^ s % 2 = 0) : zbb (u + 2 ^ s) ((s + 1) :: pre) := by
  refine ⟨(zuo_ok u h.1 s hs h0).2, fun k hk => ?_⟩
  rw [zub_ok u h.1 s hs h0 k hk]
  by_cases q : k = s
  · rw [if_pos q, q]; exact ⟨fun _ => List.mem_cons_self, fun _ => rfl⟩
  · rw [if_neg q, h.2 k hk]
    constructor
    · exact fun z => List.mem_cons_of_mem _ z
    · intro z
      rcases List.mem_cons.mp z with z | z
      · omega
      · exact z
theorem zbb_0 {u : Nat} {pre : List Nat} (h : zbb u pre) : zbb u (0 :: pre) := ⟨h.1, fun s hs => by
  rw [h.2 s hs]
  constructor
  · exact fun z => List.mem_cons_of_mem _ z
  · intro z
    rcases List.mem_cons.mp z with z | z
    · omega
    · exact z⟩
