def zct (f : Int → Int) : Nat → Int
  | 0 => 0
  | n + 1 => zct f n + f n
theorem zct_s (f : Int → Int) {k : Int} (h : 0 ≤ k) : zct f (k + 1).toNat = zct f k.toNat + f k := by
  have e : (k + 1).toNat = k.toNat + 1 := by omega
  have e2 : ((k.toNat : Nat) : Int) = k := by omega
  rw [e, zct, e2]
theorem zct_congr {f g : Int → Int} : ∀ n : Nat, (∀ k : Int, 0 ≤ k → k < n → f k = g k) → zct f n = zct g n
  | 0, _ => rfl
  | n + 1, h => by rw [zct, zct, zct_congr n (fun k a b => h k a (by omega)), h n (by omega) (by omega)]
theorem zct_b {f : Int → Int} : ∀ n : Nat, (∀ k : Int, 0 ≤ k → k < n → 0 ≤ f k ∧ f k ≤ 1) → 0 ≤ zct f n ∧ zct f n ≤ n
  | 0, _ => ⟨Int.le_refl _, Int.le_refl _⟩
  | n + 1, h => by
    have := zct_b n (fun k a b => h k a (by omega))
    have := h n (by omega) (by omega)
    unfold zct; omega
def zbi (f : Int → Int) : Nat → Int
  | 0 => 0
  | n + 1 => zbi f n + f n * 2 ^ n
theorem zbi_s (f : Int → Int) {k : Int} (h : 0 ≤ k) : zbi f (k + 1).toNat = zbi f k.toNat + f k * 2 ^ k.toNat := by
  have e : (k + 1).toNat = k.toNat + 1 := by omega
  have e2 : ((k.toNat : Nat) : Int) = k := by omega
  rw [e, zbi, e2]
theorem zbi_congr {f g : Int → Int} : ∀ n : Nat, (∀ k : Int, 0 ≤ k → k < n → f k = g k) → zbi f n = zbi g n
  | 0, _ => rfl
  | n + 1, h => by rw [zbi, zbi, zbi_congr n (fun k a b => h k a (by omega)), h n (by omega) (by omega)]
theorem zbi_b {f : Int → Int} : ∀ n : Nat, (∀ k : Int, 0 ≤ k → k < n → f k = 0 ∨ f k = 1) → 0 ≤ zbi f n ∧ zbi f n < 2 ^ n
  | 0, _ => ⟨Int.le_refl _, by show (0 : Int) < 1; decide⟩
  | n + 1, h => by
    have h1 := zbi_b n (fun k a b => h k a (by omega))
    have h3 : (2 : Int) ^ (n + 1) = 2 ^ n * 2 := Int.pow_succ 2 n
    unfold zbi
    rcases h n (by omega) (by omega) with h2 | h2 <;> rw [h2, h3] <;> omega
theorem zor_ok : ∀ k : Nat, k < 7 → ∀ a : Nat, a < 2 ^ k → zI (a : Int) ||| zI ((2 ^ k : Nat) : Int) = zI ((a + 2 ^ k : Nat) : Int) := by decide +kernel
theorem zor0_ok : ∀ a : Nat, a < 128 → zI (a : Int) ||| zI 0 = zI (a : Int) := by decide +kernel
theorem z2k {k : Int} (hk : 0 ≤ k ∧ k < 7) : (2 : Int) ^ k.toNat ≤ 64 ∧ 1 ≤ (2 : Int) ^ k.toNat := by
  obtain ⟨n, rfl⟩ := Int.eq_ofNat_of_zero_le hk.1
  have key : ∀ n : Nat, n < 7 → (2 : Int) ^ n ≤ 64 ∧ 1 ≤ (2 : Int) ^ n := by decide
  exact key n (by omega)
theorem zor_int {a b k : Int} (hk : 0 ≤ k ∧ k < 7) (ha : 0 ≤ a ∧ a < 2 ^ k.toNat) (hb : b = 0 ∨ b = 2 ^ k.toNat) : zI a ||| zI b = zI (a + b) := by
  have h7 := z2k hk
  obtain ⟨x, rfl⟩ := Int.eq_ofNat_of_zero_le ha.1
  obtain ⟨n, rfl⟩ := Int.eq_ofNat_of_zero_le hk.1
  simp only [Int.toNat_natCast] at *
  rcases hb with rfl | rfl
  · rw [zor0_ok x (by omega), Int.add_zero]
  · have h2 : x < 2 ^ n := by
      have := ha.2
      exact_mod_cast this
    have := zor_ok n (by omega) x h2
    simpa using this
theorem zshl_int {k : Int} (hk : 0 ≤ k ∧ k < 7) : zI 1 <<< (zI k &&& 31) = zI (2 ^ k.toNat) := by
  obtain ⟨n, rfl⟩ := Int.eq_ofNat_of_zero_le hk.1
  have := zsh1_ok n (by omega)
  simpa using this
def zls (f : Int → Int) : Nat → Int
  | 0 => -1
  | n + 1 => if f n = 1 ∧ zls f n = -1 then (n : Int) else zls f n
theorem zls_s (f : Int → Int) {k : Int} (h : 0 ≤ k) : zls f (k + 1).toNat = if f k = 1 ∧ zls f k.toNat = -1 then k else zls f k.toNat := by
  have e : (k + 1).toNat = k.toNat + 1 := by omega
  have e2 : ((k.toNat : Nat) : Int) = k := by omega
  rw [e, zls, e2]
def zgs (f : Int → Int) : Nat → Int
  | 0 => -1
  | n + 1 => if f n = 1 then (n : Int) else zgs f n
theorem zgs_s (f : Int → Int) {k : Int} (h : 0 ≤ k) : zgs f (k + 1).toNat = if f k = 1 then k else zgs f k.toNat := by
  have e : (k + 1).toNat = k.toNat + 1 := by omega
  have e2 : ((k.toNat : Nat) : Int) = k := by omega
  rw [e, zgs, e2]
theorem zff_hit {p : Nat → Bool} {n f : Nat} (h : p n = true) : zff p n (f + 1) = n := by rw [zff, if_pos h]
theorem zff_miss {p : Nat → Bool} {n f : Nat} (h : p n = false) : zff p n (f + 1) = zff p (n + 1) f := by rw [zff, if_neg (by rw [h]; decide)]
def zpl (f : Int → Int) : Nat → Int × Int
  | 0 => (-1, 1000000)
  | n + 1 => if f n ≠ -1 ∧ f n < (zpl f n).2 then ((n : Int), f n) else zpl f n
theorem zpl_s (f : Int → Int) {k : Int} (h : 0 ≤ k) : zpl f (k + 1).toNat = if f k ≠ -1 ∧ f k < (zpl f k.toNat).2 then (k, f k) else zpl f k.toNat := by
  have e : (k + 1).toNat = k.toNat + 1 := by omega
  have e2 : ((k.toNat : Nat) : Int) = k := by omega
  rw [e, zpl, e2]
theorem zpl_congr {f g : Int → Int} : ∀ n : Nat, (∀ k : Int, 0 ≤ k → k < n → f k = g k) → zpl f n = zpl g n
  | 0, _ => rfl
  | n + 1, h => by rw [zpl, zpl, zpl_congr n (fun k a b => h k a (by omega)), h n (by omega) (by omega)]
theorem zpl_b {f : Int → Int} (hf : ∀ k, -1 ≤ f k ∧ f k ≤ 1000) : ∀ n : Nat, -1 ≤ (zpl f n).1 ∧ (zpl f n).1 ≤ n ∧ 0 ≤ (zpl f n).2 ∧ (zpl f n).2 ≤ 1000000
  | 0 => by simp [zpl]
  | n + 1 => by
    have h1 := zpl_b hf n
    have h2 := hf n
    unfold zpl
    split
    · refine ⟨?_, ?_, ?_, ?_⟩ <;> dsimp only <;> omega
    · omega
/-- put on a seat where no other one sits -/
theorem zVr_put {N : zR} (hs : zVs N) (hv : zVr N N) {c s : Int} (hc : 0 ≤ c ∧ c < N 48) (hs0 : 0 ≤ s ∧ s < N 33) (hw : zwo N s = -1 ∨ zwo N s = c) : zVr N (zup N c s) := by
  have b1 := hs.1
  have b2 := hs.2.1
  have o : ∀ j, j ≠ c → zup N c s j = N j := fun j hj => zup_ne _ _ hj
  have hno : ∀ a, 0 ≤ a → a < 5 → a ≠ c → N a ≠ s := by
    intro a h0 h1 h2 h3
    rcases zwo_spec N s with h | h
    · exact h.2 a h0 h1 h3
    · have e : zwo N s = c := hw.elim (fun q => by omega) id
      have e2 := hv.2.2.2.1 a c h0 h1 hc.1 (by omega) h2 (by rw [h3, ← e]; exact h.2.2.1.symm)
      omega
  refine ⟨fun a h0 h1 => ?_, fun i h0 h1 => ?_, fun q h0 h1 => ?_, fun a b ha ha1 hb hb1 hne he => ?_, fun a ha ha0 ha1 => ?_⟩
  · by_cases h : a = c
    · subst h; rw [zup_same]; omega
    · rw [o a h]; exact hv.1 a h0 h1
  · rw [o _ (by omega)]; exact hv.2.1 i h0 h1
  · rw [o _ (by omega)]; exact hv.2.2.1 q h0 h1
  · by_cases h : a = c
    · subst h
      rw [zup_same, o b (Ne.symm hne)] at he
      exact absurd he.symm (hno b hb hb1 (Ne.symm hne))
    · by_cases h3 : b = c
      · subst h3
        rw [zup_same, o a h] at he
        exact absurd he (hno a ha ha1 h)
      · rw [o a h, o b h3] at he
        rw [o a h]
        exact hv.2.2.2.1 a b ha ha1 hb hb1 hne he
  · rw [o a (by omega)]
    refine ⟨(hv.2.2.2.2 a ha ha0 ha1).1, fun k hk hk1 => ?_⟩
    rw [o _ (by omega)]
    exact (hv.2.2.2.2 a ha ha0 ha1).2 k hk hk1
theorem zbi_s2 (f : Int → Int) {k : Int} (h : 0 ≤ k) (h2 : f k = 0 ∨ f k = 1) : zbi f (k + 1).toNat = zbi f k.toNat + (if f k = 1 then 2 ^ k.toNat else 0) := by
  rw [zbi_s f h]
  rcases h2 with q | q <;> rw [q] <;> simp
theorem zpl_hit (f : Int → Int) {k : Int} (h : 0 ≤ k) (h2 : f k ≠ -1 ∧ f k < (zpl f k.toNat).2) : zpl f (k + 1).toNat = (k, f k) := by rw [zpl_s f h, if_pos h2]
theorem zpl_miss (f : Int → Int) {k : Int} (h : 0 ≤ k) (h2 : ¬ (f k ≠ -1 ∧ f k < (zpl f k.toNat).2)) : zpl f (k + 1).toNat = zpl f k.toNat := by rw [zpl_s f h, if_neg h2]
