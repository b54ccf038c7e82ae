/-! ===== years, run on; rows that agree on their 33 places ===== -/
def zag (t t' : zR) : Prop := ∀ j, 0 ≤ j → j < 33 → t j = t' j
theorem zag_refl (t : zR) : zag t t := fun _ _ _ => rfl
theorem zag.symm {t t' : zR} (h : zag t t') : zag t' t := fun j a b => (h j a b).symm
theorem zag.trans {t t' t'' : zR} (h : zag t t') (h' : zag t' t'') : zag t t'' := fun j a b => (h j a b).trans (h' j a b)
theorem zup_ag {t t' : zR} (h : zag t t') (i x : Int) : zag (zup t i x) (zup t' i x) := fun j a b => by
  unfold zup; split
  · rfl
  · exact h j a b
theorem ztk_ag {N t t' : zR} (hs : zVs N) (h : zag t t') {c s : Int} (hc : 0 ≤ c ∧ c < 5) (hs0 : 0 ≤ s ∧ s < 7) : ztk N t c s = ztk N t' c s := by
  have g := hs.s hs0.1 hs0.2
  unfold ztk
  rw [h (25 + s) (by omega) (by omega), h (5 + 4 * c + N (41 + s)) (by omega) (by omega), h 32 (by omega) (by omega)]
theorem z1t_ag {N t t' : zR} (hs : zVs N) (hv : zVr N t) (h : zag t t') {c : Int} (hc : 0 ≤ c ∧ c < 5) : zag (z1t N t c) (z1t N t' c) := by
  have e := h c hc.1 (by omega)
  have b := hv.1 c hc.1 hc.2
  have bN := hs.1
  unfold z1t
  by_cases h1 : t c = -1
  · rw [if_pos h1, if_pos (e ▸ h1)]; exact h
  · have g := hs.s (s := t c) (by omega) (by omega)
    rw [if_neg h1, if_neg (e ▸ h1), ← e, ← ztk_ag hs h hc ⟨by omega, by omega⟩, ← h (5 + 4 * c + N (41 + t c)) (by omega) (by omega)]
    exact zup_ag h _ _
theorem z1w_ag {N t t' : zR} (hs : zVs N) (hv : zVr N t) (h : zag t t') {c : Int} (hc : 0 ≤ c ∧ c < 5) : zag (z1w N t c) (z1w N t' c) := by
  have e := h c hc.1 (by omega)
  have b := hv.1 c hc.1 hc.2
  have bN := hs.1
  unfold z1w
  by_cases h1 : t c = -1
  · rw [if_pos h1, if_pos (e ▸ h1)]; exact h
  · rw [if_neg h1, if_neg (e ▸ h1), ← e, ← h (25 + t c) (by omega) (by omega)]
    exact zup_ag h _ _
theorem zVr_ag {N t t' : zR} (h : zag t t') (hv : zVr N t) : zVr N t' := by
  refine ⟨fun c h0 h1 => ?_, fun i h0 h1 => ?_, fun s h0 h1 => ?_, fun a b ha ha1 hb hb1 hne he => ?_, fun a ha ha0 ha1 => ?_⟩
  · rw [← h c h0 (by omega)]; exact hv.1 c h0 h1
  · rw [← h _ (by omega) (by omega)]; exact hv.2.1 i h0 h1
  · rw [← h _ (by omega) (by omega)]; exact hv.2.2.1 s h0 h1
  · rw [← h a ha (by omega), ← h b hb (by omega)] at he
    rw [← h a ha (by omega)]
    exact hv.2.2.2.1 a b ha ha1 hb hb1 hne he
  · rw [← h a ha0 (by omega)]
    refine ⟨(hv.2.2.2.2 a ha ha0 ha1).1, fun k hk hk1 => ?_⟩
    rw [← h _ (by omega) (by omega)]
    exact (hv.2.2.2.2 a ha ha0 ha1).2 k hk hk1
theorem zft_ag {N t t' : zR} (hs : zVs N) (hv : zVr N t) (h : zag t t') : ∀ k : Nat, k ≤ 5 → zag (zfd (z1t N) k t) (zfd (z1t N) k t')
  | 0, _ => h
  | k + 1, hk => z1t_ag hs (zft_V hs hv k (by omega)) (zft_ag hs hv h k (by omega)) (by omega)
theorem zfw_ag {N t t' : zR} (hs : zVs N) (hv : zVr N t) (h : zag t t') : ∀ k : Nat, k ≤ 5 → zag (zfd (z1w N) k t) (zfd (z1w N) k t')
  | 0, _ => h
  | k + 1, hk => z1w_ag hs (zfw_V hs hv k (by omega)) (zfw_ag hs hv h k (by omega)) (by omega)
theorem zyr_ag {N t t' : zR} (hs : zVs N) (hv : zVr N t) (h : zag t t') : zag (zyr N t) (zyr N t') := by
  have b := hs.2.1
  have h2 : zag (zyA N t) (zyA N t') := zfw_ag hs (zft_V hs hv _ (by omega)) (zft_ag hs hv h _ (by omega)) _ (by omega)
  unfold zyr
  rw [h2 32 (by omega) (by omega)]
  exact zup_ag h2 _ _
def zyn (N : zR) : Nat → zR → zR
  | 0, t => t
  | n + 1, t => zyr N (zyn N n t)
theorem zyn_V {N t : zR} (hs : zVs N) (hv : zVr N t) : ∀ n : Nat, zVr N (zyn N n t)
  | 0 => hv
  | n + 1 => zyr_V hs (zyn_V hs hv n)
theorem zyn_32 {N t : zR} (hs : zVs N) (hv : zVr N t) : ∀ n : Nat, zyn N n t 32 = t 32 + n
  | 0 => by simp [zyn]
  | n + 1 => by
    rw [zyn, zyr_32 hs (zyn_V hs hv n), zyn_32 hs hv n]; omega
theorem zyn_hi {N t : zR} (hs : zVs N) (hv : zVr N t) {j : Int} (hj : 33 ≤ j ∨ j < 5) : ∀ n : Nat, zyn N n t j = t j
  | 0 => rfl
  | n + 1 => by rw [zyn, zyr_hi hs (zyn_V hs hv n) hj, zyn_hi hs hv hj n]
theorem zyn_ag {N t t' : zR} (hs : zVs N) (hv : zVr N t) (h : zag t t') : ∀ n : Nat, zag (zyn N n t) (zyn N n t')
  | 0 => h
  | n + 1 => zyr_ag hs (zyn_V hs hv n) (zyn_ag hs hv h n)
theorem zyn_s (N t : zR) {n : Int} (h : 0 ≤ n) : zyn N (n + 1).toNat t = zyr N (zyn N n.toNat t) := by
  have e : (n + 1).toNat = n.toNat + 1 := by omega
  rw [e, zyn]
theorem zcy_ag (f g : zR) : zag (zcy f g 0 0 33) f := fun j a b => by
  unfold zcy
  rw [if_pos (by omega)]; congr 1; omega
/-- the first of n, n + 1 .. (so many) with p; none is -1 -/
def zff (p : Nat → Bool) : Nat → Nat → Int
  | _, 0 => -1
  | n, f + 1 => if p n = true then (n : Int) else zff p (n + 1) f
theorem zff_congr {p q : Nat → Bool} : ∀ (f n : Nat), (∀ k, n ≤ k → k < n + f → p k = q k) → zff p n f = zff q n f
  | 0, _, _ => rfl
  | f + 1, n, h => by
    unfold zff
    rw [h n (by omega) (by omega), zff_congr f (n + 1) (fun k a b => h k (by omega) (by omega))]
theorem zff_b {p : Nat → Bool} : ∀ (f n : Nat), -1 ≤ zff p n f ∧ zff p n f < n + f
  | 0, n => by unfold zff; omega
  | f + 1, n => by
    have := zff_b (p := p) f (n + 1)
    unfold zff
    split <;> omega
/-! ===== cells that hold nothing over a call; what a call answers ===== -/
def zSk (b : Nat) : Prop := (102 ≤ b ∧ b ≤ 106) ∨ b = 108 ∨ (109 ≤ b ∧ b ≤ 117) ∨ b = 217 ∨ b = 220 ∨ (225 ≤ b ∧ b ≤ 228)
def zNS (σ σ' : zMem) : Prop := (∀ b, ¬ zSk b → σ' b = σ b) ∧ σ' 106 1 = σ 106 1 ∧ σ' 217 6 = σ 217 6 ∧ σ' 217 7 = σ 217 7 ∧ σ' 217 8 = σ 217 8
theorem zNS_refl (σ : zMem) : zNS σ σ := ⟨fun _ _ => rfl, rfl, rfl, rfl, rfl⟩
theorem zNS.trans {σ σ' σ'' : zMem} (h : zNS σ σ') (h' : zNS σ' σ'') : zNS σ σ'' := ⟨fun b hb => (h'.1 b hb).trans (h.1 b hb), h'.2.1.trans h.2.1, h'.2.2.1.trans h.2.2.1, h'.2.2.2.1.trans h.2.2.2.1, h'.2.2.2.2.trans h.2.2.2.2⟩
theorem zNS_wa (σ : zMem) {r : Nat} (f : zR) (h : zSk r) (h1 : r ≠ 106) (h2 : r ≠ 217) : zNS σ (zwa σ r f) :=
  ⟨fun b hb => zwa_ne _ _ (fun q => hb (q ▸ h)), by rw [zwa_ne _ _ (Ne.symm h1)], by rw [zwa_ne _ _ (Ne.symm h2)], by rw [zwa_ne _ _ (Ne.symm h2)], by rw [zwa_ne _ _ (Ne.symm h2)]⟩
theorem zNS_wr (σ : zMem) {r : Nat} (i x : Int) (h : zSk r) (h1 : r ≠ 106 ∨ i ≠ 1) (h2 : r ≠ 217 ∨ (i ≠ 6 ∧ i ≠ 7 ∧ i ≠ 8)) : zNS σ (zwr σ r i x) := by
  have key : ∀ (b : Nat) (j : Int), (b ≠ r ∨ j ≠ i) → zwr σ r i x b j = σ b j := fun b j hj => by
    unfold zwr zwa
    split
    · rename_i e; subst e; exact zup_ne _ _ (hj.elim (fun q => absurd rfl q) id)
    · rfl
  refine ⟨fun b hb => ?_, key 106 1 ?_, key 217 6 ?_, key 217 7 ?_, key 217 8 ?_⟩
  · funext j; exact key b j (Or.inl (fun q => hb (q ▸ h)))
  · rcases h1 with q | q
    · exact Or.inl (Ne.symm q)
    · exact Or.inr (Ne.symm q)
  · rcases h2 with q | q
    · exact Or.inl (Ne.symm q)
    · exact Or.inr (Ne.symm q.1)
  · rcases h2 with q | q
    · exact Or.inl (Ne.symm q)
    · exact Or.inr (Ne.symm q.2.1)
  · rcases h2 with q | q
    · exact Or.inl (Ne.symm q)
    · exact Or.inr (Ne.symm q.2.2)
/-- refused: one more of a kind (the class's 118, the model's 224) -/
def zbm (σ : zMem) (r : Nat) (w : Int) : zMem := zwr σ r w (σ r w + 1)
/-- a call that changes nothing: v where C holds, else bad, and counted so at w -/
def zAn (r : Nat) (C : Prop) (v : Int) (w bad : Int) (σ : zMem) : Option Value → zMem → Prop := fun a σ' => (C → a = some (.int (zI v)) ∧ zNS σ σ') ∧ (¬ C → a = some (.int (zI bad)) ∧ zNS (zbm σ r w) σ')
theorem zAn_t {r : Nat} {C : Prop} {v v' : Int} {w bad : Int} {σ σ' : zMem} (hC : C) (hv : v' = v) (h : zNS σ σ') : zAn r C v w bad σ (some (.int (zI v'))) σ' := ⟨fun _ => ⟨by rw [hv], h⟩, fun q => absurd hC q⟩
theorem zAn_f {r : Nat} {C : Prop} {v : Int} {w bad : Int} {σ : zMem} (hC : ¬ C) : zAn r C v w bad σ (some (.int (zI bad))) (zbm σ r w) := ⟨fun q => absurd q hC, fun _ => ⟨rfl, zNS_refl _⟩⟩
/-- a call that may be refused (not C: b1; C and F: b2), else answers v and leaves P -/
def zA3 (C F : Prop) (σ : zMem) (r : Nat) (w1 b1 w2 b2 v : Int) (P : zMem → Prop) : Option Value → zMem → Prop := fun a σ' => (¬ C → a = some (.int (zI b1)) ∧ zbm σ r w1 = σ') ∧ (C → F → a = some (.int (zI b2)) ∧ zbm σ r w2 = σ') ∧ (C → ¬ F → a = some (.int (zI v)) ∧ P σ')
theorem zA3_bad {C F : Prop} {σ : zMem} {r : Nat} {w1 b1 w2 b2 v : Int} {P : zMem → Prop} (h : ¬ C) : zA3 C F σ r w1 b1 w2 b2 v P (some (.int (zI b1))) (zbm σ r w1) := ⟨fun _ => ⟨rfl, rfl⟩, fun q => absurd q h, fun q => absurd q h⟩
theorem zA3_full {C F : Prop} {σ : zMem} {r : Nat} {w1 b1 w2 b2 v : Int} {P : zMem → Prop} (h : C) (hF : F) : zA3 C F σ r w1 b1 w2 b2 v P (some (.int (zI b2))) (zbm σ r w2) := ⟨fun q => absurd h q, fun _ _ => ⟨rfl, rfl⟩, fun _ q => absurd hF q⟩
theorem zA3_ok {C F : Prop} {σ σ' : zMem} {r : Nat} {w1 b1 w2 b2 v v' : Int} {P : zMem → Prop} (h : C) (hF : ¬ F) (hv : v' = v) (hP : P σ') : zA3 C F σ r w1 b1 w2 b2 v P (some (.int (zI v'))) σ' := ⟨fun q => absurd h q, fun _ q => absurd q hF, fun _ _ => ⟨by rw [hv], hP⟩⟩
