theorem zinst : ∀ (c : Nat) (q : vw_C), vwCl[c]? = some q → Cond.instantiable q.1 q.2.2 ∈ ztbl := by
  intro c q h
  match c, h with
  | 0, h => cases h; exact zw_in 24 (by decide +kernel) rfl
  | 1, h => cases h; exact zw_in 65 (by decide +kernel) rfl
  | 2, h => cases h; exact zw_in 30 (by decide +kernel) rfl
  | 3, h => cases h; exact zw_in 182 (by decide +kernel) rfl
  | 4, h => cases h; exact zw_in 146 (by decide +kernel) rfl
  | 5, h => cases h; exact zw_in 16 (by decide +kernel) rfl
  | 6, h => cases h; exact zw_in 770 (by decide +kernel) rfl
  | k + 7, h => simp [vwCl] at h
/-- the classes' numbers and slots at the start -/
theorem zKn_of {args : Array Value} {s : State} (hts : ∀ w ∈ ztbl, w.before args s = true) : ∃ D : va_G, ∀ (c : Nat) (q : vw_C), vwCl[c]? = some q → u_Kn s q.1 q.2.1 q.2.2 (D.1 c) (D.2 c) := by
  have h : ∀ c : Nat, ∃ x : ClassId × (Nat → Nat), ∀ q, vwCl[c]? = some q → u_Kn s q.1 q.2.1 q.2.2 x.1 x.2 := by
    intro c
    by_cases hq : ∃ q, vwCl[c]? = some q
    · obtain ⟨q, hq⟩ := hq
      obtain ⟨cC, iS, h1⟩ := u_known (C := q.1) (T := q.2.1) (N := q.2.2) hts (zcls c q hq).1 (hts _ (zinst c q hq))
      exact ⟨(cC, iS), fun q2 h2 => by rw [Option.some.inj (h2.symm.trans hq)]; exact h1⟩
    · obtain ⟨cC, iS, h1⟩ := u_known (C := RX0) (T := TX0) (N := 13) hts (zcls 0 _ rfl).1 (hts _ (zinst 0 _ rfl))
      exact ⟨(cC, iS), fun q2 h2 => absurd ⟨q2, h2⟩ hq⟩
  exact ⟨(fun c => (Classical.choose (h c)).1, fun c => (Classical.choose (h c)).2), fun c q hq => Classical.choose_spec (h c) q hq⟩
