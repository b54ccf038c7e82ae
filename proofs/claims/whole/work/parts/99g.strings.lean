/-- the strings at the start -/
theorem zSt_of {b : Nat} {s : State} {A : Nat → Prop} (hgv : (Jvm.Cond.and given_1 narrow_1).before #[Value.ref b] s = true) (hA : ∀ a : Nat, a < s.heap.size → ¬ A a) : ∃ adK adV : Nat → Nat, vk_S 5 zSn zSb adK adV A s s.heap ∧ ∀ i : Nat, i < 5 → (Term.string RX4 (zSi i)).eval #[Value.ref b] s none [] s = some (.ref (adK i)) := by
  have hs := flat_of_before _ hgv
  exact vk_Sof (tm := fun i => Term.string RX4 (zSi i)) (by decide) (fun i hi => hs _ (by revert hi; revert i; decide +kernel)) (fun i hi => hs _ (by revert hi; revert i; decide +kernel)) (fun i hi => hs _ (by revert hi; revert i; decide +kernel)) (fun i hi => hs _ (by revert hi; revert i; decide +kernel)) (fun i hi j hj => hs _ (by revert hj; revert j; revert hi; revert i; decide +kernel)) (fun i j hi hj hne => by
    have k1 : ∀ i : Nat, i < 5 → ∀ j : Nat, j < 5 → (decide (j ≤ i) || decide ((Cond.not (Cond.eq (Term.string RX4 (zSi i)) (Term.string RX4 (zSi j)))) ∈ flatC (given_1.and narrow_1)) || decide ((Cond.not (Cond.eq (Term.string RX4 (zSi j)) (Term.string RX4 (zSi i)))) ∈ flatC (given_1.and narrow_1))) = true := by decide +kernel
    have key : ∀ i : Nat, i < 5 → ∀ j : Nat, j < 5 → i ≠ j → (Cond.not (Cond.eq (Term.string RX4 (zSi i)) (Term.string RX4 (zSi j)))).before #[Value.ref b] s = true ∨ (Cond.not (Cond.eq (Term.string RX4 (zSi j)) (Term.string RX4 (zSi i)))).before #[Value.ref b] s = true := by
      intro i hi j hj hne
      rcases Nat.lt_or_gt_of_ne hne with q | q
      · have h := k1 i hi j hj
        simp only [Bool.or_eq_true, decide_eq_true_eq] at h
        rcases h with (h | h) | h
        · omega
        · exact Or.inl (hs _ h)
        · exact Or.inr (hs _ h)
      · have h := k1 j hj i hi
        simp only [Bool.or_eq_true, decide_eq_true_eq] at h
        rcases h with (h | h) | h
        · omega
        · exact Or.inr (hs _ h)
        · exact Or.inl (hs _ h)
    exact key i hi j hj hne) hA
