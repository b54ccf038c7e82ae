/-- the strings' cells do not look at the addresses of others -/
theorem vk_S_c {N : Nat} {len : List Nat} {byt : List (List Int32)} {K V K2 V2 : Nat → Nat} {A : Nat → Prop} {U : State} {H : Heap} (hK : ∀ i, i < N → K2 i = K i) (hV : ∀ i, i < N → V2 i = V i) (h : vk_S N len byt K V A U H) : vk_S N len byt K2 V2 A U H :=
  ⟨fun i hi => by rw [hK i hi, hV i hi]; exact h.1 i hi, fun i j hi hj e => h.2 i j hi hj (by rw [← hK i hi, ← hK j hj]; exact e)⟩
theorem zStat_of {b : Nat} {s : State} {A : Nat → Prop} (hts : ∀ w ∈ lw_tbl, w.before #[Value.ref b] s = true) (hgv : (Jvm.Cond.and given_1 narrow_1).before #[Value.ref b] s = true) (hA : ∀ a : Nat, a < s.heap.size → ¬ A a) : va_Z "java/lang/String" "COMPACT_STRINGS" "Z" (.int 1) A s s.heap ∧ ∃ v : Value, (v = .null ∨ ∃ a, v = .ref a) ∧ va_Z "jdk/internal/util/Preconditions" "SIOOBE_FORMATTER" "Ljava/util/function/BiFunction;" v A s s.heap := by
  have hs := flat_of_before _ hgv
  have w : ∀ (i : Nat) (c : Cond), tables_1[i]? = some c → c.before #[Value.ref b] s = true := fun i c h => hts c (List.mem_append_right _ (List.mem_of_getElem? h))
  have h1 : (Cond.eq (Term.static "java/lang/String" "COMPACT_STRINGS" "Z") (Term.int 1)).before #[Value.ref b] s = true := hs _ (by decide +kernel)
  have h2 : (Cond.isRef (Term.static "jdk/internal/util/Preconditions" "SIOOBE_FORMATTER" "Ljava/util/function/BiFunction;")).before #[Value.ref b] s = true := hs _ (by decide +kernel)
  refine ⟨va_Zof (w 357 _ (by decide +kernel)) (w 9 _ (by decide +kernel)) ?_ hA, ?_⟩
  · cases hv : (Term.static "java/lang/String" "COMPACT_STRINGS" "Z").eval #[Value.ref b] s none [] s with
    | none => simp [Cond.before, Cond.holds, Cond.value, hv] at h1
    | some v => cases v <;> simp_all [Cond.before, Cond.holds, Cond.value, Term.eval]
  · cases hv : (Term.static "jdk/internal/util/Preconditions" "SIOOBE_FORMATTER" "Ljava/util/function/BiFunction;").eval #[Value.ref b] s none [] s with
    | none => simp [Cond.before, Cond.holds, Cond.value, hv] at h2
    | some v =>
      refine ⟨v, ?_, va_Zof (w 373 _ (by decide +kernel)) (w 11 _ (by decide +kernel)) hv hA⟩
      cases v <;> simp_all [Cond.before, Cond.holds, Cond.value, Value.isRef]
