/-- everything about strings, links and statics at the start, for any G that has the strings where they are -/
theorem zStr_of {b : Nat} {s : State} (hts : ∀ w ∈ lw_tbl, w.before #[Value.ref b] s = true) (hgv : (Jvm.Cond.and given_1 narrow_1).before #[Value.ref b] s = true) : ∃ K : Nat → Nat, ∀ G : zG, zGB G = s.heap.size → zGK G = K → zGV G = (fun i => K (10 + i)) → zGH G = s.heap → zStr G s := by
  have hA : ∀ a : Nat, a < s.heap.size → ¬ s.heap.size ≤ a := fun a h => Nat.not_le.mpr h
  obtain ⟨adK, adV, hS, hE⟩ := zSt_of (A := fun q => s.heap.size ≤ q) hgv hA
  obtain ⟨hz1, v, hv, hz2⟩ := zStat_of (A := fun q => s.heap.size ≤ q) hts hgv hA
  have w : ∀ (i : Nat) (c : Cond), tables_1[i]? = some c → c.before #[Value.ref b] s = true := fun i c h => hts c (List.mem_append_right _ (List.mem_of_getElem? h))
  refine ⟨fun j => if j < 5 then adK j else if j = 5 then (match v with | .ref a => a | _ => 0) else adV (j - 10), fun G hB hK hV hH => ?_⟩
  have eA : zA G = fun q => s.heap.size ≤ q := by unfold zA; rw [hB]
  refine ⟨⟨fun i hi => ?_, zNst_of hts⟩, ?_, ?_, ?_, v, ?_, ?_⟩
  · have hk : zGK G i = adK i := by rw [hK]; exact if_pos hi
    rw [hk]
    refine vk_R.of ?_ (hE i hi)
    match i, hi with
    | 0, _ => exact w 343 _ (by decide +kernel)
    | 1, _ => exact w 396 _ (by decide +kernel)
    | 2, _ => exact w 397 _ (by decide +kernel)
    | 3, _ => exact w 398 _ (by decide +kernel)
    | 4, _ => exact w 399 _ (by decide +kernel)
  · rw [eA, hH]
    exact vk_S_c (fun i hi => by rw [hK]; exact if_pos hi) (fun i hi => by rw [hV]; show (if 10 + i < 5 then _ else if 10 + i = 5 then _ else _) = _; rw [if_neg (by omega), if_neg (by omega), show 10 + i - 10 = i by omega]) hS
  · intro i hi; rw [hV, hK]
  · rw [eA, hH]; exact hz1
  · rcases hv with rfl | ⟨a, rfl⟩
    · exact Or.inl rfl
    · refine Or.inr ?_
      rw [hK]; rfl
  · rw [eA, hH]; exact hz2
