theorem zts_of {args : Array Value} {s : State} (hts : ∀ w ∈ lw_tbl, w.before args s = true) : ∀ w ∈ ztbl, w.before args s = true := fun w hw => hts w (List.mem_filter.mp hw).1
/-- arrays' class numbers and the classes' at the start -/
theorem zK_of {args : Array Value} {s : State} (hts : ∀ w ∈ lw_tbl, w.before args s = true) : ∃ (D : va_G) (A : Nat → ClassId), va_K D vwCl [(A 100, .int), (A 101, .boolean), (A 102, .byte), (A 103, .object RX2), (A 104, .object RX0)] s ∧ zAo s := by
  obtain ⟨D, hD⟩ := zKn_of (zts_of hts)
  have o2 : (Cond.arrayOver (.object RX2)).before args s = true := hts _ (List.mem_append_right _ (List.mem_of_getElem? (i := 63) (by decide +kernel)))
  have o0 : (Cond.arrayOver (.object RX0)).before args s = true := hts _ (List.mem_append_right _ (List.mem_of_getElem? (i := 142) (by decide +kernel)))
  obtain ⟨c0, h0⟩ := zAr_of (zts_of hts _ aw_int) (fun U cA h => h)
  obtain ⟨c1, h1⟩ := zAr_of (zts_of hts _ aw_bool) (fun U cA h => h)
  obtain ⟨c2, h2⟩ := zAr_of (zts_of hts _ aw_byte) (fun U cA h => h)
  obtain ⟨c3, h3⟩ := zAo_of o2
  obtain ⟨c4, h4⟩ := zAo_of o0
  refine ⟨D, fun k => if k = 100 then c0 else if k = 101 then c1 else if k = 102 then c2 else if k = 103 then c3 else c4, ⟨hD, fun k q hq => ?_⟩, va_AO.of o2, va_AO.of o0⟩
  match k, hq with
  | 0, hq => cases hq; exact h0
  | 1, hq => cases hq; exact h1
  | 2, hq => cases hq; exact h2
  | 3, hq => cases hq; exact h3
  | 4, hq => cases hq; exact h4
  | k + 5, hq => simp at hq
theorem zNst_of {args : Array Value} {s : State} (hts : ∀ w ∈ lw_tbl, w.before args s = true) : zNst s := by
  intro q hq
  rcases List.mem_cons.mp hq with rfl | hq
  · exact va_Nw.of rfl (hts _ (List.mem_append_right _ (List.mem_of_getElem? (i := 147) (by decide +kernel))))
  rcases List.mem_cons.mp hq with rfl | hq
  · exact va_Nw.of rfl (hts _ (List.mem_append_right _ (List.mem_of_getElem? (i := 183) (by decide +kernel))))
  rcases List.mem_cons.mp hq with rfl | hq
  · exact va_Nw.of rfl (hts _ (List.mem_append_right _ (List.mem_of_getElem? (i := 295) (by decide +kernel))))
  rcases List.mem_cons.mp hq with rfl | hq
  · exact va_Nw.of rfl (hts _ (List.mem_append_right _ (List.mem_of_getElem? (i := 408) (by decide +kernel))))
  rcases List.mem_cons.mp hq with rfl | hq
  · exact va_Nw.of rfl (hts _ (List.mem_append_right _ (List.mem_of_getElem? (i := 439) (by decide +kernel))))
  rcases List.mem_cons.mp hq with rfl | hq
  · exact va_Nw.of rfl (hts _ (List.mem_append_right _ (List.mem_of_getElem? (i := 445) (by decide +kernel))))
  rcases List.mem_cons.mp hq with rfl | hq
  · exact va_Nw.of rfl (hts _ (List.mem_append_right _ (List.mem_of_getElem? (i := 451) (by decide +kernel))))
  cases hq
