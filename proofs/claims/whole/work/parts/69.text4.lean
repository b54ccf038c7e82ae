/-- the row behind an item -/
def zcRow (r : zR) (w v0 v1 v2 : Int) : zR := if w = 0 then r else if w = 1 then zup (zup (zup (zup r (34 + r 33) v0) (41 + r 33) v1) (25 + r 33) v2) 33 (r 33 + 1) else if w = 2 then zup (zup (zup r (49 + r 48) v0) (54 + r 48) v1) 48 (r 48 + 1) else if w = 3 then zup r v0 v1 else zyl v0.toNat r
def zrB (tx : zR) (n : Int) (res : Except Int (Int × zR)) : Except Int (Int × zR) := match res with
  | .error b => .error b
  | .ok (j, r') => if zTk tx n j = 3 then .ok (zTe tx n j, r') else .error (zTb tx n j)
def zcB (r : zR) (res : Except Int (Int × Int × Int × Int × Int)) : Except Int (Int × zR) := match res with
  | .error b => .error b
  | .ok (j, w, v0, v1, v2) => .ok (j, zcRow r w v0 v1 v2)
theorem zrB_s {tx : zR} {n j w v0 v1 v2 : Int} {r r' : zR} (h : zcRow r w v0 v1 v2 = r') : zrB tx n (.ok (j, r')) = zcB r (zcSt tx n j (w, v0, v1, v2)) := by
  subst h
  show (if zTk tx n j = 3 then Except.ok (zTe tx n j, zcRow r w v0 v1 v2) else Except.error (zTb tx n j)) = _
  unfold zcSt
  by_cases q : zTk tx n j = 3
  · rw [if_pos q, if_pos q]; rfl
  · rw [if_neg q, if_neg q]; rfl
theorem zrB_E {tx : zR} {n i lo hi : Int} {r : zR} {K : Int → Int → Except Int (Int × zR)} {K' : Int → Int → Except Int (Int × Int × Int × Int × Int)} (h : ∀ a b, zrB tx n (K a b) = zcB r (K' a b)) : zrB tx n (zrE tx n i lo hi K) = zcB r (zcE tx n i lo hi K') := by
  unfold zrE zcE
  by_cases q : zNb tx n i lo hi = 1
  · rw [if_pos q, if_pos q]; exact h _ _
  · rw [if_neg q, if_neg q]; rfl
theorem zrB_sit (tx : zR) (n i : Int) (r : zR) (hr : 0 ≤ r 33) : zrB tx n (zrSit tx n i r) = zcB r (zcSit tx n i r) := by
  unfold zrSit zcSit
  unfold zrE zcE
  by_cases q : zNb tx n i 0 (r 48 - 1) = 1
  · rw [if_pos q, if_pos q]
    try dsimp only
    by_cases q1 : zNb tx n (zTe tx n i) 0 (r 33 - 1) = 1
    · rw [if_pos q1, if_pos q1]
      try dsimp only
      have b1 := zNb_1 q1
      by_cases q2 : zwo r (zTv tx n (zTe tx n i)) ≠ -1 ∧ zwo r (zTv tx n (zTe tx n i)) ≠ zTv tx n i
      · rw [if_pos q2, if_pos ⟨by omega, q2.1, q2.2⟩]; rfl
      · rw [if_neg q2, if_neg (fun z => q2 z.2)]
        exact zrB_s (by unfold zcRow; rw [if_neg (by decide), if_neg (by decide), if_neg (by decide), if_pos rfl])
    · rw [if_neg q1, if_neg q1]; rfl
  · rw [if_neg q, if_neg q]; rfl
theorem zrB_item (tx : zR) (n i c : Int) {r : zR} (hs : zVs r) : zrB tx n (zrItem tx n i c r) = zcB r (zcItem tx n i c r) := by
  have h33 := hs.1
  have h48 := hs.2.1
  unfold zcItem zcIt zrItem
  by_cases hk : zTk tx n i = 1
  · rw [if_pos hk]
    have d0 := zwd_0 hk
    have d1 := zwd_1 hk
    have d2 := zwd_2 hk
    have d3 := zwd_3 hk
    have d4 := zwd_4 hk
    unfold zwW
    by_cases q0 : zwq tx (zTb tx n i) (zTe tx n i) 0 = 1
    · rw [if_pos (d0.mpr q0), if_pos q0]
      by_cases hc : c = 0
      · rw [if_pos hc, if_neg (by omega), if_pos rfl]
        exact zrB_s (by unfold zcRow; rw [if_pos rfl])
      · rw [if_neg hc, if_pos (by omega)]; rfl
    · rw [if_neg (fun z => q0 (d0.mp z)), if_neg q0]
      by_cases hc : c = 0
      · rw [if_pos hc, if_pos (by refine Or.inl ⟨hc, ?_⟩; repeat' split <;> omega)]; rfl
      · rw [if_neg hc]
        by_cases q1 : zwq tx (zTb tx n i) (zTe tx n i) 1 = 1
        · rw [if_pos (d1.mpr q1), if_pos q1, if_neg (by omega), if_neg (by omega), if_pos rfl]
          unfold zrSeat zcSeat
          by_cases q : r 33 = 7
          · rw [if_pos q, if_pos (by omega)]; rfl
          · rw [if_neg q, if_neg (by omega)]
            exact zrB_E (fun _ _ => zrB_E (fun _ _ => zrB_E (fun _ _ => zrB_s (by unfold zcRow; rw [if_neg (by decide), if_pos rfl]))))
        · rw [if_neg (fun z => q1 (d1.mp z)), if_neg q1]
          by_cases q2 : zwq tx (zTb tx n i) (zTe tx n i) 2 = 1
          · rw [if_pos (d2.mpr q2), if_pos q2, if_neg (by omega), if_neg (by omega), if_neg (by omega), if_pos rfl]
            unfold zrCanon zcCanon
            by_cases q : r 48 = 5
            · rw [if_pos q, if_pos (by omega)]; rfl
            · rw [if_neg q, if_neg (by omega)]
              exact zrB_E (fun _ _ => zrB_E (fun _ _ => zrB_s (by unfold zcRow; rw [if_neg (by decide), if_neg (by decide), if_pos rfl])))
          · rw [if_neg (fun z => q2 (d2.mp z)), if_neg q2]
            by_cases q3 : zwq tx (zTb tx n i) (zTe tx n i) 3 = 1
            · rw [if_pos (d3.mpr q3), if_pos q3, if_neg (by omega), if_neg (by omega), if_neg (by omega), if_neg (by omega), if_pos rfl]
              exact zrB_sit tx n _ r (by omega)
            · rw [if_neg (fun z => q3 (d3.mp z)), if_neg q3]
              by_cases q4 : zwq tx (zTb tx n i) (zTe tx n i) 4 = 1
              · rw [if_pos (d4.mpr q4), if_pos q4, if_neg (by omega), if_neg (by omega), if_neg (by omega), if_neg (by omega), if_neg (by omega), if_pos rfl]
                unfold zrYears zcYears
                exact zrB_E (fun _ _ => zrB_s (by unfold zcRow; rw [if_neg (by decide), if_neg (by decide), if_neg (by decide), if_neg (by decide)]))
              · rw [if_neg (fun z => q4 (d4.mp z)), if_neg q4, if_neg (by omega), if_neg (by omega), if_neg (by omega), if_neg (by omega), if_neg (by omega), if_neg (by omega)]; rfl
  · rw [if_neg hk]
    have nq : ∀ w m, ¬ zTq tx n i w m = 1 := fun w m z => hk (zTq_1 z).1
    rw [if_neg (fun z => nq _ _ z.1)]
    by_cases hc : c = 0
    · rw [if_pos hc, if_pos (by omega)]; rfl
    · rw [if_neg hc, if_neg (nq _ _), if_neg (nq _ _), if_neg (nq _ _), if_neg (nq _ _), if_neg (by omega), if_neg (by omega), if_neg (by omega), if_neg (by omega), if_neg (by omega), if_neg (by omega)]; rfl
theorem zrLoop_s (tx : zR) (n : Int) (m : Nat) (i c : Int) (r : zR) (hs : zVs r) : zrLoop tx n (m + 1) i c r = if zTk tx n i = 0 ∧ c ≠ 0 then .ok (c, r) else match zcItem tx n i c r with
    | .error b => .error b
    | .ok (j, w, v0, v1, v2) => zrLoop tx n m j (c + 1) (zcRow r w v0 v1 v2) := by
  have h := zrB_item tx n i c hs
  rw [zrLoop]
  by_cases q : zTk tx n i = 0 ∧ c ≠ 0
  · rw [if_pos q, if_pos q]
  · rw [if_neg q, if_neg q]
    cases hz : zrItem tx n i c r with
    | error b =>
      rw [hz] at h
      cases hc : zcItem tx n i c r with
      | error b2 =>
        rw [hc] at h
        have e : b = b2 := Except.error.inj h
        rw [e]
      | ok x => rw [hc] at h; cases h
    | ok x =>
      obtain ⟨j, r'⟩ := x
      rw [hz] at h
      cases hc : zcItem tx n i c r with
      | error b2 =>
        rw [hc] at h
        have h2 : (if zTk tx n j = 3 then Except.ok (zTe tx n j, r') else Except.error (zTb tx n j)) = (Except.error b2 : Except Int (Int × zR)) := h
        by_cases q3 : zTk tx n j = 3
        · rw [if_pos q3] at h2; cases h2
        · rw [if_neg q3] at h2
          have e : zTb tx n j = b2 := Except.error.inj h2
          show (if zTk tx n j = 3 then _ else _) = _
          rw [if_neg q3, e]
      | ok y =>
        obtain ⟨j2, w, v0, v1, v2⟩ := y
        rw [hc] at h
        have h2 : (if zTk tx n j = 3 then Except.ok (zTe tx n j, r') else Except.error (zTb tx n j)) = (Except.ok (j2, zcRow r w v0 v1 v2) : Except Int (Int × zR)) := h
        by_cases q3 : zTk tx n j = 3
        · rw [if_pos q3] at h2
          simp only [Except.ok.injEq, Prod.mk.injEq] at h2
          show (if zTk tx n j = 3 then _ else _) = _
          rw [if_pos q3, h2.1, h2.2]
        · rw [if_neg q3] at h2; cases h2
/-- an item's numbers are in their bounds, and its end lies further on -/
theorem zcSt_ok {tx : zR} {n i i0 j w v0 v1 v2 : Int} {X : Int × Int × Int × Int} (hi0 : i0 ≤ i) (hi : i ≤ n) (h : zcSt tx n i X = .ok (j, w, v0, v1, v2)) : X = (w, v0, v1, v2) ∧ i0 < j ∧ j ≤ n := by
  unfold zcSt at h
  by_cases q : zTk tx n i = 3
  · rw [if_pos q] at h
    have b := zTk_3 hi q
    have b2 := zTe_b tx hi
    simp only [Except.ok.injEq, Prod.mk.injEq] at h
    exact ⟨h.2, by omega, by omega⟩
  · rw [if_neg q] at h; cases h
theorem zcE_ok {tx : zR} {n i lo hi : Int} {K : Int → Int → Except Int (Int × Int × Int × Int × Int)} {x : Int × Int × Int × Int × Int} (hi0 : i ≤ n) (h : zcE tx n i lo hi K = .ok x) : (lo ≤ zTv tx n i ∧ zTv tx n i ≤ hi) ∧ (i ≤ zTe tx n i ∧ zTe tx n i ≤ n) ∧ K (zTe tx n i) (zTv tx n i) = .ok x := by
  unfold zcE at h
  by_cases q : zNb tx n i lo hi = 1
  · rw [if_pos q] at h; exact ⟨(zNb_1 q).2, zTe_b tx hi0, h⟩
  · rw [if_neg q] at h; cases h
def zcOK (r : zR) (w v0 v1 v2 : Int) : Prop := w = 0 ∨ (w = 1 ∧ r 33 < 7 ∧ (0 ≤ v0 ∧ v0 ≤ 5) ∧ (0 ≤ v1 ∧ v1 ≤ 3) ∧ 0 ≤ v2 ∧ v2 ≤ 40) ∨ (w = 2 ∧ r 48 < 5 ∧ (0 ≤ v0 ∧ v0 ≤ 5) ∧ 1 ≤ v1 ∧ v1 ≤ 9) ∨ (w = 3 ∧ (0 ≤ v0 ∧ v0 < r 48) ∧ (0 ≤ v1 ∧ v1 < r 33) ∧ (zwo r v1 = -1 ∨ zwo r v1 = v0)) ∨ (w = 4 ∧ 1 ≤ v0 ∧ v0 ≤ 30)
theorem zcItem_ok {tx : zR} {n i c j w v0 v1 v2 : Int} {r : zR} (hi : i ≤ n) (h : zcItem tx n i c r = .ok (j, w, v0, v1, v2)) : (i < j ∧ j ≤ n) ∧ zcOK r w v0 v1 v2 := by
  have b := zTe_b tx hi
  unfold zcItem zcIt at h
  generalize (if zTk tx n i = 1 then zwW tx (zTb tx n i) (zTe tx n i) else -1) = u at h
  split at h
  · cases h
  · split at h
    · obtain ⟨e, q1, q2⟩ := zcSt_ok (i0 := i) b.1 b.2 h
      simp only [Prod.mk.injEq] at e
      exact ⟨⟨q1, q2⟩, Or.inl (by omega)⟩
    · split at h
      · unfold zcSeat at h
        split at h
        · cases h
        · obtain ⟨a1, a2, h⟩ := zcE_ok b.2 h
          obtain ⟨a3, a4, h⟩ := zcE_ok a2.2 h
          obtain ⟨a5, a6, h⟩ := zcE_ok a4.2 h
          obtain ⟨e, q1, q2⟩ := zcSt_ok (i0 := i) (by omega) a6.2 h
          simp only [Prod.mk.injEq] at e
          obtain ⟨rfl, rfl, rfl, rfl⟩ := e
          exact ⟨⟨q1, q2⟩, Or.inr (Or.inl ⟨rfl, by omega, a1, a3, a5⟩)⟩
      · split at h
        · unfold zcCanon at h
          split at h
          · cases h
          · obtain ⟨a1, a2, h⟩ := zcE_ok b.2 h
            obtain ⟨a3, a4, h⟩ := zcE_ok a2.2 h
            obtain ⟨e, q1, q2⟩ := zcSt_ok (i0 := i) (by omega) a4.2 h
            simp only [Prod.mk.injEq] at e
            obtain ⟨rfl, rfl, rfl, rfl⟩ := e
            exact ⟨⟨q1, q2⟩, Or.inr (Or.inr (Or.inl ⟨rfl, by omega, a1, a3⟩))⟩
        · split at h
          · unfold zcSit at h
            obtain ⟨a1, a2, h⟩ := zcE_ok b.2 h
            obtain ⟨a3, a4, h⟩ := zcE_ok a2.2 h
            split at h
            · cases h
            · rename_i hq
              obtain ⟨e, q1, q2⟩ := zcSt_ok (i0 := i) (by omega) a4.2 h
              simp only [Prod.mk.injEq] at e
              obtain ⟨rfl, rfl, rfl, rfl⟩ := e
              exact ⟨⟨q1, q2⟩, Or.inr (Or.inr (Or.inr (Or.inl ⟨rfl, by omega, by omega, by omega⟩)))⟩
          · split at h
            · unfold zcYears at h
              obtain ⟨a1, a2, h⟩ := zcE_ok b.2 h
              obtain ⟨e, q1, q2⟩ := zcSt_ok (i0 := i) (by omega) a2.2 h
              simp only [Prod.mk.injEq] at e
              obtain ⟨rfl, rfl, rfl, rfl⟩ := e
              exact ⟨⟨q1, q2⟩, Or.inr (Or.inr (Or.inr (Or.inr ⟨rfl, a1⟩)))⟩
            · cases h
