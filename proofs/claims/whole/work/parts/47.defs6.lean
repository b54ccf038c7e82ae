theorem zwe_b (tx : zR) (n : Int) : ∀ (m : Nat) (i : Int), i ≤ n → i ≤ zwe tx n m i ∧ zwe tx n m i ≤ n
  | 0, i, h => ⟨Int.le_refl _, h⟩
  | m + 1, i, h => by
    unfold zwe
    by_cases q : zil tx n i = 1
    · have := zil_1 q
      rw [if_pos q]; have := zwe_b tx n m (i + 1) (by omega); omega
    · rw [if_neg q]; omega
theorem zge_b (tx : zR) (n : Int) : ∀ (m : Nat) (i : Int), i ≤ n → i ≤ zge tx n m i ∧ zge tx n m i ≤ n
  | 0, i, h => ⟨Int.le_refl _, h⟩
  | m + 1, i, h => by
    unfold zge
    by_cases q : zig tx n i = 1
    · have : i < n := by
        unfold zig at q
        by_cases q2 : i < n ∧ 48 ≤ tx i ∧ tx i ≤ 57
        · exact q2.1
        · rw [if_neg q2] at q; omega
      rw [if_pos q]; have := zge_b tx n m (i + 1) (by omega); omega
    · rw [if_neg q]; omega
theorem zTb_b (tx : zR) {n i : Int} (h : i ≤ n) : i ≤ zTb tx n i ∧ zTb tx n i ≤ n := zsk_b tx n _ i h
theorem zTe_b (tx : zR) {n i : Int} (h : i ≤ n) : i ≤ zTe tx n i ∧ zTe tx n i ≤ n := by
  have b := zTb_b tx h
  have w : zTb tx n i ≤ zTw tx n i ∧ zTw tx n i ≤ n := zwe_b tx n _ _ b.2
  have g : zTb tx n i ≤ zTg tx n i ∧ zTg tx n i ≤ n := zge_b tx n _ _ b.2
  unfold zTe
  split
  · omega
  · split
    · omega
    · split <;> omega
theorem zTk_3 {tx : zR} {n i : Int} (hi : i ≤ n) (h : zTk tx n i = 3) : i < zTe tx n i := by
  have b := zTb_b tx hi
  unfold zTk at h
  unfold zTe
  split at h
  · omega
  · rename_i q1
    rw [if_neg q1]
    split at h
    · omega
    · rename_i q2
      rw [if_neg q2]
      split at h
      · split at h <;> omega
      · rename_i q3
        rw [if_neg q3]; omega
theorem zrE_m {tx : zR} {n i lo hi j : Int} {K : Int → Int → Except Int (Int × zR)} {r : zR} (hi0 : i ≤ n) (hK : ∀ i1 v, i1 ≤ n → K i1 v = .ok (j, r) → i1 ≤ j ∧ j ≤ n) (h : zrE tx n i lo hi K = .ok (j, r)) : i ≤ j ∧ j ≤ n := by
  have b := zTe_b tx hi0
  have := hK _ _ b.2 (zrE_ok h).2
  omega
theorem zok_m {i j n : Int} {r r' : zR} (hi : i ≤ n) (h : (Except.ok (i, r) : Except Int (Int × zR)) = .ok (j, r')) : i ≤ j ∧ j ≤ n := by
  simp only [Except.ok.injEq, Prod.mk.injEq] at h
  omega
theorem zrItem_m {tx : zR} {n i c j : Int} {r r' : zR} (hi : i ≤ n) (h : zrItem tx n i c r = .ok (j, r')) : i ≤ j ∧ j ≤ n := by
  have b := zTe_b tx hi
  have key : zTe tx n i ≤ j ∧ j ≤ n := by
    unfold zrItem at h
    split at h
    · split at h
      · exact zok_m b.2 h
      · cases h
    · split at h
      · cases h
      · split at h
        · unfold zrSeat at h
          split at h
          · cases h
          · exact zrE_m b.2 (fun i1 v1 b1 h1 => zrE_m b1 (fun i2 v2 b2 h2 => zrE_m b2 (fun i3 v3 b3 h3 => zok_m b3 h3) h2) h1) h
        · split at h
          · unfold zrCanon at h
            split at h
            · cases h
            · exact zrE_m b.2 (fun i1 v1 b1 h1 => zrE_m b1 (fun i2 v2 b2 h2 => zok_m b2 h2) h1) h
          · split at h
            · unfold zrSit at h
              exact zrE_m b.2 (fun i1 v1 b1 h1 => zrE_m b1 (fun i2 v2 b2 h2 => by
                split at h2
                · cases h2
                · exact zok_m b2 h2) h1) h
            · split at h
              · exact zrE_m b.2 (fun i1 v1 b1 h1 => zok_m b1 h1) h
              · cases h
  omega
/-- the items from the token at i on, c read before: how many and the row; or where the fault begins -/
def zrLoop (tx : zR) (n : Int) : Nat → Int → Int → zR → Except Int (Int × zR)
  | 0, i, _, _ => .error i
  | m + 1, i, c, r => if zTk tx n i = 0 ∧ c ≠ 0 then .ok (c, r) else
    match zrItem tx n i c r with
    | .error b => .error b
    | .ok (j, r') => if zTk tx n j = 3 then zrLoop tx n m (zTe tx n j) (c + 1) r' else .error (zTb tx n j)
