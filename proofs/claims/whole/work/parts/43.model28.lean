/-- two rows agree outside of their 399 places -/
def zoo (f g : zR) : Prop := ∀ x, ¬ (0 ≤ x ∧ x < 399) → f x = g x
theorem zcy_oo {f g : zR} (h : zoo f g) : zcy f g 0 0 399 = f := by
  funext x
  unfold zcy
  by_cases q : 0 ≤ x ∧ x < 0 + 399
  · rw [if_pos q, show (0 : Int) + (x - 0) = x by omega]
  · rw [if_neg q]; exact (h x (by omega)).symm
theorem zcy_at (f g : zR) (i : Int) : zcy f g 0 0 i i = g i := by unfold zcy; rw [if_neg (by omega)]
/-- rows 218 and 219 -/
def zM3 (σ : zMem) (f g : zR) : zMem := zwa (zwa σ 218 f) 219 g
theorem zM3_218 (σ : zMem) (f g : zR) : zM3 σ f g 218 = f := by unfold zM3; rw [zwa_ne _ _ (by decide), zwa_same]
theorem zM3_219 (σ : zMem) (f g : zR) : zM3 σ f g 219 = g := zwa_same _ _ _
theorem zM3_ne (σ : zMem) (f g : zR) {b : Nat} (h1 : b ≠ 218) (h2 : b ≠ 219) : zM3 σ f g b = σ b := by unfold zM3; rw [zwa_ne _ _ h2, zwa_ne _ _ h1]
theorem zM3_id (σ : zMem) : zM3 σ (σ 218) (σ 219) = σ := by unfold zM3; rw [zwa_id, zwa_id]
theorem zM3_a (σ : zMem) (f g x : zR) : zwa (zM3 σ f g) 218 x = zM3 σ x g := by unfold zM3; rw [zwa_comm _ _ _ (by decide), zwa_twice]
theorem zM3_b (σ : zMem) (f g x : zR) : zwa (zM3 σ f g) 219 x = zM3 σ f x := by unfold zM3; rw [zwa_twice]
theorem zM3_r (σ : zMem) (f g : zR) (i x : Int) : zwr (zM3 σ f g) 218 i x = zM3 σ (zup f i x) g := by unfold zwr; rw [zM3_218, zM3_a]
theorem zM3_s (σ : zMem) (f g : zR) (i x : Int) : zwr (zM3 σ f g) 219 i x = zM3 σ f (zup g i x) := by unfold zwr; rw [zM3_219, zM3_b]
theorem zM3_3 (σ : zMem) (f g f' g' : zR) : zM3 (zM3 σ f g) f' g' = zM3 σ f' g' := by
  rw [zM3, zM3_a, zM3_b]
theorem lp_X6_swapsRows {l : Launch} {d : Nat} {σ : zMem} {N R : zR} (ho : zoo N R) : ∀ (m : Nat) (i : Int), i + m = 399 → 0 ≤ i → zw l d mX6_swapsRows 2 [some (.ref 217), some (.int (zI i)), none] [] (zM3 σ (zcy R N 0 0 i) (zcy N R 0 0 i)) (zRv (zM3 σ R N)) := by
  intro m
  induction m with
  | zero =>
    intro i h1 h2
    obtain rfl : i = 399 := by omega
    rw [zcy_oo ho, zcy_oo (fun x hx => (ho x hx).symm)]
    refine zw_iload_n 3 dX6_swapsRows_2 rfl rfl ?_
    refine zw_sipush 6 dX6_swapsRows_3 rfl (by decide) ?_
    refine zw_icmp_ge 41 9 dX6_swapsRows_6 (by decide) rfl (by omega) (by omega) (fun h6 => ?_) (fun h6 => ?_)
    · refine zw_vret dX6_swapsRows_41 rfl ?_
      exact ⟨rfl, rfl⟩
    · exfalso; omega
  | succ m ih =>
    intro i h1 h2
    have s1 := zcy_s R N 0 0 i h2
    have s2 := zcy_s N R 0 0 i h2
    rw [show (0 : Int) + i = i by omega] at s1 s2
    have ih2 := ih (i + 1) (by omega) (by omega)
    rw [← s1, ← s2] at ih2
    refine zw_iload_n 3 dX6_swapsRows_2 rfl rfl ?_
    refine zw_sipush 6 dX6_swapsRows_3 rfl (by decide) ?_
    refine zw_icmp_ge 41 9 dX6_swapsRows_6 (by decide) rfl (by omega) (by omega) (fun h6 => ?_) (fun h6 => ?_)
    · exfalso; omega
    · refine zw_aload_n 10 dX6_swapsRows_9 rfl rfl ?_
      refine zw_getr 13 (218) (o := 1) dX6_swapsRows_10 rfl fX6_7 (by decide) rfl rfl ly217 ?_
      refine zw_iload_n 14 dX6_swapsRows_13 rfl rfl ?_
      refine zw_iald 15 dX6_swapsRows_14 rfl ly218 (by omega) ?_
      rw [zM3_218, zcy_at]
      refine zw_istore_n 16 dX6_swapsRows_15 rfl (by decide) ?_
      refine zw_aload_n 17 dX6_swapsRows_16 rfl rfl ?_
      refine zw_getr 20 (218) (o := 1) dX6_swapsRows_17 rfl fX6_7 (by decide) rfl rfl ly217 ?_
      refine zw_iload_n 21 dX6_swapsRows_20 rfl rfl ?_
      refine zw_aload_n 22 dX6_swapsRows_21 rfl rfl ?_
      refine zw_getr 25 (219) (o := 2) dX6_swapsRows_22 rfl fX6_13 (by decide) rfl rfl ly217 ?_
      refine zw_iload_n 26 dX6_swapsRows_25 rfl rfl ?_
      refine zw_iald 27 dX6_swapsRows_26 rfl ly219 (by omega) ?_
      rw [zM3_219, zcy_at]
      refine zw_iast 28 dX6_swapsRows_27 rfl ly218 (by omega) ?_
      rw [zM3_r]
      refine zw_aload_n 29 dX6_swapsRows_28 rfl rfl ?_
      refine zw_getr 32 (219) (o := 2) dX6_swapsRows_29 rfl fX6_13 (by decide) rfl rfl ly217 ?_
      refine zw_iload_n 33 dX6_swapsRows_32 rfl rfl ?_
      refine zw_iload_n 34 dX6_swapsRows_33 rfl rfl ?_
      refine zw_iast 35 dX6_swapsRows_34 rfl ly219 (by omega) ?_
      rw [zM3_s]
      refine zw_iinc 38 dX6_swapsRows_35 rfl (by decide) rfl ?_
      refine zw_goto 2 dX6_swapsRows_38 (by decide) ?_
      refine zw_loc [true, true, false] rfl ?_
      exact ih2
theorem sp_X6_swapsRows {l : Launch} {d : Nat} {σ : zMem} {N R : zR} (ho : zoo N R) : zSp l d mX6_swapsRows [.ref 217] (zM3 σ N R) (zRv (zM3 σ R N)) := by
  refine zSp_of oX6_swapsRows (Nat.le_of_ble_eq_true rfl) ?_
  show zw l d mX6_swapsRows 0 [some (.ref 217), none, none] [] (zM3 σ N R) _
  refine zw_iconst 1 dX6_swapsRows_0 rfl ?_
  refine zw_istore_n 2 dX6_swapsRows_1 rfl (by decide) ?_
  have h := lp_X6_swapsRows (l := l) (d := d) (σ := σ) ho 399 0 (by omega) (by omega)
  rw [zcy_0, zcy_0] at h
  exact h
