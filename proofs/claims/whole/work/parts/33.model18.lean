def zao (n : Int) (f g : zR) : Prop := ∀ i, 0 ≤ i → i < n → f i = g i
def zob (n : Int) (f : zR) : Prop := ∀ i, 0 ≤ i → i < n → 0 ≤ f i ∧ f i ≤ 6
theorem zao_up {n : Int} {f g : zR} (h : zao n f g) (a x : Int) : zao n (zup f a x) (zup g a x) := fun i h0 h1 => by
  unfold zup; split
  · rfl
  · exact h i h0 h1
theorem zob_up {n : Int} {f : zR} (h : zob n f) (a : Int) {x : Int} (hx : 0 ≤ x ∧ x ≤ 6) : zob n (zup f a x) := fun i h0 h1 => by
  unfold zup; split
  · exact hx
  · exact h i h0 h1
theorem zpk_b (f : zR) : ∀ k : Nat, -1 ≤ zpk f k ∧ zpk f k < k
  | 0 => by simp [zpk]
  | k + 1 => by
    have := zpk_b f k
    unfold zpk; split <;> omega
theorem zpj_b (f : zR) (k : Int) : ∀ j : Nat, 0 ≤ zpj f k j ∧ zpj f k j ≤ j
  | 0 => by simp [zpj]
  | j + 1 => by
    have := zpj_b f k j
    unfold zpj; split <;> omega
theorem zpk_ag {n : Int} {f g : zR} (h : zao n f g) : ∀ k : Nat, (k : Int) < n → zpk f k = zpk g k
  | 0, _ => rfl
  | k + 1, hk => by
    unfold zpk
    rw [h ((k : Int) + 1) (by omega) (by omega), h k (by omega) (by omega), zpk_ag h k (by omega)]
theorem zpj_ag {n : Int} {f g : zR} (h : zao n f g) {k : Int} (hk : 0 ≤ k ∧ k < n) : ∀ j : Nat, (j : Int) < n → zpj f k j = zpj g k j
  | 0, _ => rfl
  | j + 1, hj => by
    unfold zpj
    rw [h ((j : Int) + 1) (by omega) (by omega), h k hk.1 hk.2, zpj_ag h hk j (by omega)]
theorem zrv_ag {n : Int} : ∀ (m : Nat) {f g : zR} (x y : Int), zao n f g → 0 ≤ x → y < n → zao n (zrv m f x y) (zrv m g x y)
  | 0, f, g, x, y, h, _, _ => h
  | m + 1, f, g, x, y, h, hx, hy => by
    unfold zrv
    by_cases hxy : x < y
    · rw [if_pos hxy, if_pos hxy, h x hx (by omega), h y (by omega) hy]
      exact zrv_ag m _ _ (zao_up (zao_up h _ _) _ _) (by omega) (by omega)
    · rw [if_neg hxy, if_neg hxy]; exact h
theorem zrv_ob {n : Int} : ∀ (m : Nat) {f : zR} (x y : Int), zob n f → 0 ≤ x → y < n → zob n (zrv m f x y)
  | 0, f, x, y, h, _, _ => h
  | m + 1, f, x, y, h, hx, hy => by
    unfold zrv
    by_cases hxy : x < y
    · rw [if_pos hxy]
      exact zrv_ob m _ _ (zob_up (zob_up h _ (h y (by omega) hy)) _ (h x hx (by omega))) (by omega) (by omega)
    · rw [if_neg hxy]; exact h
theorem znt_ag {n : Nat} {f g : zR} (h : zao n f g) {k j : Int} (hk : 0 ≤ k ∧ k < n) (hj : 0 ≤ j ∧ j < n) : zao n (znt n f k j) (znt n g k j) := by
  unfold znt
  rw [h k hk.1 hk.2, h j hj.1 hj.2]
  exact zrv_ag 7 _ _ (zao_up (zao_up h _ _) _ _) (by omega) (by omega)
theorem znt_ob {n : Nat} {f : zR} (h : zob n f) {k j : Int} (hk : 0 ≤ k ∧ k < n) (hj : 0 ≤ j ∧ j < n) : zob n (znt n f k j) :=
  zrv_ob 7 _ _ (zob_up (zob_up h _ (h j hj.1 hj.2)) _ (h k hk.1 hk.2)) (by omega) (by omega)
/-- the row f as the list l -/
def zol (n : Nat) (l : List Nat) (f : zR) : Prop := l.length = n ∧ zao n f (zfo l) ∧ zob n f
theorem zfo_map (g : Nat → Nat) {n : Nat} {i : Int} (hi : i.toNat < n) : zfo ((List.range n).map g ++ []) i = ((g i.toNat : Nat) : Int) := by
  unfold zfo
  rw [List.append_nil, List.getD_eq_getElem?_getD, List.getElem?_map, List.getElem?_range hi]
  rfl
theorem znq_none {n : Nat} {l : List Nat} {f : zR} (hn : 0 < n ∧ n < 8) (h : zol n l f) (hk : zpk f (n - 1) = -1) : znq n l = none := by
  unfold znq
  rw [zfc_eq, ← zpk_ag h.2.1 (n - 1) (by omega), hk]; rfl
theorem znq_some {n : Nat} {l : List Nat} {f : zR} (hn : 0 < n ∧ n < 8) (h : zol n l f) (hk : zpk f (n - 1) ≠ -1) : ∃ l', znq n l = some l' ∧ zol n l' (znt n f (zpk f (n - 1)) (zpj f (zpk f (n - 1)) (n - 1))) := by
  have b := zpk_b f (n - 1)
  have b2 := zpj_b f (zpk f (n - 1)) (n - 1)
  have e1 : (((zpk f (n - 1) + 1).toNat : Nat) : Int) - 1 = zpk f (n - 1) := by omega
  have e2 : (((zpj f (zpk f (n - 1)) (n - 1)).toNat : Nat) : Int) = zpj f (zpk f (n - 1)) (n - 1) := by omega
  refine ⟨_, by
    unfold znq
    rw [zfc_eq, ← zpk_ag h.2.1 (n - 1) (by omega), if_neg (by omega), zfc_eq, e1, ← zpj_ag h.2.1 (k := zpk f (n - 1)) (by omega) (n - 1) (by omega), e2, zfL_eq], ?_⟩
  have ob := znt_ob h.2.2 (k := zpk f (n - 1)) (j := zpj f (zpk f (n - 1)) (n - 1)) (by omega) (by omega)
  have ag := znt_ag h.2.1 (k := zpk f (n - 1)) (j := zpj f (zpk f (n - 1)) (n - 1)) (by omega) (by omega)
  refine ⟨by simp, fun i h0 h1 => ?_, ob⟩
  have hi : i.toNat < n := by omega
  have b3 := ob i h0 h1
  rw [zfo_map (fun i : Nat => (znt n (zfo l) (zpk f (n - 1)) (zpj f (zpk f (n - 1)) (n - 1)) (i : Int)).toNat) hi]
  show _ = (((znt n (zfo l) (zpk f (n - 1)) (zpj f (zpk f (n - 1)) (n - 1)) ((i.toNat : Nat) : Int)).toNat : Nat) : Int)
  rw [show ((i.toNat : Nat) : Int) = i by omega, ← ag i h0 h1]
  omega
theorem zpk_le (f : zR) : ∀ k : Nat, 0 ≤ zpk f k → f (zpk f k) ≤ f (zpk f k + 1)
  | 0, h => by simp [zpk] at h
  | k + 1, h => by
    unfold zpk at h ⊢
    split
    · rename_i q
      rw [if_pos q] at h
      exact zpk_le f k h
    · omega
theorem lpK_X6_nextOrder {l : Launch} {d : Nat} {σ : zMem} {n : Nat} {f : zR} (hn : 0 < n ∧ n < 8) (hob : zob n f) {Q : Option Value → zMem → Prop} {K : Int} (hx : zw l d mX6_nextOrder 31 [some (.ref 217), some (.int (zI ((n : Int)))), some (.int (zI K)), none, none, none, none] [] (zwa σ 226 f) Q) : ∀ kk : Nat, kk < n → zpk f kk = K → zw l d mX6_nextOrder 4 [some (.ref 217), some (.int (zI ((n : Int)))), some (.int (zI ((kk : Int) - 1))), none, none, none, none] [] (zwa σ 226 f) Q := by
  intro kk
  induction kk with
  | zero =>
    intro h1 h2
    obtain rfl : -1 = K := h2
    refine zw_iload_n 5 dX6_nextOrder_4 rfl rfl ?_
    refine zw_if_lt 31 8 dX6_nextOrder_5 (by decide) rfl (by simp) (fun h5 => ?_) (fun h5 => ?_)
    · exact hx
    · exfalso; simp at h5
  | succ kk ih =>
    intro h1 h2
    have a9 : zwa σ 226 f 226 = f := zwa_same _ _ _
    have b1 := hob kk (by omega) (by omega)
    have b2 := hob (kk + 1) (by omega) (by omega)
    have e0 : (((kk + 1 : Nat) : Int)) - 1 = (kk : Int) := by omega
    rw [e0]
    unfold zpk at h2
    refine zw_iload_n 5 dX6_nextOrder_4 rfl rfl ?_
    refine zw_if_lt 31 8 dX6_nextOrder_5 (by decide) rfl (by omega) (fun h5 => ?_) (fun h5 => ?_)
    · first
        | (exfalso; omega)
        | (rw [if_neg (show ¬ f ((kk : Int) + 1) < f kk by omega)] at h2; subst h2; exact hx)
    · refine zw_aload_n 9 dX6_nextOrder_8 rfl rfl ?_
      refine zw_getr 12 (226) (o := 9) dX6_nextOrder_9 rfl fX6_39 (by decide) rfl rfl ly217 ?_
      refine zw_iload_n 13 dX6_nextOrder_12 rfl rfl ?_
      refine zw_iald 14 dX6_nextOrder_13 rfl ly226 (by omega) ?_
      rw [a9]
      refine zw_aload_n 15 dX6_nextOrder_14 rfl rfl ?_
      refine zw_getr 18 (226) (o := 9) dX6_nextOrder_15 rfl fX6_39 (by decide) rfl rfl ly217 ?_
      refine zw_iload_n 19 dX6_nextOrder_18 rfl rfl ?_
      refine zw_iconst 20 dX6_nextOrder_19 rfl ?_
      refine zw_iadd 21 dX6_nextOrder_20 rfl ?_
      refine zw_iald 22 dX6_nextOrder_21 rfl ly226 (by omega) ?_
      rw [a9]
      refine zw_icmp_le 31 25 dX6_nextOrder_22 (by decide) rfl (by omega) (by omega) (fun h22 => ?_) (fun h22 => ?_)
      · first
          | (exfalso; omega)
          | (rw [if_neg (show ¬ f ((kk : Int) + 1) < f kk by omega)] at h2; subst h2; exact hx)
      · refine zw_iinc 28 dX6_nextOrder_25 rfl (by decide) rfl ?_
        refine zw_goto 4 dX6_nextOrder_28 (by decide) ?_
        refine zw_loc [true, true, true, false, false, false, false] rfl ?_
        rw [if_pos (show f ((kk : Int) + 1) < f kk by omega)] at h2
        have ih2 := ih (by omega) h2
        rw [show (kk : Int) - 1 = (kk : Int) + -1 by omega] at ih2
        exact ih2
theorem lpJ_X6_nextOrder {l : Launch} {d : Nat} {σ : zMem} {n : Nat} {f : zR} (hn : 0 < n ∧ n < 8) (hob : zob n f) {k : Int} (hk : 0 ≤ k ∧ k + 1 < n) (hle : f k ≤ f (k + 1)) {Q : Option Value → zMem → Prop} {J : Int} (hx : zw l d mX6_nextOrder 62 [some (.ref 217), some (.int (zI ((n : Int)))), some (.int (zI k)), some (.int (zI J)), none, none, none] [] (zwa σ 226 f) Q) : ∀ jj : Nat, jj < n → k + 1 ≤ jj → zpj f k jj = J → zw l d mX6_nextOrder 41 [some (.ref 217), some (.int (zI ((n : Int)))), some (.int (zI k)), some (.int (zI ((jj : Int)))), none, none, none] [] (zwa σ 226 f) Q := by
  intro jj
  induction jj with
  | zero => intro h1 h2; omega
  | succ jj ih =>
    intro h1 h2 h3
    have a9 : zwa σ 226 f 226 = f := zwa_same _ _ _
    have b1 := hob k (by omega) (by omega)
    have b2 := hob (jj + 1) (by omega) (by omega)
    have e0 : (((jj + 1 : Nat) : Int)) = (jj : Int) + 1 := by omega
    rw [e0]
    unfold zpj at h3
    refine zw_aload_n 42 dX6_nextOrder_41 rfl rfl ?_
    refine zw_getr 45 (226) (o := 9) dX6_nextOrder_42 rfl fX6_39 (by decide) rfl rfl ly217 ?_
    refine zw_iload_n 46 dX6_nextOrder_45 rfl rfl ?_
    refine zw_iald 47 dX6_nextOrder_46 rfl ly226 (by omega) ?_
    rw [a9]
    refine zw_aload_n 48 dX6_nextOrder_47 rfl rfl ?_
    refine zw_getr 51 (226) (o := 9) dX6_nextOrder_48 rfl fX6_39 (by decide) rfl rfl ly217 ?_
    refine zw_iload_n 52 dX6_nextOrder_51 rfl rfl ?_
    refine zw_iald 53 dX6_nextOrder_52 rfl ly226 (by omega) ?_
    rw [a9]
    refine zw_icmp_ge 62 56 dX6_nextOrder_53 (by decide) rfl (by omega) (by omega) (fun h53 => ?_) (fun h53 => ?_)
    · rw [if_neg (show ¬ f ((jj : Int) + 1) < f k by omega)] at h3; subst h3; exact hx
    · refine zw_iinc 59 dX6_nextOrder_56 rfl (by decide) rfl ?_
      refine zw_goto 41 dX6_nextOrder_59 (by decide) ?_
      refine zw_loc [true, true, true, true, false, false, false] rfl ?_
      rw [if_pos (show f ((jj : Int) + 1) < f k by omega)] at h3
      have hne : (jj : Int) ≠ k := fun q => by rw [q] at h53; omega
      have ih2 := ih (by omega) (by omega) h3
      rw [show (jj : Int) = (jj : Int) + 1 + -1 by omega] at ih2
      exact ih2
theorem lpR_X6_nextOrder {l : Launch} {d : Nat} {σ : zMem} {n : Nat} (hn : 0 < n ∧ n < 8) {F : zR} {Q : Option Value → zMem → Prop} (hq : Q (some (.int (zI 1))) (zwa σ 226 F)) : ∀ (m : Nat) (f : zR) (x y : Int), zob n f → 0 ≤ x → x ≤ 7 → -2 ≤ y → y < n → y - x ≤ 2 * m → zrv m f x y = F → zw l d mX6_nextOrder 100 [some (.ref 217), some (.int (zI ((n : Int)))), none, none, none, some (.int (zI x)), some (.int (zI y))] [] (zwa σ 226 f) Q := by
  intro m
  induction m with
  | zero =>
    intro f x y hob h1 h1b h2a h2 h3 h4
    obtain rfl : f = F := h4
    refine zw_iload 102 dX6_nextOrder_100 rfl rfl ?_
    refine zw_iload 104 dX6_nextOrder_102 rfl rfl ?_
    refine zw_icmp_ge 148 107 dX6_nextOrder_104 (by decide) rfl (by omega) (by omega) (fun h104 => ?_) (fun h104 => ?_)
    · refine zw_iconst 149 dX6_nextOrder_148 rfl ?_
      refine zw_zret dX6_nextOrder_149 rfl (by omega) ?_
      exact hq
    · exfalso; omega
  | succ m ih =>
    intro f x y hob h1 h1b h2a h2 h3 h4
    have a9 : zwa σ 226 f 226 = f := zwa_same _ _ _
    unfold zrv at h4
    refine zw_iload 102 dX6_nextOrder_100 rfl rfl ?_
    refine zw_iload 104 dX6_nextOrder_102 rfl rfl ?_
    refine zw_icmp_ge 148 107 dX6_nextOrder_104 (by decide) rfl (by omega) (by omega) (fun h104 => ?_) (fun h104 => ?_)
    · rw [if_neg (Int.not_lt.mpr h104)] at h4
      subst h4
      refine zw_iconst 149 dX6_nextOrder_148 rfl ?_
      refine zw_zret dX6_nextOrder_149 rfl (by omega) ?_
      exact hq
    · rw [if_pos h104] at h4
      refine zw_aload_n 108 dX6_nextOrder_107 rfl rfl ?_
      refine zw_getr 111 (226) (o := 9) dX6_nextOrder_108 rfl fX6_39 (by decide) rfl rfl ly217 ?_
      refine zw_iload 113 dX6_nextOrder_111 rfl rfl ?_
      refine zw_iald 114 dX6_nextOrder_113 rfl ly226 (by omega) ?_
      rw [a9]
      refine zw_istore 116 dX6_nextOrder_114 rfl (by decide) ?_
      refine zw_aload_n 117 dX6_nextOrder_116 rfl rfl ?_
      refine zw_getr 120 (226) (o := 9) dX6_nextOrder_117 rfl fX6_39 (by decide) rfl rfl ly217 ?_
      refine zw_iload 122 dX6_nextOrder_120 rfl rfl ?_
      refine zw_aload_n 123 dX6_nextOrder_122 rfl rfl ?_
      refine zw_getr 126 (226) (o := 9) dX6_nextOrder_123 rfl fX6_39 (by decide) rfl rfl ly217 ?_
      refine zw_iload 128 dX6_nextOrder_126 rfl rfl ?_
      refine zw_iald 129 dX6_nextOrder_128 rfl ly226 (by omega) ?_
      rw [a9]
      refine zw_iast 130 dX6_nextOrder_129 rfl ly226 (by omega) ?_
      rw [zwr_wa]
      refine zw_aload_n 131 dX6_nextOrder_130 rfl rfl ?_
      refine zw_getr 134 (226) (o := 9) dX6_nextOrder_131 rfl fX6_39 (by decide) rfl rfl ly217 ?_
      refine zw_iload 136 dX6_nextOrder_134 rfl rfl ?_
      refine zw_iload 138 dX6_nextOrder_136 rfl rfl ?_
      refine zw_iast 139 dX6_nextOrder_138 rfl ly226 (by omega) ?_
      rw [zwr_wa]
      refine zw_iinc 142 dX6_nextOrder_139 rfl (by decide) rfl ?_
      refine zw_iinc 145 dX6_nextOrder_142 rfl (by decide) rfl ?_
      refine zw_goto 100 dX6_nextOrder_145 (by decide) ?_
      refine zw_loc [true, true, false, false, false, true, true] rfl ?_
      exact ih _ (x + 1) (y + -1) (zob_up (zob_up hob _ (hob y (by omega) h2)) _ (hob x h1 (by omega))) (by omega) (by omega) (by omega) (by omega) (by omega) (by rw [show y + -1 = y - 1 by omega]; exact h4)
theorem sp_X6_nextOrder {l : Launch} {d : Nat} {σ : zMem} {n : Nat} {f : zR} (hn : 0 < n ∧ n < 8) (hob : zob n f)  : zSp l d mX6_nextOrder [.ref 217, .int (zI ((n : Int)))] (zwa σ 226 f) (fun a σ1 => ∃ v g, a = some (.int (zI v)) ∧ σ1 = zwa σ 226 g ∧ ((v = 0 ∧ zpk f (n - 1) = -1 ∧ g = f) ∨ (v = 1 ∧ zpk f (n - 1) ≠ -1 ∧ g = znt n f (zpk f (n - 1)) (zpj f (zpk f (n - 1)) (n - 1))))) := by
  refine zSp_of oX6_nextOrder (Nat.le_of_ble_eq_true rfl) ?_
  show zw l d mX6_nextOrder 0 [some (.ref 217), some (.int (zI ((n : Int)))), none, none, none, none, none] [] (zwa σ 226 f) _
  have a9 : zwa σ 226 f 226 = f := zwa_same _ _ _
  have hkb := zpk_b f (n - 1)
  have hjb := zpj_b f (zpk f (n - 1)) (n - 1)
  have hle := zpk_le f (n - 1)
  have e1 : (n : Int) - 2 = ((n - 1 : Nat) : Int) - 1 := by omega
  have e2 : (n : Int) - 1 = ((n - 1 : Nat) : Int) := by omega
  refine zw_iload_n 1 dX6_nextOrder_0 rfl rfl ?_
  refine zw_iconst 2 dX6_nextOrder_1 rfl ?_
  refine zw_isub 3 dX6_nextOrder_2 rfl ?_
  refine zw_istore_n 4 dX6_nextOrder_3 rfl (by decide) ?_
  rw [e1]
  refine lpK_X6_nextOrder hn hob ?_ (n - 1) (by omega) rfl
  refine zw_iload_n 32 dX6_nextOrder_31 rfl rfl ?_
  refine zw_if_ge 37 35 dX6_nextOrder_32 (by decide) rfl (by omega) (fun h32 => ?_) (fun h32 => ?_)
  · refine zw_iload_n 38 dX6_nextOrder_37 rfl rfl ?_
    refine zw_iconst 39 dX6_nextOrder_38 rfl ?_
    refine zw_isub 40 dX6_nextOrder_39 rfl ?_
    refine zw_istore_n 41 dX6_nextOrder_40 rfl (by decide) ?_
    rw [e2]
    refine lpJ_X6_nextOrder hn hob (k := zpk f (n - 1)) (by omega) (hle (by omega)) ?_ (n - 1) (by omega) (by omega) rfl
    refine zw_aload_n 63 dX6_nextOrder_62 rfl rfl ?_
    refine zw_getr 66 (226) (o := 9) dX6_nextOrder_63 rfl fX6_39 (by decide) rfl rfl ly217 ?_
    refine zw_iload_n 67 dX6_nextOrder_66 rfl rfl ?_
    refine zw_iald 68 dX6_nextOrder_67 rfl ly226 (by omega) ?_
    rw [a9]
    refine zw_istore 70 dX6_nextOrder_68 rfl (by decide) ?_
    refine zw_aload_n 71 dX6_nextOrder_70 rfl rfl ?_
    refine zw_getr 74 (226) (o := 9) dX6_nextOrder_71 rfl fX6_39 (by decide) rfl rfl ly217 ?_
    refine zw_iload_n 75 dX6_nextOrder_74 rfl rfl ?_
    refine zw_aload_n 76 dX6_nextOrder_75 rfl rfl ?_
    refine zw_getr 79 (226) (o := 9) dX6_nextOrder_76 rfl fX6_39 (by decide) rfl rfl ly217 ?_
    refine zw_iload_n 80 dX6_nextOrder_79 rfl rfl ?_
    refine zw_iald 81 dX6_nextOrder_80 rfl ly226 (by omega) ?_
    rw [a9]
    refine zw_iast 82 dX6_nextOrder_81 rfl ly226 (by omega) ?_
    rw [zwr_wa]
    refine zw_aload_n 83 dX6_nextOrder_82 rfl rfl ?_
    refine zw_getr 86 (226) (o := 9) dX6_nextOrder_83 rfl fX6_39 (by decide) rfl rfl ly217 ?_
    refine zw_iload_n 87 dX6_nextOrder_86 rfl rfl ?_
    refine zw_iload 89 dX6_nextOrder_87 rfl rfl ?_
    refine zw_iast 90 dX6_nextOrder_89 rfl ly226 (by omega) ?_
    rw [zwr_wa]
    refine zw_iload_n 91 dX6_nextOrder_90 rfl rfl ?_
    refine zw_iconst 92 dX6_nextOrder_91 rfl ?_
    refine zw_iadd 93 dX6_nextOrder_92 rfl ?_
    refine zw_istore 95 dX6_nextOrder_93 rfl (by decide) ?_
    refine zw_iload_n 96 dX6_nextOrder_95 rfl rfl ?_
    refine zw_iconst 97 dX6_nextOrder_96 rfl ?_
    refine zw_isub 98 dX6_nextOrder_97 rfl ?_
    refine zw_istore 100 dX6_nextOrder_98 rfl (by decide) ?_
    refine zw_loc [true, true, false, false, false, true, true] rfl ?_
    exact lpR_X6_nextOrder hn ⟨_, _, rfl, rfl, Or.inr ⟨rfl, by omega, rfl⟩⟩ 7 _ _ _ (zob_up (zob_up hob _ (hob _ (by omega) (by omega))) _ (hob _ (by omega) (by omega))) (by omega) (by omega) (by omega) (by omega) (by omega) rfl
    
  · refine zw_iconst 36 dX6_nextOrder_35 rfl ?_
    refine zw_zret dX6_nextOrder_36 rfl (by omega) ?_
    exact ⟨_, _, rfl, rfl, Or.inl ⟨rfl, by omega, rfl⟩⟩
