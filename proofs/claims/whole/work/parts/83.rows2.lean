def zqp (N : zR) (n : Nat) : List Nat → Bool := fun l => decide (zqu N (zfo l) n = 1)
/-- the first cells of the row hold the seats of pre, the last first -/
def zrw (σ : zMem) (pre : List Nat) : Prop := ∀ k : Int, 0 ≤ k → k < pre.length → σ 114 k = zfo pre.reverse k
def zub (u : Nat) (pre : List Nat) : Prop := u < 128 ∧ ∀ s : Nat, s < 7 → (u / 2 ^ s % 2 = 1 ↔ s ∈ pre)
def zrs (n : Nat) (v : Option Value) (σ1 : zMem) : Option (List Nat) → Prop
  | some l => v = some (.int (zI 1)) ∧ ∀ k : Int, 0 ≤ k → k < n → σ1 114 k = zfo l k
  | none => v = some (.int (zI 0))
theorem zsr_ok : ∀ u : Nat, u < 128 → ∀ s : Nat, s < 7 → zI (u : Int) >>> (zI (s : Int) &&& 31) = zI ((u / 2 ^ s : Nat) : Int) ∧ u / 2 ^ s < 128 := by decide +kernel
theorem zub_add {u s : Nat} {pre : List Nat} (h : zub u pre) (hs : s < 7) (h0 : u / 2 ^ s % 2 = 0) : zub (u + 2 ^ s) (s :: pre) := by
  refine ⟨(zuo_ok u h.1 s hs h0).2, fun k hk => ?_⟩
  rw [zub_ok u h.1 s hs h0 k hk]
  by_cases q : k = s
  · rw [if_pos q, q]; exact ⟨fun _ => List.mem_cons_self, fun _ => rfl⟩
  · rw [if_neg q, h.2 k hk]
    constructor
    · exact fun z => List.mem_cons_of_mem _ z
    · intro z
      rcases List.mem_cons.mp z with z | z
      · omega
      · exact z
theorem zqu_mn (N f : zR) : ∀ (m q : Nat), zqu N f (q + m) = 1 → zqu N f q = 1
  | 0, q, h => h
  | m + 1, q, h => by
    refine zqu_mn N f m q ?_
    match hq : q + m with
    | 0 => rfl
    | r + 1 =>
      rw [show q + (m + 1) = r + 2 by omega] at h
      unfold zqu at h
      by_cases c : zqu N f (r + 1) = 1 ∧ N (41 + f ((r : Int) + 1)) ≠ N (41 + f r)
      · exact c.1
      · rw [if_neg c] at h; omega
theorem zqu_st {N f : zR} {r : Nat} (h : zqu N f (r + 2) = 1) : N (41 + f ((r : Int) + 1)) ≠ N (41 + f r) := by
  unfold zqu at h
  by_cases c : zqu N f (r + 1) = 1 ∧ N (41 + f ((r : Int) + 1)) ≠ N (41 + f r)
  · exact c.2
  · rw [if_neg c] at h; omega
theorem zpd_pre (n : Nat) : ∀ (m : Nat) (pre l : List Nat), l ∈ zpd n m pre → ∃ t, l = pre.reverse ++ t
  | 0, pre, l, h => ⟨[], by rw [List.mem_singleton.mp h, List.append_nil]⟩
  | m + 1, pre, l, h => by
    obtain ⟨v, _, hv⟩ := List.mem_flatMap.mp h
    by_cases c : pre.contains v = true
    · rw [if_pos c] at hv; cases hv
    · rw [if_neg c] at hv
      obtain ⟨t, ht⟩ := zpd_pre n m (v :: pre) l hv
      exact ⟨v :: t, by rw [ht, List.reverse_cons, List.append_assoc]; rfl⟩
theorem zfo_app (a b : List Nat) {k : Int} (h0 : 0 ≤ k) (h : k < a.length) : zfo (a ++ b) k = zfo a k := by
  unfold zfo
  rw [List.getD_eq_getElem?_getD, List.getD_eq_getElem?_getD, List.getElem?_append_left (by omega)]
theorem zfo_top (a b : List Nat) (v : Nat) {k : Int} (h : k = a.length) : zfo (a ++ v :: b) k = (v : Int) := by
  unfold zfo
  rw [List.getD_eq_getElem?_getD, List.getElem?_append_right (by omega), show k.toNat - a.length = 0 by omega]; rfl
theorem zfo_mem (a : List Nat) {k : Int} (h0 : 0 ≤ k) (h : k < a.length) : ∃ x, x ∈ a ∧ zfo a k = (x : Int) := by
  refine ⟨a[k.toNat]'(by omega), List.getElem_mem _, ?_⟩
  unfold zfo
  rw [List.getD_eq_getElem?_getD, List.getElem?_eq_getElem (by omega)]; rfl
def zqk (n m : Nat) (pre : List Nat) (v : Nat) : List (List Nat) := if pre.contains v then [] else zpd n m (v :: pre)
theorem zpd_s (n m : Nat) (pre : List Nat) : zpd n (m + 1) pre = (List.range n).flatMap (zqk n m pre) := rfl
theorem zqk_s (n m : Nat) (pre : List Nat) (j : Nat) : (List.range (j + 1)).flatMap (zqk n m pre) = (List.range j).flatMap (zqk n m pre) ++ zqk n m pre j := by
  rw [List.range_succ, List.flatMap_append]
  congr 1
  show zqk n m pre j ++ [] = _
  rw [List.append_nil]
theorem zqk_no {q : List Nat → Bool} {n m : Nat} {pre : List Nat} {v : Nat} (h : ((List.range v).flatMap (zqk n m pre)).find? q = none) (h2 : (zqk n m pre v).find? q = none) : ((List.range (v + 1)).flatMap (zqk n m pre)).find? q = none := by
  rw [zqk_s, List.find?_append, h, h2]; rfl
theorem zqk_so {q : List Nat → Bool} {n m : Nat} {pre : List Nat} {v : Nat} {l : List Nat} (h : ((List.range v).flatMap (zqk n m pre)).find? q = none) (h2 : (zqk n m pre v).find? q = some l) : ∀ j : Nat, ((List.range (v + 1 + j)).flatMap (zqk n m pre)).find? q = some l
  | 0 => by rw [show v + 1 + 0 = v + 1 by omega, zqk_s, List.find?_append, h, h2]; rfl
  | j + 1 => by rw [show v + 1 + (j + 1) = (v + 1 + j) + 1 by omega, zqk_s, List.find?_append, zqk_so h h2 j]; rfl
/-- pre is quiet, then with v put to it -/
theorem zqu_add {N : zR} {pre : List Nat} {v : Nat} (h : zqu N (zfo pre.reverse) pre.length = 1) (hv : 0 < pre.length → N (41 + zfo pre.reverse ((pre.length : Int) - 1)) ≠ N (41 + (v : Int))) : zqu N (zfo (v :: pre).reverse) (pre.length + 1) = 1 := by
  rw [List.reverse_cons]
  match hp : pre.length with
  | 0 => rfl
  | r + 1 =>
    have hag : zao ((r + 1 : Nat) : Int) (zfo (pre.reverse ++ [v])) (zfo pre.reverse) := fun k k0 k1 => zfo_app _ _ k0 (by rw [List.length_reverse]; omega)
    unfold zqu
    rw [zqu_ag hag (r + 1) (Int.le_refl _), zfo_top _ _ _ (show (r : Int) + 1 = (pre.reverse.length : Int) by rw [List.length_reverse]; omega), zfo_app _ _ (by omega) (by rw [List.length_reverse]; omega)]
    rw [hp] at h hv
    have h2 := hv (by omega)
    rw [show ((r + 1 : Nat) : Int) - 1 = (r : Int) by omega] at h2
    rw [if_pos ⟨h, fun e => h2 e.symm⟩]
/-- what follows a seat that does not fit is not quiet -/
theorem zqk_bad {N : zR} {n m : Nat} {pre : List Nat} {v : Nat} (hl : pre.length + (m + 1) = n) (h0 : 0 < pre.length) (hv : N (41 + zfo pre.reverse ((pre.length : Int) - 1)) = N (41 + (v : Int))) : (zqk n m pre v).find? (zqp N n) = none := by
  rw [List.find?_eq_none]
  intro l hl2
  unfold zqk at hl2
  split at hl2
  · cases hl2
  · obtain ⟨t, ht⟩ := zpd_pre n m _ l hl2
    rw [List.reverse_cons, List.append_assoc] at ht
    intro hq
    have hq2 : zqu N (zfo l) n = 1 := of_decide_eq_true hq
    obtain ⟨r, hr⟩ : ∃ r, pre.length = r + 1 := ⟨pre.length - 1, by omega⟩
    rw [show n = r + 2 + m by omega] at hq2
    have h3 := zqu_st (zqu_mn N (zfo l) m (r + 2) hq2)
    have e1 : zfo l ((r : Int) + 1) = (v : Int) := by
      rw [ht]; exact zfo_top _ _ _ (by rw [List.length_reverse]; omega)
    have e2 : zfo l (r : Int) = zfo pre.reverse ((pre.length : Int) - 1) := by
      rw [ht, zfo_app _ _ (by omega) (by rw [List.length_reverse]; omega)]; congr 1; omega
    rw [e1, e2] at h3
    exact h3 hv.symm
theorem lp_X5_fillOrder {l : Launch} {d : Nat} (hd : 1 ≤ d) {σ : zMem} {N : zR} (hC : zCh σ 2 N) (hV : zVN N) {n : Nat} (hn : (n : Int) = N 33) {m : Nat} {pre : List Nat} {u : Nat} (hl : pre.length + (m + 1) = n) (hp : ∀ x, x ∈ pre → x < n) (hb : zub u pre) (hw : zrw σ pre) (hq : zqu N (zfo pre.reverse) pre.length = 1) (ih : ∀ (σ0 : zMem) (pre0 : List Nat) (u0 : Nat), zCh σ0 2 N → pre0.length + m = n → (∀ x, x ∈ pre0 → x < n) → zub u0 pre0 → zrw σ0 pre0 → zqu N (zfo pre0.reverse) pre0.length = 1 → zSp l (d - 1) mX5_fillOrder [.ref 2, .ref 114, .int (zI (pre0.length : Int)), .int (zI (u0 : Int))] σ0 (fun v σ1 => (∀ b, b ≠ 114 → σ1 b = σ0 b) ∧ (∀ k : Int, 0 ≤ k → k < pre0.length → σ1 114 k = σ0 114 k) ∧ zrs n v σ1 ((zpd n m pre0).find? (zqp N n)))) : ∀ (mm v : Nat), v + mm = n → ∀ σc : zMem, (∀ b, b ≠ 114 → σc b = σ b) → (∀ k : Int, 0 ≤ k → k < pre.length → σc 114 k = σ 114 k) → ((List.range v).flatMap (zqk n m pre)).find? (zqp N n) = none → zw l d mX5_fillOrder 13 [some (.ref 2), some (.ref 114), some (.int (zI ((pre.length : Int)))), some (.int (zI ((u : Int)))), some (.int (zI ((v : Int)))), none] [] σc (fun v σ1 => (∀ b, b ≠ 114 → σ1 b = σ b) ∧ (∀ k : Int, 0 ≤ k → k < pre.length → σ1 114 k = σ 114 k) ∧ zrs n v σ1 ((zpd n (m + 1) pre).find? (zqp N n))) := by
  have hs := hV.1
  have hv := hV.2.1
  have hy := hV.2.2.1
  have hB := zVN_bd hV
  have gN := hs.1
  have gC := hs.2.1
  have c0 : σ 2 0 = N 33 := hC.1.1.1
  have c1 : σ 2 1 = N 48 := hC.1.1.2.1
  have c2 : ∀ s, 0 ≤ s → s < N 33 → σ 3 s = N (34 + s) ∧ σ 4 s = N (41 + s) := hC.1.1.2.2.1
  have c3 : ∀ c, 0 ≤ c → c < N 48 → σ 5 c = N (49 + c) ∧ σ 6 c = N (54 + c) ∧ σ 7 c = zhv (N (49 + c)) (N (54 + c)) := hC.1.1.2.2.2
  have c4 : zSc σ 8 N := hC.1.2.1
  have c41 : ∀ c, 0 ≤ c → c < 5 → σ 9 c = N c := c4.1
  have c42 : ∀ i, 0 ≤ i → i < 20 → σ 10 i = N (5 + i) := c4.2.1
  have c43 : ∀ s, 0 ≤ s → s < 7 → σ 11 s = N (25 + s) := c4.2.2.1
  have c44 : σ 8 0 = N 32 := c4.2.2.2
  have c5 : zRo σ 13 3 59 N := hC.1.2.2.1
  have c6 : zRo σ 15 5 78 N := hC.1.2.2.2.1
  have c7 : zRo σ 17 4 109 N := hC.1.2.2.2.2
  have c8 : σ 2 2 = N 134 := hC.2.1
  have hb5 : ∀ c, 0 ≤ c → c < 5 → -1 ≤ N c ∧ N c < 1000 := fun c h0 h1 => by have := hv.1 c h0 h1; omega
  intro mm
  induction mm with
  | zero =>
    intro v hv σc h1 h2 h3
    obtain rfl : v = n := by omega
    have e0 : σc 2 0 = N 33 := by rw [h1 2 (by decide)]; exact c0
    refine zw_iload 15 dX5_fillOrder_13 rfl rfl ?_
    refine zw_aload_n 16 dX5_fillOrder_15 rfl rfl ?_
    refine zw_gti 19 0 dX5_fillOrder_16 rfl fX5_93 (by decide) rfl rfl ly2 ?_
    rw [e0]
    refine zw_icmp_ge 97 22 dX5_fillOrder_19 (by decide) rfl (by omega) (by omega) (fun h19 => ?_) (fun h19 => ?_)
    · refine zw_iconst 98 dX5_fillOrder_97 rfl ?_
      refine zw_zret dX5_fillOrder_98 rfl (by omega) ?_
      exact ⟨h1, h2, by rw [zpd_s, h3]; rfl⟩
    · exfalso; omega
  | succ mm ihm =>
    intro v hv σc h1 h2 h3
    have e0 : σc 2 0 = N 33 := by rw [h1 2 (by decide)]; exact c0
    have e4 : σc 4 = σ 4 := h1 4 (by decide)
    obtain ⟨w, hw1, hw2⟩ : ∃ w : Int, zfo pre.reverse ((pre.length : Int) - 1) = w ∧ (0 < pre.length → 0 ≤ w ∧ w < n) := by
      refine ⟨_, rfl, fun z => ?_⟩
      obtain ⟨x, hx, ex⟩ := zfo_mem pre.reverse (k := (pre.length : Int) - 1) (by omega) (by rw [List.length_reverse]; omega)
      have := hp x (List.mem_reverse.mp hx)
      rw [ex]; omega
    have e3 : 0 < pre.length → σc 114 ((pre.length : Int) - 1) = w := fun z => by rw [h2 _ (by omega) (by omega), hw _ (by omega) (by omega), hw1]
    have cv := (c2 v (by omega) (by omega)).2
    have bv := hs.s (s := (v : Int)) (by omega) (by omega)
    have bw : 0 < pre.length → 0 ≤ N (41 + w) ∧ N (41 + w) ≤ 60 := fun z => by
      have z2 := hw2 z
      have := hs.s (s := w) (by omega) (by omega)
      omega
    have k91 : ∀ (f : Int) σq, (∀ b, b ≠ 114 → σq b = σ b) → (∀ k : Int, 0 ≤ k → k < pre.length → σq 114 k = σ 114 k) → (zqk n m pre v).find? (zqp N n) = none → zw l d mX5_fillOrder 91 [some (.ref 2), some (.ref 114), some (.int (zI ((pre.length : Int)))), some (.int (zI ((u : Int)))), some (.int (zI ((v : Int)))), some (.int (zI f))] [] σq (fun v σ1 => (∀ b, b ≠ 114 → σ1 b = σ b) ∧ (∀ k : Int, 0 ≤ k → k < pre.length → σ1 114 k = σ 114 k) ∧ zrs n v σ1 ((zpd n (m + 1) pre).find? (zqp N n))) := by
      intro f σq g1 g2 g3
      have ih2 := fun z => ihm (v + 1) (by omega) σq g1 g2 z
      rw [show (((v + 1 : Nat) : Int)) = (v : Int) + 1 by omega] at ih2
      refine zw_iinc 94 dX5_fillOrder_91 rfl (by decide) rfl ?_
      refine zw_goto 13 dX5_fillOrder_94 (by decide) ?_
      refine zw_loc [true, true, true, true, true, false] rfl ?_
      exact ih2 (zqk_no h3 g3)
    have zr := zsr_ok u hb.1 v (by omega)
    have za := zand1_ok (u / 2 ^ v) zr.2
    have hpm := hb.2 v (by omega)
    have hcm : pre.contains v = true ↔ v ∈ pre := List.contains_iff_mem
    have hbad : ∀ z : 0 < pre.length, N (41 + w) = N (41 + (v : Int)) → (zqk n m pre v).find? (zqp N n) = none := fun z e => zqk_bad hl z (by rw [hw1]; exact e)
    have hof : pre.length ≠ 0 → 0 < pre.length := fun z => by omega
    by_cases hm : u / 2 ^ v % 2 = 1
    · have hk : (zqk n m pre v).find? (zqp N n) = none := by
        unfold zqk; rw [if_pos (hcm.mpr (hpm.mp hm))]; rfl
      refine zw_iload 15 dX5_fillOrder_13 rfl rfl ?_
      refine zw_aload_n 16 dX5_fillOrder_15 rfl rfl ?_
      refine zw_gti 19 0 dX5_fillOrder_16 rfl fX5_93 (by decide) rfl rfl ly2 ?_
      rw [e0]
      refine zw_icmp_ge 97 22 dX5_fillOrder_19 (by decide) rfl (by omega) (by omega) (fun hz19 => ?_) (fun hz19 => ?_)
      · exfalso; omega
      · refine zw_iload_n 23 dX5_fillOrder_22 rfl rfl ?_
        refine zw_if_eq 46 26 dX5_fillOrder_23 (by decide) rfl (by omega) (fun hz23 => ?_) (fun hz23 => ?_)
        · refine zw_iconst 47 dX5_fillOrder_46 rfl ?_
          refine zw_goto 51 dX5_fillOrder_47 (by decide) ?_
          refine zw_istore 53 dX5_fillOrder_51 rfl (by decide) ?_
          refine zw_iload 55 dX5_fillOrder_53 rfl rfl ?_
          refine zw_if_eq 91 58 dX5_fillOrder_55 (by decide) rfl (by omega) (fun hz55 => ?_) (fun hz55 => ?_)
          · exact absurd hz55 (by decide)
          · refine zw_iload_n 59 dX5_fillOrder_58 rfl rfl ?_
            refine zw_iload 61 dX5_fillOrder_59 rfl rfl ?_
            refine zw_ishr 62 _ dX5_fillOrder_61 rfl zr.1 ?_
            refine zw_iconst 63 dX5_fillOrder_62 rfl ?_
            refine zw_iand 64 _ dX5_fillOrder_63 rfl za ?_
            refine zw_if_ne 91 67 dX5_fillOrder_64 (by decide) rfl (by omega) (fun hz64 => ?_) (fun hz64 => ?_)
            · refine zw_loc [true, true, true, true, true, true] rfl ?_
              exact k91 _ σc h1 h2 hk
            · exfalso; omega
        · refine zw_aload_n 27 dX5_fillOrder_26 rfl rfl ?_
          refine zw_getr 30 (4) (o := 2) dX5_fillOrder_27 rfl fX5_171 (by decide) rfl rfl ly2 ?_
          refine zw_aload_n 31 dX5_fillOrder_30 rfl rfl ?_
          refine zw_iload_n 32 dX5_fillOrder_31 rfl rfl ?_
          refine zw_iconst 33 dX5_fillOrder_32 rfl ?_
          refine zw_isub 34 dX5_fillOrder_33 rfl ?_
          refine zw_iald 35 dX5_fillOrder_34 rfl ly114 (by omega) ?_
          rw [e3 (by omega)]
          refine zw_iald 36 dX5_fillOrder_35 rfl ly4 (by omega) ?_
          rw [e4, (c2 w (by omega) (by omega)).2]
          refine zw_aload_n 37 dX5_fillOrder_36 rfl rfl ?_
          refine zw_getr 40 (4) (o := 2) dX5_fillOrder_37 rfl fX5_171 (by decide) rfl rfl ly2 ?_
          refine zw_iload 42 dX5_fillOrder_40 rfl rfl ?_
          refine zw_iald 43 dX5_fillOrder_42 rfl ly4 (by omega) ?_
          rw [e4, cv]
          refine zw_icmp_eq 50 46 dX5_fillOrder_43 (by decide) rfl (by omega) (by omega) (fun hz43 => ?_) (fun hz43 => ?_)
          · refine zw_iconst 51 dX5_fillOrder_50 rfl ?_
            refine zw_istore 53 dX5_fillOrder_51 rfl (by decide) ?_
            refine zw_iload 55 dX5_fillOrder_53 rfl rfl ?_
            refine zw_if_eq 91 58 dX5_fillOrder_55 (by decide) rfl (by omega) (fun hz55 => ?_) (fun hz55 => ?_)
            · refine zw_loc [true, true, true, true, true, true] rfl ?_
              exact k91 _ σc h1 h2 hk
            · exact absurd hz55 (by decide)
          · refine zw_iconst 47 dX5_fillOrder_46 rfl ?_
            refine zw_goto 51 dX5_fillOrder_47 (by decide) ?_
            refine zw_istore 53 dX5_fillOrder_51 rfl (by decide) ?_
            refine zw_iload 55 dX5_fillOrder_53 rfl rfl ?_
            refine zw_if_eq 91 58 dX5_fillOrder_55 (by decide) rfl (by omega) (fun hz55 => ?_) (fun hz55 => ?_)
            · exact absurd hz55 (by decide)
            · refine zw_iload_n 59 dX5_fillOrder_58 rfl rfl ?_
              refine zw_iload 61 dX5_fillOrder_59 rfl rfl ?_
              refine zw_ishr 62 _ dX5_fillOrder_61 rfl zr.1 ?_
              refine zw_iconst 63 dX5_fillOrder_62 rfl ?_
              refine zw_iand 64 _ dX5_fillOrder_63 rfl za ?_
              refine zw_if_ne 91 67 dX5_fillOrder_64 (by decide) rfl (by omega) (fun hz64 => ?_) (fun hz64 => ?_)
              · refine zw_loc [true, true, true, true, true, true] rfl ?_
                exact k91 _ σc h1 h2 hk
              · exfalso; omega
    · have hm0 : u / 2 ^ v % 2 = 0 := by omega
      have hk : zqk n m pre v = zpd n m (v :: pre) := by
        unfold zqk; rw [if_neg (fun z => hm (hpm.mpr (hcm.mp z)))]
      have zo := zuo_ok u hb.1 v (by omega) hm0
      have zs := zsh1_ok v (by omega)
      have k67 : ∀ f : Int, (0 < pre.length → N (41 + w) ≠ N (41 + (v : Int))) → zw l d mX5_fillOrder 67 [some (.ref 2), some (.ref 114), some (.int (zI ((pre.length : Int)))), some (.int (zI ((u : Int)))), some (.int (zI ((v : Int)))), some (.int (zI f))] [] σc (fun v σ1 => (∀ b, b ≠ 114 → σ1 b = σ b) ∧ (∀ k : Int, 0 ≤ k → k < pre.length → σ1 114 k = σ 114 k) ∧ zrs n v σ1 ((zpd n (m + 1) pre).find? (zqp N n))) := by
        intro f hf
        have hsp := ih (zwr σc 114 (pre.length : Int) (v : Int)) (v :: pre) (u + 2 ^ v) (zCh_fr (fun b b0 b1 => by rw [zwr_ne _ _ _ (by omega), h1 b (by omega)]) hC) (by rw [List.length_cons]; omega) (fun x hx => by
          rcases List.mem_cons.mp hx with q | q
          · omega
          · exact hp x q) (zub_add hb (by omega) hm0) (fun k k0 k1 => by
          rw [List.length_cons] at k1
          rw [List.reverse_cons]
          by_cases e : k = pre.length
          · rw [e, zwr_same, zfo_top _ _ _ (by rw [List.length_reverse])]
          · rw [zwr_ni _ _ _ (by omega), h2 k k0 (by omega), zfo_app _ _ k0 (by rw [List.length_reverse]; omega)]; exact hw k k0 (by omega)) (by rw [List.length_cons]; exact zqu_add hq (fun z => by rw [hw1]; exact hf z))
        rw [show (((v :: pre).length : Nat) : Int) = (pre.length : Int) + 1 by rw [List.length_cons]; omega] at hsp
        have hf1 : ∀ σq : zMem, (∀ b, b ≠ 114 → σq b = (zwr σc 114 (pre.length : Int) (v : Int)) b) → ∀ b, b ≠ 114 → σq b = σ b := fun σq g b hb0 => by rw [g b hb0, zwr_ne _ _ _ hb0, h1 b hb0]
        have hf2 : ∀ σq : zMem, (∀ k : Int, 0 ≤ k → k < (pre.length : Int) + 1 → σq 114 k = (zwr σc 114 (pre.length : Int) (v : Int)) 114 k) → ∀ k : Int, 0 ≤ k → k < pre.length → σq 114 k = σ 114 k := fun σq g k k0 k1 => by rw [g k k0 (by omega), zwr_ni _ _ _ (by omega), h2 k k0 k1]
        cases ho : (zpd n m (v :: pre)).find? (zqp N n) with
        | none =>
          rw [ho] at hsp
          refine zw_aload_n 68 dX5_fillOrder_67 rfl rfl ?_
          refine zw_iload_n 69 dX5_fillOrder_68 rfl rfl ?_
          refine zw_iload 71 dX5_fillOrder_69 rfl rfl ?_
          refine zw_iast 72 dX5_fillOrder_71 rfl ly114 (by omega) ?_
          refine zw_aload_n 73 dX5_fillOrder_72 rfl rfl ?_
          refine zw_aload_n 74 dX5_fillOrder_73 rfl rfl ?_
          refine zw_iload_n 75 dX5_fillOrder_74 rfl rfl ?_
          refine zw_iconst 76 dX5_fillOrder_75 rfl ?_
          refine zw_iadd 77 dX5_fillOrder_76 rfl ?_
          refine zw_iload_n 78 dX5_fillOrder_77 rfl rfl ?_
          refine zw_iconst 79 dX5_fillOrder_78 rfl ?_
          refine zw_iload 81 dX5_fillOrder_79 rfl rfl ?_
          refine zw_ishl 82 _ dX5_fillOrder_81 rfl zs ?_
          refine zw_ior 83 _ dX5_fillOrder_82 rfl zo.1 ?_
          refine zw_callS 86 _ _ dX5_fillOrder_83 rfl kX5_239 qX5_fillOrder (hsp) (by omega) rfl rfl (Nat.le_of_ble_eq_true rfl) (fun r σ' hq => ?_)
          obtain ⟨q1, q2, rfl⟩ := hq
          refine zw_if_eq 91 89 dX5_fillOrder_86 (by decide) rfl (by omega) (fun hy86 => ?_) (fun hy86 => ?_)
          · refine zw_loc [true, true, true, true, true, true] rfl ?_
            exact k91 _ _ (hf1 _ q1) (hf2 _ q2) (by rw [hk]; exact ho)
          · refine zw_iconst 90 dX5_fillOrder_89 rfl ?_
            refine zw_zret dX5_fillOrder_90 rfl (by omega) ?_
            exfalso; omega
        | some o =>
          rw [ho] at hsp
          have hfin := zqk_so h3 (by rw [hk]; exact ho) (n - v - 1)
          rw [show v + 1 + (n - v - 1) = n by omega, ← zpd_s] at hfin
          refine zw_aload_n 68 dX5_fillOrder_67 rfl rfl ?_
          refine zw_iload_n 69 dX5_fillOrder_68 rfl rfl ?_
          refine zw_iload 71 dX5_fillOrder_69 rfl rfl ?_
          refine zw_iast 72 dX5_fillOrder_71 rfl ly114 (by omega) ?_
          refine zw_aload_n 73 dX5_fillOrder_72 rfl rfl ?_
          refine zw_aload_n 74 dX5_fillOrder_73 rfl rfl ?_
          refine zw_iload_n 75 dX5_fillOrder_74 rfl rfl ?_
          refine zw_iconst 76 dX5_fillOrder_75 rfl ?_
          refine zw_iadd 77 dX5_fillOrder_76 rfl ?_
          refine zw_iload_n 78 dX5_fillOrder_77 rfl rfl ?_
          refine zw_iconst 79 dX5_fillOrder_78 rfl ?_
          refine zw_iload 81 dX5_fillOrder_79 rfl rfl ?_
          refine zw_ishl 82 _ dX5_fillOrder_81 rfl zs ?_
          refine zw_ior 83 _ dX5_fillOrder_82 rfl zo.1 ?_
          refine zw_callS 86 _ _ dX5_fillOrder_83 rfl kX5_239 qX5_fillOrder (hsp) (by omega) rfl rfl (Nat.le_of_ble_eq_true rfl) (fun r σ' hq => ?_)
          obtain ⟨q1, q2, rfl, q3⟩ := hq
          refine zw_if_eq 91 89 dX5_fillOrder_86 (by decide) rfl (by omega) (fun hy86 => ?_) (fun hy86 => ?_)
          · exfalso; omega
          · refine zw_iconst 90 dX5_fillOrder_89 rfl ?_
            refine zw_zret dX5_fillOrder_90 rfl (by omega) ?_
            exact ⟨hf1 _ q1, hf2 _ q2, by rw [hfin]; exact ⟨rfl, q3⟩⟩
      refine zw_iload 15 dX5_fillOrder_13 rfl rfl ?_
      refine zw_aload_n 16 dX5_fillOrder_15 rfl rfl ?_
      refine zw_gti 19 0 dX5_fillOrder_16 rfl fX5_93 (by decide) rfl rfl ly2 ?_
      rw [e0]
      refine zw_icmp_ge 97 22 dX5_fillOrder_19 (by decide) rfl (by omega) (by omega) (fun hz19 => ?_) (fun hz19 => ?_)
      · exfalso; omega
      · refine zw_iload_n 23 dX5_fillOrder_22 rfl rfl ?_
        refine zw_if_eq 46 26 dX5_fillOrder_23 (by decide) rfl (by omega) (fun hz23 => ?_) (fun hz23 => ?_)
        · refine zw_iconst 47 dX5_fillOrder_46 rfl ?_
          refine zw_goto 51 dX5_fillOrder_47 (by decide) ?_
          refine zw_istore 53 dX5_fillOrder_51 rfl (by decide) ?_
          refine zw_iload 55 dX5_fillOrder_53 rfl rfl ?_
          refine zw_if_eq 91 58 dX5_fillOrder_55 (by decide) rfl (by omega) (fun hz55 => ?_) (fun hz55 => ?_)
          · exact absurd hz55 (by decide)
          · refine zw_iload_n 59 dX5_fillOrder_58 rfl rfl ?_
            refine zw_iload 61 dX5_fillOrder_59 rfl rfl ?_
            refine zw_ishr 62 _ dX5_fillOrder_61 rfl zr.1 ?_
            refine zw_iconst 63 dX5_fillOrder_62 rfl ?_
            refine zw_iand 64 _ dX5_fillOrder_63 rfl za ?_
            refine zw_if_ne 91 67 dX5_fillOrder_64 (by decide) rfl (by omega) (fun hz64 => ?_) (fun hz64 => ?_)
            · refine zw_loc [true, true, true, true, true, true] rfl ?_
              first
                | exact k91 _ σc h1 h2 (hbad (by omega) (by omega))
                | (exfalso; omega)
            · refine zw_loc [true, true, true, true, true, true] rfl ?_
              first
                | exact k67 _ (fun z => by omega)
                | exact k67 _ (fun z e => by omega)
        · refine zw_aload_n 27 dX5_fillOrder_26 rfl rfl ?_
          refine zw_getr 30 (4) (o := 2) dX5_fillOrder_27 rfl fX5_171 (by decide) rfl rfl ly2 ?_
          refine zw_aload_n 31 dX5_fillOrder_30 rfl rfl ?_
          refine zw_iload_n 32 dX5_fillOrder_31 rfl rfl ?_
          refine zw_iconst 33 dX5_fillOrder_32 rfl ?_
          refine zw_isub 34 dX5_fillOrder_33 rfl ?_
          refine zw_iald 35 dX5_fillOrder_34 rfl ly114 (by omega) ?_
          rw [e3 (by omega)]
          refine zw_iald 36 dX5_fillOrder_35 rfl ly4 (by omega) ?_
          rw [e4, (c2 w (by omega) (by omega)).2]
          refine zw_aload_n 37 dX5_fillOrder_36 rfl rfl ?_
          refine zw_getr 40 (4) (o := 2) dX5_fillOrder_37 rfl fX5_171 (by decide) rfl rfl ly2 ?_
          refine zw_iload 42 dX5_fillOrder_40 rfl rfl ?_
          refine zw_iald 43 dX5_fillOrder_42 rfl ly4 (by omega) ?_
          rw [e4, cv]
          refine zw_icmp_eq 50 46 dX5_fillOrder_43 (by decide) rfl (by omega) (by omega) (fun hz43 => ?_) (fun hz43 => ?_)
          · refine zw_iconst 51 dX5_fillOrder_50 rfl ?_
            refine zw_istore 53 dX5_fillOrder_51 rfl (by decide) ?_
            refine zw_iload 55 dX5_fillOrder_53 rfl rfl ?_
            refine zw_if_eq 91 58 dX5_fillOrder_55 (by decide) rfl (by omega) (fun hz55 => ?_) (fun hz55 => ?_)
            · refine zw_loc [true, true, true, true, true, true] rfl ?_
              first
                | exact k91 _ σc h1 h2 (hbad (by omega) (by omega))
                | (exfalso; omega)
            · exact absurd hz55 (by decide)
          · refine zw_iconst 47 dX5_fillOrder_46 rfl ?_
            refine zw_goto 51 dX5_fillOrder_47 (by decide) ?_
            refine zw_istore 53 dX5_fillOrder_51 rfl (by decide) ?_
            refine zw_iload 55 dX5_fillOrder_53 rfl rfl ?_
            refine zw_if_eq 91 58 dX5_fillOrder_55 (by decide) rfl (by omega) (fun hz55 => ?_) (fun hz55 => ?_)
            · exact absurd hz55 (by decide)
            · refine zw_iload_n 59 dX5_fillOrder_58 rfl rfl ?_
              refine zw_iload 61 dX5_fillOrder_59 rfl rfl ?_
              refine zw_ishr 62 _ dX5_fillOrder_61 rfl zr.1 ?_
              refine zw_iconst 63 dX5_fillOrder_62 rfl ?_
              refine zw_iand 64 _ dX5_fillOrder_63 rfl za ?_
              refine zw_if_ne 91 67 dX5_fillOrder_64 (by decide) rfl (by omega) (fun hz64 => ?_) (fun hz64 => ?_)
              · refine zw_loc [true, true, true, true, true, true] rfl ?_
                first
                  | exact k91 _ σc h1 h2 (hbad (by omega) (by omega))
                  | (exfalso; omega)
              · refine zw_loc [true, true, true, true, true, true] rfl ?_
                first
                  | exact k67 _ (fun z => by omega)
                  | exact k67 _ (fun z e => by omega)
theorem sp_X5_fillOrder {l : Launch} {N : zR} (hV : zVN N) {n : Nat} (hn : (n : Int) = N 33) : ∀ (m : Nat) {d : Nat} (hd : m + 1 ≤ d) (σ : zMem) (pre : List Nat) (u : Nat), zCh σ 2 N → pre.length + m = n → (∀ x, x ∈ pre → x < n) → zub u pre → zrw σ pre → zqu N (zfo pre.reverse) pre.length = 1 → zSp l d mX5_fillOrder [.ref 2, .ref 114, .int (zI (pre.length : Int)), .int (zI (u : Int))] σ (fun v σ1 => (∀ b, b ≠ 114 → σ1 b = σ b) ∧ (∀ k : Int, 0 ≤ k → k < pre.length → σ1 114 k = σ 114 k) ∧ zrs n v σ1 ((zpd n m pre).find? (zqp N n))) := by
  intro m
  induction m with
  | zero =>
    intro d hd σ pre u hC hl hp hb hw hq
    have gN := hV.1.1
    have c0 : σ 2 0 = N 33 := hC.1.1.1
    refine zSp_of oX5_fillOrder (Nat.le_of_ble_eq_true rfl) ?_
    show zw l d mX5_fillOrder 0 [some (.ref 2), some (.ref 114), some (.int (zI ((pre.length : Int)))), some (.int (zI ((u : Int)))), none, none] [] σ _
    refine zw_iload_n 1 dX5_fillOrder_0 rfl rfl ?_
    refine zw_aload_n 2 dX5_fillOrder_1 rfl rfl ?_
    refine zw_gti 5 0 dX5_fillOrder_2 rfl fX5_93 (by decide) rfl rfl ly2 ?_
    rw [c0]
    refine zw_icmp_lt 10 8 dX5_fillOrder_5 (by decide) rfl (by omega) (by omega) (fun h5 => ?_) (fun h5 => ?_)
    · exfalso; omega
    · refine zw_iconst 9 dX5_fillOrder_8 rfl ?_
      refine zw_zret dX5_fillOrder_9 rfl (by omega) ?_
      refine ⟨fun _ _ => rfl, fun _ _ _ => rfl, ?_⟩
      rw [show zpd n 0 pre = [pre.reverse] from rfl, List.find?_cons_of_pos (by unfold zqp; rw [decide_eq_true_iff, show n = pre.length by omega]; exact hq)]
      exact ⟨rfl, fun k k0 k1 => hw k k0 (by omega)⟩
  | succ m ihm =>
    intro d hd σ pre u hC hl hp hb hw hq
    have gN := hV.1.1
    have c0 : σ 2 0 = N 33 := hC.1.1.1
    have hlp := lp_X5_fillOrder (l := l) (d := d) (by omega) hC hV hn hl hp hb hw hq (fun σ0 pre0 u0 a1 a2 a3 a4 a5 a6 => ihm (by omega) σ0 pre0 u0 a1 a2 a3 a4 a5 a6) n 0 (by omega) σ (fun _ _ => rfl) (fun _ _ _ => rfl) rfl
    rw [show ((0 : Nat) : Int) = 0 from rfl] at hlp
    refine zSp_of oX5_fillOrder (Nat.le_of_ble_eq_true rfl) ?_
    show zw l d mX5_fillOrder 0 [some (.ref 2), some (.ref 114), some (.int (zI ((pre.length : Int)))), some (.int (zI ((u : Int)))), none, none] [] σ _
    refine zw_iload_n 1 dX5_fillOrder_0 rfl rfl ?_
    refine zw_aload_n 2 dX5_fillOrder_1 rfl rfl ?_
    refine zw_gti 5 0 dX5_fillOrder_2 rfl fX5_93 (by decide) rfl rfl ly2 ?_
    rw [c0]
    refine zw_icmp_lt 10 8 dX5_fillOrder_5 (by decide) rfl (by omega) (by omega) (fun h5 => ?_) (fun h5 => ?_)
    · refine zw_iconst 11 dX5_fillOrder_10 rfl ?_
      refine zw_istore 13 dX5_fillOrder_11 rfl (by decide) ?_
      exact hlp
    · refine zw_iconst 9 dX5_fillOrder_8 rfl ?_
      refine zw_zret dX5_fillOrder_9 rfl (by omega) ?_
      exfalso; omega
theorem sp_X5_row {l : Launch} {d : Nat} {σ : zMem} (hd : 9 ≤ d) {N : zR} (hC : zCh σ 2 N) (hV : zVN N) {i : Int} (hi : -2147483648 ≤ i ∧ i < 2147483648)  : zSp l d mX5_row [.ref 1, .int (zI i)] σ (zAn 118 (0 ≤ i ∧ i ≤ N 33 - 1) (zqy N (N 33).toNat i (zpd (N 33).toNat (N 33).toNat [])) 0 (-2) σ) := by
  refine zSp_of oX5_row (Nat.le_of_ble_eq_true rfl) ?_
  show zw l d mX5_row 0 [some (.ref 1), some (.int (zI i))] [] σ _
  have hs := hV.1
  have hv := hV.2.1
  have hy := hV.2.2.1
  have hB := zVN_bd hV
  have gN := hs.1
  have gC := hs.2.1
  have c0 : σ 2 0 = N 33 := hC.1.1.1
  have c1 : σ 2 1 = N 48 := hC.1.1.2.1
  have c2 : ∀ s, 0 ≤ s → s < N 33 → σ 3 s = N (34 + s) ∧ σ 4 s = N (41 + s) := hC.1.1.2.2.1
  have c3 : ∀ c, 0 ≤ c → c < N 48 → σ 5 c = N (49 + c) ∧ σ 6 c = N (54 + c) ∧ σ 7 c = zhv (N (49 + c)) (N (54 + c)) := hC.1.1.2.2.2
  have c4 : zSc σ 8 N := hC.1.2.1
  have c41 : ∀ c, 0 ≤ c → c < 5 → σ 9 c = N c := c4.1
  have c42 : ∀ i, 0 ≤ i → i < 20 → σ 10 i = N (5 + i) := c4.2.1
  have c43 : ∀ s, 0 ≤ s → s < 7 → σ 11 s = N (25 + s) := c4.2.2.1
  have c44 : σ 8 0 = N 32 := c4.2.2.2
  have c5 : zRo σ 13 3 59 N := hC.1.2.2.1
  have c6 : zRo σ 15 5 78 N := hC.1.2.2.2.1
  have c7 : zRo σ 17 4 109 N := hC.1.2.2.2.2
  have c8 : σ 2 2 = N 134 := hC.2.1
  have hb5 : ∀ c, 0 ≤ c → c < 5 → -1 ≤ N c ∧ N c < 1000 := fun c h0 h1 => by have := hv.1 c h0 h1; omega
  have hsp := sp_X5_fillOrder (l := l) hV (n := (N 33).toNat) (by omega) (N 33).toNat (d := d - 1) (by omega) σ [] 0 hC (by rw [List.length_nil]; omega) (fun x hx => by cases hx) ⟨by decide, fun s hs => by simp⟩ (fun k k0 k1 => by exfalso; rw [List.length_nil] at k1; omega) rfl
  rw [show ((([] : List Nat).length : Nat) : Int) = 0 from rfl, show ((0 : Nat) : Int) = 0 from rfl] at hsp
  cases ho : (zpd (N 33).toNat (N 33).toNat []).find? (zqp N (N 33).toNat) with
  | none =>
    have hz : zqy N (N 33).toNat i (zpd (N 33).toNat (N 33).toNat []) = -1 := by
      show (match (zpd (N 33).toNat (N 33).toNat []).find? (zqp N (N 33).toNat) with
        | some l => zfo l i
        | none => -1) = -1
      rw [ho]
    rw [ho] at hsp
    refine zw_aload_n 1 dX5_row_0 rfl rfl ?_
    refine zw_iload_n 2 dX5_row_1 rfl rfl ?_
    refine zw_callV 5 _ _ dX5_row_2 rfl kX5_165 qX5_isSeat ly1 ⟨_, rfl, rfl⟩ (by decide) (sp_X5_isSeat (d := d - 1) (by omega) hC.1.1 (by omega) (by omega)) (by omega) rfl rfl (Nat.le_of_ble_eq_true rfl) (fun r σ' hq => ?_)
    obtain ⟨rfl, rfl⟩ := hq
    refine zw_if_ne 15 8 dX5_row_5 (by decide) rfl (by omega) (fun h5 => ?_) (fun h5 => ?_)
    · refine zw_aload_n 16 dX5_row_15 rfl rfl ?_
      refine zw_getr 19 (2) (o := 1) dX5_row_16 rfl fX5_10 (by decide) rfl rfl ly1 ?_
      refine zw_aload_n 20 dX5_row_19 rfl rfl ?_
      refine zw_getr 23 (114) (o := 113) dX5_row_20 rfl fX5_48 (by decide) rfl rfl ly1 ?_
      refine zw_iconst 24 dX5_row_23 rfl ?_
      refine zw_iconst 25 dX5_row_24 rfl ?_
      refine zw_callS 28 _ _ dX5_row_25 rfl kX5_239 qX5_fillOrder (hsp) (by omega) rfl rfl (Nat.le_of_ble_eq_true rfl) (fun r σ' hq => ?_)
      obtain ⟨q1, q2, rfl⟩ := hq
      refine zw_if_eq 40 31 dX5_row_28 (by decide) rfl (by omega) (fun h28 => ?_) (fun h28 => ?_)
      · refine zw_iconst 41 dX5_row_40 rfl ?_
        refine zw_iret dX5_row_41 rfl ?_
        first
          | exact zAn_f (by omega)
          | exact zAn_t (by omega) hz.symm (zNc.ns (fun b b0 b1 => q1 b (by omega)))
          | (exfalso; omega)
      · refine zw_aload_n 32 dX5_row_31 rfl rfl ?_
        refine zw_getr 35 (114) (o := 113) dX5_row_32 rfl fX5_48 (by decide) rfl rfl ly1 ?_
        refine zw_iload_n 36 dX5_row_35 rfl rfl ?_
        refine zw_iald 37 dX5_row_36 rfl ly114 (by omega) ?_
        refine zw_goto 41 dX5_row_37 (by decide) ?_
        refine zw_iret dX5_row_41 rfl ?_
        first
          | exact zAn_f (by omega)
          | exact zAn_t (by omega) hz.symm (zNc.ns (fun b b0 b1 => q1 b (by omega)))
          | (exfalso; omega)
    · refine zw_aload_n 9 dX5_row_8 rfl rfl ?_
      refine zw_bipush 11 dX5_row_9 rfl (by decide) ?_
      refine zw_callV 14 _ _ dX5_row_11 rfl kX5_89 qX5_refuse ly1 ⟨_, rfl, rfl⟩ (by decide) (sp_X5_refuse_2 (d := d - 1)) (by omega) rfl rfl (Nat.le_of_ble_eq_true rfl) (fun r σ' hq => ?_)
      obtain ⟨rfl, rfl⟩ := hq
      refine zw_iret dX5_row_14 rfl ?_
      first
        | exact zAn_f (by omega)
        | exact zAn_t (by omega) hz.symm (zNc.ns (fun b b0 b1 => q1 b (by omega)))
        | (exfalso; omega)
  | some o =>
    have hz : zqy N (N 33).toNat i (zpd (N 33).toNat (N 33).toNat []) = zfo o i := by
      show (match (zpd (N 33).toNat (N 33).toNat []).find? (zqp N (N 33).toNat) with
        | some l => zfo l i
        | none => -1) = zfo o i
      rw [ho]
    rw [ho] at hsp
    refine zw_aload_n 1 dX5_row_0 rfl rfl ?_
    refine zw_iload_n 2 dX5_row_1 rfl rfl ?_
    refine zw_callV 5 _ _ dX5_row_2 rfl kX5_165 qX5_isSeat ly1 ⟨_, rfl, rfl⟩ (by decide) (sp_X5_isSeat (d := d - 1) (by omega) hC.1.1 (by omega) (by omega)) (by omega) rfl rfl (Nat.le_of_ble_eq_true rfl) (fun r σ' hq => ?_)
    obtain ⟨rfl, rfl⟩ := hq
    refine zw_if_ne 15 8 dX5_row_5 (by decide) rfl (by omega) (fun h5 => ?_) (fun h5 => ?_)
    · refine zw_aload_n 16 dX5_row_15 rfl rfl ?_
      refine zw_getr 19 (2) (o := 1) dX5_row_16 rfl fX5_10 (by decide) rfl rfl ly1 ?_
      refine zw_aload_n 20 dX5_row_19 rfl rfl ?_
      refine zw_getr 23 (114) (o := 113) dX5_row_20 rfl fX5_48 (by decide) rfl rfl ly1 ?_
      refine zw_iconst 24 dX5_row_23 rfl ?_
      refine zw_iconst 25 dX5_row_24 rfl ?_
      refine zw_callS 28 _ _ dX5_row_25 rfl kX5_239 qX5_fillOrder (hsp) (by omega) rfl rfl (Nat.le_of_ble_eq_true rfl) (fun r σ' hq => ?_)
      obtain ⟨q1, q2, rfl, q3⟩ := hq
      refine zw_if_eq 40 31 dX5_row_28 (by decide) rfl (by omega) (fun h28 => ?_) (fun h28 => ?_)
      · refine zw_iconst 41 dX5_row_40 rfl ?_
        refine zw_iret dX5_row_41 rfl ?_
        first
          | exact zAn_f (by omega)
          | exact zAn_t (by omega) (by rw [hz]; exact q3 i (by omega) (by omega)) (zNc.ns (fun b b0 b1 => q1 b (by omega)))
          | (exfalso; omega)
      · refine zw_aload_n 32 dX5_row_31 rfl rfl ?_
        refine zw_getr 35 (114) (o := 113) dX5_row_32 rfl fX5_48 (by decide) rfl rfl ly1 ?_
        refine zw_iload_n 36 dX5_row_35 rfl rfl ?_
        refine zw_iald 37 dX5_row_36 rfl ly114 (by omega) ?_
        refine zw_goto 41 dX5_row_37 (by decide) ?_
        refine zw_iret dX5_row_41 rfl ?_
        first
          | exact zAn_f (by omega)
          | exact zAn_t (by omega) (by rw [hz]; exact q3 i (by omega) (by omega)) (zNc.ns (fun b b0 b1 => q1 b (by omega)))
          | (exfalso; omega)
    · refine zw_aload_n 9 dX5_row_8 rfl rfl ?_
      refine zw_bipush 11 dX5_row_9 rfl (by decide) ?_
      refine zw_callV 14 _ _ dX5_row_11 rfl kX5_89 qX5_refuse ly1 ⟨_, rfl, rfl⟩ (by decide) (sp_X5_refuse_2 (d := d - 1)) (by omega) rfl rfl (Nat.le_of_ble_eq_true rfl) (fun r σ' hq => ?_)
      obtain ⟨rfl, rfl⟩ := hq
      refine zw_iret dX5_row_14 rfl ?_
      first
        | exact zAn_f (by omega)
        | exact zAn_t (by omega) (by rw [hz]; exact q3 i (by omega) (by omega)) (zNc.ns (fun b b0 b1 => q1 b (by omega)))
        | (exfalso; omega)
