/-- the row f of n canons' seats, as the list l (the last canon first, each one more) -/
def zrl (n : Nat) (l : List Nat) (f : zR) : Prop := l.length = n ∧ (∀ (i v : Nat), l[i]? = some v → f ((n : Int) - 1 - i) = (v : Int) - 1) ∧ ∀ v, v ∈ l → v ≤ 7
theorem zib_iff (f : zR) (c : Int) : ∀ n : Nat, zib f c n = 1 ↔ ∃ k : Int, 0 ≤ k ∧ k < n ∧ f k = f c
  | 0 => ⟨fun h => by simp [zib] at h, fun ⟨k, h0, h1, _⟩ => by omega⟩
  | n + 1 => by
    have ih := zib_iff f c n
    unfold zib
    constructor
    · intro h
      by_cases h2 : zib f c n = 1 ∨ f n = f c
      · rcases h2 with h2 | h2
        · obtain ⟨k, a, b, e⟩ := ih.mp h2
          exact ⟨k, a, by omega, e⟩
        · exact ⟨n, by omega, by omega, h2⟩
      · rw [if_neg h2] at h; omega
    · rintro ⟨k, a, b, e⟩
      rw [if_pos]
      by_cases h2 : k = n
      · subst h2; exact Or.inr e
      · exact Or.inl (ih.mpr ⟨k, a, by omega, e⟩)
theorem zib_in {c : Nat} {pre : List Nat} {f : zR} {w : Nat} (h : zrl c pre f) (hw : f c = (w : Int) - 1) : zib f c c = if pre.contains w = true then 1 else 0 := by
  have key : zib f c c = 1 ↔ w ∈ pre := by
    rw [zib_iff, hw]
    constructor
    · rintro ⟨k, a, b, e⟩
      obtain ⟨j, rfl⟩ := Int.eq_ofNat_of_zero_le a
      have hl : c - 1 - j < pre.length := by rw [h.1]; omega
      have h1 := h.2.1 (c - 1 - j) _ (List.getElem?_eq_getElem hl)
      rw [show (c : Int) - 1 - ((c - 1 - j : Nat) : Int) = (j : Int) by omega, e] at h1
      have : w = pre[c - 1 - j] := by omega
      rw [this]; exact List.getElem_mem hl
    · intro hm
      obtain ⟨i, hi⟩ := List.getElem?_of_mem hm
      have hl := (List.getElem?_eq_some_iff.mp hi).1
      rw [h.1] at hl
      exact ⟨(c : Int) - 1 - i, by omega, by omega, h.2.1 i w hi⟩
  have b := zib_b f c c
  by_cases h2 : w ∈ pre
  · rw [if_pos (by simpa using h2)]; exact key.mpr h2
  · rw [if_neg (by simpa using h2)]
    rcases b with b | b
    · exact b
    · exact absurd (key.mp b) h2
theorem zbp_le {S : Nat} {pre : List Nat} : ∀ (f x w : Nat), zbp S pre f x = some w → w ≤ S
  | 0, x, w, h => by simp [zbp] at h
  | f + 1, x, w, h => by
    unfold zbp at h
    split at h
    · cases h
    · split at h
      · exact zbp_le f _ w h
      · cases h; omega
theorem zrl_up {c : Nat} {pre : List Nat} {f : zR} (h : zrl c pre f) (j x : Int) (hj : (c : Int) ≤ j) : zrl c pre (zup f j x) :=
  ⟨h.1, fun i v hi => by rw [zup_ne _ _ (by omega)]; exact h.2.1 i v hi, h.2.2⟩
def zfg (f : zR) (a b : Int) : zR := fun x => if a ≤ x ∧ x < b then -1 else f x
theorem zfg_s (f : zR) {a k : Int} (h : a ≤ k) : zup (zfg f a k) k (-1) = zfg f a (k + 1) := by
  funext x; unfold zup zfg
  by_cases h1 : x = k
  · subst h1; rw [if_pos rfl, if_pos (by omega)]
  · rw [if_neg h1]
    by_cases h2 : a ≤ x ∧ x < k
    · rw [if_pos h2, if_pos (by omega)]
    · rw [if_neg h2, if_neg (by omega)]
theorem zrl_fill {n k w : Nat} {pre : List Nat} {f : zR} (hk : pre.length + 1 + k = n) (h : zrl pre.length pre f) (hw : f pre.length = (w : Int) - 1) (h7 : w ≤ 7) : zrl n (List.replicate k 0 ++ w :: pre) (zfg f (pre.length + 1) n) := by
  refine ⟨by simp; omega, fun i v hi => ?_, fun v hv => ?_⟩
  · unfold zfg
    by_cases h1 : i < k
    · rw [List.getElem?_append_left (by simpa using h1)] at hi
      simp [h1] at hi
      subst hi
      rw [if_pos (by omega)]; rfl
    · rw [List.getElem?_append_right (by simp; omega)] at hi
      simp only [List.length_replicate] at hi
      rw [if_neg (by omega)]
      by_cases h2 : i = k
      · subst h2
        simp at hi
        subst hi
        rw [show (n : Int) - 1 - i = (pre.length : Int) by omega]; exact hw
      · obtain ⟨j, hj⟩ : ∃ j, i - k = j + 1 := ⟨i - k - 1, by omega⟩
        rw [hj, List.getElem?_cons_succ] at hi
        have := h.2.1 j v hi
        rw [← this]; congr 1; omega
  · simp at hv
    rcases hv with ⟨-, rfl⟩ | rfl | hv
    · omega
    · exact h7
    · exact h.2.2 v hv
def zNQ (n : Nat) (R : Option (List Nat)) (σ : zMem) : Option Value → zMem → Prop := fun a σ' => match R with
  | some l' => a = some (.int (zI 1)) ∧ ∃ f', zwa σ 226 f' = σ' ∧ zrl n l' f'
  | none => a = some (.int (zI 0)) ∧ ∃ f', zwa σ 226 f' = σ'
theorem lp3_X6_nextRow {l : Launch} {d : Nat} {σ : zMem} (hV : zVN (σ 218)) {c : Int} {f : zR} {Q : Option Value → zMem → Prop} (hc : 0 ≤ c ∧ c < 5) (hq : Q (some (.int (zI 1))) (zwa σ 226 (zfg f (c + 1) (σ 218 48)))) : ∀ (m : Nat) (k : Int), k + m = σ 218 48 → 0 ≤ k → c + 1 ≤ k → zw l d mX6_nextRow 81 [some (.ref 217), some (.int (zI c)), some (.int (zI k))] [] (zwa σ 226 (zfg f (c + 1) k)) (Q) := by
  intro m
  induction m with
  | zero =>
    intro k hk hk0 hck
    have hs := hV.1
    have hv := hV.2.1
    have hy0 := hV.2.2.1
    have gN := hs.1
    have gC := hs.2.1
    have a8 : zwa σ 226 (zfg f (c + 1) k) 218 = σ 218 := zwa_ne _ _ (by decide)
    refine zw_iload_n 82 dX6_nextRow_81 rfl rfl ?_
    refine zw_aload_n 83 dX6_nextRow_82 rfl rfl ?_
    refine zw_getr 86 (218) (o := 1) dX6_nextRow_83 rfl fX6_7 (by decide) rfl rfl ly217 ?_
    refine zw_bipush 88 dX6_nextRow_86 rfl (by decide) ?_
    refine zw_iald 89 dX6_nextRow_88 rfl ly218 (by omega) ?_
    rw [a8]
    refine zw_icmp_ge 105 92 dX6_nextRow_89 (by decide) rfl (by omega) (by omega) (fun h89 => ?_) (fun h89 => ?_)
    · refine zw_iconst 106 dX6_nextRow_105 rfl ?_
      refine zw_zret dX6_nextRow_106 rfl (by omega) ?_
      have ek : k = σ 218 48 := by omega
      subst ek
      exact hq
    · exfalso; omega
  | succ m ih =>
    intro k hk hk0 hck
    have hs := hV.1
    have hv := hV.2.1
    have hy0 := hV.2.2.1
    have gN := hs.1
    have gC := hs.2.1
    have a8 : zwa σ 226 (zfg f (c + 1) k) 218 = σ 218 := zwa_ne _ _ (by decide)
    refine zw_iload_n 82 dX6_nextRow_81 rfl rfl ?_
    refine zw_aload_n 83 dX6_nextRow_82 rfl rfl ?_
    refine zw_getr 86 (218) (o := 1) dX6_nextRow_83 rfl fX6_7 (by decide) rfl rfl ly217 ?_
    refine zw_bipush 88 dX6_nextRow_86 rfl (by decide) ?_
    refine zw_iald 89 dX6_nextRow_88 rfl ly218 (by omega) ?_
    rw [a8]
    refine zw_icmp_ge 105 92 dX6_nextRow_89 (by decide) rfl (by omega) (by omega) (fun h89 => ?_) (fun h89 => ?_)
    · refine zw_iconst 106 dX6_nextRow_105 rfl ?_
      refine zw_zret dX6_nextRow_106 rfl (by omega) ?_
      exfalso; omega
    · refine zw_aload_n 93 dX6_nextRow_92 rfl rfl ?_
      refine zw_getr 96 (226) (o := 9) dX6_nextRow_93 rfl fX6_39 (by decide) rfl rfl ly217 ?_
      refine zw_iload_n 97 dX6_nextRow_96 rfl rfl ?_
      refine zw_iconst 98 dX6_nextRow_97 rfl ?_
      refine zw_iast 99 dX6_nextRow_98 rfl ly226 (by omega) ?_
      rw [zwr_wa, zfg_s _ hck]
      refine zw_iinc 102 dX6_nextRow_99 rfl (by decide) rfl ?_
      refine zw_goto 81 dX6_nextRow_102 (by decide) ?_
      refine zw_loc [true, true, true] rfl ?_
      exact ih (k + 1) (by omega) (by omega) (by omega)
theorem lp2_X6_nextRow {l : Launch} {d : Nat} {σ : zMem} (hd : 3 ≤ d) (hV : zVN (σ 218)) {pre : List Nat} {Q : Option Value → zMem → Prop} {R : Option Nat} (hc : pre.length < 5) (hN : R = none → ∀ f, zrl pre.length pre f → zw l d mX6_nextRow 107 [some (.ref 217), some (.int (zI ((pre.length : Int)))), none] [] (zwa σ 226 f) Q) (hS : ∀ w f, R = some w → zrl pre.length pre f → f pre.length = (w : Int) - 1 → zw l d mX6_nextRow 77 [some (.ref 217), some (.int (zI ((pre.length : Int)))), none] [] (zwa σ 226 f) Q) : ∀ (m x : Nat) (f : zR), (σ 218 33).toNat ≤ x + m → x ≤ 7 → zrl pre.length pre f → f pre.length = (x : Int) → zbp (σ 218 33).toNat pre (m + 1) x = R → zw l d mX6_nextRow 24 [some (.ref 217), some (.int (zI ((pre.length : Int)))), none] [] (zwa σ 226 f) Q := by
  intro m
  induction m with
  | zero =>
    intro x f h1 h2 h3 h4 h5
    have hs := hV.1
    have hv := hV.2.1
    have hy0 := hV.2.2.1
    have gN := hs.1
    have gC := hs.2.1
    have a8 : zwa σ 226 f 218 = σ 218 := zwa_ne _ _ (by decide)
    have a9 : zwa σ 226 f 226 = f := zwa_same _ _ _
    refine zw_aload_n 25 dX6_nextRow_24 rfl rfl ?_
    refine zw_getr 28 (226) (o := 9) dX6_nextRow_25 rfl fX6_39 (by decide) rfl rfl ly217 ?_
    refine zw_iload_n 29 dX6_nextRow_28 rfl rfl ?_
    refine zw_iald 30 dX6_nextRow_29 rfl ly226 (by omega) ?_
    rw [a9, h4]
    refine zw_aload_n 31 dX6_nextRow_30 rfl rfl ?_
    refine zw_getr 34 (218) (o := 1) dX6_nextRow_31 rfl fX6_7 (by decide) rfl rfl ly217 ?_
    refine zw_bipush 36 dX6_nextRow_34 rfl (by decide) ?_
    refine zw_iald 37 dX6_nextRow_36 rfl ly218 (by omega) ?_
    rw [a8]
    refine zw_icmp_ge 61 40 dX6_nextRow_37 (by decide) rfl (by omega) (by omega) (fun h37 => ?_) (fun h37 => ?_)
    · refine zw_aload_n 62 dX6_nextRow_61 rfl rfl ?_
      refine zw_getr 65 (226) (o := 9) dX6_nextRow_62 rfl fX6_39 (by decide) rfl rfl ly217 ?_
      refine zw_iload_n 66 dX6_nextRow_65 rfl rfl ?_
      refine zw_iald 67 dX6_nextRow_66 rfl ly226 (by omega) ?_
      rw [a9, h4]
      refine zw_aload_n 68 dX6_nextRow_67 rfl rfl ?_
      refine zw_getr 71 (218) (o := 1) dX6_nextRow_68 rfl fX6_7 (by decide) rfl rfl ly217 ?_
      refine zw_bipush 73 dX6_nextRow_71 rfl (by decide) ?_
      refine zw_iald 74 dX6_nextRow_73 rfl ly218 (by omega) ?_
      rw [a8]
      refine zw_icmp_ge 107 77 dX6_nextRow_74 (by decide) rfl (by omega) (by omega) (fun h74 => ?_) (fun h74 => ?_)
      · exact hN (by rw [← h5]; unfold zbp; rw [if_pos (by omega)]) f h3
      · exfalso; omega
    · exfalso; omega
  | succ m ih =>
    intro x f h1 h2 h3 h4 h5
    have hs := hV.1
    have hv := hV.2.1
    have hy0 := hV.2.2.1
    have gN := hs.1
    have gC := hs.2.1
    have a8 : zwa σ 226 f 218 = σ 218 := zwa_ne _ _ (by decide)
    have a9 : zwa σ 226 f 226 = f := zwa_same _ _ _
    have hbf : ∀ q : Int, 0 ≤ q → q ≤ pre.length → -2147483648 ≤ zwa σ 226 f 226 q ∧ zwa σ 226 f 226 q < 2147483648 := fun q q0 q1 => by
      rw [a9]
      by_cases hq : q = pre.length
      · rw [hq, h4]; omega
      · have hl : pre.length - 1 - q.toNat < pre.length := by omega
        have e1 := h3.2.1 (pre.length - 1 - q.toNat) _ (List.getElem?_eq_getElem hl)
        have e2 := h3.2.2 _ (List.getElem_mem hl)
        rw [show (pre.length : Int) - 1 - ((pre.length - 1 - q.toNat : Nat) : Int) = q by omega] at e1
        omega
    have hin := zib_in (w := x + 1) h3 (by rw [h4]; omega)
    refine zw_aload_n 25 dX6_nextRow_24 rfl rfl ?_
    refine zw_getr 28 (226) (o := 9) dX6_nextRow_25 rfl fX6_39 (by decide) rfl rfl ly217 ?_
    refine zw_iload_n 29 dX6_nextRow_28 rfl rfl ?_
    refine zw_iald 30 dX6_nextRow_29 rfl ly226 (by omega) ?_
    rw [a9, h4]
    refine zw_aload_n 31 dX6_nextRow_30 rfl rfl ?_
    refine zw_getr 34 (218) (o := 1) dX6_nextRow_31 rfl fX6_7 (by decide) rfl rfl ly217 ?_
    refine zw_bipush 36 dX6_nextRow_34 rfl (by decide) ?_
    refine zw_iald 37 dX6_nextRow_36 rfl ly218 (by omega) ?_
    rw [a8]
    refine zw_icmp_ge 61 40 dX6_nextRow_37 (by decide) rfl (by omega) (by omega) (fun h37 => ?_) (fun h37 => ?_)
    · refine zw_aload_n 62 dX6_nextRow_61 rfl rfl ?_
      refine zw_getr 65 (226) (o := 9) dX6_nextRow_62 rfl fX6_39 (by decide) rfl rfl ly217 ?_
      refine zw_iload_n 66 dX6_nextRow_65 rfl rfl ?_
      refine zw_iald 67 dX6_nextRow_66 rfl ly226 (by omega) ?_
      rw [a9, h4]
      refine zw_aload_n 68 dX6_nextRow_67 rfl rfl ?_
      refine zw_getr 71 (218) (o := 1) dX6_nextRow_68 rfl fX6_7 (by decide) rfl rfl ly217 ?_
      refine zw_bipush 73 dX6_nextRow_71 rfl (by decide) ?_
      refine zw_iald 74 dX6_nextRow_73 rfl ly218 (by omega) ?_
      rw [a8]
      refine zw_icmp_ge 107 77 dX6_nextRow_74 (by decide) rfl (by omega) (by omega) (fun h74 => ?_) (fun h74 => ?_)
      · first
          | (exfalso; omega)
          | exact hN (by rw [← h5]; unfold zbp; rw [if_pos (by omega)]) f h3
      · first
          | (exfalso; omega)
          | exact hS (x + 1) f (by rw [← h5]; unfold zbp; rw [if_neg (by omega), if_neg (by intro q; rw [if_pos q] at h45; omega)]) h3 (by rw [h4]; omega)
    · refine zw_aload_n 41 dX6_nextRow_40 rfl rfl ?_
      refine zw_iload_n 42 dX6_nextRow_41 rfl rfl ?_
      refine zw_callV 45 _ _ dX6_nextRow_42 rfl kX6_234 qX6_isBefore ly217 ⟨_, rfl, rfl⟩ (by decide) (sp_X6_isBefore (d := d - 1) (by omega) hbf) (by omega) rfl rfl (Nat.le_of_ble_eq_true rfl) (fun r σ' hq => ?_)
      obtain ⟨rfl, rfl⟩ := hq
      rw [a9, show ((pre.length : Int)).toNat = pre.length from rfl, hin]
      refine zw_if_eq 61 48 dX6_nextRow_45 (by decide) rfl (by omega) (fun h45 => ?_) (fun h45 => ?_)
      · refine zw_aload_n 62 dX6_nextRow_61 rfl rfl ?_
        refine zw_getr 65 (226) (o := 9) dX6_nextRow_62 rfl fX6_39 (by decide) rfl rfl ly217 ?_
        refine zw_iload_n 66 dX6_nextRow_65 rfl rfl ?_
        refine zw_iald 67 dX6_nextRow_66 rfl ly226 (by omega) ?_
        rw [a9, h4]
        refine zw_aload_n 68 dX6_nextRow_67 rfl rfl ?_
        refine zw_getr 71 (218) (o := 1) dX6_nextRow_68 rfl fX6_7 (by decide) rfl rfl ly217 ?_
        refine zw_bipush 73 dX6_nextRow_71 rfl (by decide) ?_
        refine zw_iald 74 dX6_nextRow_73 rfl ly218 (by omega) ?_
        rw [a8]
        refine zw_icmp_ge 107 77 dX6_nextRow_74 (by decide) rfl (by omega) (by omega) (fun h74 => ?_) (fun h74 => ?_)
        · first
            | (exfalso; omega)
            | exact hN (by rw [← h5]; unfold zbp; rw [if_pos (by omega)]) f h3
        · first
            | (exfalso; omega)
            | exact hS (x + 1) f (by rw [← h5]; unfold zbp; rw [if_neg (by omega), if_neg (by intro q; rw [if_pos q] at h45; omega)]) h3 (by rw [h4]; omega)
      · refine zw_aload_n 49 dX6_nextRow_48 rfl rfl ?_
        refine zw_getr 52 (226) (o := 9) dX6_nextRow_49 rfl fX6_39 (by decide) rfl rfl ly217 ?_
        refine zw_iload_n 53 dX6_nextRow_52 rfl rfl ?_
        refine zw_dup2_11 54 dX6_nextRow_53 rfl rfl rfl ?_
        refine zw_iald 55 dX6_nextRow_54 rfl ly226 (by omega) ?_
        refine zw_iconst 56 dX6_nextRow_55 rfl ?_
        refine zw_iadd 57 dX6_nextRow_56 rfl ?_
        refine zw_iast 58 dX6_nextRow_57 rfl ly226 (by omega) ?_
        rw [a9, h4, zwr_wa]
        refine zw_goto 24 dX6_nextRow_58 (by decide) ?_
        refine ih (x + 1) _ (by omega) (by omega) (zrl_up h3 _ _ (Int.le_refl _)) (by rw [zup_same]; omega) ?_
        rw [← h5]
        conv => rhs; unfold zbp
        rw [if_neg (by omega), if_pos (by simpa using h45)]
theorem lp1_X6_nextRow {l : Launch} {d : Nat} {σ : zMem} (hd : 3 ≤ d) (hV : zVN (σ 218)) : ∀ (pre : List Nat) (k : Nat) (f : zR), pre.length + k = (σ 218 48).toNat → zrl pre.length pre f → zw l d mX6_nextRow 10 [some (.ref 217), some (.int (zI ((pre.length : Int) - 1))), none] [] (zwa σ 226 f) (zNQ (σ 218 48).toNat (znx (σ 218 33).toNat k pre) σ) := by
  intro pre
  induction pre with
  | nil =>
    intro k f hk h3
    refine zw_iload_n 11 dX6_nextRow_10 rfl rfl ?_
    refine zw_if_lt 113 14 dX6_nextRow_11 (by decide) rfl (by simp) (fun h11 => ?_) (fun h11 => ?_)
    · refine zw_iconst 114 dX6_nextRow_113 rfl ?_
      refine zw_zret dX6_nextRow_114 rfl (by omega) ?_
      exact ⟨rfl, _, rfl⟩
    · exfalso; simp at h11
  | cons x pre ih =>
    intro k f hk h3
    have hs := hV.1
    have hv := hV.2.1
    have hy0 := hV.2.2.1
    have gN := hs.1
    have gC := hs.2.1
    have e0 : (((x :: pre).length : Nat) : Int) - 1 = (pre.length : Int) := by simp
    rw [e0]
    have hlen : pre.length + 1 + k = (σ 218 48).toNat := by simpa using hk
    have a9 : zwa σ 226 f 226 = f := zwa_same _ _ _
    have h4 : f pre.length = (x : Int) - 1 := by
      have := h3.2.1 0 x rfl
      rw [← this]; congr 1; simp
    have hx7 := h3.2.2 x List.mem_cons_self
    have h3p : zrl pre.length pre f := ⟨rfl, fun i v hi => by have := h3.2.1 (i + 1) v (by simpa using hi); rw [← this]; congr 1; simp; omega, fun v hv2 => h3.2.2 v (List.mem_cons_of_mem _ hv2)⟩
    refine zw_iload_n 11 dX6_nextRow_10 rfl rfl ?_
    refine zw_if_lt 113 14 dX6_nextRow_11 (by decide) rfl (by omega) (fun h11 => ?_) (fun h11 => ?_)
    · exfalso; omega
    · refine zw_aload_n 15 dX6_nextRow_14 rfl rfl ?_
      refine zw_getr 18 (226) (o := 9) dX6_nextRow_15 rfl fX6_39 (by decide) rfl rfl ly217 ?_
      refine zw_iload_n 19 dX6_nextRow_18 rfl rfl ?_
      refine zw_dup2_11 20 dX6_nextRow_19 rfl rfl rfl ?_
      refine zw_iald 21 dX6_nextRow_20 rfl ly226 (by omega) ?_
      rw [a9, h4]
      refine zw_iconst 22 dX6_nextRow_21 rfl ?_
      refine zw_iadd 23 dX6_nextRow_22 rfl ?_
      refine zw_iast 24 dX6_nextRow_23 rfl ly226 (by omega) ?_
      rw [zwr_wa]
      refine lp2_X6_nextRow (σ := σ) hd hV (pre := pre) (R := zbp (σ 218 33).toNat pre 8 x) (by omega) (fun hR f2 g3 => ?_) (fun w f2 hR g3 g4 => ?_) 7 x _ (by omega) hx7 (zrl_up h3p _ _ (Int.le_refl _)) (by rw [zup_same]; omega) rfl
      · refine zw_iinc 110 dX6_nextRow_107 rfl (by decide) rfl ?_
        refine zw_goto 10 dX6_nextRow_110 (by decide) ?_
        refine zw_loc [true, true, false] rfl ?_
        rw [show znx (σ 218 33).toNat k (x :: pre) = znx (σ 218 33).toNat (k + 1) pre by rw [znx, hR]]
        have ih2 := ih (k + 1) f2 (by omega) g3
        rw [show (pre.length : Int) - 1 = pre.length + -1 by omega] at ih2
        exact ih2
      · rw [show znx (σ 218 33).toNat k (x :: pre) = some (List.replicate k 0 ++ w :: pre) by rw [znx, hR]]
        refine zw_iload_n 78 dX6_nextRow_77 rfl rfl ?_
        refine zw_iconst 79 dX6_nextRow_78 rfl ?_
        refine zw_iadd 80 dX6_nextRow_79 rfl ?_
        refine zw_istore_n 81 dX6_nextRow_80 rfl (by decide) ?_
        have hw7 := zbp_le _ _ _ hR
        have h := lp3_X6_nextRow (l := l) (d := d) (σ := σ) hV (c := (pre.length : Int)) (f := f2) (Q := zNQ (σ 218 48).toNat (some (List.replicate k 0 ++ w :: pre)) σ) (by omega) ?_ (σ 218 48 - (pre.length + 1)).toNat (pre.length + 1) (by omega) (by omega) (Int.le_refl _)
        · rw [show zfg f2 ((pre.length : Int) + 1) ((pre.length : Int) + 1) = f2 from by funext y; exact if_neg (by omega)] at h
          exact h
        · have hf := zrl_fill (n := (σ 218 48).toNat) hlen g3 g4 (by omega)
          rw [show (((σ 218 48).toNat : Nat) : Int) = σ 218 48 by omega] at hf
          exact ⟨rfl, _, rfl, hf⟩
theorem sp_X6_nextRow {l : Launch} {d : Nat} {σ : zMem} (hd : 3 ≤ d) (hV : zVN (σ 218)) {L : List Nat} {f : zR} (hL : zrl (σ 218 48).toNat L f) : zSp l d mX6_nextRow [.ref 217] (zwa σ 226 f) (zNQ (σ 218 48).toNat (znx (σ 218 33).toNat 0 L) σ) := by
  refine zSp_of oX6_nextRow (Nat.le_of_ble_eq_true rfl) ?_
  show zw l d mX6_nextRow 0 [some (.ref 217), none, none] [] (zwa σ 226 f) _
  have gC := hV.1.2.1
  have a8 : zwa σ 226 f 218 = σ 218 := zwa_ne _ _ (by decide)
  refine zw_aload_n 1 dX6_nextRow_0 rfl rfl ?_
  refine zw_getr 4 (218) (o := 1) dX6_nextRow_1 rfl fX6_7 (by decide) rfl rfl ly217 ?_
  refine zw_bipush 6 dX6_nextRow_4 rfl (by decide) ?_
  refine zw_iald 7 dX6_nextRow_6 rfl ly218 (by omega) ?_
  rw [a8]
  refine zw_iconst 8 dX6_nextRow_7 rfl ?_
  refine zw_isub 9 dX6_nextRow_8 rfl ?_
  refine zw_istore_n 10 dX6_nextRow_9 rfl (by decide) ?_
  have e0 : σ 218 48 - 1 = (L.length : Int) - 1 := by rw [hL.1]; omega
  rw [e0]
  exact zw_loc [true, true, false] rfl (lp1_X6_nextRow (σ := σ) hd hV L 0 f (by rw [hL.1]; rfl) (by rw [hL.1]; exact hL))
