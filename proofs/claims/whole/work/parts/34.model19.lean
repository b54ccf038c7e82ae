/-- the order f is quiet over its first q: 1, else 0 -/
def zqu (N f : zR) : Nat → Int
  | 0 => 1
  | 1 => 1
  | q + 2 => if zqu N f (q + 1) = 1 ∧ N (41 + f ((q : Int) + 1)) ≠ N (41 + f q) then 1 else 0
theorem zw_mem {l : Launch} {d : Nat} {M : zMth} {pc : Nat} {L : List (Option Value)} {st : List Value} {σ σ' : zMem} {Q : Option Value → zMem → Prop} (h : σ' = σ) (hw : zw l d M pc L st σ' Q) : zw l d M pc L st σ Q := h ▸ hw
theorem zqu_b (N f : zR) : ∀ q, zqu N f q = 0 ∨ zqu N f q = 1
  | 0 => Or.inr rfl
  | 1 => Or.inr rfl
  | q + 2 => by unfold zqu; split <;> simp
theorem zqu_ag {N f g : zR} {n : Int} (h : zao n f g) : ∀ q : Nat, (q : Int) ≤ n → zqu N f q = zqu N g q
  | 0, _ => rfl
  | 1, _ => rfl
  | q + 2, hq => by
    unfold zqu
    rw [zqu_ag h (q + 1) (by omega), h ((q : Int) + 1) (by omega) (by omega), h q (by omega) (by omega)]
/-- the i-th of the first quiet order of a list of orders, or -1 -/
def zqy (N : zR) (n : Nat) (i : Int) (L : List (List Nat)) : Int := match L.find? (fun l => decide (zqu N (zfo l) n = 1)) with
  | some l => zfo l i
  | none => -1
theorem zqy_hit {N : zR} {n : Nat} {i : Int} {l : List Nat} {L : List (List Nat)} (h : zqu N (zfo l) n = 1) : zqy N n i (l :: L) = zfo l i := by
  unfold zqy; rw [List.find?_cons_of_pos (by simpa using h)]
theorem zqy_miss {N : zR} {n : Nat} {i : Int} {l : List Nat} {L : List (List Nat)} (h : zqu N (zfo l) n ≠ 1) : zqy N n i (l :: L) = zqy N n i L := by
  unfold zqy; rw [List.find?_cons_of_neg (by simpa using h)]
theorem lpQ_X6_row {l : Launch} {d : Nat} {σ : zMem} {n : Nat} {f : zR} (hn : 0 < n ∧ n < 8) (hob : zob n f) {i : Int} (hi : 0 ≤ i ∧ i < n) (hV : zVN (σ 218)) (hn2 : (n : Int) = σ 218 33) {Q : Option Value → zMem → Prop} {R : Int} (hR : zqu (σ 218) f n = R) (hx : zw l d mX6_row 117 [some (.ref 217), some (.int (zI i)), some (.int (zI ((n : Int)))), none, some (.int (zI R)), none] [] (zwa σ 226 f) Q) : ∀ (m q : Nat), q + m = n → 1 ≤ q → zw l d mX6_row 58 [some (.ref 217), some (.int (zI i)), some (.int (zI ((n : Int)))), none, some (.int (zI ((zqu (σ 218) f q)))), some (.int (zI ((q : Int))))] [] (zwa σ 226 f) Q := by
  have a9 : zwa σ 226 f 226 = f := zwa_same _ _ _
  have a8 : zwa σ 226 f 218 = σ 218 := zwa_ne _ _ (by decide)
  have hs := hV.1
  have hv := hV.2.1
  intro m
  induction m with
  | zero =>
    intro q h1 h2
    obtain rfl : q = n := h1
    rw [hR]
    refine zw_iload 60 dX6_row_58 rfl rfl ?_
    refine zw_iload_n 61 dX6_row_60 rfl rfl ?_
    refine zw_icmp_ge 117 64 dX6_row_61 (by decide) rfl (by omega) (by omega) (fun h61 => ?_) (fun h61 => ?_)
    · refine zw_loc [true, true, true, false, true, false] rfl ?_
      exact hx
    · exfalso; omega
  | succ m ih =>
    intro q h1 h2
    obtain ⟨q, rfl⟩ : ∃ q2, q = q2 + 1 := ⟨q - 1, by omega⟩
    have e0 : (((q + 1 : Nat) : Int)) = (q : Int) + 1 := by omega
    have b1 := hob q (by omega) (by omega)
    have b2 := hob ((q : Int) + 1) (by omega) (by omega)
    have g1 := hs.s b1.1 (by omega)
    have g2 := hs.s b2.1 (by omega)
    have ih2 := ih (q + 2) (by omega) (by omega)
    unfold zqu at ih2
    have bq := zqu_b (σ 218) f (q + 1)
    rw [e0]
    refine zw_iload 60 dX6_row_58 rfl rfl ?_
    refine zw_iload_n 61 dX6_row_60 rfl rfl ?_
    refine zw_icmp_ge 117 64 dX6_row_61 (by decide) rfl (by omega) (by omega) (fun h61 => ?_) (fun h61 => ?_)
    · exfalso; omega
    · refine zw_iload 66 dX6_row_64 rfl rfl ?_
      refine zw_if_eq 108 69 dX6_row_66 (by decide) rfl (by omega) (fun h66 => ?_) (fun h66 => ?_)
      · refine zw_iconst 109 dX6_row_108 rfl ?_
        refine zw_istore 111 dX6_row_109 rfl (by decide) ?_
        refine zw_iinc 114 dX6_row_111 rfl (by decide) rfl ?_
        refine zw_goto 58 dX6_row_114 (by decide) ?_
        refine zw_loc [true, true, true, false, true, true] rfl ?_
        first
          | (rw [if_pos (show zqu (σ 218) f (q + 1) = 1 ∧ σ 218 (41 + f ((q : Int) + 1)) ≠ σ 218 (41 + f q) from ⟨by omega, by omega⟩)] at ih2; exact ih2)
          | (rw [if_neg (show ¬ (zqu (σ 218) f (q + 1) = 1 ∧ σ 218 (41 + f ((q : Int) + 1)) ≠ σ 218 (41 + f q)) by omega)] at ih2; exact ih2)
      · refine zw_aload_n 70 dX6_row_69 rfl rfl ?_
        refine zw_getr 73 (218) (o := 1) dX6_row_70 rfl fX6_7 (by decide) rfl rfl ly217 ?_
        refine zw_bipush 75 dX6_row_73 rfl (by decide) ?_
        refine zw_aload_n 76 dX6_row_75 rfl rfl ?_
        refine zw_getr 79 (226) (o := 9) dX6_row_76 rfl fX6_39 (by decide) rfl rfl ly217 ?_
        refine zw_iload 81 dX6_row_79 rfl rfl ?_
        refine zw_iald 82 dX6_row_81 rfl ly226 (by omega) ?_
        rw [a9]
        refine zw_iadd 83 dX6_row_82 rfl ?_
        refine zw_iald 84 dX6_row_83 rfl ly218 (by omega) ?_
        rw [a8]
        refine zw_aload_n 85 dX6_row_84 rfl rfl ?_
        refine zw_getr 88 (218) (o := 1) dX6_row_85 rfl fX6_7 (by decide) rfl rfl ly217 ?_
        refine zw_bipush 90 dX6_row_88 rfl (by decide) ?_
        refine zw_aload_n 91 dX6_row_90 rfl rfl ?_
        refine zw_getr 94 (226) (o := 9) dX6_row_91 rfl fX6_39 (by decide) rfl rfl ly217 ?_
        refine zw_iload 96 dX6_row_94 rfl rfl ?_
        refine zw_iconst 97 dX6_row_96 rfl ?_
        refine zw_isub 98 dX6_row_97 rfl ?_
        refine zw_iald 99 dX6_row_98 rfl ly226 (by omega) ?_
        rw [a9, show (q : Int) + 1 - 1 = (q : Int) by omega]
        refine zw_iadd 100 dX6_row_99 rfl ?_
        refine zw_iald 101 dX6_row_100 rfl ly218 (by omega) ?_
        rw [a8]
        refine zw_icmp_eq 108 104 dX6_row_101 (by decide) rfl (by omega) (by omega) (fun h101 => ?_) (fun h101 => ?_)
        · refine zw_iconst 109 dX6_row_108 rfl ?_
          refine zw_istore 111 dX6_row_109 rfl (by decide) ?_
          refine zw_iinc 114 dX6_row_111 rfl (by decide) rfl ?_
          refine zw_goto 58 dX6_row_114 (by decide) ?_
          refine zw_loc [true, true, true, false, true, true] rfl ?_
          first
            | (rw [if_pos (show zqu (σ 218) f (q + 1) = 1 ∧ σ 218 (41 + f ((q : Int) + 1)) ≠ σ 218 (41 + f q) from ⟨by omega, by omega⟩)] at ih2; exact ih2)
            | (rw [if_neg (show ¬ (zqu (σ 218) f (q + 1) = 1 ∧ σ 218 (41 + f ((q : Int) + 1)) ≠ σ 218 (41 + f q)) by omega)] at ih2; exact ih2)
        · refine zw_iconst 105 dX6_row_104 rfl ?_
          refine zw_goto 109 dX6_row_105 (by decide) ?_
          refine zw_istore 111 dX6_row_109 rfl (by decide) ?_
          refine zw_iinc 114 dX6_row_111 rfl (by decide) rfl ?_
          refine zw_goto 58 dX6_row_114 (by decide) ?_
          refine zw_loc [true, true, true, false, true, true] rfl ?_
          first
            | (rw [if_pos (show zqu (σ 218) f (q + 1) = 1 ∧ σ 218 (41 + f ((q : Int) + 1)) ≠ σ 218 (41 + f q) from ⟨by omega, by omega⟩)] at ih2; exact ih2)
            | (rw [if_neg (show ¬ (zqu (σ 218) f (q + 1) = 1 ∧ σ 218 (41 + f ((q : Int) + 1)) ≠ σ 218 (41 + f q)) by omega)] at ih2; exact ih2)
theorem lpM_X6_row {l : Launch} {d : Nat} {σ : zMem} (hd : 3 ≤ d) {n : Nat} (hn : 0 < n ∧ n < 8) {i : Int} (hi : 0 ≤ i ∧ i < n) (hV : zVN (σ 218)) (hn2 : (n : Int) = σ 218 33) {Q : Option Value → zMem → Prop} {V : Int} (hQ : ∀ g, Q (some (.int (zI V))) (zwa σ 226 g)) : ∀ (F : Nat) (ll : List Nat) (f : zR), zol n ll f → (zpw n F ll).length < F → zqy (σ 218) n i (zpw n F ll) = V → zw l d mX6_row 48 [some (.ref 217), some (.int (zI i)), some (.int (zI ((n : Int)))), some (.int (zI 1)), none, none] [] (zwa σ 226 f) Q := by
  intro F
  induction F with
  | zero => intro ll f h1 h2 h3; exact absurd h2 (Nat.not_lt_zero _)
  | succ F ih =>
    intro ll f hl hlen hv2
    have hob := hl.2.2
    have a9 : zwa σ 226 f 226 = f := zwa_same _ _ _
    have a8 : zwa σ 226 f 218 = σ 218 := zwa_ne _ _ (by decide)
    have hg := zqu_ag (N := σ 218) hl.2.1 n (Int.le_refl _)
    have hb := zqu_b (σ 218) f n
    rw [zpw] at hv2 hlen
    refine zw_iload_n 49 dX6_row_48 rfl rfl ?_
    refine zw_if_eq 138 52 dX6_row_49 (by decide) rfl (by omega) (fun h49 => ?_) (fun h49 => ?_)
    · exfalso; omega
    · refine zw_iconst 53 dX6_row_52 rfl ?_
      refine zw_istore 55 dX6_row_53 rfl (by decide) ?_
      refine zw_iconst 56 dX6_row_55 rfl ?_
      refine zw_istore 58 dX6_row_56 rfl (by decide) ?_
      refine zw_loc [true, true, true, false, true, true] rfl ?_
      refine lpQ_X6_row hn hob hi hV hn2 rfl ?_ (n - 1) 1 (by omega) (by omega)
      refine zw_iload 119 dX6_row_117 rfl rfl ?_
      refine zw_if_eq 129 122 dX6_row_119 (by decide) rfl (by omega) (fun h119 => ?_) (fun h119 => ?_)
      · refine zw_aload_n 130 dX6_row_129 rfl rfl ?_
        refine zw_iload_n 131 dX6_row_130 rfl rfl ?_
        refine zw_callV 134 _ _ dX6_row_131 rfl kX6_249 qX6_nextOrder ly217 ⟨_, rfl, rfl⟩ (by decide) (sp_X6_nextOrder (d := d - 1) (n := n) hn hob) (by omega) rfl rfl (Nat.le_of_ble_eq_true rfl) (fun r σ' hq => ?_)
        obtain ⟨v, g, rfl, rfl, hvg⟩ := hq
        have hmiss : zqu (σ 218) (zfo ll) n ≠ 1 := by omega
        refine zw_istore_n 135 dX6_row_134 rfl (by decide) ?_
        refine zw_goto 48 dX6_row_135 (by decide) ?_
        rcases hvg with ⟨rfl, h0, rfl⟩ | ⟨rfl, h0, rfl⟩
        · rw [znq_none hn hl h0] at hv2 hlen
          refine zw_iload_n 49 dX6_row_48 rfl rfl ?_
          refine zw_if_eq 138 52 dX6_row_49 (by decide) rfl (by omega) (fun h49 => ?_) (fun h49 => ?_)
          · refine zw_iconst 139 dX6_row_138 rfl ?_
            refine zw_iret dX6_row_139 rfl ?_
            have hv2 := hv2
            rw [zqy_miss hmiss] at hv2
            unfold zqy at hv2
            simp at hv2
            subst hv2
            exact hQ _
          · exfalso; omega
        · obtain ⟨l2, hl2, hl3⟩ := znq_some hn hl h0
          rw [hl2] at hv2 hlen
          rw [zqy_miss hmiss] at hv2
          refine zw_loc [true, true, true, true, false, false] rfl ?_
          exact ih _ _ hl3 (by simp only [List.length_cons] at hlen; omega) hv2
      · refine zw_aload_n 123 dX6_row_122 rfl rfl ?_
        refine zw_getr 126 (226) (o := 9) dX6_row_123 rfl fX6_39 (by decide) rfl rfl ly217 ?_
        refine zw_iload_n 127 dX6_row_126 rfl rfl ?_
        refine zw_iald 128 dX6_row_127 rfl ly226 (by omega) ?_
        rw [a9]
        refine zw_iret dX6_row_128 rfl ?_
        rw [zqy_hit (by omega), ← hl.2.1 i hi.1 hi.2] at hv2
        subst hv2
        exact hQ _
      
theorem lpI_X6_row {l : Launch} {d : Nat} {σ : zMem} {n : Nat} (hn : 0 < n ∧ n < 8) {i : Int} {Q : Option Value → zMem → Prop} (hx : ∀ g, (∀ x, 0 ≤ x → x < (n : Int) → g x = x) → zw l d mX6_row 46 [some (.ref 217), some (.int (zI i)), some (.int (zI ((n : Int)))), some (.int (zI ((n : Int)))), none, none] [] (zwa σ 226 g) Q) : ∀ (m : Nat) (j : Int) (g : zR), j + m = n → 0 ≤ j → (∀ x, 0 ≤ x → x < j → g x = x) → zw l d mX6_row 28 [some (.ref 217), some (.int (zI i)), some (.int (zI ((n : Int)))), some (.int (zI j)), none, none] [] (zwa σ 226 g) Q := by
  intro m
  induction m with
  | zero =>
    intro j g h1 h2 h3
    obtain rfl : j = n := by omega
    refine zw_iload_n 29 dX6_row_28 rfl rfl ?_
    refine zw_iload_n 30 dX6_row_29 rfl rfl ?_
    refine zw_icmp_ge 46 33 dX6_row_30 (by decide) rfl (by omega) (by omega) (fun h30 => ?_) (fun h30 => ?_)
    · exact hx g h3
    · exfalso; omega
  | succ m ih =>
    intro j g h1 h2 h3
    refine zw_iload_n 29 dX6_row_28 rfl rfl ?_
    refine zw_iload_n 30 dX6_row_29 rfl rfl ?_
    refine zw_icmp_ge 46 33 dX6_row_30 (by decide) rfl (by omega) (by omega) (fun h30 => ?_) (fun h30 => ?_)
    · exfalso; omega
    · refine zw_aload_n 34 dX6_row_33 rfl rfl ?_
      refine zw_getr 37 (226) (o := 9) dX6_row_34 rfl fX6_39 (by decide) rfl rfl ly217 ?_
      refine zw_iload_n 38 dX6_row_37 rfl rfl ?_
      refine zw_iload_n 39 dX6_row_38 rfl rfl ?_
      refine zw_iast 40 dX6_row_39 rfl ly226 (by omega) ?_
      rw [zwr_wa]
      refine zw_iinc 43 dX6_row_40 rfl (by decide) rfl ?_
      refine zw_goto 28 dX6_row_43 (by decide) ?_
      refine zw_loc [true, true, true, true, false, false] rfl ?_
      exact ih (j + 1) _ (by omega) (by omega) (fun x hx0 hx1 => by
        by_cases hj : x = j
        · rw [hj, zup_same]
        · rw [zup_ne _ _ hj]; exact h3 x hx0 (by omega))
theorem zol_id {n : Nat} (hn : 0 < n ∧ n < 8) {g : zR} (h : ∀ x, 0 ≤ x → x < (n : Int) → g x = x) : zol n (zfL id n []) g := by
  rw [zfL_eq]
  refine ⟨by simp, fun i h0 h1 => ?_, fun i h0 h1 => ?_⟩
  · rw [zfo_map id (by omega), h i h0 h1]
    show i = ((i.toNat : Nat) : Int)
    omega
  · rw [h i h0 h1]; omega
theorem sp_X6_row {l : Launch} {d : Nat} {σ : zMem} (hd : 8 ≤ d) {i : Int} (hi : -2147483648 ≤ i ∧ i < 2147483648) (hV : zVN (σ 218))  : zSp l d mX6_row [.ref 217, .int (zI i)] σ (zAn 224 (0 ≤ i ∧ i ≤ σ 218 33 - 1) (zqy (σ 218) (σ 218 33).toNat i (zpd (σ 218 33).toNat (σ 218 33).toNat [])) 0 (-2) σ) := by
  refine zSp_of oX6_row (Nat.le_of_ble_eq_true rfl) ?_
  show zw l d mX6_row 0 [some (.ref 217), some (.int (zI i)), none, none, none, none] [] σ _
  have hs := hV.1
  have hv := hV.2.1
  have hy := hV.2.2.1
  have gN := hs.1
  have gC := hs.2.1
  obtain ⟨n, hn2⟩ : ∃ n : Nat, (n : Int) = σ 218 33 := ⟨(σ 218 33).toNat, by omega⟩
  refine zw_aload_n 1 dX6_row_0 rfl rfl ?_
  refine zw_getr 4 (218) (o := 1) dX6_row_1 rfl fX6_7 (by decide) rfl rfl ly217 ?_
  refine zw_bipush 6 dX6_row_4 rfl (by decide) ?_
  refine zw_iald 7 dX6_row_6 rfl ly218 (by omega) ?_
  refine zw_istore_n 8 dX6_row_7 rfl (by decide) ?_
  refine zw_iload_n 9 dX6_row_8 rfl rfl ?_
  refine zw_i2l 10 dX6_row_9 rfl (by omega) ?_
  refine zw_lconst 11 0 dX6_row_10 rfl (by decide) ?_
  refine zw_iload_n 12 dX6_row_11 rfl rfl ?_
  refine zw_iconst 13 dX6_row_12 rfl ?_
  refine zw_isub 14 dX6_row_13 rfl ?_
  refine zw_i2l 15 dX6_row_14 rfl (by omega) ?_
  refine zw_callS 18 _ _ dX6_row_15 rfl kX6_86 qX6_in (sp_X6_in (d := d - 1) (by omega) (by omega) (by omega)) (by omega) rfl rfl (Nat.le_of_ble_eq_true rfl) (fun r σ' hq => ?_)
  obtain ⟨rfl, rfl⟩ := hq
  refine zw_if_ne 26 21 dX6_row_18 (by decide) rfl (by omega) (fun h18 => ?_) (fun h18 => ?_)
  · refine zw_iconst 27 dX6_row_26 rfl ?_
    refine zw_istore_n 28 dX6_row_27 rfl (by decide) ?_
    rw [← hn2, Int.toNat_natCast]
    refine zw_mem (zwa_id σ 226) ?_
    have hn : 0 < n ∧ n < 8 := by omega
    have hall := zpw_all hn.2
    rw [← hall.1]
    rw [← hall.1] at hall
    refine lpI_X6_row hn (fun g hg => ?_) n 0 _ (by omega) (by omega) (fun x hx0 hx1 => by omega)
    refine zw_iconst 47 dX6_row_46 rfl ?_
    refine zw_istore_n 48 dX6_row_47 rfl (by decide) ?_
    refine zw_loc [true, true, true, true, false, false] rfl ?_
    exact lpM_X6_row (d := d) (i := i) (by omega) hn (by omega) hV hn2 (fun g2 => zAn_t (by omega) rfl (zNS_wa _ _ (by unfold zSk; omega) (by decide) (by decide))) 6000 _ _ (zol_id hn hg) hall.2 rfl
    
  · refine zw_aload_n 22 dX6_row_21 rfl rfl ?_
    refine zw_callV 25 _ _ dX6_row_22 rfl kX6_100 qX6_bad ly217 ⟨_, rfl, rfl⟩ (by decide) (sp_X6_bad (d := d - 1) (by omega)) (by omega) rfl rfl (Nat.le_of_ble_eq_true rfl) (fun r σ' hq => ?_)
    obtain ⟨rfl, rfl⟩ := hq
    refine zw_iret dX6_row_25 rfl ?_
    exact zAn_f (by omega)
