theorem zlt_b {tx : zR} {b : Int} : ∀ k : Nat, (∀ j : Nat, j < k → 97 ≤ tx (b + j) ∧ tx (b + j) ≤ 122) → 0 ≤ zlt tx b k ∧ zlt tx b k < 32 ^ k
  | 0, _ => by simp [zlt]
  | k + 1, h => by
    have ih := zlt_b k (fun j hj => h j (by omega))
    have hk := h k (by omega)
    unfold zlt
    rw [Int.pow_succ]
    omega
theorem zlt_5 {tx : zR} {b : Int} {k : Nat} (h : ∀ j : Nat, j < k → 97 ≤ tx (b + j) ∧ tx (b + j) ≤ 122) (h5 : k ≤ 6) : 0 ≤ zlt tx b k ∧ zlt tx b k < 1073741824 ∧ (k ≤ 5 → zlt tx b k < 33554432) := by
  have := zlt_b k h
  obtain rfl | rfl | rfl | rfl | rfl | rfl | rfl : k = 0 ∨ k = 1 ∨ k = 2 ∨ k = 3 ∨ k = 4 ∨ k = 5 ∨ k = 6 := by omega
  all_goals omega
def zLI (tx g0 : zR) (b : Int) (k : Nat) (g : zR) : Prop := (∀ i, i ≠ 10 → i ≠ 13 → i ≠ 15 → i ≠ 16 → g i = g0 i) ∧ g 10 = b + k ∧ g 13 = zlt tx b (min k 6) ∧ (7 ≤ k → g 16 = tx (b + 6)) ∧ (g 15 = 0 ∨ g 15 = 1) ∧ ∀ j : Nat, j < k → 97 ≤ tx (b + j) ∧ tx (b + j) ≤ 122
theorem zLI_next {tx g0 : zR} {b : Int} {k : Nat} {g : zR} {x y z : Int} (h : zLI tx g0 b k g) (ht : 97 ≤ tx (b + k) ∧ tx (b + k) ≤ 122) (hx : x = 0 ∨ x = 1) (hy : (k < 6 → y = 32 * g 13 + tx (g 10) - 96) ∧ (¬ k < 6 → y = g 13)) (hz : (k = 6 → z = tx (g 10)) ∧ (k ≠ 6 → z = g 16)) : zLI tx g0 b (k + 1) (zup (zup (zup (zup g 15 x) 13 y) 16 z) 10 (g 10 + 1)) := by
  obtain ⟨h1, h2, h3, h4, h5, h6⟩ := h
  refine ⟨fun i i1 i2 i3 i4 => ?_, ?_, ?_, fun h7 => ?_, ?_, fun j hj => ?_⟩
  · rw [zup_ne _ _ i1, zup_ne _ _ i4, zup_ne _ _ i2, zup_ne _ _ i3]; exact h1 i i1 i2 i3 i4
  · rw [zup_same]; omega
  · simp (disch := decide) only [zup_same, zup_ne]
    by_cases hk : k < 6
    · rw [hy.1 hk, show min (k + 1) 6 = k + 1 by omega, zlt, h3, h2, show min k 6 = k by omega]
    · rw [hy.2 hk, show min (k + 1) 6 = 6 by omega, h3, show min k 6 = 6 by omega]
  · simp (disch := decide) only [zup_same, zup_ne]
    by_cases hk : k = 6
    · rw [hz.1 hk, h2, hk]; rfl
    · rw [hz.2 hk]; exact h4 (by omega)
  · simp (disch := decide) only [zup_same, zup_ne]
    exact hx
  · by_cases hk : j = k
    · rw [hk]; exact ht
    · exact h6 j (by omega)
theorem lpL_X6_readsLetters {l : Launch} {d : Nat} {σ : zMem} {g0 : zR} {n b : Int} (hd : 2 ≤ d) (hx : ztx (σ 223) n) (hb : g0 11 = b) (hb0 : 0 ≤ b) (h60 : g0 6 = n) {E : Int} {Q : Option Value → zMem → Prop} (hQ : ∀ (k : Nat) (g : zR), zLI (σ 223) g0 b k g → b + k = E → E ≤ n → zw l d mX6_readsLetters 134 [some (.ref 217)] [] (zwa σ 217 g) Q) : ∀ (m k : Nat) (g : zR), b + k + m = n → zLI (σ 223) g0 b k g → zwe (σ 223) n m (b + k) = E → zw l d mX6_readsLetters 5 [some (.ref 217)] [] (zwa σ 217 g) Q := by
  have hn := hx.1
  intro m
  induction m with
  | zero =>
    intro k g h1 h2 h3
    have a9 : zwa σ 217 g 217 = g := zwa_same _ _ _
    have a8 : zwa σ 217 g 223 = σ 223 := zwa_ne _ _ (by decide)
    have h6 : g 6 = n := by rw [h2.1 6 (by decide) (by decide) (by decide) (by decide)]; exact h60
    have h11 : g 11 = b := by rw [h2.1 11 (by decide) (by decide) (by decide) (by decide)]; exact hb
    have h10 := h2.2.1
    have h15 := h2.2.2.2.2.1
    have h13 := zlt_5 (k := min k 6) (fun j hj => h2.2.2.2.2.2 j (by omega)) (by omega)
    rw [← h2.2.2.1] at h13
    have zb := zil_b (σ 223) n (g 10)
    unfold zwe at h3
    have z0 : zil (σ 223) n (g 10) = 0 := if_neg (by omega)
    refine zw_aload_n 6 dX6_readsLetters_5 rfl rfl ?_
    refine zw_callV 9 _ _ dX6_readsLetters_6 rfl kX6_135 qX6_isLetter ly217 ⟨_, rfl, rfl⟩ (by decide) (sp_X6_isLetter (d := d - 1) (σ := zwa σ 217 g) (by omega) (by rw [a9, a8, h6]; exact hx) (by rw [a9]; omega)) (by omega) rfl rfl (Nat.le_of_ble_eq_true rfl) (fun r σ' hq => ?_)
    obtain ⟨rfl, rfl⟩ := hq
    rw [a9, a8, h6]
    refine zw_if_eq 134 12 dX6_readsLetters_9 (by decide) rfl (by omega) (fun h9 => ?_) (fun h9 => ?_)
    · exact hQ k g h2 h3 (by omega)
    · exfalso; omega
  | succ m ih =>
    intro k g h1 h2 h3
    have a9 : zwa σ 217 g 217 = g := zwa_same _ _ _
    have a8 : zwa σ 217 g 223 = σ 223 := zwa_ne _ _ (by decide)
    have h6 : g 6 = n := by rw [h2.1 6 (by decide) (by decide) (by decide) (by decide)]; exact h60
    have h11 : g 11 = b := by rw [h2.1 11 (by decide) (by decide) (by decide) (by decide)]; exact hb
    have h10 := h2.2.1
    have h15 := h2.2.2.2.2.1
    have h13 := zlt_5 (k := min k 6) (fun j hj => h2.2.2.2.2.2 j (by omega)) (by omega)
    rw [← h2.2.2.1] at h13
    have zb := zil_b (σ 223) n (g 10)
    unfold zwe at h3
    refine zw_aload_n 6 dX6_readsLetters_5 rfl rfl ?_
    refine zw_callV 9 _ _ dX6_readsLetters_6 rfl kX6_135 qX6_isLetter ly217 ⟨_, rfl, rfl⟩ (by decide) (sp_X6_isLetter (d := d - 1) (σ := zwa σ 217 g) (by omega) (by rw [a9, a8, h6]; exact hx) (by rw [a9]; omega)) (by omega) rfl rfl (Nat.le_of_ble_eq_true rfl) (fun r σ' hq => ?_)
    obtain ⟨rfl, rfl⟩ := hq
    rw [a9, a8, h6]
    refine zw_if_eq 134 12 dX6_readsLetters_9 (by decide) rfl (by omega) (fun h9 => ?_) (fun h9 => ?_)
    · rw [if_neg (by rw [← h10]; omega)] at h3
      exact hQ k g h2 h3 (by omega)
    · have z1 : zil (σ 223) n (g 10) = 1 := by omega
      have z2 : g 10 < n ∧ 97 ≤ σ 223 (g 10) ∧ σ 223 (g 10) ≤ 122 := by
        by_cases q : g 10 < n ∧ 97 ≤ σ 223 (g 10) ∧ σ 223 (g 10) ≤ 122
        · exact q
        · unfold zil at z1; rw [if_neg q] at z1; omega
      refine zw_aload_n 13 dX6_readsLetters_12 rfl rfl ?_
      refine zw_aload_n 14 dX6_readsLetters_13 rfl rfl ?_
      refine zw_gti 17 15 dX6_readsLetters_14 rfl fX6_145 (by decide) rfl rfl ly217 ?_
      try simp (disch := decide) only [zwr_wa, zwa_same, zup_same, zup_ne, zwa_ne]
      refine zw_if_ne 34 20 dX6_readsLetters_17 (by decide) rfl (by omega) (fun h17 => ?_) (fun h17 => ?_)
      · refine zw_iconst 35 dX6_readsLetters_34 rfl ?_
        refine zw_goto 39 dX6_readsLetters_35 (by decide) ?_
        refine zw_ptz 42 15 dX6_readsLetters_39 rfl pX6_145 (by decide) rfl rfl ly217 (by omega) ?_
        try simp (disch := decide) only [zwr_wa, zwa_same, zup_same, zup_ne, zwa_ne]
        refine zw_aload_n 43 dX6_readsLetters_42 rfl rfl ?_
        refine zw_aload_n 44 dX6_readsLetters_43 rfl rfl ?_
        refine zw_gti 47 10 dX6_readsLetters_44 rfl fX6_112 (by decide) rfl rfl ly217 ?_
        try simp (disch := decide) only [zwr_wa, zwa_same, zup_same, zup_ne, zwa_ne]
        refine zw_aload_n 48 dX6_readsLetters_47 rfl rfl ?_
        refine zw_gti 51 11 dX6_readsLetters_48 rfl fX6_123 (by decide) rfl rfl ly217 ?_
        try simp (disch := decide) only [zwr_wa, zwa_same, zup_same, zup_ne, zwa_ne]
        refine zw_isub 52 dX6_readsLetters_51 rfl ?_
        refine zw_bipush 54 dX6_readsLetters_52 rfl (by decide) ?_
        refine zw_icmp_ge 80 57 dX6_readsLetters_54 (by decide) rfl (by omega) (by omega) (fun h54 => ?_) (fun h54 => ?_)
        · refine zw_aload_n 81 dX6_readsLetters_80 rfl rfl ?_
          refine zw_gti 84 13 dX6_readsLetters_81 rfl fX6_126 (by decide) rfl rfl ly217 ?_
          try simp (disch := decide) only [zwr_wa, zwa_same, zup_same, zup_ne, zwa_ne]
          refine zw_pti 87 13 dX6_readsLetters_84 rfl pX6_126 (by decide) rfl rfl ly217 ?_
          try simp (disch := decide) only [zwr_wa, zwa_same, zup_same, zup_ne, zwa_ne]
          refine zw_aload_n 88 dX6_readsLetters_87 rfl rfl ?_
          refine zw_aload_n 89 dX6_readsLetters_88 rfl rfl ?_
          refine zw_gti 92 10 dX6_readsLetters_89 rfl fX6_112 (by decide) rfl rfl ly217 ?_
          try simp (disch := decide) only [zwr_wa, zwa_same, zup_same, zup_ne, zwa_ne]
          refine zw_aload_n 93 dX6_readsLetters_92 rfl rfl ?_
          refine zw_gti 96 11 dX6_readsLetters_93 rfl fX6_123 (by decide) rfl rfl ly217 ?_
          try simp (disch := decide) only [zwr_wa, zwa_same, zup_same, zup_ne, zwa_ne]
          refine zw_isub 97 dX6_readsLetters_96 rfl ?_
          refine zw_bipush 99 dX6_readsLetters_97 rfl (by decide) ?_
          refine zw_icmp_ne 114 102 dX6_readsLetters_99 (by decide) rfl (by omega) (by omega) (fun h99 => ?_) (fun h99 => ?_)
          · refine zw_aload_n 115 dX6_readsLetters_114 rfl rfl ?_
            refine zw_gti 118 16 dX6_readsLetters_115 rfl fX6_149 (by decide) rfl rfl ly217 ?_
            try simp (disch := decide) only [zwr_wa, zwa_same, zup_same, zup_ne, zwa_ne]
            refine zw_pti 121 16 dX6_readsLetters_118 rfl pX6_149 (by decide) rfl rfl ly217 ?_
            try simp (disch := decide) only [zwr_wa, zwa_same, zup_same, zup_ne, zwa_ne]
            refine zw_aload_n 122 dX6_readsLetters_121 rfl rfl ?_
            refine zw_dup 123 dX6_readsLetters_122 rfl rfl ?_
            refine zw_gti 126 10 dX6_readsLetters_123 rfl fX6_112 (by decide) rfl rfl ly217 ?_
            try simp (disch := decide) only [zwr_wa, zwa_same, zup_same, zup_ne, zwa_ne]
            refine zw_iconst 127 dX6_readsLetters_126 rfl ?_
            refine zw_iadd 128 dX6_readsLetters_127 rfl ?_
            refine zw_pti 131 10 dX6_readsLetters_128 rfl pX6_112 (by decide) rfl rfl ly217 ?_
            try simp (disch := decide) only [zwr_wa, zwa_same, zup_same, zup_ne, zwa_ne]
            refine zw_goto 5 dX6_readsLetters_131 (by decide) ?_
            rw [if_pos (by rw [← h10]; exact z1)] at h3
            exact ih (k + 1) _ (by omega) (zLI_next h2 (by rw [← h10]; exact z2.2) (by omega) ⟨fun _ => by omega, fun _ => by omega⟩ ⟨fun _ => by omega, fun _ => by omega⟩) (by rw [show b + ((k + 1 : Nat) : Int) = b + k + 1 by omega]; exact h3)
          · refine zw_aload_n 103 dX6_readsLetters_102 rfl rfl ?_
            refine zw_getr 106 (223) (o := 6) dX6_readsLetters_103 rfl fX6_26 (by decide) rfl rfl ly217 ?_
            refine zw_aload_n 107 dX6_readsLetters_106 rfl rfl ?_
            refine zw_gti 110 10 dX6_readsLetters_107 rfl fX6_112 (by decide) rfl rfl ly217 ?_
            try simp (disch := decide) only [zwr_wa, zwa_same, zup_same, zup_ne, zwa_ne]
            refine zw_iald 111 dX6_readsLetters_110 rfl ly223 (by omega) ?_
            try simp (disch := decide) only [zwr_wa, zwa_same, zup_same, zup_ne, zwa_ne]
            refine zw_goto 118 dX6_readsLetters_111 (by decide) ?_
            refine zw_pti 121 16 dX6_readsLetters_118 rfl pX6_149 (by decide) rfl rfl ly217 ?_
            try simp (disch := decide) only [zwr_wa, zwa_same, zup_same, zup_ne, zwa_ne]
            refine zw_aload_n 122 dX6_readsLetters_121 rfl rfl ?_
            refine zw_dup 123 dX6_readsLetters_122 rfl rfl ?_
            refine zw_gti 126 10 dX6_readsLetters_123 rfl fX6_112 (by decide) rfl rfl ly217 ?_
            try simp (disch := decide) only [zwr_wa, zwa_same, zup_same, zup_ne, zwa_ne]
            refine zw_iconst 127 dX6_readsLetters_126 rfl ?_
            refine zw_iadd 128 dX6_readsLetters_127 rfl ?_
            refine zw_pti 131 10 dX6_readsLetters_128 rfl pX6_112 (by decide) rfl rfl ly217 ?_
            try simp (disch := decide) only [zwr_wa, zwa_same, zup_same, zup_ne, zwa_ne]
            refine zw_goto 5 dX6_readsLetters_131 (by decide) ?_
            rw [if_pos (by rw [← h10]; exact z1)] at h3
            exact ih (k + 1) _ (by omega) (zLI_next h2 (by rw [← h10]; exact z2.2) (by omega) ⟨fun _ => by omega, fun _ => by omega⟩ ⟨fun _ => by omega, fun _ => by omega⟩) (by rw [show b + ((k + 1 : Nat) : Int) = b + k + 1 by omega]; exact h3)
        · refine zw_bipush 59 dX6_readsLetters_57 rfl (by decide) ?_
          refine zw_aload_n 60 dX6_readsLetters_59 rfl rfl ?_
          refine zw_gti 63 13 dX6_readsLetters_60 rfl fX6_126 (by decide) rfl rfl ly217 ?_
          try simp (disch := decide) only [zwr_wa, zwa_same, zup_same, zup_ne, zwa_ne]
          refine zw_imul 64 dX6_readsLetters_63 rfl ?_
          refine zw_aload_n 65 dX6_readsLetters_64 rfl rfl ?_
          refine zw_getr 68 (223) (o := 6) dX6_readsLetters_65 rfl fX6_26 (by decide) rfl rfl ly217 ?_
          refine zw_aload_n 69 dX6_readsLetters_68 rfl rfl ?_
          refine zw_gti 72 10 dX6_readsLetters_69 rfl fX6_112 (by decide) rfl rfl ly217 ?_
          try simp (disch := decide) only [zwr_wa, zwa_same, zup_same, zup_ne, zwa_ne]
          refine zw_iald 73 dX6_readsLetters_72 rfl ly223 (by omega) ?_
          try simp (disch := decide) only [zwr_wa, zwa_same, zup_same, zup_ne, zwa_ne]
          refine zw_iadd 74 dX6_readsLetters_73 rfl ?_
          refine zw_bipush 76 dX6_readsLetters_74 rfl (by decide) ?_
          refine zw_isub 77 dX6_readsLetters_76 rfl ?_
          refine zw_goto 84 dX6_readsLetters_77 (by decide) ?_
          refine zw_pti 87 13 dX6_readsLetters_84 rfl pX6_126 (by decide) rfl rfl ly217 ?_
          try simp (disch := decide) only [zwr_wa, zwa_same, zup_same, zup_ne, zwa_ne]
          refine zw_aload_n 88 dX6_readsLetters_87 rfl rfl ?_
          refine zw_aload_n 89 dX6_readsLetters_88 rfl rfl ?_
          refine zw_gti 92 10 dX6_readsLetters_89 rfl fX6_112 (by decide) rfl rfl ly217 ?_
          try simp (disch := decide) only [zwr_wa, zwa_same, zup_same, zup_ne, zwa_ne]
          refine zw_aload_n 93 dX6_readsLetters_92 rfl rfl ?_
          refine zw_gti 96 11 dX6_readsLetters_93 rfl fX6_123 (by decide) rfl rfl ly217 ?_
          try simp (disch := decide) only [zwr_wa, zwa_same, zup_same, zup_ne, zwa_ne]
          refine zw_isub 97 dX6_readsLetters_96 rfl ?_
          refine zw_bipush 99 dX6_readsLetters_97 rfl (by decide) ?_
          refine zw_icmp_ne 114 102 dX6_readsLetters_99 (by decide) rfl (by omega) (by omega) (fun h99 => ?_) (fun h99 => ?_)
          · refine zw_aload_n 115 dX6_readsLetters_114 rfl rfl ?_
            refine zw_gti 118 16 dX6_readsLetters_115 rfl fX6_149 (by decide) rfl rfl ly217 ?_
            try simp (disch := decide) only [zwr_wa, zwa_same, zup_same, zup_ne, zwa_ne]
            refine zw_pti 121 16 dX6_readsLetters_118 rfl pX6_149 (by decide) rfl rfl ly217 ?_
            try simp (disch := decide) only [zwr_wa, zwa_same, zup_same, zup_ne, zwa_ne]
            refine zw_aload_n 122 dX6_readsLetters_121 rfl rfl ?_
            refine zw_dup 123 dX6_readsLetters_122 rfl rfl ?_
            refine zw_gti 126 10 dX6_readsLetters_123 rfl fX6_112 (by decide) rfl rfl ly217 ?_
            try simp (disch := decide) only [zwr_wa, zwa_same, zup_same, zup_ne, zwa_ne]
            refine zw_iconst 127 dX6_readsLetters_126 rfl ?_
            refine zw_iadd 128 dX6_readsLetters_127 rfl ?_
            refine zw_pti 131 10 dX6_readsLetters_128 rfl pX6_112 (by decide) rfl rfl ly217 ?_
            try simp (disch := decide) only [zwr_wa, zwa_same, zup_same, zup_ne, zwa_ne]
            refine zw_goto 5 dX6_readsLetters_131 (by decide) ?_
            rw [if_pos (by rw [← h10]; exact z1)] at h3
            exact ih (k + 1) _ (by omega) (zLI_next h2 (by rw [← h10]; exact z2.2) (by omega) ⟨fun _ => by omega, fun _ => by omega⟩ ⟨fun _ => by omega, fun _ => by omega⟩) (by rw [show b + ((k + 1 : Nat) : Int) = b + k + 1 by omega]; exact h3)
          · refine zw_aload_n 103 dX6_readsLetters_102 rfl rfl ?_
            refine zw_getr 106 (223) (o := 6) dX6_readsLetters_103 rfl fX6_26 (by decide) rfl rfl ly217 ?_
            refine zw_aload_n 107 dX6_readsLetters_106 rfl rfl ?_
            refine zw_gti 110 10 dX6_readsLetters_107 rfl fX6_112 (by decide) rfl rfl ly217 ?_
            try simp (disch := decide) only [zwr_wa, zwa_same, zup_same, zup_ne, zwa_ne]
            refine zw_iald 111 dX6_readsLetters_110 rfl ly223 (by omega) ?_
            try simp (disch := decide) only [zwr_wa, zwa_same, zup_same, zup_ne, zwa_ne]
            refine zw_goto 118 dX6_readsLetters_111 (by decide) ?_
            refine zw_pti 121 16 dX6_readsLetters_118 rfl pX6_149 (by decide) rfl rfl ly217 ?_
            try simp (disch := decide) only [zwr_wa, zwa_same, zup_same, zup_ne, zwa_ne]
            refine zw_aload_n 122 dX6_readsLetters_121 rfl rfl ?_
            refine zw_dup 123 dX6_readsLetters_122 rfl rfl ?_
            refine zw_gti 126 10 dX6_readsLetters_123 rfl fX6_112 (by decide) rfl rfl ly217 ?_
            try simp (disch := decide) only [zwr_wa, zwa_same, zup_same, zup_ne, zwa_ne]
            refine zw_iconst 127 dX6_readsLetters_126 rfl ?_
            refine zw_iadd 128 dX6_readsLetters_127 rfl ?_
            refine zw_pti 131 10 dX6_readsLetters_128 rfl pX6_112 (by decide) rfl rfl ly217 ?_
            try simp (disch := decide) only [zwr_wa, zwa_same, zup_same, zup_ne, zwa_ne]
            refine zw_goto 5 dX6_readsLetters_131 (by decide) ?_
            rw [if_pos (by rw [← h10]; exact z1)] at h3
            exact ih (k + 1) _ (by omega) (zLI_next h2 (by rw [← h10]; exact z2.2) (by omega) ⟨fun _ => by omega, fun _ => by omega⟩ ⟨fun _ => by omega, fun _ => by omega⟩) (by rw [show b + ((k + 1 : Nat) : Int) = b + k + 1 by omega]; exact h3)
      · refine zw_aload_n 21 dX6_readsLetters_20 rfl rfl ?_
        refine zw_gti 24 10 dX6_readsLetters_21 rfl fX6_112 (by decide) rfl rfl ly217 ?_
        try simp (disch := decide) only [zwr_wa, zwa_same, zup_same, zup_ne, zwa_ne]
        refine zw_aload_n 25 dX6_readsLetters_24 rfl rfl ?_
        refine zw_gti 28 11 dX6_readsLetters_25 rfl fX6_123 (by decide) rfl rfl ly217 ?_
        try simp (disch := decide) only [zwr_wa, zwa_same, zup_same, zup_ne, zwa_ne]
        refine zw_isub 29 dX6_readsLetters_28 rfl ?_
        refine zw_bipush 31 dX6_readsLetters_29 rfl (by decide) ?_
        refine zw_icmp_lt 38 34 dX6_readsLetters_31 (by decide) rfl (by omega) (by omega) (fun h31 => ?_) (fun h31 => ?_)
        · refine zw_iconst 39 dX6_readsLetters_38 rfl ?_
          refine zw_ptz 42 15 dX6_readsLetters_39 rfl pX6_145 (by decide) rfl rfl ly217 (by omega) ?_
          try simp (disch := decide) only [zwr_wa, zwa_same, zup_same, zup_ne, zwa_ne]
          refine zw_aload_n 43 dX6_readsLetters_42 rfl rfl ?_
          refine zw_aload_n 44 dX6_readsLetters_43 rfl rfl ?_
          refine zw_gti 47 10 dX6_readsLetters_44 rfl fX6_112 (by decide) rfl rfl ly217 ?_
          try simp (disch := decide) only [zwr_wa, zwa_same, zup_same, zup_ne, zwa_ne]
          refine zw_aload_n 48 dX6_readsLetters_47 rfl rfl ?_
          refine zw_gti 51 11 dX6_readsLetters_48 rfl fX6_123 (by decide) rfl rfl ly217 ?_
          try simp (disch := decide) only [zwr_wa, zwa_same, zup_same, zup_ne, zwa_ne]
          refine zw_isub 52 dX6_readsLetters_51 rfl ?_
          refine zw_bipush 54 dX6_readsLetters_52 rfl (by decide) ?_
          refine zw_icmp_ge 80 57 dX6_readsLetters_54 (by decide) rfl (by omega) (by omega) (fun h54 => ?_) (fun h54 => ?_)
          · refine zw_aload_n 81 dX6_readsLetters_80 rfl rfl ?_
            refine zw_gti 84 13 dX6_readsLetters_81 rfl fX6_126 (by decide) rfl rfl ly217 ?_
            try simp (disch := decide) only [zwr_wa, zwa_same, zup_same, zup_ne, zwa_ne]
            refine zw_pti 87 13 dX6_readsLetters_84 rfl pX6_126 (by decide) rfl rfl ly217 ?_
            try simp (disch := decide) only [zwr_wa, zwa_same, zup_same, zup_ne, zwa_ne]
            refine zw_aload_n 88 dX6_readsLetters_87 rfl rfl ?_
            refine zw_aload_n 89 dX6_readsLetters_88 rfl rfl ?_
            refine zw_gti 92 10 dX6_readsLetters_89 rfl fX6_112 (by decide) rfl rfl ly217 ?_
            try simp (disch := decide) only [zwr_wa, zwa_same, zup_same, zup_ne, zwa_ne]
            refine zw_aload_n 93 dX6_readsLetters_92 rfl rfl ?_
            refine zw_gti 96 11 dX6_readsLetters_93 rfl fX6_123 (by decide) rfl rfl ly217 ?_
            try simp (disch := decide) only [zwr_wa, zwa_same, zup_same, zup_ne, zwa_ne]
            refine zw_isub 97 dX6_readsLetters_96 rfl ?_
            refine zw_bipush 99 dX6_readsLetters_97 rfl (by decide) ?_
            refine zw_icmp_ne 114 102 dX6_readsLetters_99 (by decide) rfl (by omega) (by omega) (fun h99 => ?_) (fun h99 => ?_)
            · refine zw_aload_n 115 dX6_readsLetters_114 rfl rfl ?_
              refine zw_gti 118 16 dX6_readsLetters_115 rfl fX6_149 (by decide) rfl rfl ly217 ?_
              try simp (disch := decide) only [zwr_wa, zwa_same, zup_same, zup_ne, zwa_ne]
              refine zw_pti 121 16 dX6_readsLetters_118 rfl pX6_149 (by decide) rfl rfl ly217 ?_
              try simp (disch := decide) only [zwr_wa, zwa_same, zup_same, zup_ne, zwa_ne]
              refine zw_aload_n 122 dX6_readsLetters_121 rfl rfl ?_
              refine zw_dup 123 dX6_readsLetters_122 rfl rfl ?_
              refine zw_gti 126 10 dX6_readsLetters_123 rfl fX6_112 (by decide) rfl rfl ly217 ?_
              try simp (disch := decide) only [zwr_wa, zwa_same, zup_same, zup_ne, zwa_ne]
              refine zw_iconst 127 dX6_readsLetters_126 rfl ?_
              refine zw_iadd 128 dX6_readsLetters_127 rfl ?_
              refine zw_pti 131 10 dX6_readsLetters_128 rfl pX6_112 (by decide) rfl rfl ly217 ?_
              try simp (disch := decide) only [zwr_wa, zwa_same, zup_same, zup_ne, zwa_ne]
              refine zw_goto 5 dX6_readsLetters_131 (by decide) ?_
              rw [if_pos (by rw [← h10]; exact z1)] at h3
              exact ih (k + 1) _ (by omega) (zLI_next h2 (by rw [← h10]; exact z2.2) (by omega) ⟨fun _ => by omega, fun _ => by omega⟩ ⟨fun _ => by omega, fun _ => by omega⟩) (by rw [show b + ((k + 1 : Nat) : Int) = b + k + 1 by omega]; exact h3)
            · refine zw_aload_n 103 dX6_readsLetters_102 rfl rfl ?_
              refine zw_getr 106 (223) (o := 6) dX6_readsLetters_103 rfl fX6_26 (by decide) rfl rfl ly217 ?_
              refine zw_aload_n 107 dX6_readsLetters_106 rfl rfl ?_
              refine zw_gti 110 10 dX6_readsLetters_107 rfl fX6_112 (by decide) rfl rfl ly217 ?_
              try simp (disch := decide) only [zwr_wa, zwa_same, zup_same, zup_ne, zwa_ne]
              refine zw_iald 111 dX6_readsLetters_110 rfl ly223 (by omega) ?_
              try simp (disch := decide) only [zwr_wa, zwa_same, zup_same, zup_ne, zwa_ne]
              refine zw_goto 118 dX6_readsLetters_111 (by decide) ?_
              refine zw_pti 121 16 dX6_readsLetters_118 rfl pX6_149 (by decide) rfl rfl ly217 ?_
              try simp (disch := decide) only [zwr_wa, zwa_same, zup_same, zup_ne, zwa_ne]
              refine zw_aload_n 122 dX6_readsLetters_121 rfl rfl ?_
              refine zw_dup 123 dX6_readsLetters_122 rfl rfl ?_
              refine zw_gti 126 10 dX6_readsLetters_123 rfl fX6_112 (by decide) rfl rfl ly217 ?_
              try simp (disch := decide) only [zwr_wa, zwa_same, zup_same, zup_ne, zwa_ne]
              refine zw_iconst 127 dX6_readsLetters_126 rfl ?_
              refine zw_iadd 128 dX6_readsLetters_127 rfl ?_
              refine zw_pti 131 10 dX6_readsLetters_128 rfl pX6_112 (by decide) rfl rfl ly217 ?_
              try simp (disch := decide) only [zwr_wa, zwa_same, zup_same, zup_ne, zwa_ne]
              refine zw_goto 5 dX6_readsLetters_131 (by decide) ?_
              rw [if_pos (by rw [← h10]; exact z1)] at h3
              exact ih (k + 1) _ (by omega) (zLI_next h2 (by rw [← h10]; exact z2.2) (by omega) ⟨fun _ => by omega, fun _ => by omega⟩ ⟨fun _ => by omega, fun _ => by omega⟩) (by rw [show b + ((k + 1 : Nat) : Int) = b + k + 1 by omega]; exact h3)
          · refine zw_bipush 59 dX6_readsLetters_57 rfl (by decide) ?_
            refine zw_aload_n 60 dX6_readsLetters_59 rfl rfl ?_
            refine zw_gti 63 13 dX6_readsLetters_60 rfl fX6_126 (by decide) rfl rfl ly217 ?_
            try simp (disch := decide) only [zwr_wa, zwa_same, zup_same, zup_ne, zwa_ne]
            refine zw_imul 64 dX6_readsLetters_63 rfl ?_
            refine zw_aload_n 65 dX6_readsLetters_64 rfl rfl ?_
            refine zw_getr 68 (223) (o := 6) dX6_readsLetters_65 rfl fX6_26 (by decide) rfl rfl ly217 ?_
            refine zw_aload_n 69 dX6_readsLetters_68 rfl rfl ?_
            refine zw_gti 72 10 dX6_readsLetters_69 rfl fX6_112 (by decide) rfl rfl ly217 ?_
            try simp (disch := decide) only [zwr_wa, zwa_same, zup_same, zup_ne, zwa_ne]
            refine zw_iald 73 dX6_readsLetters_72 rfl ly223 (by omega) ?_
            try simp (disch := decide) only [zwr_wa, zwa_same, zup_same, zup_ne, zwa_ne]
            refine zw_iadd 74 dX6_readsLetters_73 rfl ?_
            refine zw_bipush 76 dX6_readsLetters_74 rfl (by decide) ?_
            refine zw_isub 77 dX6_readsLetters_76 rfl ?_
            refine zw_goto 84 dX6_readsLetters_77 (by decide) ?_
            refine zw_pti 87 13 dX6_readsLetters_84 rfl pX6_126 (by decide) rfl rfl ly217 ?_
            try simp (disch := decide) only [zwr_wa, zwa_same, zup_same, zup_ne, zwa_ne]
            refine zw_aload_n 88 dX6_readsLetters_87 rfl rfl ?_
            refine zw_aload_n 89 dX6_readsLetters_88 rfl rfl ?_
            refine zw_gti 92 10 dX6_readsLetters_89 rfl fX6_112 (by decide) rfl rfl ly217 ?_
            try simp (disch := decide) only [zwr_wa, zwa_same, zup_same, zup_ne, zwa_ne]
            refine zw_aload_n 93 dX6_readsLetters_92 rfl rfl ?_
            refine zw_gti 96 11 dX6_readsLetters_93 rfl fX6_123 (by decide) rfl rfl ly217 ?_
            try simp (disch := decide) only [zwr_wa, zwa_same, zup_same, zup_ne, zwa_ne]
            refine zw_isub 97 dX6_readsLetters_96 rfl ?_
            refine zw_bipush 99 dX6_readsLetters_97 rfl (by decide) ?_
            refine zw_icmp_ne 114 102 dX6_readsLetters_99 (by decide) rfl (by omega) (by omega) (fun h99 => ?_) (fun h99 => ?_)
            · refine zw_aload_n 115 dX6_readsLetters_114 rfl rfl ?_
              refine zw_gti 118 16 dX6_readsLetters_115 rfl fX6_149 (by decide) rfl rfl ly217 ?_
              try simp (disch := decide) only [zwr_wa, zwa_same, zup_same, zup_ne, zwa_ne]
              refine zw_pti 121 16 dX6_readsLetters_118 rfl pX6_149 (by decide) rfl rfl ly217 ?_
              try simp (disch := decide) only [zwr_wa, zwa_same, zup_same, zup_ne, zwa_ne]
              refine zw_aload_n 122 dX6_readsLetters_121 rfl rfl ?_
              refine zw_dup 123 dX6_readsLetters_122 rfl rfl ?_
              refine zw_gti 126 10 dX6_readsLetters_123 rfl fX6_112 (by decide) rfl rfl ly217 ?_
              try simp (disch := decide) only [zwr_wa, zwa_same, zup_same, zup_ne, zwa_ne]
              refine zw_iconst 127 dX6_readsLetters_126 rfl ?_
              refine zw_iadd 128 dX6_readsLetters_127 rfl ?_
              refine zw_pti 131 10 dX6_readsLetters_128 rfl pX6_112 (by decide) rfl rfl ly217 ?_
              try simp (disch := decide) only [zwr_wa, zwa_same, zup_same, zup_ne, zwa_ne]
              refine zw_goto 5 dX6_readsLetters_131 (by decide) ?_
              rw [if_pos (by rw [← h10]; exact z1)] at h3
              exact ih (k + 1) _ (by omega) (zLI_next h2 (by rw [← h10]; exact z2.2) (by omega) ⟨fun _ => by omega, fun _ => by omega⟩ ⟨fun _ => by omega, fun _ => by omega⟩) (by rw [show b + ((k + 1 : Nat) : Int) = b + k + 1 by omega]; exact h3)
            · refine zw_aload_n 103 dX6_readsLetters_102 rfl rfl ?_
              refine zw_getr 106 (223) (o := 6) dX6_readsLetters_103 rfl fX6_26 (by decide) rfl rfl ly217 ?_
              refine zw_aload_n 107 dX6_readsLetters_106 rfl rfl ?_
              refine zw_gti 110 10 dX6_readsLetters_107 rfl fX6_112 (by decide) rfl rfl ly217 ?_
              try simp (disch := decide) only [zwr_wa, zwa_same, zup_same, zup_ne, zwa_ne]
              refine zw_iald 111 dX6_readsLetters_110 rfl ly223 (by omega) ?_
              try simp (disch := decide) only [zwr_wa, zwa_same, zup_same, zup_ne, zwa_ne]
              refine zw_goto 118 dX6_readsLetters_111 (by decide) ?_
              refine zw_pti 121 16 dX6_readsLetters_118 rfl pX6_149 (by decide) rfl rfl ly217 ?_
              try simp (disch := decide) only [zwr_wa, zwa_same, zup_same, zup_ne, zwa_ne]
              refine zw_aload_n 122 dX6_readsLetters_121 rfl rfl ?_
              refine zw_dup 123 dX6_readsLetters_122 rfl rfl ?_
              refine zw_gti 126 10 dX6_readsLetters_123 rfl fX6_112 (by decide) rfl rfl ly217 ?_
              try simp (disch := decide) only [zwr_wa, zwa_same, zup_same, zup_ne, zwa_ne]
              refine zw_iconst 127 dX6_readsLetters_126 rfl ?_
              refine zw_iadd 128 dX6_readsLetters_127 rfl ?_
              refine zw_pti 131 10 dX6_readsLetters_128 rfl pX6_112 (by decide) rfl rfl ly217 ?_
              try simp (disch := decide) only [zwr_wa, zwa_same, zup_same, zup_ne, zwa_ne]
              refine zw_goto 5 dX6_readsLetters_131 (by decide) ?_
              rw [if_pos (by rw [← h10]; exact z1)] at h3
              exact ih (k + 1) _ (by omega) (zLI_next h2 (by rw [← h10]; exact z2.2) (by omega) ⟨fun _ => by omega, fun _ => by omega⟩ ⟨fun _ => by omega, fun _ => by omega⟩) (by rw [show b + ((k + 1 : Nat) : Int) = b + k + 1 by omega]; exact h3)
        · refine zw_iconst 35 dX6_readsLetters_34 rfl ?_
          refine zw_goto 39 dX6_readsLetters_35 (by decide) ?_
          refine zw_ptz 42 15 dX6_readsLetters_39 rfl pX6_145 (by decide) rfl rfl ly217 (by omega) ?_
          try simp (disch := decide) only [zwr_wa, zwa_same, zup_same, zup_ne, zwa_ne]
          refine zw_aload_n 43 dX6_readsLetters_42 rfl rfl ?_
          refine zw_aload_n 44 dX6_readsLetters_43 rfl rfl ?_
          refine zw_gti 47 10 dX6_readsLetters_44 rfl fX6_112 (by decide) rfl rfl ly217 ?_
          try simp (disch := decide) only [zwr_wa, zwa_same, zup_same, zup_ne, zwa_ne]
          refine zw_aload_n 48 dX6_readsLetters_47 rfl rfl ?_
          refine zw_gti 51 11 dX6_readsLetters_48 rfl fX6_123 (by decide) rfl rfl ly217 ?_
          try simp (disch := decide) only [zwr_wa, zwa_same, zup_same, zup_ne, zwa_ne]
          refine zw_isub 52 dX6_readsLetters_51 rfl ?_
          refine zw_bipush 54 dX6_readsLetters_52 rfl (by decide) ?_
          refine zw_icmp_ge 80 57 dX6_readsLetters_54 (by decide) rfl (by omega) (by omega) (fun h54 => ?_) (fun h54 => ?_)
          · refine zw_aload_n 81 dX6_readsLetters_80 rfl rfl ?_
            refine zw_gti 84 13 dX6_readsLetters_81 rfl fX6_126 (by decide) rfl rfl ly217 ?_
            try simp (disch := decide) only [zwr_wa, zwa_same, zup_same, zup_ne, zwa_ne]
            refine zw_pti 87 13 dX6_readsLetters_84 rfl pX6_126 (by decide) rfl rfl ly217 ?_
            try simp (disch := decide) only [zwr_wa, zwa_same, zup_same, zup_ne, zwa_ne]
            refine zw_aload_n 88 dX6_readsLetters_87 rfl rfl ?_
            refine zw_aload_n 89 dX6_readsLetters_88 rfl rfl ?_
            refine zw_gti 92 10 dX6_readsLetters_89 rfl fX6_112 (by decide) rfl rfl ly217 ?_
            try simp (disch := decide) only [zwr_wa, zwa_same, zup_same, zup_ne, zwa_ne]
            refine zw_aload_n 93 dX6_readsLetters_92 rfl rfl ?_
            refine zw_gti 96 11 dX6_readsLetters_93 rfl fX6_123 (by decide) rfl rfl ly217 ?_
            try simp (disch := decide) only [zwr_wa, zwa_same, zup_same, zup_ne, zwa_ne]
            refine zw_isub 97 dX6_readsLetters_96 rfl ?_
            refine zw_bipush 99 dX6_readsLetters_97 rfl (by decide) ?_
            refine zw_icmp_ne 114 102 dX6_readsLetters_99 (by decide) rfl (by omega) (by omega) (fun h99 => ?_) (fun h99 => ?_)
            · refine zw_aload_n 115 dX6_readsLetters_114 rfl rfl ?_
              refine zw_gti 118 16 dX6_readsLetters_115 rfl fX6_149 (by decide) rfl rfl ly217 ?_
              try simp (disch := decide) only [zwr_wa, zwa_same, zup_same, zup_ne, zwa_ne]
              refine zw_pti 121 16 dX6_readsLetters_118 rfl pX6_149 (by decide) rfl rfl ly217 ?_
              try simp (disch := decide) only [zwr_wa, zwa_same, zup_same, zup_ne, zwa_ne]
              refine zw_aload_n 122 dX6_readsLetters_121 rfl rfl ?_
              refine zw_dup 123 dX6_readsLetters_122 rfl rfl ?_
              refine zw_gti 126 10 dX6_readsLetters_123 rfl fX6_112 (by decide) rfl rfl ly217 ?_
              try simp (disch := decide) only [zwr_wa, zwa_same, zup_same, zup_ne, zwa_ne]
              refine zw_iconst 127 dX6_readsLetters_126 rfl ?_
              refine zw_iadd 128 dX6_readsLetters_127 rfl ?_
              refine zw_pti 131 10 dX6_readsLetters_128 rfl pX6_112 (by decide) rfl rfl ly217 ?_
              try simp (disch := decide) only [zwr_wa, zwa_same, zup_same, zup_ne, zwa_ne]
              refine zw_goto 5 dX6_readsLetters_131 (by decide) ?_
              rw [if_pos (by rw [← h10]; exact z1)] at h3
              exact ih (k + 1) _ (by omega) (zLI_next h2 (by rw [← h10]; exact z2.2) (by omega) ⟨fun _ => by omega, fun _ => by omega⟩ ⟨fun _ => by omega, fun _ => by omega⟩) (by rw [show b + ((k + 1 : Nat) : Int) = b + k + 1 by omega]; exact h3)
            · refine zw_aload_n 103 dX6_readsLetters_102 rfl rfl ?_
              refine zw_getr 106 (223) (o := 6) dX6_readsLetters_103 rfl fX6_26 (by decide) rfl rfl ly217 ?_
              refine zw_aload_n 107 dX6_readsLetters_106 rfl rfl ?_
              refine zw_gti 110 10 dX6_readsLetters_107 rfl fX6_112 (by decide) rfl rfl ly217 ?_
              try simp (disch := decide) only [zwr_wa, zwa_same, zup_same, zup_ne, zwa_ne]
              refine zw_iald 111 dX6_readsLetters_110 rfl ly223 (by omega) ?_
              try simp (disch := decide) only [zwr_wa, zwa_same, zup_same, zup_ne, zwa_ne]
              refine zw_goto 118 dX6_readsLetters_111 (by decide) ?_
              refine zw_pti 121 16 dX6_readsLetters_118 rfl pX6_149 (by decide) rfl rfl ly217 ?_
              try simp (disch := decide) only [zwr_wa, zwa_same, zup_same, zup_ne, zwa_ne]
              refine zw_aload_n 122 dX6_readsLetters_121 rfl rfl ?_
              refine zw_dup 123 dX6_readsLetters_122 rfl rfl ?_
              refine zw_gti 126 10 dX6_readsLetters_123 rfl fX6_112 (by decide) rfl rfl ly217 ?_
              try simp (disch := decide) only [zwr_wa, zwa_same, zup_same, zup_ne, zwa_ne]
              refine zw_iconst 127 dX6_readsLetters_126 rfl ?_
              refine zw_iadd 128 dX6_readsLetters_127 rfl ?_
              refine zw_pti 131 10 dX6_readsLetters_128 rfl pX6_112 (by decide) rfl rfl ly217 ?_
              try simp (disch := decide) only [zwr_wa, zwa_same, zup_same, zup_ne, zwa_ne]
              refine zw_goto 5 dX6_readsLetters_131 (by decide) ?_
              rw [if_pos (by rw [← h10]; exact z1)] at h3
              exact ih (k + 1) _ (by omega) (zLI_next h2 (by rw [← h10]; exact z2.2) (by omega) ⟨fun _ => by omega, fun _ => by omega⟩ ⟨fun _ => by omega, fun _ => by omega⟩) (by rw [show b + ((k + 1 : Nat) : Int) = b + k + 1 by omega]; exact h3)
          · refine zw_bipush 59 dX6_readsLetters_57 rfl (by decide) ?_
            refine zw_aload_n 60 dX6_readsLetters_59 rfl rfl ?_
            refine zw_gti 63 13 dX6_readsLetters_60 rfl fX6_126 (by decide) rfl rfl ly217 ?_
            try simp (disch := decide) only [zwr_wa, zwa_same, zup_same, zup_ne, zwa_ne]
            refine zw_imul 64 dX6_readsLetters_63 rfl ?_
            refine zw_aload_n 65 dX6_readsLetters_64 rfl rfl ?_
            refine zw_getr 68 (223) (o := 6) dX6_readsLetters_65 rfl fX6_26 (by decide) rfl rfl ly217 ?_
            refine zw_aload_n 69 dX6_readsLetters_68 rfl rfl ?_
            refine zw_gti 72 10 dX6_readsLetters_69 rfl fX6_112 (by decide) rfl rfl ly217 ?_
            try simp (disch := decide) only [zwr_wa, zwa_same, zup_same, zup_ne, zwa_ne]
            refine zw_iald 73 dX6_readsLetters_72 rfl ly223 (by omega) ?_
            try simp (disch := decide) only [zwr_wa, zwa_same, zup_same, zup_ne, zwa_ne]
            refine zw_iadd 74 dX6_readsLetters_73 rfl ?_
            refine zw_bipush 76 dX6_readsLetters_74 rfl (by decide) ?_
            refine zw_isub 77 dX6_readsLetters_76 rfl ?_
            refine zw_goto 84 dX6_readsLetters_77 (by decide) ?_
            refine zw_pti 87 13 dX6_readsLetters_84 rfl pX6_126 (by decide) rfl rfl ly217 ?_
            try simp (disch := decide) only [zwr_wa, zwa_same, zup_same, zup_ne, zwa_ne]
            refine zw_aload_n 88 dX6_readsLetters_87 rfl rfl ?_
            refine zw_aload_n 89 dX6_readsLetters_88 rfl rfl ?_
            refine zw_gti 92 10 dX6_readsLetters_89 rfl fX6_112 (by decide) rfl rfl ly217 ?_
            try simp (disch := decide) only [zwr_wa, zwa_same, zup_same, zup_ne, zwa_ne]
            refine zw_aload_n 93 dX6_readsLetters_92 rfl rfl ?_
            refine zw_gti 96 11 dX6_readsLetters_93 rfl fX6_123 (by decide) rfl rfl ly217 ?_
            try simp (disch := decide) only [zwr_wa, zwa_same, zup_same, zup_ne, zwa_ne]
            refine zw_isub 97 dX6_readsLetters_96 rfl ?_
            refine zw_bipush 99 dX6_readsLetters_97 rfl (by decide) ?_
            refine zw_icmp_ne 114 102 dX6_readsLetters_99 (by decide) rfl (by omega) (by omega) (fun h99 => ?_) (fun h99 => ?_)
            · refine zw_aload_n 115 dX6_readsLetters_114 rfl rfl ?_
              refine zw_gti 118 16 dX6_readsLetters_115 rfl fX6_149 (by decide) rfl rfl ly217 ?_
              try simp (disch := decide) only [zwr_wa, zwa_same, zup_same, zup_ne, zwa_ne]
              refine zw_pti 121 16 dX6_readsLetters_118 rfl pX6_149 (by decide) rfl rfl ly217 ?_
              try simp (disch := decide) only [zwr_wa, zwa_same, zup_same, zup_ne, zwa_ne]
              refine zw_aload_n 122 dX6_readsLetters_121 rfl rfl ?_
              refine zw_dup 123 dX6_readsLetters_122 rfl rfl ?_
              refine zw_gti 126 10 dX6_readsLetters_123 rfl fX6_112 (by decide) rfl rfl ly217 ?_
              try simp (disch := decide) only [zwr_wa, zwa_same, zup_same, zup_ne, zwa_ne]
              refine zw_iconst 127 dX6_readsLetters_126 rfl ?_
              refine zw_iadd 128 dX6_readsLetters_127 rfl ?_
              refine zw_pti 131 10 dX6_readsLetters_128 rfl pX6_112 (by decide) rfl rfl ly217 ?_
              try simp (disch := decide) only [zwr_wa, zwa_same, zup_same, zup_ne, zwa_ne]
              refine zw_goto 5 dX6_readsLetters_131 (by decide) ?_
              rw [if_pos (by rw [← h10]; exact z1)] at h3
              exact ih (k + 1) _ (by omega) (zLI_next h2 (by rw [← h10]; exact z2.2) (by omega) ⟨fun _ => by omega, fun _ => by omega⟩ ⟨fun _ => by omega, fun _ => by omega⟩) (by rw [show b + ((k + 1 : Nat) : Int) = b + k + 1 by omega]; exact h3)
            · refine zw_aload_n 103 dX6_readsLetters_102 rfl rfl ?_
              refine zw_getr 106 (223) (o := 6) dX6_readsLetters_103 rfl fX6_26 (by decide) rfl rfl ly217 ?_
              refine zw_aload_n 107 dX6_readsLetters_106 rfl rfl ?_
              refine zw_gti 110 10 dX6_readsLetters_107 rfl fX6_112 (by decide) rfl rfl ly217 ?_
              try simp (disch := decide) only [zwr_wa, zwa_same, zup_same, zup_ne, zwa_ne]
              refine zw_iald 111 dX6_readsLetters_110 rfl ly223 (by omega) ?_
              try simp (disch := decide) only [zwr_wa, zwa_same, zup_same, zup_ne, zwa_ne]
              refine zw_goto 118 dX6_readsLetters_111 (by decide) ?_
              refine zw_pti 121 16 dX6_readsLetters_118 rfl pX6_149 (by decide) rfl rfl ly217 ?_
              try simp (disch := decide) only [zwr_wa, zwa_same, zup_same, zup_ne, zwa_ne]
              refine zw_aload_n 122 dX6_readsLetters_121 rfl rfl ?_
              refine zw_dup 123 dX6_readsLetters_122 rfl rfl ?_
              refine zw_gti 126 10 dX6_readsLetters_123 rfl fX6_112 (by decide) rfl rfl ly217 ?_
              try simp (disch := decide) only [zwr_wa, zwa_same, zup_same, zup_ne, zwa_ne]
              refine zw_iconst 127 dX6_readsLetters_126 rfl ?_
              refine zw_iadd 128 dX6_readsLetters_127 rfl ?_
              refine zw_pti 131 10 dX6_readsLetters_128 rfl pX6_112 (by decide) rfl rfl ly217 ?_
              try simp (disch := decide) only [zwr_wa, zwa_same, zup_same, zup_ne, zwa_ne]
              refine zw_goto 5 dX6_readsLetters_131 (by decide) ?_
              rw [if_pos (by rw [← h10]; exact z1)] at h3
              exact ih (k + 1) _ (by omega) (zLI_next h2 (by rw [← h10]; exact z2.2) (by omega) ⟨fun _ => by omega, fun _ => by omega⟩ ⟨fun _ => by omega, fun _ => by omega⟩) (by rw [show b + ((k + 1 : Nat) : Int) = b + k + 1 by omega]; exact h3)
