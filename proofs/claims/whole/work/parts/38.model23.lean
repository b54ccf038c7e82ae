theorem lpT_X6_step {l : Launch} {d : Nat} {σ : zMem} {g0 G : zR} {n b : Int} (hd : 3 ≤ d) (hx : ztx (σ 223) n) (hbe : b = zsk (σ 223) n (n - g0 10).toNat (g0 10)) (hb : 0 ≤ b ∧ b ≤ n) (h60 : g0 6 = n) (hG : ∀ i, i < 10 ∨ 17 < i → G i = g0 i) (h10 : G 10 = b) (h11 : G 11 = b) (h13 : G 13 = 0) (h14 : G 14 = 0) : zw l d mX6_step 56 [some (.ref 217)] [] (zwa σ 217 G) (fun a σ1 => ∃ g : zR, a = none ∧ σ1 = zwa σ 217 g ∧ zSu (σ 223) g0 n g) := by
  have hn := hx.1
  have a9 : zwa σ 217 G 217 = G := zwa_same _ _ _
  have a8 : zwa σ 217 G 223 = σ 223 := zwa_ne _ _ (by decide)
  have h6 : G 6 = n := (hG 6 (by omega)).trans h60
  have zb := zil_b (σ 223) n b
  have zc := zig_b (σ 223) n b
  refine zw_aload_n 57 dX6_step_56 rfl rfl ?_
  refine zw_gti 60 10 dX6_step_57 rfl fX6_112 (by decide) rfl rfl ly217 ?_
  try simp (disch := decide) only [zwr_wa, zwa_same, zup_same, zup_ne, zwa_ne]
  refine zw_aload_n 61 dX6_step_60 rfl rfl ?_
  refine zw_gti 64 6 dX6_step_61 rfl fX6_108 (by decide) rfl rfl ly217 ?_
  try simp (disch := decide) only [zwr_wa, zwa_same, zup_same, zup_ne, zwa_ne]
  refine zw_icmp_ne 75 67 dX6_step_64 (by decide) rfl (by omega) (by omega) (fun h64 => ?_) (fun h64 => ?_)
  · refine zw_aload_n 76 dX6_step_75 rfl rfl ?_
    refine zw_callV 79 _ _ dX6_step_76 rfl kX6_135 qX6_isLetter ly217 ⟨_, rfl, rfl⟩ (by decide) (sp_X6_isLetter (d := d - 1) (σ := zwa σ 217 G) (by omega) (by rw [a9, a8, h6]; exact hx) (by rw [a9]; omega)) (by omega) rfl rfl (Nat.le_of_ble_eq_true rfl) (fun r σ' hq => ?_)
    obtain ⟨rfl, rfl⟩ := hq
    rw [a9, a8, h6, h10]
    refine zw_if_eq 94 82 dX6_step_79 (by decide) rfl (by omega) (fun h79 => ?_) (fun h79 => ?_)
    · refine zw_aload_n 95 dX6_step_94 rfl rfl ?_
      refine zw_callV 98 _ _ dX6_step_95 rfl kX6_142 qX6_isFigure ly217 ⟨_, rfl, rfl⟩ (by decide) (sp_X6_isFigure (d := d - 1) (σ := zwa σ 217 G) (by omega) (by rw [a9, a8, h6]; exact hx) (by rw [a9]; omega)) (by omega) rfl rfl (Nat.le_of_ble_eq_true rfl) (fun r σ' hq => ?_)
      obtain ⟨rfl, rfl⟩ := hq
      rw [a9, a8, h6, h10]
      refine zw_if_eq 191 101 dX6_step_98 (by decide) rfl (by omega) (fun h98 => ?_) (fun h98 => ?_)
      · have ht := hx.2 b hb.1 (by omega)
        have htt : σ 223 (G 10) = σ 223 b := by rw [h10]
        refine zw_aload_n 192 dX6_step_191 rfl rfl ?_
        refine zw_aload_n 193 dX6_step_192 rfl rfl ?_
        refine zw_getr 196 (223) (o := 6) dX6_step_193 rfl fX6_26 (by decide) rfl rfl ly217 ?_
        refine zw_aload_n 197 dX6_step_196 rfl rfl ?_
        refine zw_gti 200 10 dX6_step_197 rfl fX6_112 (by decide) rfl rfl ly217 ?_
        try simp (disch := decide) only [zwr_wa, zwa_same, zup_same, zup_ne, zwa_ne]
        refine zw_iald 201 dX6_step_200 rfl ly223 (by omega) ?_
        try simp (disch := decide) only [zwr_wa, zwa_same, zup_same, zup_ne, zwa_ne]
        refine zw_bipush 203 dX6_step_201 rfl (by decide) ?_
        refine zw_icmp_ne 210 206 dX6_step_203 (by decide) rfl (by omega) (by omega) (fun h203 => ?_) (fun h203 => ?_)
        · refine zw_iconst 211 dX6_step_210 rfl ?_
          refine zw_pti 214 12 dX6_step_211 rfl pX6_132 (by decide) rfl rfl ly217 ?_
          try simp (disch := decide) only [zwr_wa, zwa_same, zup_same, zup_ne, zwa_ne]
          refine zw_aload_n 215 dX6_step_214 rfl rfl ?_
          refine zw_dup 216 dX6_step_215 rfl rfl ?_
          refine zw_gti 219 10 dX6_step_216 rfl fX6_112 (by decide) rfl rfl ly217 ?_
          try simp (disch := decide) only [zwr_wa, zwa_same, zup_same, zup_ne, zwa_ne]
          refine zw_iconst 220 dX6_step_219 rfl ?_
          refine zw_iadd 221 dX6_step_220 rfl ?_
          refine zw_pti 224 10 dX6_step_221 rfl pX6_112 (by decide) rfl rfl ly217 ?_
          try simp (disch := decide) only [zwr_wa, zwa_same, zup_same, zup_ne, zwa_ne]
          refine zw_vret dX6_step_224 rfl ?_
          refine ⟨_, rfl, rfl, b, hbe, fun i hi => ?_, ?_, hb.1, hb.2, ?_, ?_, ?_⟩
          · simp (disch := omega) only [zup_same, zup_ne]; exact hG i hi
          · simp (disch := omega) only [zup_same, zup_ne]; exact h11
          · simp (disch := omega) only [zup_same, zup_ne]; omega
          · simp (disch := omega) only [zup_same, zup_ne]; omega
          · refine Or.inr (Or.inr (Or.inr ⟨by omega, by omega, by omega, by simp (disch := omega) only [zup_same, zup_ne]; omega, ?_⟩))
            simp (disch := omega) only [zup_same, zup_ne]
            first
              | (rw [if_pos (show σ 223 b = 59 by omega)]; done)
              | (rw [if_neg (show ¬ σ 223 b = 59 by omega)]; done)
        · refine zw_iconst 207 dX6_step_206 rfl ?_
          refine zw_goto 211 dX6_step_207 (by decide) ?_
          refine zw_pti 214 12 dX6_step_211 rfl pX6_132 (by decide) rfl rfl ly217 ?_
          try simp (disch := decide) only [zwr_wa, zwa_same, zup_same, zup_ne, zwa_ne]
          refine zw_aload_n 215 dX6_step_214 rfl rfl ?_
          refine zw_dup 216 dX6_step_215 rfl rfl ?_
          refine zw_gti 219 10 dX6_step_216 rfl fX6_112 (by decide) rfl rfl ly217 ?_
          try simp (disch := decide) only [zwr_wa, zwa_same, zup_same, zup_ne, zwa_ne]
          refine zw_iconst 220 dX6_step_219 rfl ?_
          refine zw_iadd 221 dX6_step_220 rfl ?_
          refine zw_pti 224 10 dX6_step_221 rfl pX6_112 (by decide) rfl rfl ly217 ?_
          try simp (disch := decide) only [zwr_wa, zwa_same, zup_same, zup_ne, zwa_ne]
          refine zw_vret dX6_step_224 rfl ?_
          refine ⟨_, rfl, rfl, b, hbe, fun i hi => ?_, ?_, hb.1, hb.2, ?_, ?_, ?_⟩
          · simp (disch := omega) only [zup_same, zup_ne]; exact hG i hi
          · simp (disch := omega) only [zup_same, zup_ne]; exact h11
          · simp (disch := omega) only [zup_same, zup_ne]; omega
          · simp (disch := omega) only [zup_same, zup_ne]; omega
          · refine Or.inr (Or.inr (Or.inr ⟨by omega, by omega, by omega, by simp (disch := omega) only [zup_same, zup_ne]; omega, ?_⟩))
            simp (disch := omega) only [zup_same, zup_ne]
            first
              | (rw [if_pos (show σ 223 b = 59 by omega)]; done)
              | (rw [if_neg (show ¬ σ 223 b = 59 by omega)]; done)
      · refine zw_aload_n 102 dX6_step_101 rfl rfl ?_
        refine zw_iconst 103 dX6_step_102 rfl ?_
        refine zw_pti 106 12 dX6_step_103 rfl pX6_132 (by decide) rfl rfl ly217 ?_
        try simp (disch := decide) only [zwr_wa, zwa_same, zup_same, zup_ne, zwa_ne]
        have h11f : ∀ f : zR, ∀ kk : Nat, zFI (σ 223) (zup G 12 2) b kk f → f 11 = b := fun f kk hf => by
          rw [hf.1 11 (by omega) (by omega)]; simp (disch := omega) only [zup_same, zup_ne]; exact h11
        refine lpF_X6_step (σ := σ) (g0 := zup G 12 2) (n := n) (b := b) (E := zge (σ 223) n (n - b).toNat b) (by omega) hx hb.1 (by simp (disch := omega) only [zup_same, zup_ne]; exact h6) (fun kk f hf hE hE2 => ?_) (n - b).toNat 0 _ (by omega) ⟨fun i i1 i2 => rfl, ?_, ?_, ?_⟩ (by rw [show b + ((0 : Nat) : Int) = b by omega])
        · have hf11 := h11f f kk hf
          have hf10 : f 10 = b + kk := hf.2.1
          refine zw_aload_n 167 dX6_step_166 rfl rfl ?_
          refine zw_aload_n 168 dX6_step_167 rfl rfl ?_
          refine zw_gti 171 10 dX6_step_168 rfl fX6_112 (by decide) rfl rfl ly217 ?_
          try simp (disch := decide) only [zwr_wa, zwa_same, zup_same, zup_ne, zwa_ne]
          refine zw_aload_n 172 dX6_step_171 rfl rfl ?_
          refine zw_gti 175 11 dX6_step_172 rfl fX6_123 (by decide) rfl rfl ly217 ?_
          try simp (disch := decide) only [zwr_wa, zwa_same, zup_same, zup_ne, zwa_ne]
          refine zw_isub 176 dX6_step_175 rfl ?_
          refine zw_iconst 177 dX6_step_176 rfl ?_
          refine zw_icmp_le 184 180 dX6_step_177 (by decide) rfl (by omega) (by omega) (fun h177 => ?_) (fun h177 => ?_)
          · refine zw_iconst 185 dX6_step_184 rfl ?_
            refine zw_pti 188 12 dX6_step_185 rfl pX6_132 (by decide) rfl rfl ly217 ?_
            try simp (disch := decide) only [zwr_wa, zwa_same, zup_same, zup_ne, zwa_ne]
            refine zw_goto 224 dX6_step_188 (by decide) ?_
            refine zw_vret dX6_step_224 rfl ?_
            have hf12 : f 10 = b + kk := hf.2.1
            refine ⟨_, rfl, rfl, b, hbe, fun i hi => ?_, ?_, hb.1, hb.2, ?_, ?_, ?_⟩
            · simp (disch := omega) only [zup_same, zup_ne]; rw [hf.1 i (by omega) (by omega)]; simp (disch := omega) only [zup_same, zup_ne]; exact hG i hi
            · simp (disch := omega) only [zup_same, zup_ne]; rw [hf.1 11 (by omega) (by omega)]; simp (disch := omega) only [zup_same, zup_ne]; exact h11
            · simp (disch := omega) only [zup_same, zup_ne]; omega
            · simp (disch := omega) only [zup_same, zup_ne]; omega
            · refine Or.inr (Or.inr (Or.inl ⟨by omega, by omega, by omega, kk, (zup_ne _ _ (by decide)).trans hf12, (zup_ne _ _ (by decide)).trans hf.2.2.1, by rw [zup_ne _ _ (by decide)]; exact hf.2.2.2, hE, ?_⟩))
              rw [zup_same]
              first
                | (rw [if_pos (show 2 < (kk : Int) by omega)]; done)
                | (rw [if_neg (show ¬ 2 < (kk : Int) by omega)]; done)
            
          · refine zw_iconst 181 dX6_step_180 rfl ?_
            refine zw_goto 185 dX6_step_181 (by decide) ?_
            refine zw_pti 188 12 dX6_step_185 rfl pX6_132 (by decide) rfl rfl ly217 ?_
            try simp (disch := decide) only [zwr_wa, zwa_same, zup_same, zup_ne, zwa_ne]
            refine zw_goto 224 dX6_step_188 (by decide) ?_
            refine zw_vret dX6_step_224 rfl ?_
            have hf12 : f 10 = b + kk := hf.2.1
            refine ⟨_, rfl, rfl, b, hbe, fun i hi => ?_, ?_, hb.1, hb.2, ?_, ?_, ?_⟩
            · simp (disch := omega) only [zup_same, zup_ne]; rw [hf.1 i (by omega) (by omega)]; simp (disch := omega) only [zup_same, zup_ne]; exact hG i hi
            · simp (disch := omega) only [zup_same, zup_ne]; rw [hf.1 11 (by omega) (by omega)]; simp (disch := omega) only [zup_same, zup_ne]; exact h11
            · simp (disch := omega) only [zup_same, zup_ne]; omega
            · simp (disch := omega) only [zup_same, zup_ne]; omega
            · refine Or.inr (Or.inr (Or.inl ⟨by omega, by omega, by omega, kk, (zup_ne _ _ (by decide)).trans hf12, (zup_ne _ _ (by decide)).trans hf.2.2.1, by rw [zup_ne _ _ (by decide)]; exact hf.2.2.2, hE, ?_⟩))
              rw [zup_same]
              first
                | (rw [if_pos (show 2 < (kk : Int) by omega)]; done)
                | (rw [if_neg (show ¬ 2 < (kk : Int) by omega)]; done)
            
        · simp (disch := omega) only [zup_same, zup_ne]; omega
        · simp (disch := omega) only [zup_same, zup_ne]; rw [h14]; rfl
        · simp (disch := omega) only [zup_same, zup_ne]; omega
    · refine zw_aload_n 83 dX6_step_82 rfl rfl ?_
      refine zw_iconst 84 dX6_step_83 rfl ?_
      refine zw_pti 87 12 dX6_step_84 rfl pX6_132 (by decide) rfl rfl ly217 ?_
      try simp (disch := decide) only [zwr_wa, zwa_same, zup_same, zup_ne, zwa_ne]
      refine zw_aload_n 88 dX6_step_87 rfl rfl ?_
      refine zw_callV 91 _ _ dX6_step_88 rfl kX6_139 qX6_readsLetters ly217 ⟨_, rfl, rfl⟩ (by decide) (sp_X6_readsLetters (d := d - 1) (σ := σ) (g0 := zup G 12 1) (n := n) (b := b) (by omega) hx (by simp (disch := omega) only [zup_same, zup_ne]; exact h11) (by simp (disch := omega) only [zup_same, zup_ne]; exact h10) (by simp (disch := omega) only [zup_same, zup_ne]; exact h13) hb (by simp (disch := omega) only [zup_same, zup_ne]; exact h6)) (by omega) rfl rfl (Nat.le_of_ble_eq_true rfl) (fun r σ' hq => ?_)
      obtain ⟨kk, g, rfl, rfl, hw⟩ := hq
      refine zw_goto 224 dX6_step_91 (by decide) ?_
      refine zw_vret dX6_step_224 rfl ?_
      refine ⟨_, rfl, rfl, b, hbe, fun i hi => ?_, ?_, hb.1, hb.2, ?_, ?_, ?_⟩
      · rw [hw.1 i (by omega) (by omega) (by omega) (by omega) (by omega)]; simp (disch := omega) only [zup_same, zup_ne]; exact hG i hi
      · rw [hw.1 11 (by omega) (by omega) (by omega) (by omega) (by omega)]; simp (disch := omega) only [zup_same, zup_ne]; exact h11
      · have := hw.2.1; omega
      · have := hw.2.1; have := hw.2.2.2.2.2.2; omega
      · refine Or.inr (Or.inl ⟨by omega, by omega, ?_, kk, hw.2.1, hw.2.2.1, hw.2.2.2.1, hw.2.2.2.2.1, hw.2.2.2.2.2.1⟩)
        rw [hw.1 12 (by omega) (by omega) (by omega) (by omega) (by omega)]; exact zup_same _ _ _
      
  · refine zw_aload_n 68 dX6_step_67 rfl rfl ?_
    refine zw_iconst 69 dX6_step_68 rfl ?_
    refine zw_pti 72 12 dX6_step_69 rfl pX6_132 (by decide) rfl rfl ly217 ?_
    try simp (disch := decide) only [zwr_wa, zwa_same, zup_same, zup_ne, zwa_ne]
    refine zw_goto 224 dX6_step_72 (by decide) ?_
    refine zw_vret dX6_step_224 rfl ?_
    refine ⟨_, rfl, rfl, b, hbe, fun i hi => ?_, ?_, hb.1, hb.2, ?_, ?_, ?_⟩
    · simp (disch := omega) only [zup_same, zup_ne]; exact hG i hi
    · simp (disch := omega) only [zup_same, zup_ne]; exact h11
    · simp (disch := omega) only [zup_same, zup_ne]; omega
    · simp (disch := omega) only [zup_same, zup_ne]; omega
    · exact Or.inl ⟨by omega, by simp (disch := omega) only [zup_same, zup_ne]; omega, zup_same _ _ _⟩
    
