/-- behind how many years c, put on s, has taken x of t; where another one sits: none -/
def zpc (N : zR) (c t x s : Int) : Int := if zwo N s = -1 ∨ zwo N s = c then zff (fun n => decide (x ≤ zyn N n (zup N c s) (5 + 4 * c + t))) 0 61 else -1
def zpv (N : zR) (c t x w : Int) : Int := if (zpl (zpc N c t x) (N 33).toNat).1 = -1 then -1 else if w = 0 then (zpl (zpc N c t x) (N 33).toNat).1 else (zpl (zpc N c t x) (N 33).toNat).2
theorem zpc_b (N : zR) (c t x s : Int) : -1 ≤ zpc N c t x s ∧ zpc N c t x s ≤ 60 := by
  have := zff_b (p := fun n => decide (x ≤ zyn N n (zup N c s) (5 + 4 * c + t))) 61 0
  unfold zpc; omega
theorem lp_X6_place {l : Launch} {d : Nat} {σ : zMem} (hd : 8 ≤ d) {c t x w : Int} (hc : (0 ≤ c ∧ c ≤ σ 218 48 - 1) ∧ (0 ≤ t ∧ t ≤ 3) ∧ (1 ≤ x ∧ x ≤ 99) ∧ 0 ≤ w ∧ w ≤ 1) (hV : zVN (σ 218))  : ∀ (m : Nat) (s : Int) (a1 a2 : Int) (σc : zMem), s + m = σ 218 33 → 0 ≤ s → (∃ f, σc = zwa σ 220 f) → a1 = (zpl (zpc (σ 218) c t x) s.toNat).1 → a2 = (zpl (zpc (σ 218) c t x) s.toNat).2 → zw l d mX6_place 53 [some (.ref 217), some (.int (zI c)), some (.int (zI t)), some (.int (zI x)), some (.int (zI w)), some (.int (zI a1)), some (.int (zI a2)), some (.int (zI s)), none, none] [] σc (zAn 224 ((0 ≤ c ∧ c ≤ σ 218 48 - 1) ∧ (0 ≤ t ∧ t ≤ 3) ∧ (1 ≤ x ∧ x ≤ 99) ∧ 0 ≤ w ∧ w ≤ 1) (zpv (σ 218) c t x w) 0 (-2) σ) := by
  intro m
  induction m with
  | zero =>
    intro s a1 a2 σc hk hk0 hex0 e1 e2
    have hs := hV.1
    have hv := hV.2.1
    have hy := hV.2.2.1
    have gN := hs.1
    have gC := hs.2.1
    obtain ⟨f1, hf⟩ := id hex0
    have b1 := zpl_b (f := zpc (σ 218) c t x) (fun q => by have := zpc_b (σ 218) c t x q; omega) s.toNat
    have b2 := zpc_b (σ 218) c t x s
    have b3 := zwo_spec (σ 218) s
    have a7 : σc 218 = σ 218 := by rw [hf, zwa_ne _ _ (by decide)]
    have a9 : σc 218 33 = σ 218 33 := by rw [a7]
    rw [← e1, ← e2] at b1
    refine zw_iload 55 dX6_place_53 rfl rfl ?_
    refine zw_aload_n 56 dX6_place_55 rfl rfl ?_
    refine zw_getr 59 (218) (o := 1) dX6_place_56 rfl fX6_7 (by decide) rfl rfl ly217 ?_
    refine zw_bipush 61 dX6_place_59 rfl (by decide) ?_
    refine zw_iald 62 dX6_place_61 rfl ly218 (by omega) ?_
    refine zw_icmp_ge 161 65 dX6_place_62 (by decide) rfl (by omega) (by omega) (fun h62 => ?_) (fun h62 => ?_)
    · refine zw_iload 163 dX6_place_161 rfl rfl ?_
      refine zw_iconst 164 dX6_place_163 rfl ?_
      refine zw_icmp_ne 171 167 dX6_place_164 (by decide) rfl (by omega) (by omega) (fun h164 => ?_) (fun h164 => ?_)
      · refine zw_iload 173 dX6_place_171 rfl rfl ?_
        refine zw_if_ne 181 176 dX6_place_173 (by decide) rfl (by omega) (fun h173 => ?_) (fun h173 => ?_)
        · refine zw_iload 183 dX6_place_181 rfl rfl ?_
          refine zw_iret dX6_place_183 rfl ?_
          have es : s = σ 218 33 := by omega
          subst es
          exact zAn_t (by omega) (by unfold zpv; omega) (by rw [hf]; exact (zNS_wa _ _ (by unfold zSk; omega) (by decide) (by decide)))
        · refine zw_iload 178 dX6_place_176 rfl rfl ?_
          refine zw_goto 183 dX6_place_178 (by decide) ?_
          refine zw_iret dX6_place_183 rfl ?_
          have es : s = σ 218 33 := by omega
          subst es
          exact zAn_t (by omega) (by unfold zpv; omega) (by rw [hf]; exact (zNS_wa _ _ (by unfold zSk; omega) (by decide) (by decide)))
      · refine zw_iconst 168 dX6_place_167 rfl ?_
        refine zw_goto 183 dX6_place_168 (by decide) ?_
        refine zw_iret dX6_place_183 rfl ?_
        have es : s = σ 218 33 := by omega
        subst es
        exact zAn_t (by omega) (by unfold zpv; omega) (by rw [hf]; exact (zNS_wa _ _ (by unfold zSk; omega) (by decide) (by decide)))
    · exfalso; omega
  | succ m ih =>
    intro s a1 a2 σc hk hk0 hex0 e1 e2
    have hs := hV.1
    have hv := hV.2.1
    have hy := hV.2.2.1
    have gN := hs.1
    have gC := hs.2.1
    obtain ⟨f1, hf⟩ := id hex0
    have b1 := zpl_b (f := zpc (σ 218) c t x) (fun q => by have := zpc_b (σ 218) c t x q; omega) s.toNat
    have b2 := zpc_b (σ 218) c t x s
    have b3 := zwo_spec (σ 218) s
    have a7 : σc 218 = σ 218 := by rw [hf, zwa_ne _ _ (by decide)]
    have a9 : σc 218 33 = σ 218 33 := by rw [a7]
    rw [← e1, ← e2] at b1
    refine zw_iload 55 dX6_place_53 rfl rfl ?_
    refine zw_aload_n 56 dX6_place_55 rfl rfl ?_
    refine zw_getr 59 (218) (o := 1) dX6_place_56 rfl fX6_7 (by decide) rfl rfl ly217 ?_
    refine zw_bipush 61 dX6_place_59 rfl (by decide) ?_
    refine zw_iald 62 dX6_place_61 rfl ly218 (by omega) ?_
    refine zw_icmp_ge 161 65 dX6_place_62 (by decide) rfl (by omega) (by omega) (fun h62 => ?_) (fun h62 => ?_)
    · refine zw_iload 163 dX6_place_161 rfl rfl ?_
      refine zw_iconst 164 dX6_place_163 rfl ?_
      refine zw_icmp_ne 171 167 dX6_place_164 (by decide) rfl (by omega) (by omega) (fun h164 => ?_) (fun h164 => ?_)
      · refine zw_iload 173 dX6_place_171 rfl rfl ?_
        refine zw_if_ne 181 176 dX6_place_173 (by decide) rfl (by omega) (fun h173 => ?_) (fun h173 => ?_)
        · refine zw_iload 183 dX6_place_181 rfl rfl ?_
          refine zw_iret dX6_place_183 rfl ?_
          exfalso; omega
        · refine zw_iload 178 dX6_place_176 rfl rfl ?_
          refine zw_goto 183 dX6_place_178 (by decide) ?_
          refine zw_iret dX6_place_183 rfl ?_
          exfalso; omega
      · refine zw_iconst 168 dX6_place_167 rfl ?_
        refine zw_goto 183 dX6_place_168 (by decide) ?_
        refine zw_iret dX6_place_183 rfl ?_
        exfalso; omega
    · have a8 : zwo (σc 218) s = zwo (σ 218) s := by rw [a7]
      refine zw_aload_n 66 dX6_place_65 rfl rfl ?_
      refine zw_getr 69 (218) (o := 1) dX6_place_66 rfl fX6_7 (by decide) rfl rfl ly217 ?_
      refine zw_iload 71 dX6_place_69 rfl rfl ?_
      refine zw_callS 74 _ _ dX6_place_71 rfl kX6_162 qX6_whoOn (sp_X6_whoOn (d := d - 1) ly218 (by decide) (by omega) (fun q h0 h1 => by have := hv.1 q h0 h1; rw [a7]; omega)) (by omega) rfl rfl (Nat.le_of_ble_eq_true rfl) (fun r σ' hq => ?_)
      obtain ⟨rfl, rfl⟩ := hq
      refine zw_istore 76 dX6_place_74 rfl (by decide) ?_
      refine zw_iload 78 dX6_place_76 rfl rfl ?_
      refine zw_iconst 79 dX6_place_78 rfl ?_
      refine zw_icmp_eq 88 82 dX6_place_79 (by decide) rfl (by omega) (by omega) (fun h79 => ?_) (fun h79 => ?_)
      · refine zw_aload_n 89 dX6_place_88 rfl rfl ?_
        refine zw_callV 92 _ _ dX6_place_89 rfl kX6_216 qX6_layAside ly217 ⟨_, rfl, rfl⟩ (by decide) (sp_X6_layAside (d := d - 1) (by omega)) (by omega) rfl rfl (Nat.le_of_ble_eq_true rfl) (fun r σ' hq => ?_)
        obtain ⟨rfl, rfl⟩ := hq
        have hw2 : zwo (σ 218) s = -1 ∨ zwo (σ 218) s = c := by omega
        have hVp := zVr_put hs hv (c := c) (s := s) (by omega) (by omega) hw2
        refine zw_aload_n 93 dX6_place_92 rfl rfl ?_
        refine zw_getr 96 (220) (o := 3) dX6_place_93 rfl fX6_16 (by decide) rfl rfl ly217 ?_
        refine zw_iconst 97 dX6_place_96 rfl ?_
        refine zw_iload_n 98 dX6_place_97 rfl rfl ?_
        refine zw_iadd0 99 dX6_place_98 rfl ?_
        refine zw_iload 101 dX6_place_99 rfl rfl ?_
        refine zw_iast 102 dX6_place_101 rfl ly220 (by omega) ?_
        have hex : ∀ f3, ∃ f, zwa (zwr (zwa σc 220 (zcy (σc 218) (σc 220) 0 0 33)) 220 c s) 220 f3 = zwa σ 220 f := fun f3 => ⟨f3, by rw [zwr_wa, zwa_twice, hf, zwa_twice]⟩
        generalize hσq : zwr (zwa σc 220 (zcy (σc 218) (σc 220) 0 0 33)) 220 c s = σq at hex ⊢
        have hq1 : σq 220 = zup (zcy (σ 218) (σc 220) 0 0 33) c s := by rw [← hσq, zwr_wa, zwa_same, a7]
        have hq2 : σq 218 = σ 218 := by rw [← hσq, zwr_wa, zwa_ne _ _ (by decide), a7]
        have hq3 : zag (zup (σ 218) c s) (zup (zcy (σ 218) (σc 220) 0 0 33) c s) := zup_ag (zcy_ag _ _).symm _ _
        refine zw_aload_n 103 dX6_place_102 rfl rfl ?_
        refine zw_iload_n 104 dX6_place_103 rfl rfl ?_
        refine zw_iload_n 105 dX6_place_104 rfl rfl ?_
        refine zw_iload_n 106 dX6_place_105 rfl rfl ?_
        refine zw_callV 109 _ _ dX6_place_106 rfl kX6_227 qX6_untilTaken ly217 ⟨_, rfl, rfl⟩ (by decide) (sp_X6_untilTaken (d := d - 1) (c := c) (t := t) (x := x) (by omega) (by rw [hq2]; exact hs) (by rw [hq2, hq1]; exact zVr_ag hq3 hVp) (by rw [hq1, ← hq3 32 (by omega) (by omega), zup_ne _ _ (by omega)]; omega) (by omega) (by omega) (by omega)) (by omega) rfl rfl (Nat.le_of_ble_eq_true rfl) (fun r σ' hq => ?_)
        obtain ⟨rfl, f2, rfl⟩ := hq
        have e5 : zff (fun n => decide (x ≤ zyn (σq 218) n (σq 220) (5 + 4 * c + t))) 0 61 = zpc (σ 218) c t x s := by
          unfold zpc
          rw [if_pos hw2, hq2, hq1]
          exact zff_congr _ _ (fun q _ _ => by rw [zyn_ag hs hVp hq3 q _ (by omega) (by omega)])
        rw [e5]
        refine zw_istore 111 dX6_place_109 rfl (by decide) ?_
        refine zw_iload 113 dX6_place_111 rfl rfl ?_
        refine zw_iconst 114 dX6_place_113 rfl ?_
        refine zw_icmp_eq 129 117 dX6_place_114 (by decide) rfl (by omega) (by omega) (fun h114 => ?_) (fun h114 => ?_)
        · refine zw_iload 131 dX6_place_129 rfl rfl ?_
          refine zw_istore 133 dX6_place_131 rfl (by decide) ?_
          refine zw_iload 135 dX6_place_133 rfl rfl ?_
          refine zw_iconst 136 dX6_place_135 rfl ?_
          refine zw_icmp_eq 151 139 dX6_place_136 (by decide) rfl (by omega) (by omega) (fun h136 => ?_) (fun h136 => ?_)
          · refine zw_iload 153 dX6_place_151 rfl rfl ?_
            refine zw_istore 155 dX6_place_153 rfl (by decide) ?_
            refine zw_iinc 158 dX6_place_155 rfl (by decide) rfl ?_
            refine zw_goto 53 dX6_place_158 (by decide) ?_
            refine zw_loc [true, true, true, true, true, true, true, true, false, false] rfl ?_
            first
              | (refine ih (s + 1) _ _ _ (by omega) (by omega) ⟨f1, hf⟩ ?_ ?_ <;> (rw [zpl_miss (zpc (σ 218) c t x) hk0 (by unfold zpc; omega)]; assumption))
              | (refine ih (s + 1) _ _ _ (by omega) (by omega) (hex _) ?_ ?_ <;> (rw [zpl_hit (zpc (σ 218) c t x) hk0 (by omega)]; done))
              | (refine ih (s + 1) _ _ _ (by omega) (by omega) (hex _) ?_ ?_ <;> (rw [zpl_miss (zpc (σ 218) c t x) hk0 (by omega)]; assumption))
              | (exfalso; omega)
          · refine zw_iload 141 dX6_place_139 rfl rfl ?_
            refine zw_iload 143 dX6_place_141 rfl rfl ?_
            refine zw_icmp_ge 151 146 dX6_place_143 (by decide) rfl (by omega) (by omega) (fun h143 => ?_) (fun h143 => ?_)
            · refine zw_iload 153 dX6_place_151 rfl rfl ?_
              refine zw_istore 155 dX6_place_153 rfl (by decide) ?_
              refine zw_iinc 158 dX6_place_155 rfl (by decide) rfl ?_
              refine zw_goto 53 dX6_place_158 (by decide) ?_
              refine zw_loc [true, true, true, true, true, true, true, true, false, false] rfl ?_
              first
                | (refine ih (s + 1) _ _ _ (by omega) (by omega) ⟨f1, hf⟩ ?_ ?_ <;> (rw [zpl_miss (zpc (σ 218) c t x) hk0 (by unfold zpc; omega)]; assumption))
                | (refine ih (s + 1) _ _ _ (by omega) (by omega) (hex _) ?_ ?_ <;> (rw [zpl_hit (zpc (σ 218) c t x) hk0 (by omega)]; done))
                | (refine ih (s + 1) _ _ _ (by omega) (by omega) (hex _) ?_ ?_ <;> (rw [zpl_miss (zpc (σ 218) c t x) hk0 (by omega)]; assumption))
                | (exfalso; omega)
            · refine zw_iload 148 dX6_place_146 rfl rfl ?_
              refine zw_goto 153 dX6_place_148 (by decide) ?_
              refine zw_istore 155 dX6_place_153 rfl (by decide) ?_
              refine zw_iinc 158 dX6_place_155 rfl (by decide) rfl ?_
              refine zw_goto 53 dX6_place_158 (by decide) ?_
              refine zw_loc [true, true, true, true, true, true, true, true, false, false] rfl ?_
              first
                | (refine ih (s + 1) _ _ _ (by omega) (by omega) ⟨f1, hf⟩ ?_ ?_ <;> (rw [zpl_miss (zpc (σ 218) c t x) hk0 (by unfold zpc; omega)]; assumption))
                | (refine ih (s + 1) _ _ _ (by omega) (by omega) (hex _) ?_ ?_ <;> (rw [zpl_hit (zpc (σ 218) c t x) hk0 (by omega)]; done))
                | (refine ih (s + 1) _ _ _ (by omega) (by omega) (hex _) ?_ ?_ <;> (rw [zpl_miss (zpc (σ 218) c t x) hk0 (by omega)]; assumption))
                | (exfalso; omega)
        · refine zw_iload 119 dX6_place_117 rfl rfl ?_
          refine zw_iload 121 dX6_place_119 rfl rfl ?_
          refine zw_icmp_ge 129 124 dX6_place_121 (by decide) rfl (by omega) (by omega) (fun h121 => ?_) (fun h121 => ?_)
          · refine zw_iload 131 dX6_place_129 rfl rfl ?_
            refine zw_istore 133 dX6_place_131 rfl (by decide) ?_
            refine zw_iload 135 dX6_place_133 rfl rfl ?_
            refine zw_iconst 136 dX6_place_135 rfl ?_
            refine zw_icmp_eq 151 139 dX6_place_136 (by decide) rfl (by omega) (by omega) (fun h136 => ?_) (fun h136 => ?_)
            · refine zw_iload 153 dX6_place_151 rfl rfl ?_
              refine zw_istore 155 dX6_place_153 rfl (by decide) ?_
              refine zw_iinc 158 dX6_place_155 rfl (by decide) rfl ?_
              refine zw_goto 53 dX6_place_158 (by decide) ?_
              refine zw_loc [true, true, true, true, true, true, true, true, false, false] rfl ?_
              first
                | (refine ih (s + 1) _ _ _ (by omega) (by omega) ⟨f1, hf⟩ ?_ ?_ <;> (rw [zpl_miss (zpc (σ 218) c t x) hk0 (by unfold zpc; omega)]; assumption))
                | (refine ih (s + 1) _ _ _ (by omega) (by omega) (hex _) ?_ ?_ <;> (rw [zpl_hit (zpc (σ 218) c t x) hk0 (by omega)]; done))
                | (refine ih (s + 1) _ _ _ (by omega) (by omega) (hex _) ?_ ?_ <;> (rw [zpl_miss (zpc (σ 218) c t x) hk0 (by omega)]; assumption))
                | (exfalso; omega)
            · refine zw_iload 141 dX6_place_139 rfl rfl ?_
              refine zw_iload 143 dX6_place_141 rfl rfl ?_
              refine zw_icmp_ge 151 146 dX6_place_143 (by decide) rfl (by omega) (by omega) (fun h143 => ?_) (fun h143 => ?_)
              · refine zw_iload 153 dX6_place_151 rfl rfl ?_
                refine zw_istore 155 dX6_place_153 rfl (by decide) ?_
                refine zw_iinc 158 dX6_place_155 rfl (by decide) rfl ?_
                refine zw_goto 53 dX6_place_158 (by decide) ?_
                refine zw_loc [true, true, true, true, true, true, true, true, false, false] rfl ?_
                first
                  | (refine ih (s + 1) _ _ _ (by omega) (by omega) ⟨f1, hf⟩ ?_ ?_ <;> (rw [zpl_miss (zpc (σ 218) c t x) hk0 (by unfold zpc; omega)]; assumption))
                  | (refine ih (s + 1) _ _ _ (by omega) (by omega) (hex _) ?_ ?_ <;> (rw [zpl_hit (zpc (σ 218) c t x) hk0 (by omega)]; done))
                  | (refine ih (s + 1) _ _ _ (by omega) (by omega) (hex _) ?_ ?_ <;> (rw [zpl_miss (zpc (σ 218) c t x) hk0 (by omega)]; assumption))
                  | (exfalso; omega)
              · refine zw_iload 148 dX6_place_146 rfl rfl ?_
                refine zw_goto 153 dX6_place_148 (by decide) ?_
                refine zw_istore 155 dX6_place_153 rfl (by decide) ?_
                refine zw_iinc 158 dX6_place_155 rfl (by decide) rfl ?_
                refine zw_goto 53 dX6_place_158 (by decide) ?_
                refine zw_loc [true, true, true, true, true, true, true, true, false, false] rfl ?_
                first
                  | (refine ih (s + 1) _ _ _ (by omega) (by omega) ⟨f1, hf⟩ ?_ ?_ <;> (rw [zpl_miss (zpc (σ 218) c t x) hk0 (by unfold zpc; omega)]; assumption))
                  | (refine ih (s + 1) _ _ _ (by omega) (by omega) (hex _) ?_ ?_ <;> (rw [zpl_hit (zpc (σ 218) c t x) hk0 (by omega)]; done))
                  | (refine ih (s + 1) _ _ _ (by omega) (by omega) (hex _) ?_ ?_ <;> (rw [zpl_miss (zpc (σ 218) c t x) hk0 (by omega)]; assumption))
                  | (exfalso; omega)
          · refine zw_iload 126 dX6_place_124 rfl rfl ?_
            refine zw_goto 131 dX6_place_126 (by decide) ?_
            refine zw_istore 133 dX6_place_131 rfl (by decide) ?_
            refine zw_iload 135 dX6_place_133 rfl rfl ?_
            refine zw_iconst 136 dX6_place_135 rfl ?_
            refine zw_icmp_eq 151 139 dX6_place_136 (by decide) rfl (by omega) (by omega) (fun h136 => ?_) (fun h136 => ?_)
            · refine zw_iload 153 dX6_place_151 rfl rfl ?_
              refine zw_istore 155 dX6_place_153 rfl (by decide) ?_
              refine zw_iinc 158 dX6_place_155 rfl (by decide) rfl ?_
              refine zw_goto 53 dX6_place_158 (by decide) ?_
              refine zw_loc [true, true, true, true, true, true, true, true, false, false] rfl ?_
              first
                | (refine ih (s + 1) _ _ _ (by omega) (by omega) ⟨f1, hf⟩ ?_ ?_ <;> (rw [zpl_miss (zpc (σ 218) c t x) hk0 (by unfold zpc; omega)]; assumption))
                | (refine ih (s + 1) _ _ _ (by omega) (by omega) (hex _) ?_ ?_ <;> (rw [zpl_hit (zpc (σ 218) c t x) hk0 (by omega)]; done))
                | (refine ih (s + 1) _ _ _ (by omega) (by omega) (hex _) ?_ ?_ <;> (rw [zpl_miss (zpc (σ 218) c t x) hk0 (by omega)]; assumption))
                | (exfalso; omega)
            · refine zw_iload 141 dX6_place_139 rfl rfl ?_
              refine zw_iload 143 dX6_place_141 rfl rfl ?_
              refine zw_icmp_ge 151 146 dX6_place_143 (by decide) rfl (by omega) (by omega) (fun h143 => ?_) (fun h143 => ?_)
              · refine zw_iload 153 dX6_place_151 rfl rfl ?_
                refine zw_istore 155 dX6_place_153 rfl (by decide) ?_
                refine zw_iinc 158 dX6_place_155 rfl (by decide) rfl ?_
                refine zw_goto 53 dX6_place_158 (by decide) ?_
                refine zw_loc [true, true, true, true, true, true, true, true, false, false] rfl ?_
                first
                  | (refine ih (s + 1) _ _ _ (by omega) (by omega) ⟨f1, hf⟩ ?_ ?_ <;> (rw [zpl_miss (zpc (σ 218) c t x) hk0 (by unfold zpc; omega)]; assumption))
                  | (refine ih (s + 1) _ _ _ (by omega) (by omega) (hex _) ?_ ?_ <;> (rw [zpl_hit (zpc (σ 218) c t x) hk0 (by omega)]; done))
                  | (refine ih (s + 1) _ _ _ (by omega) (by omega) (hex _) ?_ ?_ <;> (rw [zpl_miss (zpc (σ 218) c t x) hk0 (by omega)]; assumption))
                  | (exfalso; omega)
              · refine zw_iload 148 dX6_place_146 rfl rfl ?_
                refine zw_goto 153 dX6_place_148 (by decide) ?_
                refine zw_istore 155 dX6_place_153 rfl (by decide) ?_
                refine zw_iinc 158 dX6_place_155 rfl (by decide) rfl ?_
                refine zw_goto 53 dX6_place_158 (by decide) ?_
                refine zw_loc [true, true, true, true, true, true, true, true, false, false] rfl ?_
                first
                  | (refine ih (s + 1) _ _ _ (by omega) (by omega) ⟨f1, hf⟩ ?_ ?_ <;> (rw [zpl_miss (zpc (σ 218) c t x) hk0 (by unfold zpc; omega)]; assumption))
                  | (refine ih (s + 1) _ _ _ (by omega) (by omega) (hex _) ?_ ?_ <;> (rw [zpl_hit (zpc (σ 218) c t x) hk0 (by omega)]; done))
                  | (refine ih (s + 1) _ _ _ (by omega) (by omega) (hex _) ?_ ?_ <;> (rw [zpl_miss (zpc (σ 218) c t x) hk0 (by omega)]; assumption))
                  | (exfalso; omega)
      · refine zw_iload 84 dX6_place_82 rfl rfl ?_
        refine zw_iload_n 85 dX6_place_84 rfl rfl ?_
        refine zw_icmp_ne 155 88 dX6_place_85 (by decide) rfl (by omega) (by omega) (fun h85 => ?_) (fun h85 => ?_)
        · refine zw_iinc 158 dX6_place_155 rfl (by decide) rfl ?_
          refine zw_goto 53 dX6_place_158 (by decide) ?_
          refine zw_loc [true, true, true, true, true, true, true, true, false, false] rfl ?_
          first
            | (refine ih (s + 1) _ _ _ (by omega) (by omega) ⟨f1, hf⟩ ?_ ?_ <;> (rw [zpl_miss (zpc (σ 218) c t x) hk0 (by unfold zpc; omega)]; assumption))
            | (refine ih (s + 1) _ _ _ (by omega) (by omega) (hex _) ?_ ?_ <;> (rw [zpl_hit (zpc (σ 218) c t x) hk0 (by omega)]; done))
            | (refine ih (s + 1) _ _ _ (by omega) (by omega) (hex _) ?_ ?_ <;> (rw [zpl_miss (zpc (σ 218) c t x) hk0 (by omega)]; assumption))
            | (exfalso; omega)
        · refine zw_aload_n 89 dX6_place_88 rfl rfl ?_
          refine zw_callV 92 _ _ dX6_place_89 rfl kX6_216 qX6_layAside ly217 ⟨_, rfl, rfl⟩ (by decide) (sp_X6_layAside (d := d - 1) (by omega)) (by omega) rfl rfl (Nat.le_of_ble_eq_true rfl) (fun r σ' hq => ?_)
          obtain ⟨rfl, rfl⟩ := hq
          have hw2 : zwo (σ 218) s = -1 ∨ zwo (σ 218) s = c := by omega
          have hVp := zVr_put hs hv (c := c) (s := s) (by omega) (by omega) hw2
          refine zw_aload_n 93 dX6_place_92 rfl rfl ?_
          refine zw_getr 96 (220) (o := 3) dX6_place_93 rfl fX6_16 (by decide) rfl rfl ly217 ?_
          refine zw_iconst 97 dX6_place_96 rfl ?_
          refine zw_iload_n 98 dX6_place_97 rfl rfl ?_
          refine zw_iadd0 99 dX6_place_98 rfl ?_
          refine zw_iload 101 dX6_place_99 rfl rfl ?_
          refine zw_iast 102 dX6_place_101 rfl ly220 (by omega) ?_
          have hex : ∀ f3, ∃ f, zwa (zwr (zwa σc 220 (zcy (σc 218) (σc 220) 0 0 33)) 220 c s) 220 f3 = zwa σ 220 f := fun f3 => ⟨f3, by rw [zwr_wa, zwa_twice, hf, zwa_twice]⟩
          generalize hσq : zwr (zwa σc 220 (zcy (σc 218) (σc 220) 0 0 33)) 220 c s = σq at hex ⊢
          have hq1 : σq 220 = zup (zcy (σ 218) (σc 220) 0 0 33) c s := by rw [← hσq, zwr_wa, zwa_same, a7]
          have hq2 : σq 218 = σ 218 := by rw [← hσq, zwr_wa, zwa_ne _ _ (by decide), a7]
          have hq3 : zag (zup (σ 218) c s) (zup (zcy (σ 218) (σc 220) 0 0 33) c s) := zup_ag (zcy_ag _ _).symm _ _
          refine zw_aload_n 103 dX6_place_102 rfl rfl ?_
          refine zw_iload_n 104 dX6_place_103 rfl rfl ?_
          refine zw_iload_n 105 dX6_place_104 rfl rfl ?_
          refine zw_iload_n 106 dX6_place_105 rfl rfl ?_
          refine zw_callV 109 _ _ dX6_place_106 rfl kX6_227 qX6_untilTaken ly217 ⟨_, rfl, rfl⟩ (by decide) (sp_X6_untilTaken (d := d - 1) (c := c) (t := t) (x := x) (by omega) (by rw [hq2]; exact hs) (by rw [hq2, hq1]; exact zVr_ag hq3 hVp) (by rw [hq1, ← hq3 32 (by omega) (by omega), zup_ne _ _ (by omega)]; omega) (by omega) (by omega) (by omega)) (by omega) rfl rfl (Nat.le_of_ble_eq_true rfl) (fun r σ' hq => ?_)
          obtain ⟨rfl, f2, rfl⟩ := hq
          have e5 : zff (fun n => decide (x ≤ zyn (σq 218) n (σq 220) (5 + 4 * c + t))) 0 61 = zpc (σ 218) c t x s := by
            unfold zpc
            rw [if_pos hw2, hq2, hq1]
            exact zff_congr _ _ (fun q _ _ => by rw [zyn_ag hs hVp hq3 q _ (by omega) (by omega)])
          rw [e5]
          refine zw_istore 111 dX6_place_109 rfl (by decide) ?_
          refine zw_iload 113 dX6_place_111 rfl rfl ?_
          refine zw_iconst 114 dX6_place_113 rfl ?_
          refine zw_icmp_eq 129 117 dX6_place_114 (by decide) rfl (by omega) (by omega) (fun h114 => ?_) (fun h114 => ?_)
          · refine zw_iload 131 dX6_place_129 rfl rfl ?_
            refine zw_istore 133 dX6_place_131 rfl (by decide) ?_
            refine zw_iload 135 dX6_place_133 rfl rfl ?_
            refine zw_iconst 136 dX6_place_135 rfl ?_
            refine zw_icmp_eq 151 139 dX6_place_136 (by decide) rfl (by omega) (by omega) (fun h136 => ?_) (fun h136 => ?_)
            · refine zw_iload 153 dX6_place_151 rfl rfl ?_
              refine zw_istore 155 dX6_place_153 rfl (by decide) ?_
              refine zw_iinc 158 dX6_place_155 rfl (by decide) rfl ?_
              refine zw_goto 53 dX6_place_158 (by decide) ?_
              refine zw_loc [true, true, true, true, true, true, true, true, false, false] rfl ?_
              first
                | (refine ih (s + 1) _ _ _ (by omega) (by omega) ⟨f1, hf⟩ ?_ ?_ <;> (rw [zpl_miss (zpc (σ 218) c t x) hk0 (by unfold zpc; omega)]; assumption))
                | (refine ih (s + 1) _ _ _ (by omega) (by omega) (hex _) ?_ ?_ <;> (rw [zpl_hit (zpc (σ 218) c t x) hk0 (by omega)]; done))
                | (refine ih (s + 1) _ _ _ (by omega) (by omega) (hex _) ?_ ?_ <;> (rw [zpl_miss (zpc (σ 218) c t x) hk0 (by omega)]; assumption))
                | (exfalso; omega)
            · refine zw_iload 141 dX6_place_139 rfl rfl ?_
              refine zw_iload 143 dX6_place_141 rfl rfl ?_
              refine zw_icmp_ge 151 146 dX6_place_143 (by decide) rfl (by omega) (by omega) (fun h143 => ?_) (fun h143 => ?_)
              · refine zw_iload 153 dX6_place_151 rfl rfl ?_
                refine zw_istore 155 dX6_place_153 rfl (by decide) ?_
                refine zw_iinc 158 dX6_place_155 rfl (by decide) rfl ?_
                refine zw_goto 53 dX6_place_158 (by decide) ?_
                refine zw_loc [true, true, true, true, true, true, true, true, false, false] rfl ?_
                first
                  | (refine ih (s + 1) _ _ _ (by omega) (by omega) ⟨f1, hf⟩ ?_ ?_ <;> (rw [zpl_miss (zpc (σ 218) c t x) hk0 (by unfold zpc; omega)]; assumption))
                  | (refine ih (s + 1) _ _ _ (by omega) (by omega) (hex _) ?_ ?_ <;> (rw [zpl_hit (zpc (σ 218) c t x) hk0 (by omega)]; done))
                  | (refine ih (s + 1) _ _ _ (by omega) (by omega) (hex _) ?_ ?_ <;> (rw [zpl_miss (zpc (σ 218) c t x) hk0 (by omega)]; assumption))
                  | (exfalso; omega)
              · refine zw_iload 148 dX6_place_146 rfl rfl ?_
                refine zw_goto 153 dX6_place_148 (by decide) ?_
                refine zw_istore 155 dX6_place_153 rfl (by decide) ?_
                refine zw_iinc 158 dX6_place_155 rfl (by decide) rfl ?_
                refine zw_goto 53 dX6_place_158 (by decide) ?_
                refine zw_loc [true, true, true, true, true, true, true, true, false, false] rfl ?_
                first
                  | (refine ih (s + 1) _ _ _ (by omega) (by omega) ⟨f1, hf⟩ ?_ ?_ <;> (rw [zpl_miss (zpc (σ 218) c t x) hk0 (by unfold zpc; omega)]; assumption))
                  | (refine ih (s + 1) _ _ _ (by omega) (by omega) (hex _) ?_ ?_ <;> (rw [zpl_hit (zpc (σ 218) c t x) hk0 (by omega)]; done))
                  | (refine ih (s + 1) _ _ _ (by omega) (by omega) (hex _) ?_ ?_ <;> (rw [zpl_miss (zpc (σ 218) c t x) hk0 (by omega)]; assumption))
                  | (exfalso; omega)
          · refine zw_iload 119 dX6_place_117 rfl rfl ?_
            refine zw_iload 121 dX6_place_119 rfl rfl ?_
            refine zw_icmp_ge 129 124 dX6_place_121 (by decide) rfl (by omega) (by omega) (fun h121 => ?_) (fun h121 => ?_)
            · refine zw_iload 131 dX6_place_129 rfl rfl ?_
              refine zw_istore 133 dX6_place_131 rfl (by decide) ?_
              refine zw_iload 135 dX6_place_133 rfl rfl ?_
              refine zw_iconst 136 dX6_place_135 rfl ?_
              refine zw_icmp_eq 151 139 dX6_place_136 (by decide) rfl (by omega) (by omega) (fun h136 => ?_) (fun h136 => ?_)
              · refine zw_iload 153 dX6_place_151 rfl rfl ?_
                refine zw_istore 155 dX6_place_153 rfl (by decide) ?_
                refine zw_iinc 158 dX6_place_155 rfl (by decide) rfl ?_
                refine zw_goto 53 dX6_place_158 (by decide) ?_
                refine zw_loc [true, true, true, true, true, true, true, true, false, false] rfl ?_
                first
                  | (refine ih (s + 1) _ _ _ (by omega) (by omega) ⟨f1, hf⟩ ?_ ?_ <;> (rw [zpl_miss (zpc (σ 218) c t x) hk0 (by unfold zpc; omega)]; assumption))
                  | (refine ih (s + 1) _ _ _ (by omega) (by omega) (hex _) ?_ ?_ <;> (rw [zpl_hit (zpc (σ 218) c t x) hk0 (by omega)]; done))
                  | (refine ih (s + 1) _ _ _ (by omega) (by omega) (hex _) ?_ ?_ <;> (rw [zpl_miss (zpc (σ 218) c t x) hk0 (by omega)]; assumption))
                  | (exfalso; omega)
              · refine zw_iload 141 dX6_place_139 rfl rfl ?_
                refine zw_iload 143 dX6_place_141 rfl rfl ?_
                refine zw_icmp_ge 151 146 dX6_place_143 (by decide) rfl (by omega) (by omega) (fun h143 => ?_) (fun h143 => ?_)
                · refine zw_iload 153 dX6_place_151 rfl rfl ?_
                  refine zw_istore 155 dX6_place_153 rfl (by decide) ?_
                  refine zw_iinc 158 dX6_place_155 rfl (by decide) rfl ?_
                  refine zw_goto 53 dX6_place_158 (by decide) ?_
                  refine zw_loc [true, true, true, true, true, true, true, true, false, false] rfl ?_
                  first
                    | (refine ih (s + 1) _ _ _ (by omega) (by omega) ⟨f1, hf⟩ ?_ ?_ <;> (rw [zpl_miss (zpc (σ 218) c t x) hk0 (by unfold zpc; omega)]; assumption))
                    | (refine ih (s + 1) _ _ _ (by omega) (by omega) (hex _) ?_ ?_ <;> (rw [zpl_hit (zpc (σ 218) c t x) hk0 (by omega)]; done))
                    | (refine ih (s + 1) _ _ _ (by omega) (by omega) (hex _) ?_ ?_ <;> (rw [zpl_miss (zpc (σ 218) c t x) hk0 (by omega)]; assumption))
                    | (exfalso; omega)
                · refine zw_iload 148 dX6_place_146 rfl rfl ?_
                  refine zw_goto 153 dX6_place_148 (by decide) ?_
                  refine zw_istore 155 dX6_place_153 rfl (by decide) ?_
                  refine zw_iinc 158 dX6_place_155 rfl (by decide) rfl ?_
                  refine zw_goto 53 dX6_place_158 (by decide) ?_
                  refine zw_loc [true, true, true, true, true, true, true, true, false, false] rfl ?_
                  first
                    | (refine ih (s + 1) _ _ _ (by omega) (by omega) ⟨f1, hf⟩ ?_ ?_ <;> (rw [zpl_miss (zpc (σ 218) c t x) hk0 (by unfold zpc; omega)]; assumption))
                    | (refine ih (s + 1) _ _ _ (by omega) (by omega) (hex _) ?_ ?_ <;> (rw [zpl_hit (zpc (σ 218) c t x) hk0 (by omega)]; done))
                    | (refine ih (s + 1) _ _ _ (by omega) (by omega) (hex _) ?_ ?_ <;> (rw [zpl_miss (zpc (σ 218) c t x) hk0 (by omega)]; assumption))
                    | (exfalso; omega)
            · refine zw_iload 126 dX6_place_124 rfl rfl ?_
              refine zw_goto 131 dX6_place_126 (by decide) ?_
              refine zw_istore 133 dX6_place_131 rfl (by decide) ?_
              refine zw_iload 135 dX6_place_133 rfl rfl ?_
              refine zw_iconst 136 dX6_place_135 rfl ?_
              refine zw_icmp_eq 151 139 dX6_place_136 (by decide) rfl (by omega) (by omega) (fun h136 => ?_) (fun h136 => ?_)
              · refine zw_iload 153 dX6_place_151 rfl rfl ?_
                refine zw_istore 155 dX6_place_153 rfl (by decide) ?_
                refine zw_iinc 158 dX6_place_155 rfl (by decide) rfl ?_
                refine zw_goto 53 dX6_place_158 (by decide) ?_
                refine zw_loc [true, true, true, true, true, true, true, true, false, false] rfl ?_
                first
                  | (refine ih (s + 1) _ _ _ (by omega) (by omega) ⟨f1, hf⟩ ?_ ?_ <;> (rw [zpl_miss (zpc (σ 218) c t x) hk0 (by unfold zpc; omega)]; assumption))
                  | (refine ih (s + 1) _ _ _ (by omega) (by omega) (hex _) ?_ ?_ <;> (rw [zpl_hit (zpc (σ 218) c t x) hk0 (by omega)]; done))
                  | (refine ih (s + 1) _ _ _ (by omega) (by omega) (hex _) ?_ ?_ <;> (rw [zpl_miss (zpc (σ 218) c t x) hk0 (by omega)]; assumption))
                  | (exfalso; omega)
              · refine zw_iload 141 dX6_place_139 rfl rfl ?_
                refine zw_iload 143 dX6_place_141 rfl rfl ?_
                refine zw_icmp_ge 151 146 dX6_place_143 (by decide) rfl (by omega) (by omega) (fun h143 => ?_) (fun h143 => ?_)
                · refine zw_iload 153 dX6_place_151 rfl rfl ?_
                  refine zw_istore 155 dX6_place_153 rfl (by decide) ?_
                  refine zw_iinc 158 dX6_place_155 rfl (by decide) rfl ?_
                  refine zw_goto 53 dX6_place_158 (by decide) ?_
                  refine zw_loc [true, true, true, true, true, true, true, true, false, false] rfl ?_
                  first
                    | (refine ih (s + 1) _ _ _ (by omega) (by omega) ⟨f1, hf⟩ ?_ ?_ <;> (rw [zpl_miss (zpc (σ 218) c t x) hk0 (by unfold zpc; omega)]; assumption))
                    | (refine ih (s + 1) _ _ _ (by omega) (by omega) (hex _) ?_ ?_ <;> (rw [zpl_hit (zpc (σ 218) c t x) hk0 (by omega)]; done))
                    | (refine ih (s + 1) _ _ _ (by omega) (by omega) (hex _) ?_ ?_ <;> (rw [zpl_miss (zpc (σ 218) c t x) hk0 (by omega)]; assumption))
                    | (exfalso; omega)
                · refine zw_iload 148 dX6_place_146 rfl rfl ?_
                  refine zw_goto 153 dX6_place_148 (by decide) ?_
                  refine zw_istore 155 dX6_place_153 rfl (by decide) ?_
                  refine zw_iinc 158 dX6_place_155 rfl (by decide) rfl ?_
                  refine zw_goto 53 dX6_place_158 (by decide) ?_
                  refine zw_loc [true, true, true, true, true, true, true, true, false, false] rfl ?_
                  first
                    | (refine ih (s + 1) _ _ _ (by omega) (by omega) ⟨f1, hf⟩ ?_ ?_ <;> (rw [zpl_miss (zpc (σ 218) c t x) hk0 (by unfold zpc; omega)]; assumption))
                    | (refine ih (s + 1) _ _ _ (by omega) (by omega) (hex _) ?_ ?_ <;> (rw [zpl_hit (zpc (σ 218) c t x) hk0 (by omega)]; done))
                    | (refine ih (s + 1) _ _ _ (by omega) (by omega) (hex _) ?_ ?_ <;> (rw [zpl_miss (zpc (σ 218) c t x) hk0 (by omega)]; assumption))
                    | (exfalso; omega)
theorem sp_X6_place {l : Launch} {d : Nat} {σ : zMem} (hd : 8 ≤ d) {c t x w : Int} (hc : -2147483648 ≤ c ∧ c < 2147483648) (ht : -2147483648 ≤ t ∧ t < 2147483648) (hx : -2147483648 ≤ x ∧ x < 2147483648) (hw : -2147483648 ≤ w ∧ w < 2147483648) (hV : zVN (σ 218))  : zSp l d mX6_place [.ref 217, .int (zI c), .int (zI t), .int (zI x), .int (zI w)] σ (zAn 224 ((0 ≤ c ∧ c ≤ σ 218 48 - 1) ∧ (0 ≤ t ∧ t ≤ 3) ∧ (1 ≤ x ∧ x ≤ 99) ∧ 0 ≤ w ∧ w ≤ 1) (zpv (σ 218) c t x w) 0 (-2) σ) := by
  refine zSp_of oX6_place (Nat.le_of_ble_eq_true rfl) ?_
  show zw l d mX6_place 0 [some (.ref 217), some (.int (zI c)), some (.int (zI t)), some (.int (zI x)), some (.int (zI w)), none, none, none, none, none] [] σ _
  have hs := hV.1
  have hv := hV.2.1
  have hy := hV.2.2.1
  have gN := hs.1
  have gC := hs.2.1
  refine zw_aload_n 1 dX6_place_0 rfl rfl ?_
  refine zw_iload_n 2 dX6_place_1 rfl rfl ?_
  refine zw_callV 5 _ _ dX6_place_2 rfl kX6_194 qX6_isCanon ly217 ⟨_, rfl, rfl⟩ (by decide) (sp_X6_isCanon (d := d - 1) (by omega) (by omega) (by omega)) (by omega) rfl rfl (Nat.le_of_ble_eq_true rfl) (fun r σ' hq => ?_)
  obtain ⟨rfl, rfl⟩ := hq
  refine zw_if_eq 38 8 dX6_place_5 (by decide) rfl (by omega) (fun h5 => ?_) (fun h5 => ?_)
  · refine zw_aload_n 39 dX6_place_38 rfl rfl ?_
    refine zw_callV 42 _ _ dX6_place_39 rfl kX6_100 qX6_bad ly217 ⟨_, rfl, rfl⟩ (by decide) (sp_X6_bad (d := d - 1) (by omega)) (by omega) rfl rfl (Nat.le_of_ble_eq_true rfl) (fun r σ' hq => ?_)
    obtain ⟨rfl, rfl⟩ := hq
    refine zw_iret dX6_place_42 rfl ?_
    exact zAn_f (by omega)
  · refine zw_iload_n 9 dX6_place_8 rfl rfl ?_
    refine zw_callS 12 _ _ dX6_place_9 rfl kX6_94 qX6_isTrait (sp_X6_isTrait (d := d - 1) (by omega) (by omega)) (by omega) rfl rfl (Nat.le_of_ble_eq_true rfl) (fun r σ' hq => ?_)
    obtain ⟨rfl, rfl⟩ := hq
    refine zw_if_eq 38 15 dX6_place_12 (by decide) rfl (by omega) (fun h12 => ?_) (fun h12 => ?_)
    · refine zw_aload_n 39 dX6_place_38 rfl rfl ?_
      refine zw_callV 42 _ _ dX6_place_39 rfl kX6_100 qX6_bad ly217 ⟨_, rfl, rfl⟩ (by decide) (sp_X6_bad (d := d - 1) (by omega)) (by omega) rfl rfl (Nat.le_of_ble_eq_true rfl) (fun r σ' hq => ?_)
      obtain ⟨rfl, rfl⟩ := hq
      refine zw_iret dX6_place_42 rfl ?_
      exact zAn_f (by omega)
    · refine zw_iload_n 16 dX6_place_15 rfl rfl ?_
      refine zw_i2l 17 dX6_place_16 rfl (by omega) ?_
      refine zw_lconst 18 1 dX6_place_17 rfl (by decide) ?_
      refine zw_ldc2 21 (99) dX6_place_18 rfl cX6_225 ?_
      refine zw_callS 24 _ _ dX6_place_21 rfl kX6_86 qX6_in (sp_X6_in (d := d - 1) (by omega) (by omega) (by omega)) (by omega) rfl rfl (Nat.le_of_ble_eq_true rfl) (fun r σ' hq => ?_)
      obtain ⟨rfl, rfl⟩ := hq
      refine zw_if_eq 38 27 dX6_place_24 (by decide) rfl (by omega) (fun h24 => ?_) (fun h24 => ?_)
      · refine zw_aload_n 39 dX6_place_38 rfl rfl ?_
        refine zw_callV 42 _ _ dX6_place_39 rfl kX6_100 qX6_bad ly217 ⟨_, rfl, rfl⟩ (by decide) (sp_X6_bad (d := d - 1) (by omega)) (by omega) rfl rfl (Nat.le_of_ble_eq_true rfl) (fun r σ' hq => ?_)
        obtain ⟨rfl, rfl⟩ := hq
        refine zw_iret dX6_place_42 rfl ?_
        exact zAn_f (by omega)
      · refine zw_iload 29 dX6_place_27 rfl rfl ?_
        refine zw_i2l 30 dX6_place_29 rfl (by omega) ?_
        refine zw_lconst 31 0 dX6_place_30 rfl (by decide) ?_
        refine zw_lconst 32 1 dX6_place_31 rfl (by decide) ?_
        refine zw_callS 35 _ _ dX6_place_32 rfl kX6_86 qX6_in (sp_X6_in (d := d - 1) (by omega) (by omega) (by omega)) (by omega) rfl rfl (Nat.le_of_ble_eq_true rfl) (fun r σ' hq => ?_)
        obtain ⟨rfl, rfl⟩ := hq
        refine zw_if_ne 43 38 dX6_place_35 (by decide) rfl (by omega) (fun h35 => ?_) (fun h35 => ?_)
        · refine zw_iconst 44 dX6_place_43 rfl ?_
          refine zw_istore 46 dX6_place_44 rfl (by decide) ?_
          refine zw_ldc 48 (1000000) dX6_place_46 rfl cX6_230 ?_
          refine zw_istore 50 dX6_place_48 rfl (by decide) ?_
          refine zw_iconst 51 dX6_place_50 rfl ?_
          refine zw_istore 53 dX6_place_51 rfl (by decide) ?_
          exact lp_X6_place (σ := σ) (by omega) (by omega) hV (σ 218 33).toNat 0 _ _ σ (by omega) (by omega) ⟨_, (zwa_id σ 220).symm⟩ rfl rfl
        · refine zw_aload_n 39 dX6_place_38 rfl rfl ?_
          refine zw_callV 42 _ _ dX6_place_39 rfl kX6_100 qX6_bad ly217 ⟨_, rfl, rfl⟩ (by decide) (sp_X6_bad (d := d - 1) (by omega)) (by omega) rfl rfl (Nat.le_of_ble_eq_true rfl) (fun r σ' hq => ?_)
          obtain ⟨rfl, rfl⟩ := hq
          refine zw_iret dX6_place_42 rfl ?_
          exact zAn_f (by omega)
