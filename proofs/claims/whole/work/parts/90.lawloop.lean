theorem lp_law {xs : Nat → Int32} {xl : Nat} {l : Launch} {d : Nat} {Q : Option Value → zMem → Prop} (hd : 12 ≤ d) (hxl : xl ≤ 3072) (hq : ∀ σ, Q (some (.int (zI 1))) σ) : ∀ (m : Nat) (i : Int) (σ : zMem), 0 ≤ i → i ≤ xl → (xl : Int) - i < m → zIv σ → zx xs xl l d mL_law 18 [some (.ref 0), some (.ref 1), some (.ref 217), some (.int (zI i))] [] σ Q := by
  intro m
  induction m with
  | zero => intro i σ h0 h1 h2 hI; exfalso; omega
  | succ m ih =>
    intro i σ0 h0 h1 h2 hI0
    refine zx_ag (znm_ag σ0) ?_
    have hI := znm_iv hI0
    have hO := znm_oo σ0
    generalize znm σ0 = σ at hI hO ⊢
    refine zx_iload_n 19 dL_law_18 rfl rfl ?_
    refine zx_aload_n 20 dL_law_19 rfl rfl ?_
    refine zx_slen 21 dL_law_20 rfl ?_
    refine zx_bipush 23 dL_law_21 rfl (by decide) ?_
    refine zx_isub 24 dL_law_23 rfl ?_
    refine zx_icmp_gt 1510 27 dL_law_24 (by decide) rfl (by omega) (by omega) (fun h24 => ?_) (fun h24 => ?_)
    · refine zx_iconst 1511 dL_law_1510 rfl ?_
      exact zx_of (zw_zret dL_law_1511 rfl (Or.inr rfl) (hq σ))
    · have kk : ∀ σ2, zIv σ2 → zx xs xl l d mL_law 1504 [some (.ref 0), some (.ref 1), some (.ref 217), some (.int (zI i))] [] σ2 Q := by
        intro σ2 hI2
        refine zx_iinc 1507 dL_law_1504 rfl (by decide) rfl ?_
        refine zx_goto 18 dL_law_1507 (by decide) ?_
        exact ih (i + 6) σ2 (by omega) (by omega) (by omega) hI2
      refine zx_aload_n 28 dL_law_27 rfl rfl ?_
      refine zx_iload_n 29 dL_law_28 rfl rfl ?_
      refine zx_sld 30 dL_law_29 rfl (by omega) hxl ?_
      refine zx_bipush 32 dL_law_30 rfl (by decide) ?_
      refine zx_and63 33 dL_law_32 rfl (fun w w0 w1 => ?_)
      by_cases hw : 41 < w
      · exact zx_tableOut 1504 dL_law_33 (by omega) (Or.inr hw) (by decide) (kk σ hI)
      · obtain ⟨k, rfl⟩ := Int.eq_ofNat_of_zero_le w0
        have hk : k < 42 := by omega
        clear w0 w1 hw
        match k, hk with
        | 0, _ => exact zx_tableIn (x := 0) 216 dL_law_33 (by decide) (by decide) (by decide) rfl (by decide) (case_0 hd hxl (by omega) hI hO kk)
        | 1, _ => exact zx_tableIn (x := 1) 229 dL_law_33 (by decide) (by decide) (by decide) rfl (by decide) (case_1 hd hxl (by omega) hI hO kk)
        | 2, _ => exact zx_tableIn (x := 2) 272 dL_law_33 (by decide) (by decide) (by decide) rfl (by decide) (case_2 hd hxl (by omega) hI hO kk)
        | 3, _ => exact zx_tableIn (x := 3) 305 dL_law_33 (by decide) (by decide) (by decide) rfl (by decide) (case_3 hd hxl (by omega) hI hO kk)
        | 4, _ => exact zx_tableIn (x := 4) 328 dL_law_33 (by decide) (by decide) (by decide) rfl (by decide) (case_4 hd hxl (by omega) hI hO kk)
        | 5, _ => exact zx_tableIn (x := 5) 341 dL_law_33 (by decide) (by decide) (by decide) rfl (by decide) (case_5 hd hxl (by omega) hI hO kk)
        | 6, _ => exact zx_tableIn (x := 6) 354 dL_law_33 (by decide) (by decide) (by decide) rfl (by decide) (case_6 hd hxl (by omega) hI hO kk)
        | 7, _ => exact zx_tableIn (x := 7) 387 dL_law_33 (by decide) (by decide) (by decide) rfl (by decide) (case_7 hd hxl (by omega) hI hO kk)
        | 8, _ => exact zx_tableIn (x := 8) 420 dL_law_33 (by decide) (by decide) (by decide) rfl (by decide) (case_8 hd hxl (by omega) hI hO kk)
        | 9, _ => exact zx_tableIn (x := 9) 443 dL_law_33 (by decide) (by decide) (by decide) rfl (by decide) (case_9 hd hxl (by omega) hI hO kk)
        | 10, _ => exact zx_tableIn (x := 10) 456 dL_law_33 (by decide) (by decide) (by decide) rfl (by decide) (case_10 hd hxl (by omega) hI hO kk)
        | 11, _ => exact zx_tableIn (x := 11) 489 dL_law_33 (by decide) (by decide) (by decide) rfl (by decide) (case_11 hd hxl (by omega) hI hO kk)
        | 12, _ => exact zx_tableIn (x := 12) 522 dL_law_33 (by decide) (by decide) (by decide) rfl (by decide) (case_12 hd hxl (by omega) hI hO kk)
        | 13, _ => exact zx_tableIn (x := 13) 555 dL_law_33 (by decide) (by decide) (by decide) rfl (by decide) (case_13 hd hxl (by omega) hI hO kk)
        | 14, _ => exact zx_tableIn (x := 14) 588 dL_law_33 (by decide) (by decide) (by decide) rfl (by decide) (case_14 hd hxl (by omega) hI hO kk)
        | 15, _ => exact zx_tableIn (x := 15) 631 dL_law_33 (by decide) (by decide) (by decide) rfl (by decide) (case_15 hd hxl (by omega) hI hO kk)
        | 16, _ => exact zx_tableIn (x := 16) 664 dL_law_33 (by decide) (by decide) (by decide) rfl (by decide) (case_16 hd hxl (by omega) hI hO kk)
        | 17, _ => exact zx_tableIn (x := 17) 707 dL_law_33 (by decide) (by decide) (by decide) rfl (by decide) (case_17 hd hxl (by omega) hI hO kk)
        | 18, _ => exact zx_tableIn (x := 18) 740 dL_law_33 (by decide) (by decide) (by decide) rfl (by decide) (case_18 hd hxl (by omega) hI hO kk)
        | 19, _ => exact zx_tableIn (x := 19) 763 dL_law_33 (by decide) (by decide) (by decide) rfl (by decide) (case_19 hd hxl (by omega) hI hO kk)
        | 20, _ => exact zx_tableIn (x := 20) 816 dL_law_33 (by decide) (by decide) (by decide) rfl (by decide) (case_20 hd hxl (by omega) hI hO kk)
        | 21, _ => exact zx_tableIn (x := 21) 859 dL_law_33 (by decide) (by decide) (by decide) rfl (by decide) (case_21 hd hxl (by omega) hI hO kk)
        | 22, _ => exact zx_tableIn (x := 22) 892 dL_law_33 (by decide) (by decide) (by decide) rfl (by decide) (case_22 hd hxl (by omega) hI hO kk)
        | 23, _ => exact zx_tableIn (x := 23) 905 dL_law_33 (by decide) (by decide) (by decide) rfl (by decide) (case_23 hd hxl (by omega) hI hO kk)
        | 24, _ => exact zx_tableIn (x := 24) 928 dL_law_33 (by decide) (by decide) (by decide) rfl (by decide) (case_24 hd hxl (by omega) hI hO kk)
        | 25, _ => exact zx_tableIn (x := 25) 981 dL_law_33 (by decide) (by decide) (by decide) rfl (by decide) (case_25 hd hxl (by omega) hI hO kk)
        | 26, _ => exact zx_tableIn (x := 26) 1024 dL_law_33 (by decide) (by decide) (by decide) rfl (by decide) (case_26 hd hxl (by omega) hI hO kk)
        | 27, _ => exact zx_tableIn (x := 27) 1087 dL_law_33 (by decide) (by decide) (by decide) rfl (by decide) (case_27 hd hxl (by omega) hI hO kk)
        | 28, _ => exact zx_tableIn (x := 28) 1140 dL_law_33 (by decide) (by decide) (by decide) rfl (by decide) (case_28 hd hxl (by omega) hI hO kk)
        | 29, _ => exact zx_tableIn (x := 29) 1163 dL_law_33 (by decide) (by decide) (by decide) rfl (by decide) (case_29 hd hxl (by omega) hI hO kk)
        | 30, _ => exact zx_tableIn (x := 30) 1186 dL_law_33 (by decide) (by decide) (by decide) rfl (by decide) (case_30 hd hxl (by omega) hI hO kk)
        | 31, _ => exact zx_tableIn (x := 31) 1209 dL_law_33 (by decide) (by decide) (by decide) rfl (by decide) (case_31 hd hxl (by omega) hI hO kk)
        | 32, _ => exact zx_tableIn (x := 32) 1232 dL_law_33 (by decide) (by decide) (by decide) rfl (by decide) (case_32 hd hxl (by omega) hI hO kk)
        | 33, _ => exact zx_tableIn (x := 33) 1255 dL_law_33 (by decide) (by decide) (by decide) rfl (by decide) (case_33 hd hxl (by omega) hI hO kk)
        | 34, _ => exact zx_tableIn (x := 34) 1298 dL_law_33 (by decide) (by decide) (by decide) rfl (by decide) (case_34 hd hxl (by omega) hI hO kk)
        | 35, _ => exact zx_tableIn (x := 35) 1341 dL_law_33 (by decide) (by decide) (by decide) rfl (by decide) (case_35 hd hxl (by omega) hI hO kk)
        | 36, _ => exact zx_tableIn (x := 36) 1374 dL_law_33 (by decide) (by decide) (by decide) rfl (by decide) (case_36 hd hxl (by omega) hI hO kk)
        | 37, _ => exact zx_tableIn (x := 37) 1398 dL_law_33 (by decide) (by decide) (by decide) rfl (by decide) (case_37 hd hxl (by omega) hI hO kk)
        | 38, _ => exact zx_tableIn (x := 38) 1421 dL_law_33 (by decide) (by decide) (by decide) rfl (by decide) (case_38 hd hxl (by omega) hI hO kk)
        | 39, _ => exact zx_tableIn (x := 39) 1444 dL_law_33 (by decide) (by decide) (by decide) rfl (by decide) (case_39 hd hxl (by omega) hI hO kk)
        | 40, _ => exact zx_tableIn (x := 40) 1467 dL_law_33 (by decide) (by decide) (by decide) rfl (by decide) (case_40 hd hxl (by omega) hI hO kk)
        | 41, _ => exact zx_tableIn (x := 41) 1490 dL_law_33 (by decide) (by decide) (by decide) rfl (by decide) (case_41 hd hxl (by omega) hI hO kk)
        | k + 42, h => exfalso; omega
