theorem zw_ldcw {l : Launch} {d : Nat} {M : zMth} {pc : Nat} {L : List (Option Value)} {st : List Value} {σ : zMem} {Q : Option Value → zMem → Prop} (pc' : Nat) {i : Nat} (v : Int) (hd : decode M.2.2.1 pc = .ok (.ldc_w i, 3)) (hp : pc + 3 = pc') (hw : Cond.constant M.1 i (zI v) ∈ ztbl) (kk : zw l d M pc' L (.int (zI v) :: st) σ Q) : zw l d M pc L st σ Q := by
  subst hp; intro G p e R s m args below meth c cells slots Z hC H locs ls hP hS hl
  exact lv_ldcw hC.1 hC.2.1 hC.2.2.2.1 (hC.2.2.2.2.1 _ hw) hd (kk G p e R s m args below meth c cells slots Z hC H locs ls hP hS hl)
theorem lp_X5_years {l : Launch} {d : Nat} {σ : zMem} {N : zR} (hC : zCh σ 2 N) (hV : zVN N) (hd : 5 ≤ d) {seed n : Int} (hsd : 0 ≤ seed ∧ seed ≤ 999999) (hn : 0 ≤ n ∧ n ≤ 60) : ∀ (m i : Nat), (i : Int) + m = n → ∀ σc : zMem, zSc σc 102 (zsy N seed i N) → (∀ r, ¬ (102 ≤ r ∧ r ≤ 105) → σc r = σ r) → zw l d mX5_years 45 [some (.ref 1), some (.int (zI seed)), some (.int (zI n)), some (.long (zL ((zxn seed i)))), none, some (.int (zI ((i : Int)))), none, none] [] σc (fun a0 σ' => a0 = some (.int (zI (zwd (zsy N seed n.toNat N) (N 48).toNat))) ∧ zNS σ σ') := by
  have hs := hV.1
  have hv := hV.2.1
  have hy := hV.2.2.1
  have hB := zVN_bd hV
  have gN := hs.1
  have gC := hs.2.1
  have c0 : σ 2 0 = N 33 := hC.1.1.1
  have c1 : σ 2 1 = N 48 := hC.1.1.2.1
  have c2 : ∀ s, 0 ≤ s → s < N 33 → σ 3 s = N (34 + s) ∧ σ 4 s = N (41 + s) := hC.1.1.2.2.1
  have c3 : ∀ c, 0 ≤ c → c < N 48 → σ 5 c = N (49 + c) ∧ σ 6 c = N (54 + c) ∧ σ 7 c = zhv (N (49 + c)) (N (54 + c)) := hC.1.1.2.2.2
  have c4 : zSc σ 8 N := hC.1.2.1
  have c41 : ∀ c, 0 ≤ c → c < 5 → σ 9 c = N c := c4.1
  have c42 : ∀ i, 0 ≤ i → i < 20 → σ 10 i = N (5 + i) := c4.2.1
  have c43 : ∀ s, 0 ≤ s → s < 7 → σ 11 s = N (25 + s) := c4.2.2.1
  have c44 : σ 8 0 = N 32 := c4.2.2.2
  have c5 : zRo σ 13 3 59 N := hC.1.2.2.1
  have c6 : zRo σ 15 5 78 N := hC.1.2.2.2.1
  have c7 : zRo σ 17 4 109 N := hC.1.2.2.2.2
  have c8 : σ 2 2 = N 134 := hC.2.1
  have hb5 : ∀ c, 0 ≤ c → c < 5 → -1 ≤ N c ∧ N c < 1000 := fun c h0 h1 => by have := hv.1 c h0 h1; omega
  intro m
  induction m with
  | zero =>
    intro i hi σc g1 g2
    obtain rfl : n = (i : Int) := by omega
    have hvi := zsy_V hs hv seed i
    rw [Int.toNat_natCast, ← zwd_5 hs hvi]
    refine zw_iload 47 dX5_years_45 rfl rfl ?_
    refine zw_iload_n 48 dX5_years_47 rfl rfl ?_
    refine zw_icmp_ge 142 51 dX5_years_48 (by decide) rfl (by omega) (by omega) (fun h48 => ?_) (fun h48 => ?_)
    · refine zw_aload_n 143 dX5_years_142 rfl rfl ?_
      refine zw_getr 146 (102) (o := 101) dX5_years_143 rfl fX5_30 (by decide) rfl rfl ly1 ?_
      refine zw_callV 149 _ _ dX5_years_146 rfl kX5_152 qX2_doers ly102 ⟨_, rfl, rfl⟩ (by decide) (sp_X2_doers (d := d - 1) (by omega) ly102 g1 (fun j j0 j1 => by have := hvi.2.1 j j0 j1; omega)) (by omega) rfl rfl (Nat.le_of_ble_eq_true rfl) (fun r σ' hq => ?_)
      obtain ⟨rfl, rfl⟩ := hq
      refine zw_iret dX5_years_149 rfl ?_
      exact ⟨rfl, zNc.ns (fun b b0 b1 => g2 b b0)⟩
    · exfalso; omega
  | succ m ih =>
    intro i hi σc g1 g2
    have hxb := zxn_b (seed := seed) (by omega) i
    have hxb2 := zyx_b hxb
    have hvi := zsy_V hs hv seed i
    have h32 := zsy_32 hs hv seed i
    have ih2 := ih (i + 1) (by omega)
    have e0 : σc 2 0 = N 33 := by rw [g2 2 (by omega)]; exact c0
    have hcs := zCs_fr (σ' := σc) (fun b b0 b1 => g2 b (by omega)) hC.1.1
    have hvy := zyc_V hs hvi (zyx (zxn seed i))
    have hy32 : zyc N (zyx (zxn seed i)) (zsy N seed i N) 32 = zsy N seed i N 32 := zyc_hi hs _ (by omega)
    rw [show (((i + 1 : Nat) : Int)) = (i : Int) + 1 by omega, show zsy N seed (i + 1) N = zyr N (zyc N (zyx (zxn seed i)) (zsy N seed i N)) from rfl, show zxn seed (i + 1) = zyx (zxn seed i) from rfl] at ih2
    have ex : (zxn seed i * 1103515245 + 12345) % 2147483648 = zyx (zxn seed i) := rfl
    have hya : 0 ≤ zya (zyx (zxn seed i)) ∧ zya (zyx (zxn seed i)) < 5 := by unfold zya; omega
    have hyb : 0 ≤ zyb (zyx (zxn seed i)) ∧ zyb (zyx (zxn seed i)) < 5 := by unfold zyb; omega
    have eya : zyx (zxn seed i) / 65536 % 5 = zya (zyx (zxn seed i)) := rfl
    have eyb : zyx (zxn seed i) / 1048576 % 5 = zyb (zyx (zxn seed i)) := rfl
    have k125 : ∀ σq : zMem, zSc σq 102 (zyc N (zyx (zxn seed i)) (zsy N seed i N)) → (∀ r, ¬ (102 ≤ r ∧ r ≤ 105) → σq r = σ r) → zw l d mX5_years 125 [some (.ref 1), some (.int (zI seed)), some (.int (zI n)), some (.long (zL (zyx (zxn seed i)))), none, some (.int (zI ((i : Int)))), none, none] [] σq (fun a0 σ' => a0 = some (.int (zI (zwd (zsy N seed n.toNat N) (N 48).toNat))) ∧ zNS σ σ') := by
      intro σq g3 g4
      refine zw_aload_n 126 dX5_years_125 rfl rfl ?_
      refine zw_getr 129 (2) (o := 1) dX5_years_126 rfl fX5_10 (by decide) rfl rfl ly1 ?_
      refine zw_aload_n 130 dX5_years_129 rfl rfl ?_
      refine zw_getr 133 (102) (o := 101) dX5_years_130 rfl fX5_30 (by decide) rfl rfl ly1 ?_
      refine zw_callV 136 _ _ dX5_years_133 rfl kX5_215 qX0_pass ly2 ⟨_, rfl, rfl⟩ (by decide) (sp_X0_pass (d := d - 1) (by omega) ly2 ly102 (by omega) (zCs_fr (fun b b0 b1 => g4 b (by omega)) hC.1.1) g3 hs hvy (by omega)) (by omega) rfl rfl (Nat.le_of_ble_eq_true rfl) (fun r σ' hq => ?_)
      obtain ⟨rfl, q1, q2⟩ := hq
      refine zw_iinc 139 dX5_years_136 rfl (by decide) rfl ?_
      refine zw_goto 45 dX5_years_139 (by decide) ?_
      refine zw_loc [true, true, true, true, false, true, false, false] rfl ?_
      exact ih2 _ q1 (fun r hr => (q2 r (by omega)).trans (g4 r hr))
    refine zw_iload 47 dX5_years_45 rfl rfl ?_
    refine zw_iload_n 48 dX5_years_47 rfl rfl ?_
    refine zw_icmp_ge 142 51 dX5_years_48 (by decide) rfl (by omega) (by omega) (fun h48 => ?_) (fun h48 => ?_)
    · exfalso; omega
    · refine zw_lload_n 52 dX5_years_51 rfl rfl ?_
      refine zw_ldc2 55 (1103515245) dX5_years_52 rfl cX5_293 ?_
      refine zw_lmul 56 dX5_years_55 rfl ?_
      refine zw_ldc2 59 (12345) dX5_years_56 rfl cX5_295 ?_
      refine zw_ladd 60 dX5_years_59 rfl ?_
      refine zw_ldc2 63 (2147483648) dX5_years_60 rfl cX5_297 ?_
      refine zw_lrem 64 dX5_years_63 rfl (by omega) (by decide) ?_
      rw [ex]
      refine zw_lstore_n 65 dX5_years_64 rfl (by decide) ?_
      refine zw_lload_n 66 dX5_years_65 rfl rfl ?_
      refine zw_ldc2 69 (65536) dX5_years_66 rfl cX5_299 ?_
      refine zw_ldiv 70 dX5_years_69 rfl (by omega) (by decide) ?_
      refine zw_ldc2 73 (5) dX5_years_70 rfl cX5_301 ?_
      refine zw_lrem 74 dX5_years_73 rfl (by omega) (by decide) ?_
      refine zw_l2i 75 dX5_years_74 rfl (by omega) ?_
      rw [eya]
      refine zw_istore 77 dX5_years_75 rfl (by decide) ?_
      refine zw_lload_n 78 dX5_years_77 rfl rfl ?_
      refine zw_ldc2 81 (1048576) dX5_years_78 rfl cX5_303 ?_
      refine zw_ldiv 82 dX5_years_81 rfl (by omega) (by decide) ?_
      refine zw_ldc2 85 (5) dX5_years_82 rfl cX5_301 ?_
      refine zw_lrem 86 dX5_years_85 rfl (by omega) (by decide) ?_
      refine zw_l2i 87 dX5_years_86 rfl (by omega) ?_
      rw [eyb]
      refine zw_istore 89 dX5_years_87 rfl (by decide) ?_
      refine zw_aload_n 90 dX5_years_89 rfl rfl ?_
      refine zw_iload 92 dX5_years_90 rfl rfl ?_
      refine zw_callV 95 _ _ dX5_years_92 rfl kX5_122 qX5_isCanon ly1 ⟨_, rfl, rfl⟩ (by decide) (sp_X5_isCanon (d := d - 1) (by omega) hcs (by omega) (by omega)) (by omega) rfl rfl (Nat.le_of_ble_eq_true rfl) (fun r σ' hq => ?_)
      obtain ⟨rfl, rfl⟩ := hq
      refine zw_if_eq 125 98 dX5_years_95 (by decide) rfl (by omega) (fun h95 => ?_) (fun h95 => ?_)
      · refine zw_loc [true, true, true, true, false, true, false, false] rfl ?_
        first
          | (refine k125 _ ?_ (fun r hr => (zwa_ne _ _ (by omega)).trans (g2 r hr))
             have z := zSc_sw g1 (x := zya (zyx (zxn seed i))) (y := zyb (zyx (zxn seed i))) hya hyb
             unfold zyc
             rw [if_pos ⟨by omega, by omega, by omega⟩]
             exact z)
          | (refine k125 _ ?_ g2
             unfold zyc
             rw [if_neg (by omega)]
             exact g1)
      · refine zw_aload_n 99 dX5_years_98 rfl rfl ?_
        refine zw_iload 101 dX5_years_99 rfl rfl ?_
        refine zw_callV 104 _ _ dX5_years_101 rfl kX5_122 qX5_isCanon ly1 ⟨_, rfl, rfl⟩ (by decide) (sp_X5_isCanon (d := d - 1) (by omega) hcs (by omega) (by omega)) (by omega) rfl rfl (Nat.le_of_ble_eq_true rfl) (fun r σ' hq => ?_)
        obtain ⟨rfl, rfl⟩ := hq
        refine zw_if_eq 125 107 dX5_years_104 (by decide) rfl (by omega) (fun h104 => ?_) (fun h104 => ?_)
        · refine zw_loc [true, true, true, true, false, true, false, false] rfl ?_
          first
            | (refine k125 _ ?_ (fun r hr => (zwa_ne _ _ (by omega)).trans (g2 r hr))
               have z := zSc_sw g1 (x := zya (zyx (zxn seed i))) (y := zyb (zyx (zxn seed i))) hya hyb
               unfold zyc
               rw [if_pos ⟨by omega, by omega, by omega⟩]
               exact z)
            | (refine k125 _ ?_ g2
               unfold zyc
               rw [if_neg (by omega)]
               exact g1)
        · refine zw_iload 109 dX5_years_107 rfl rfl ?_
          refine zw_iload 111 dX5_years_109 rfl rfl ?_
          refine zw_icmp_eq 125 114 dX5_years_111 (by decide) rfl (by omega) (by omega) (fun h111 => ?_) (fun h111 => ?_)
          · refine zw_loc [true, true, true, true, false, true, false, false] rfl ?_
            first
              | (refine k125 _ ?_ (fun r hr => (zwa_ne _ _ (by omega)).trans (g2 r hr))
                 have z := zSc_sw g1 (x := zya (zyx (zxn seed i))) (y := zyb (zyx (zxn seed i))) hya hyb
                 unfold zyc
                 rw [if_pos ⟨by omega, by omega, by omega⟩]
                 exact z)
              | (refine k125 _ ?_ g2
                 unfold zyc
                 rw [if_neg (by omega)]
                 exact g1)
          · refine zw_aload_n 115 dX5_years_114 rfl rfl ?_
            refine zw_getr 118 (102) (o := 101) dX5_years_115 rfl fX5_30 (by decide) rfl rfl ly1 ?_
            refine zw_iload 120 dX5_years_118 rfl rfl ?_
            refine zw_iload 122 dX5_years_120 rfl rfl ?_
            refine zw_callV 125 _ _ dX5_years_122 rfl kX5_144 qX2_exchange ly102 ⟨_, rfl, rfl⟩ (by decide) (sp_X2_exchange (d := d - 1) ly102 g1 (x := zya (zyx (zxn seed i))) (y := zyb (zyx (zxn seed i))) (by omega) (by omega) (by omega)) (by omega) rfl rfl (Nat.le_of_ble_eq_true rfl) (fun r σ' hq => ?_)
            obtain ⟨rfl, rfl⟩ := hq
            refine zw_loc [true, true, true, true, false, true, false, false] rfl ?_
            first
              | (refine k125 _ ?_ (fun r hr => (zwa_ne _ _ (by omega)).trans (g2 r hr))
                 have z := zSc_sw g1 (x := zya (zyx (zxn seed i))) (y := zyb (zyx (zxn seed i))) hya hyb
                 unfold zyc
                 rw [if_pos ⟨by omega, by omega, by omega⟩]
                 exact z)
              | (refine k125 _ ?_ g2
                 unfold zyc
                 rw [if_neg (by omega)]
                 exact g1)
theorem sp_X5_years {l : Launch} {d : Nat} {σ : zMem} (hd : 8 ≤ d) {N : zR} (hC : zCh σ 2 N) (hV : zVN N) {seed n : Int} (hseed : -2147483648 ≤ seed ∧ seed < 2147483648) (hn : -2147483648 ≤ n ∧ n < 2147483648)  : zSp l d mX5_years [.ref 1, .int (zI seed), .int (zI n)] σ (zAn 118 ((0 ≤ seed ∧ seed ≤ 999999) ∧ 0 ≤ n ∧ n ≤ 60) (zwd (zsy N seed n.toNat N) (N 48).toNat) 0 (-2) σ) := by
  refine zSp_of oX5_years (Nat.le_of_ble_eq_true rfl) ?_
  show zw l d mX5_years 0 [some (.ref 1), some (.int (zI seed)), some (.int (zI n)), none, none, none, none, none] [] σ _
  have hs := hV.1
  have hv := hV.2.1
  have hy := hV.2.2.1
  have hB := zVN_bd hV
  have gN := hs.1
  have gC := hs.2.1
  have c0 : σ 2 0 = N 33 := hC.1.1.1
  have c1 : σ 2 1 = N 48 := hC.1.1.2.1
  have c2 : ∀ s, 0 ≤ s → s < N 33 → σ 3 s = N (34 + s) ∧ σ 4 s = N (41 + s) := hC.1.1.2.2.1
  have c3 : ∀ c, 0 ≤ c → c < N 48 → σ 5 c = N (49 + c) ∧ σ 6 c = N (54 + c) ∧ σ 7 c = zhv (N (49 + c)) (N (54 + c)) := hC.1.1.2.2.2
  have c4 : zSc σ 8 N := hC.1.2.1
  have c41 : ∀ c, 0 ≤ c → c < 5 → σ 9 c = N c := c4.1
  have c42 : ∀ i, 0 ≤ i → i < 20 → σ 10 i = N (5 + i) := c4.2.1
  have c43 : ∀ s, 0 ≤ s → s < 7 → σ 11 s = N (25 + s) := c4.2.2.1
  have c44 : σ 8 0 = N 32 := c4.2.2.2
  have c5 : zRo σ 13 3 59 N := hC.1.2.2.1
  have c6 : zRo σ 15 5 78 N := hC.1.2.2.2.1
  have c7 : zRo σ 17 4 109 N := hC.1.2.2.2.2
  have c8 : σ 2 2 = N 134 := hC.2.1
  have hb5 : ∀ c, 0 ≤ c → c < 5 → -1 ≤ N c ∧ N c < 1000 := fun c h0 h1 => by have := hv.1 c h0 h1; omega
  refine zw_iload_n 1 dX5_years_0 rfl rfl ?_
  refine zw_iconst 2 dX5_years_1 rfl ?_
  refine zw_ldcw 5 (999999) dX5_years_2 rfl cX5_292 ?_
  refine zw_callS 8 _ _ dX5_years_5 rfl kX5_85 qX5_within (sp_X5_within (d := d - 1) (by omega) (by omega) (by omega)) (by omega) rfl rfl (Nat.le_of_ble_eq_true rfl) (fun r σ' hq => ?_)
  obtain ⟨rfl, rfl⟩ := hq
  refine zw_if_eq 18 11 dX5_years_8 (by decide) rfl (by omega) (fun h8 => ?_) (fun h8 => ?_)
  · refine zw_aload_n 19 dX5_years_18 rfl rfl ?_
    refine zw_bipush 21 dX5_years_19 rfl (by decide) ?_
    refine zw_callV 24 _ _ dX5_years_21 rfl kX5_89 qX5_refuse ly1 ⟨_, rfl, rfl⟩ (by decide) (sp_X5_refuse_2 (d := d - 1)) (by omega) rfl rfl (Nat.le_of_ble_eq_true rfl) (fun r σ' hq => ?_)
    obtain ⟨rfl, rfl⟩ := hq
    refine zw_iret dX5_years_24 rfl ?_
    exact zAn_f (by omega)
  · refine zw_iload_n 12 dX5_years_11 rfl rfl ?_
    refine zw_callS 15 _ _ dX5_years_12 rfl kX5_199 qX5_isAhead (sp_X5_isAhead (d := d - 1) (by omega) (by omega)) (by omega) rfl rfl (Nat.le_of_ble_eq_true rfl) (fun r σ' hq => ?_)
    obtain ⟨rfl, rfl⟩ := hq
    refine zw_if_ne 25 18 dX5_years_15 (by decide) rfl (by omega) (fun h15 => ?_) (fun h15 => ?_)
    · refine zw_aload_n 26 dX5_years_25 rfl rfl ?_
      refine zw_getr 29 (102) (o := 101) dX5_years_26 rfl fX5_30 (by decide) rfl rfl ly1 ?_
      refine zw_aload_n 30 dX5_years_29 rfl rfl ?_
      refine zw_getr 33 (2) (o := 1) dX5_years_30 rfl fX5_10 (by decide) rfl rfl ly1 ?_
      refine zw_getr 36 (8) (o := 6) dX5_years_33 rfl fX5_131 (by decide) rfl rfl ly2 ?_
      refine zw_callV 39 _ _ dX5_years_36 rfl kX5_209 qX2_become ly102 ⟨_, rfl, rfl⟩ (by decide) (sp_X2_become (d := d - 1) (by omega) ly102 ly8 (by omega) c4) (by omega) rfl rfl (Nat.le_of_ble_eq_true rfl) (fun r σ' hq => ?_)
      obtain ⟨rfl, q1, q2⟩ := hq
      refine zw_iload_n 40 dX5_years_39 rfl rfl ?_
      refine zw_i2l 41 dX5_years_40 rfl (by omega) ?_
      refine zw_lstore_n 42 dX5_years_41 rfl (by decide) ?_
      refine zw_iconst 43 dX5_years_42 rfl ?_
      refine zw_istore 45 dX5_years_43 rfl (by decide) ?_
      refine zw_mono (lp_X5_years hC hV (by omega) (seed := seed) (n := n) (by omega) (by omega) n.toNat 0 (by omega) _ q1 (fun r hr => q2 r (by omega))) (fun a0 σ2 hq => ⟨fun _ => hq, fun q => absurd (show (0 ≤ seed ∧ seed ≤ 999999) ∧ 0 ≤ n ∧ n ≤ 60 by omega) q⟩)
    · refine zw_aload_n 19 dX5_years_18 rfl rfl ?_
      refine zw_bipush 21 dX5_years_19 rfl (by decide) ?_
      refine zw_callV 24 _ _ dX5_years_21 rfl kX5_89 qX5_refuse ly1 ⟨_, rfl, rfl⟩ (by decide) (sp_X5_refuse_2 (d := d - 1)) (by omega) rfl rfl (Nat.le_of_ble_eq_true rfl) (fun r σ' hq => ?_)
      obtain ⟨rfl, rfl⟩ := hq
      refine zw_iret dX5_years_24 rfl ?_
      exact zAn_f (by omega)
theorem lp_X5_power {l : Launch} {d : Nat} {σ : zMem} {b e : Int} (he : 0 ≤ e ∧ e < 1000) : ∀ (m : Nat) (i : Int), i + m = e → 0 ≤ i → zw l d mX5_power 5 [some (.long (zL b)), none, some (.int (zI e)), some (.long (zL ((b ^ i.toNat)))), none, some (.int (zI i))] [] σ (zRl (b ^ e.toNat) σ) := by
  intro m
  induction m with
  | zero =>
    intro i hi h0
    obtain rfl : i = e := by omega
    refine zw_iload 7 dX5_power_5 rfl rfl ?_
    refine zw_iload_n 8 dX5_power_7 rfl rfl ?_
    refine zw_icmp_ge 21 11 dX5_power_8 (by decide) rfl (by omega) (by omega) (fun h8 => ?_) (fun h8 => ?_)
    · refine zw_lload_n 22 dX5_power_21 rfl rfl ?_
      refine zw_lret dX5_power_22 rfl ?_
      exact ⟨rfl, rfl⟩
    · exfalso; omega
  | succ m ih =>
    intro i hi h0
    have ih2 := ih (i + 1) (by omega) (by omega)
    rw [zpow_s _ h0] at ih2
    refine zw_iload 7 dX5_power_5 rfl rfl ?_
    refine zw_iload_n 8 dX5_power_7 rfl rfl ?_
    refine zw_icmp_ge 21 11 dX5_power_8 (by decide) rfl (by omega) (by omega) (fun h8 => ?_) (fun h8 => ?_)
    · exfalso; omega
    · refine zw_lload_n 12 dX5_power_11 rfl rfl ?_
      refine zw_lload_n 13 dX5_power_12 rfl rfl ?_
      refine zw_lmul 14 dX5_power_13 rfl ?_
      refine zw_lstore_n 15 dX5_power_14 rfl (by decide) ?_
      refine zw_iinc 18 dX5_power_15 rfl (by decide) rfl ?_
      refine zw_goto 5 dX5_power_18 (by decide) ?_
      refine zw_loc [true, false, true, true, false, true] rfl ?_
      exact ih2
theorem sp_X5_power {l : Launch} {d : Nat} {σ : zMem} {b e : Int} (he : 0 ≤ e ∧ e < 1000)  : zSp l d mX5_power [.long (zL b), .int (zI e)] σ (zRl (b ^ e.toNat) σ) := by
  refine zSp_of oX5_power (Nat.le_of_ble_eq_true rfl) ?_
  show zw l d mX5_power 0 [some (.long (zL b)), none, some (.int (zI e)), none, none, none] [] σ _
  refine zw_lconst 1 1 dX5_power_0 rfl (by decide) ?_
  refine zw_lstore_n 2 dX5_power_1 rfl (by decide) ?_
  refine zw_iconst 3 dX5_power_2 rfl ?_
  refine zw_istore 5 dX5_power_3 rfl (by decide) ?_
  have h := lp_X5_power (l := l) (d := d) (σ := σ) (b := b) he e.toNat 0 (by omega) (by omega)
  rw [show (0 : Int).toNat = 0 from rfl, Int.pow_zero] at h
  exact h
theorem zch_ok : ∀ n, n < 6 → ∀ i : Nat, i < 6 → i ≤ n → (0 ≤ zch (n : Int) i * ((n : Int) - i) ∧ zch (n : Int) i * ((n : Int) - i) ≤ 1000) := by decide +kernel
theorem lp_X5_choices {l : Launch} {d : Nat} {σ : zMem} {n k : Int} (hk : 0 ≤ k ∧ k ≤ n ∧ n ≤ 5) : ∀ (m i : Nat), (i : Int) + m = k → zw l d mX5_choices 5 [some (.int (zI n)), some (.int (zI k)), some (.long (zL ((zch n i)))), none, some (.int (zI ((i : Int))))] [] σ (zRl (zch n k.toNat) σ) := by
  intro m
  induction m with
  | zero =>
    intro i hi
    obtain rfl : k = (i : Int) := by omega
    rw [Int.toNat_natCast]
    refine zw_iload 7 dX5_choices_5 rfl rfl ?_
    refine zw_iload_n 8 dX5_choices_7 rfl rfl ?_
    refine zw_icmp_ge 31 11 dX5_choices_8 (by decide) rfl (by omega) (by omega) (fun h8 => ?_) (fun h8 => ?_)
    · refine zw_lload_n 32 dX5_choices_31 rfl rfl ?_
      refine zw_lret dX5_choices_32 rfl ?_
      exact ⟨rfl, rfl⟩
    · exfalso; omega
  | succ m ih =>
    intro i hi
    have hz := zch_ok n.toNat (by omega) i (by omega) (by omega)
    rw [show ((n.toNat : Nat) : Int) = n by omega] at hz
    have ih2 := ih (i + 1) (by omega)
    rw [show (((i + 1 : Nat) : Int)) = (i : Int) + 1 by omega, show zch n (i + 1) = zch n i * (n - i) / (i + 1) from rfl] at ih2
    refine zw_iload 7 dX5_choices_5 rfl rfl ?_
    refine zw_iload_n 8 dX5_choices_7 rfl rfl ?_
    refine zw_icmp_ge 31 11 dX5_choices_8 (by decide) rfl (by omega) (by omega) (fun h8 => ?_) (fun h8 => ?_)
    · exfalso; omega
    · refine zw_lload_n 12 dX5_choices_11 rfl rfl ?_
      refine zw_iload_n 13 dX5_choices_12 rfl rfl ?_
      refine zw_iload 15 dX5_choices_13 rfl rfl ?_
      refine zw_isub 16 dX5_choices_15 rfl ?_
      refine zw_i2l 17 dX5_choices_16 rfl (by omega) ?_
      refine zw_lmul 18 dX5_choices_17 rfl ?_
      refine zw_iload 20 dX5_choices_18 rfl rfl ?_
      refine zw_iconst 21 dX5_choices_20 rfl ?_
      refine zw_iadd 22 dX5_choices_21 rfl ?_
      refine zw_i2l 23 dX5_choices_22 rfl (by omega) ?_
      refine zw_ldiv 24 dX5_choices_23 rfl (by omega) (by omega) ?_
      refine zw_lstore_n 25 dX5_choices_24 rfl (by decide) ?_
      refine zw_iinc 28 dX5_choices_25 rfl (by decide) rfl ?_
      refine zw_goto 5 dX5_choices_28 (by decide) ?_
      refine zw_loc [true, true, true, false, true] rfl ?_
      exact ih2
theorem sp_X5_choices {l : Launch} {d : Nat} {σ : zMem} {n k : Int} (hk : 0 ≤ k ∧ k ≤ n ∧ n ≤ 5)  : zSp l d mX5_choices [.int (zI n), .int (zI k)] σ (zRl (zch n k.toNat) σ) := by
  refine zSp_of oX5_choices (Nat.le_of_ble_eq_true rfl) ?_
  show zw l d mX5_choices 0 [some (.int (zI n)), some (.int (zI k)), none, none, none] [] σ _
  refine zw_lconst 1 1 dX5_choices_0 rfl (by decide) ?_
  refine zw_lstore_n 2 dX5_choices_1 rfl (by decide) ?_
  refine zw_iconst 3 dX5_choices_2 rfl ?_
  refine zw_istore 5 dX5_choices_3 rfl (by decide) ?_
  exact lp_X5_choices hk k.toNat 0 (by omega)
theorem zemod_2 {b r : Int} (hr : 0 < r) (h : r < b) : 0 ≤ b % r ∧ b % r < r ∧ 2 * (b % r) < b := by
  have h1 := Int.emod_nonneg b (by omega : r ≠ 0)
  have h2 := Int.emod_lt_of_pos b hr
  have h3 : b % r = (b - r) % r := (Int.sub_emod_right b r).symm
  have h4 : (b - r) % r ≤ b - r := by
    have := Int.emod_add_mul_ediv (b - r) r
    have h5 : 0 ≤ (b - r) / r := Int.ediv_nonneg (by omega) (by omega)
    have h6 : 0 ≤ r * ((b - r) / r) := Int.mul_nonneg (by omega) h5
    omega
  omega
def zf5 (σ : zMem) (x y : Int) : zMem := zwr (zwr σ 1 12 (x / (Int.gcd x y : Int))) 1 13 (y / (Int.gcd x y : Int))
theorem tl_X5_setFraction {l : Launch} {d : Nat} {σ : zMem} {x y : Int} (hx : 0 ≤ x ∧ x ≤ 1000000000000000) (hy : 0 < y ∧ y ≤ 1000000000000000) {a : Int} (i : Int) (ha : 0 < a) (hab : a ≤ 1000000000000000) (hg : (Int.gcd x y : Int) = a) : zw l d mX5_setFraction 45 [some (.ref 1), some (.long (zL x)), none, some (.long (zL y)), none, some (.long (zL a)), none, some (.long (zL 0)), none, some (.int (zI i)), none, none] [] σ (zRv (zf5 σ x y)) := by
  have z1 := zcmp_spec a 0
  refine zw_lload 47 dX5_setFraction_45 rfl rfl ?_
  refine zw_lconst 48 0 dX5_setFraction_47 rfl (by decide) ?_
  refine zw_lcmp 49 dX5_setFraction_48 rfl (by omega) (by omega) ?_
  refine zw_if_le 68 52 dX5_setFraction_49 (by decide) rfl (by omega) (fun h49 => ?_) (fun h49 => ?_)
  · refine zw_vret dX5_setFraction_68 rfl ?_
    first
      | (exfalso; omega)
      | exact ⟨rfl, by unfold zf5; rw [hg]⟩
  · refine zw_aload_n 53 dX5_setFraction_52 rfl rfl ?_
    refine zw_lload_n 54 dX5_setFraction_53 rfl rfl ?_
    refine zw_lload 56 dX5_setFraction_54 rfl rfl ?_
    refine zw_ldiv 57 dX5_setFraction_56 rfl (by omega) (by omega) ?_
    refine zw_ptl 60 12 dX5_setFraction_57 rfl pX5_64 (by decide) rfl rfl ly1 ?_
    refine zw_aload_n 61 dX5_setFraction_60 rfl rfl ?_
    refine zw_lload_n 62 dX5_setFraction_61 rfl rfl ?_
    refine zw_lload 64 dX5_setFraction_62 rfl rfl ?_
    refine zw_ldiv 65 dX5_setFraction_64 rfl (by omega) (by omega) ?_
    refine zw_ptl 68 13 dX5_setFraction_65 rfl pX5_68 (by decide) rfl rfl ly1 ?_
    refine zw_vret dX5_setFraction_68 rfl ?_
    first
      | (exfalso; omega)
      | exact ⟨rfl, by unfold zf5; rw [hg]⟩
theorem lp_X5_setFraction {l : Launch} {d : Nat} {σ : zMem} {x y : Int} (hx : 0 ≤ x ∧ x ≤ 1000000000000000) (hy : 0 < y ∧ y ≤ 1000000000000000) : ∀ (m : Nat) (a b i : Int), m ≤ 100 → 0 ≤ b → b < 2 ^ m → 0 ≤ a → a ≤ 1000000000000000 → b ≤ 1000000000000000 → (a ≠ 0 ∨ b ≠ 0) → (Int.gcd a b : Int) = Int.gcd x y → 0 ≤ i → i + 2 * m ≤ 900 → zw l d mX5_setFraction 9 [some (.ref 1), some (.long (zL x)), none, some (.long (zL y)), none, some (.long (zL a)), none, some (.long (zL b)), none, some (.int (zI i)), none, none] [] σ (zRv (zf5 σ x y)) := by
  have step : ∀ (a b i : Int), 0 ≤ b → 0 ≤ a → a ≤ 1000000000000000 → b ≤ 1000000000000000 → (a ≠ 0 ∨ b ≠ 0) → (Int.gcd a b : Int) = Int.gcd x y → 0 ≤ i → i < 950 → (0 < b → zw l d mX5_setFraction 9 [some (.ref 1), some (.long (zL x)), none, some (.long (zL y)), none, some (.long (zL b)), none, some (.long (zL (a % b))), none, some (.int (zI (i + 1))), none, none] [] σ (zRv (zf5 σ x y))) → zw l d mX5_setFraction 9 [some (.ref 1), some (.long (zL x)), none, some (.long (zL y)), none, some (.long (zL a)), none, some (.long (zL b)), none, some (.int (zI i)), none, none] [] σ (zRv (zf5 σ x y)) := by
    intro a b i hb0 ha0 hab hbb hne hg hi0 hi9 kk
    have z1 := zcmp_spec b 0
    have hbm : 0 < b → 0 ≤ a % b ∧ a % b < b := fun h => ⟨Int.emod_nonneg _ (by omega), Int.emod_lt_of_pos _ h⟩
    refine zw_iload 11 dX5_setFraction_9 rfl rfl ?_
    refine zw_sipush 14 dX5_setFraction_11 rfl (by decide) ?_
    refine zw_icmp_ge 45 17 dX5_setFraction_14 (by decide) rfl (by omega) (by omega) (fun h14 => ?_) (fun h14 => ?_)
    · first
        | (exfalso; omega)
        | (obtain rfl : b = 0 := by omega
           refine zw_loc [true, true, false, true, false, true, false, true, false, true, false, false] rfl ?_
           exact tl_X5_setFraction hx hy i (by omega) hab (by rw [← hg, Int.gcd_zero_right]; omega))
    · refine zw_lload 19 dX5_setFraction_17 rfl rfl ?_
      refine zw_lconst 20 0 dX5_setFraction_19 rfl (by decide) ?_
      refine zw_lcmp 21 dX5_setFraction_20 rfl (by omega) (by omega) ?_
      refine zw_if_eq 45 24 dX5_setFraction_21 (by decide) rfl (by omega) (fun h21 => ?_) (fun h21 => ?_)
      · first
          | (exfalso; omega)
          | (obtain rfl : b = 0 := by omega
             refine zw_loc [true, true, false, true, false, true, false, true, false, true, false, false] rfl ?_
             exact tl_X5_setFraction hx hy i (by omega) hab (by rw [← hg, Int.gcd_zero_right]; omega))
      · refine zw_lload 26 dX5_setFraction_24 rfl rfl ?_
        refine zw_lload 28 dX5_setFraction_26 rfl rfl ?_
        refine zw_lrem 29 dX5_setFraction_28 rfl (by omega) (by omega) ?_
        refine zw_lstore 31 dX5_setFraction_29 rfl (by decide) ?_
        refine zw_lload 33 dX5_setFraction_31 rfl rfl ?_
        refine zw_lstore 35 dX5_setFraction_33 rfl (by decide) ?_
        refine zw_lload 37 dX5_setFraction_35 rfl rfl ?_
        refine zw_lstore 39 dX5_setFraction_37 rfl (by decide) ?_
        refine zw_iinc 42 dX5_setFraction_39 rfl (by decide) rfl ?_
        refine zw_goto 9 dX5_setFraction_42 (by decide) ?_
        refine zw_loc [true, true, false, true, false, true, false, true, false, true, false, false] rfl ?_
        exact kk (by omega)
  intro m
  induction m with
  | zero =>
    intro a b i hm h1 h2 h3 h4 h5 h6 h7 h8 h9
    have h2' : b < 1 := h2
    exact step a b i h1 h3 h4 h5 h6 h7 h8 (by omega) (fun q => by exfalso; omega)
  | succ m ih =>
    intro a b i hm h1 h2 h3 h4 h5 h6 h7 h8 h9
    have hp : (2 : Int) ^ (m + 1) = 2 ^ m * 2 := Int.pow_succ 2 m
    refine step a b i h1 h3 h4 h5 h6 h7 h8 (by omega) (fun hb => ?_)
    have r0 := Int.emod_nonneg a (by omega : b ≠ 0)
    have r1 := Int.emod_lt_of_pos a hb
    have hg2 := zgcd_step h3 hb
    refine step b (a % b) (i + 1) r0 h1 h5 (by omega) (Or.inl (by omega)) (by rw [hg2]; exact h7) (by omega) (by omega) (fun hr => ?_)
    have r2 := zemod_2 hr r1
    have hg3 := zgcd_step h1 hr
    have := ih (a % b) (b % (a % b)) (i + 1 + 1) (by omega) r2.1 (by omega) r0 (by omega) (by omega) (Or.inl (by omega)) (by rw [hg3, hg2]; exact h7) (by omega) (by omega)
    exact this
theorem sp_X5_setFraction {l : Launch} {d : Nat} {σ : zMem} {x y : Int} (hx : 0 ≤ x ∧ x ≤ 1000000000000000) (hy : 0 < y ∧ y ≤ 1000000000000000)  : zSp l d mX5_setFraction [.ref 1, .long (zL x), .long (zL y)] σ (zRv (zf5 σ x y)) := by
  refine zSp_of oX5_setFraction (Nat.le_of_ble_eq_true rfl) ?_
  show zw l d mX5_setFraction 0 [some (.ref 1), some (.long (zL x)), none, some (.long (zL y)), none, none, none, none, none, none, none, none] [] σ _
  have h50 : (1000000000000000 : Int) < 2 ^ 50 := by decide
  refine zw_lload_n 1 dX5_setFraction_0 rfl rfl ?_
  refine zw_lstore 3 dX5_setFraction_1 rfl (by decide) ?_
  refine zw_lload_n 4 dX5_setFraction_3 rfl rfl ?_
  refine zw_lstore 6 dX5_setFraction_4 rfl (by decide) ?_
  refine zw_iconst 7 dX5_setFraction_6 rfl ?_
  refine zw_istore 9 dX5_setFraction_7 rfl (by decide) ?_
  exact lp_X5_setFraction hx hy 50 x y 0 (by omega) (by omega) (by omega) (by omega) (by omega) (by omega) (Or.inr (by omega)) rfl (by omega) (by omega)
theorem lp_X5_left {l : Launch} {d : Nat} {σ : zMem} {N : zR} (hC : zCh σ 2 N) (hV : zVN N) (hd : 3 ≤ d) {k m c : Int} (hk : 0 ≤ k ∧ k ≤ 5) (hm : 0 ≤ m ∧ m ≤ 3) (hc : 0 ≤ c ∧ c ≤ 10) : ∀ (q t : Nat), t + q = (N 48 + 1 - k).toNat → zw l d mX5_left 61 [some (.ref 1), some (.int (zI k)), some (.int (zI m)), some (.int (zI c)), some (.long (zL (((10 : Int) ^ m.toNat)))), none, some (.long (zL (((10 - c) ^ m.toNat)))), none, some (.long (zL ((zct (fun t => zlg ((10 - c) ^ m.toNat) ((10 : Int) ^ m.toNat) (N 48) (k + t)) t)))), none, some (.int (zI (k + (t : Int))))] [] σ (fun a0 σ1 => a0 = some (.int (zI 1)) ∧ zf5 σ (zlS ((10 - c) ^ m.toNat) ((10 : Int) ^ m.toNat) k (N 48).toNat) (((10 : Int) ^ m.toNat) ^ (N 48).toNat) = σ1) := by
  have hs := hV.1
  have hv := hV.2.1
  have hy := hV.2.2.1
  have hB := zVN_bd hV
  have gN := hs.1
  have gC := hs.2.1
  have c0 : σ 2 0 = N 33 := hC.1.1.1
  have c1 : σ 2 1 = N 48 := hC.1.1.2.1
  have c2 : ∀ s, 0 ≤ s → s < N 33 → σ 3 s = N (34 + s) ∧ σ 4 s = N (41 + s) := hC.1.1.2.2.1
  have c3 : ∀ c, 0 ≤ c → c < N 48 → σ 5 c = N (49 + c) ∧ σ 6 c = N (54 + c) ∧ σ 7 c = zhv (N (49 + c)) (N (54 + c)) := hC.1.1.2.2.2
  have c4 : zSc σ 8 N := hC.1.2.1
  have c41 : ∀ c, 0 ≤ c → c < 5 → σ 9 c = N c := c4.1
  have c42 : ∀ i, 0 ≤ i → i < 20 → σ 10 i = N (5 + i) := c4.2.1
  have c43 : ∀ s, 0 ≤ s → s < 7 → σ 11 s = N (25 + s) := c4.2.2.1
  have c44 : σ 8 0 = N 32 := c4.2.2.2
  have c5 : zRo σ 13 3 59 N := hC.1.2.2.1
  have c6 : zRo σ 15 5 78 N := hC.1.2.2.2.1
  have c7 : zRo σ 17 4 109 N := hC.1.2.2.2.2
  have c8 : σ 2 2 = N 134 := hC.2.1
  have hb5 : ∀ c, 0 ≤ c → c < 5 → -1 ≤ N c ∧ N c < 1000 := fun c h0 h1 => by have := hv.1 c h0 h1; omega
  have hz := zlq_int hm hc hk (n := N 48) (by omega)
  intro q
  induction q with
  | zero =>
    intro t ht
    have e : zct (fun t => zlg ((10 - c) ^ m.toNat) ((10 : Int) ^ m.toNat) (N 48) (k + t)) t = zlS ((10 - c) ^ m.toNat) ((10 : Int) ^ m.toNat) k (N 48).toNat := by
      rw [hz.1]; unfold zlC; rw [show t = (N 48 + 1 - k).toNat by omega]
    rw [e]
    refine zw_iload 63 dX5_left_61 rfl rfl ?_
    refine zw_aload_n 64 dX5_left_63 rfl rfl ?_
    refine zw_getr 67 (2) (o := 1) dX5_left_64 rfl fX5_10 (by decide) rfl rfl ly1 ?_
    refine zw_gti 70 1 dX5_left_67 rfl fX5_71 (by decide) rfl rfl ly2 ?_
    rw [c1]
    refine zw_icmp_gt 123 73 dX5_left_70 (by decide) rfl (by omega) (by omega) (fun h70 => ?_) (fun h70 => ?_)
    · refine zw_aload_n 124 dX5_left_123 rfl rfl ?_
      refine zw_lload 126 dX5_left_124 rfl rfl ?_
      refine zw_lload 128 dX5_left_126 rfl rfl ?_
      refine zw_aload_n 129 dX5_left_128 rfl rfl ?_
      refine zw_getr 132 (2) (o := 1) dX5_left_129 rfl fX5_10 (by decide) rfl rfl ly1 ?_
      refine zw_gti 135 1 dX5_left_132 rfl fX5_71 (by decide) rfl rfl ly2 ?_
      rw [c1]
      refine zw_callS 138 _ _ dX5_left_135 rfl kX5_280 qX5_power (sp_X5_power (d := d - 1) (b := ((10 : Int) ^ m.toNat)) (e := N 48) (by omega)) (by omega) rfl rfl (Nat.le_of_ble_eq_true rfl) (fun r σ' hq => ?_)
      obtain ⟨rfl, rfl⟩ := hq
      refine zw_callV 141 _ _ dX5_left_138 rfl kX5_288 qX5_setFraction ly1 ⟨_, rfl, rfl⟩ (by decide) (sp_X5_setFraction (d := d - 1) (x := zlS ((10 - c) ^ m.toNat) ((10 : Int) ^ m.toNat) k (N 48).toNat) (y := ((10 : Int) ^ m.toNat) ^ (N 48).toNat) ⟨hz.2.1, hz.2.2.1⟩ ⟨by omega, hz.2.2.2.2⟩) (by omega) rfl rfl (Nat.le_of_ble_eq_true rfl) (fun r σ' hq => ?_)
      obtain ⟨rfl, rfl⟩ := hq
      refine zw_iconst 142 dX5_left_141 rfl ?_
      refine zw_iret dX5_left_142 rfl ?_
      exact ⟨rfl, rfl⟩
    · exfalso; omega
  | succ q ih =>
    intro t ht
    have ih2 := ih (t + 1) (by omega)
    rw [show (((t + 1 : Nat) : Int)) = (t : Int) + 1 by omega, show zct (fun t => zlg ((10 - c) ^ m.toNat) ((10 : Int) ^ m.toNat) (N 48) (k + t)) (t + 1) = zct (fun t => zlg ((10 - c) ^ m.toNat) ((10 : Int) ^ m.toNat) (N 48) (k + t)) t + zch (N 48) (k + t).toNat * ((10 - c) ^ m.toNat) ^ (k + t).toNat * (((10 : Int) ^ m.toNat) - ((10 - c) ^ m.toNat)) ^ (N 48 - (k + t)).toNat from rfl, show k + ((t : Int) + 1) = k + (t : Int) + 1 by omega] at ih2
    refine zw_iload 63 dX5_left_61 rfl rfl ?_
    refine zw_aload_n 64 dX5_left_63 rfl rfl ?_
    refine zw_getr 67 (2) (o := 1) dX5_left_64 rfl fX5_10 (by decide) rfl rfl ly1 ?_
    refine zw_gti 70 1 dX5_left_67 rfl fX5_71 (by decide) rfl rfl ly2 ?_
    rw [c1]
    refine zw_icmp_gt 123 73 dX5_left_70 (by decide) rfl (by omega) (by omega) (fun h70 => ?_) (fun h70 => ?_)
    · exfalso; omega
    · refine zw_lload 75 dX5_left_73 rfl rfl ?_
      refine zw_aload_n 76 dX5_left_75 rfl rfl ?_
      refine zw_getr 79 (2) (o := 1) dX5_left_76 rfl fX5_10 (by decide) rfl rfl ly1 ?_
      refine zw_gti 82 1 dX5_left_79 rfl fX5_71 (by decide) rfl rfl ly2 ?_
      rw [c1]
      refine zw_iload 84 dX5_left_82 rfl rfl ?_
      refine zw_callS 87 _ _ dX5_left_84 rfl kX5_284 qX5_choices (sp_X5_choices (d := d - 1) (n := N 48) (k := k + (t : Int)) (by omega)) (by omega) rfl rfl (Nat.le_of_ble_eq_true rfl) (fun r σ' hq => ?_)
      obtain ⟨rfl, rfl⟩ := hq
      refine zw_lload 89 dX5_left_87 rfl rfl ?_
      refine zw_iload 91 dX5_left_89 rfl rfl ?_
      refine zw_callS 94 _ _ dX5_left_91 rfl kX5_280 qX5_power (sp_X5_power (d := d - 1) (b := ((10 - c) ^ m.toNat)) (e := k + (t : Int)) (by omega)) (by omega) rfl rfl (Nat.le_of_ble_eq_true rfl) (fun r σ' hq => ?_)
      obtain ⟨rfl, rfl⟩ := hq
      refine zw_lmul 95 dX5_left_94 rfl ?_
      refine zw_lload 97 dX5_left_95 rfl rfl ?_
      refine zw_lload 99 dX5_left_97 rfl rfl ?_
      refine zw_lsub 100 dX5_left_99 rfl ?_
      refine zw_aload_n 101 dX5_left_100 rfl rfl ?_
      refine zw_getr 104 (2) (o := 1) dX5_left_101 rfl fX5_10 (by decide) rfl rfl ly1 ?_
      refine zw_gti 107 1 dX5_left_104 rfl fX5_71 (by decide) rfl rfl ly2 ?_
      rw [c1]
      refine zw_iload 109 dX5_left_107 rfl rfl ?_
      refine zw_isub 110 dX5_left_109 rfl ?_
      refine zw_callS 113 _ _ dX5_left_110 rfl kX5_280 qX5_power (sp_X5_power (d := d - 1) (b := ((10 : Int) ^ m.toNat) - ((10 - c) ^ m.toNat)) (e := N 48 - (k + (t : Int))) (by omega)) (by omega) rfl rfl (Nat.le_of_ble_eq_true rfl) (fun r σ' hq => ?_)
      obtain ⟨rfl, rfl⟩ := hq
      refine zw_lmul 114 dX5_left_113 rfl ?_
      refine zw_ladd 115 dX5_left_114 rfl ?_
      refine zw_lstore 117 dX5_left_115 rfl (by decide) ?_
      refine zw_iinc 120 dX5_left_117 rfl (by decide) rfl ?_
      refine zw_goto 61 dX5_left_120 (by decide) ?_
      refine zw_loc [true, true, true, true, true, false, true, false, true, false, true] rfl ?_
      exact ih2
theorem sp_X5_left {l : Launch} {d : Nat} {σ : zMem} (hd : 8 ≤ d) {N : zR} (hC : zCh σ 2 N) (hV : zVN N) {k m c : Int} (hk : -2147483648 ≤ k ∧ k < 2147483648) (hm : -2147483648 ≤ m ∧ m < 2147483648) (hc : -2147483648 ≤ c ∧ c < 2147483648)  : zSp l d mX5_left [.ref 1, .int (zI k), .int (zI m), .int (zI c)] σ (zA3 ((0 ≤ k ∧ k ≤ 5) ∧ (0 ≤ m ∧ m ≤ 3) ∧ 0 ≤ c ∧ c ≤ 10) False σ 118 0 (-2) 2 (-4) 1 (fun σ' => zf5 σ (zlS ((10 - c) ^ m.toNat) ((10 : Int) ^ m.toNat) k (N 48).toNat) (((10 : Int) ^ m.toNat) ^ (N 48).toNat) = σ')) := by
  refine zSp_of oX5_left (Nat.le_of_ble_eq_true rfl) ?_
  show zw l d mX5_left 0 [some (.ref 1), some (.int (zI k)), some (.int (zI m)), some (.int (zI c)), none, none, none, none, none, none, none] [] σ _
  have hs := hV.1
  have hv := hV.2.1
  have hy := hV.2.2.1
  have hB := zVN_bd hV
  have gN := hs.1
  have gC := hs.2.1
  have c0 : σ 2 0 = N 33 := hC.1.1.1
  have c1 : σ 2 1 = N 48 := hC.1.1.2.1
  have c2 : ∀ s, 0 ≤ s → s < N 33 → σ 3 s = N (34 + s) ∧ σ 4 s = N (41 + s) := hC.1.1.2.2.1
  have c3 : ∀ c, 0 ≤ c → c < N 48 → σ 5 c = N (49 + c) ∧ σ 6 c = N (54 + c) ∧ σ 7 c = zhv (N (49 + c)) (N (54 + c)) := hC.1.1.2.2.2
  have c4 : zSc σ 8 N := hC.1.2.1
  have c41 : ∀ c, 0 ≤ c → c < 5 → σ 9 c = N c := c4.1
  have c42 : ∀ i, 0 ≤ i → i < 20 → σ 10 i = N (5 + i) := c4.2.1
  have c43 : ∀ s, 0 ≤ s → s < 7 → σ 11 s = N (25 + s) := c4.2.2.1
  have c44 : σ 8 0 = N 32 := c4.2.2.2
  have c5 : zRo σ 13 3 59 N := hC.1.2.2.1
  have c6 : zRo σ 15 5 78 N := hC.1.2.2.2.1
  have c7 : zRo σ 17 4 109 N := hC.1.2.2.2.2
  have c8 : σ 2 2 = N 134 := hC.2.1
  have hb5 : ∀ c, 0 ≤ c → c < 5 → -1 ≤ N c ∧ N c < 1000 := fun c h0 h1 => by have := hv.1 c h0 h1; omega
  refine zw_iload_n 1 dX5_left_0 rfl rfl ?_
  refine zw_iconst 2 dX5_left_1 rfl ?_
  refine zw_iconst 3 dX5_left_2 rfl ?_
  refine zw_callS 6 _ _ dX5_left_3 rfl kX5_85 qX5_within (sp_X5_within (d := d - 1) (by omega) (by omega) (by omega)) (by omega) rfl rfl (Nat.le_of_ble_eq_true rfl) (fun r σ' hq => ?_)
  obtain ⟨rfl, rfl⟩ := hq
  refine zw_if_eq 28 9 dX5_left_6 (by decide) rfl (by omega) (fun h6 => ?_) (fun h6 => ?_)
  · refine zw_aload_n 29 dX5_left_28 rfl rfl ?_
    refine zw_bipush 31 dX5_left_29 rfl (by decide) ?_
    refine zw_callV 34 _ _ dX5_left_31 rfl kX5_89 qX5_refuse ly1 ⟨_, rfl, rfl⟩ (by decide) (sp_X5_refuse_2 (d := d - 1)) (by omega) rfl rfl (Nat.le_of_ble_eq_true rfl) (fun r σ' hq => ?_)
    obtain ⟨rfl, rfl⟩ := hq
    refine zw_iret dX5_left_34 rfl ?_
    exact zA3_bad (by omega)
  · refine zw_iload_n 10 dX5_left_9 rfl rfl ?_
    refine zw_iconst 11 dX5_left_10 rfl ?_
    refine zw_iconst 12 dX5_left_11 rfl ?_
    refine zw_callS 15 _ _ dX5_left_12 rfl kX5_85 qX5_within (sp_X5_within (d := d - 1) (by omega) (by omega) (by omega)) (by omega) rfl rfl (Nat.le_of_ble_eq_true rfl) (fun r σ' hq => ?_)
    obtain ⟨rfl, rfl⟩ := hq
    refine zw_if_eq 28 18 dX5_left_15 (by decide) rfl (by omega) (fun h15 => ?_) (fun h15 => ?_)
    · refine zw_aload_n 29 dX5_left_28 rfl rfl ?_
      refine zw_bipush 31 dX5_left_29 rfl (by decide) ?_
      refine zw_callV 34 _ _ dX5_left_31 rfl kX5_89 qX5_refuse ly1 ⟨_, rfl, rfl⟩ (by decide) (sp_X5_refuse_2 (d := d - 1)) (by omega) rfl rfl (Nat.le_of_ble_eq_true rfl) (fun r σ' hq => ?_)
      obtain ⟨rfl, rfl⟩ := hq
      refine zw_iret dX5_left_34 rfl ?_
      exact zA3_bad (by omega)
    · refine zw_iload_n 19 dX5_left_18 rfl rfl ?_
      refine zw_iconst 20 dX5_left_19 rfl ?_
      refine zw_bipush 22 dX5_left_20 rfl (by decide) ?_
      refine zw_callS 25 _ _ dX5_left_22 rfl kX5_85 qX5_within (sp_X5_within (d := d - 1) (by omega) (by omega) (by omega)) (by omega) rfl rfl (Nat.le_of_ble_eq_true rfl) (fun r σ' hq => ?_)
      obtain ⟨rfl, rfl⟩ := hq
      refine zw_if_ne 35 28 dX5_left_25 (by decide) rfl (by omega) (fun h25 => ?_) (fun h25 => ?_)
      · refine zw_ldc2 38 (10) dX5_left_35 rfl cX5_278 ?_
        refine zw_iload_n 39 dX5_left_38 rfl rfl ?_
        refine zw_callS 42 _ _ dX5_left_39 rfl kX5_280 qX5_power (sp_X5_power (d := d - 1) (b := 10) (e := m) (by omega)) (by omega) rfl rfl (Nat.le_of_ble_eq_true rfl) (fun r σ' hq => ?_)
        obtain ⟨rfl, rfl⟩ := hq
        refine zw_lstore 44 dX5_left_42 rfl (by decide) ?_
        refine zw_bipush 46 dX5_left_44 rfl (by decide) ?_
        refine zw_iload_n 47 dX5_left_46 rfl rfl ?_
        refine zw_isub 48 dX5_left_47 rfl ?_
        refine zw_i2l 49 dX5_left_48 rfl (by omega) ?_
        refine zw_iload_n 50 dX5_left_49 rfl rfl ?_
        refine zw_callS 53 _ _ dX5_left_50 rfl kX5_280 qX5_power (sp_X5_power (d := d - 1) (b := 10 - c) (e := m) (by omega)) (by omega) rfl rfl (Nat.le_of_ble_eq_true rfl) (fun r σ' hq => ?_)
        obtain ⟨rfl, rfl⟩ := hq
        refine zw_lstore 55 dX5_left_53 rfl (by decide) ?_
        refine zw_lconst 56 0 dX5_left_55 rfl (by decide) ?_
        refine zw_lstore 58 dX5_left_56 rfl (by decide) ?_
        refine zw_iload_n 59 dX5_left_58 rfl rfl ?_
        refine zw_istore 61 dX5_left_59 rfl (by decide) ?_
        have hl := lp_X5_left (l := l) (d := d) hC hV (by omega) (k := k) (m := m) (c := c) (by omega) (by omega) (by omega) (N 48 + 1 - k).toNat 0 (by omega)
        rw [show (((0 : Nat) : Int)) = 0 from rfl, Int.add_zero] at hl
        refine zw_mono hl (fun a0 σ2 hq => ?_)
        obtain ⟨rfl, h2⟩ := hq
        exact zA3_ok (by omega) (fun h => h) rfl h2
      · refine zw_aload_n 29 dX5_left_28 rfl rfl ?_
        refine zw_bipush 31 dX5_left_29 rfl (by decide) ?_
        refine zw_callV 34 _ _ dX5_left_31 rfl kX5_89 qX5_refuse ly1 ⟨_, rfl, rfl⟩ (by decide) (sp_X5_refuse_2 (d := d - 1)) (by omega) rfl rfl (Nat.le_of_ble_eq_true rfl) (fun r σ' hq => ?_)
        obtain ⟨rfl, rfl⟩ := hq
        refine zw_iret dX5_left_34 rfl ?_
        exact zA3_bad (by omega)
