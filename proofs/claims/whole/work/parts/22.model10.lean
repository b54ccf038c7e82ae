def zal (f : Int → Int) : Nat → Int
  | 0 => 1
  | n + 1 => if zal f n = 1 ∧ f n = 1 then 1 else 0
theorem zal_s (f : Int → Int) {k : Int} (h : 0 ≤ k) : zal f (k + 1).toNat = if zal f k.toNat = 1 ∧ f k = 1 then 1 else 0 := by
  have e : (k + 1).toNat = k.toNat + 1 := by omega
  have e2 : ((k.toNat : Nat) : Int) = k := by omega
  rw [e, zal, e2]
theorem zal_b (f : Int → Int) : ∀ n, zal f n = 0 ∨ zal f n = 1
  | 0 => Or.inr rfl
  | n + 1 => by unfold zal; omega
def zns (N : zR) (s k i : Int) : Int := if N (79 + 5 * i) ≠ s ∨ zgv k (N (79 + 5 * i + 1)) (N (79 + 5 * i + 3)) (N (79 + 5 * i + 2)) = N (79 + 5 * i + 4) then 1 else 0
def zks (N : zR) (s k : Int) : Int := zal (zns N s k) (N 78).toNat
def zms (N : zR) (c k i : Int) : Int := if N (110 + 4 * i) ≠ c ∨ zac k (N (110 + 4 * i + 1)) (N (110 + 4 * i + 2)) = N (110 + 4 * i + 3) then 1 else 0
def zkc (N : zR) (c k : Int) : Int := zal (zms N c k) (N 109).toNat
theorem lp2_X6_kindsOf {l : Launch} {d : Nat} {σ : zMem} (hd : 3 ≤ d) {s : Int} (hs0 : -2147483648 ≤ s ∧ s < 2147483648) (hV : zVN (σ 218)) {n kd : Int} (hkd : 0 ≤ kd ∧ kd < 6) (hx : ∀ so, so = zks (σ 218) s kd → zw l d mX6_kindsOf 106 [some (.ref 217), some (.int (zI s)), some (.int (zI n)), some (.int (zI kd)), some (.int (zI so)), none] [] σ (zRi (zbi (zks (σ 218) s) 6) σ)) : ∀ (m : Nat) (j : Int) (so : Int), j + m = σ 218 78 → 0 ≤ j → so = zal (zns (σ 218) s kd) j.toNat → zw l d mX6_kindsOf 17 [some (.ref 217), some (.int (zI s)), some (.int (zI n)), some (.int (zI kd)), some (.int (zI so)), some (.int (zI (79 + 5 * j)))] [] σ (zRi (zbi (zks (σ 218) s) 6) σ) := by
  intro m
  induction m with
  | zero =>
    intro j so hk hk0 hso
    have hs := hV.1
    have hv := hV.2.1
    have hy := hV.2.2.1
    have gN := hs.1
    have gC := hs.2.1
    have gM := hV.2.2.2.2.1.1
    have gK := hV.2.2.2.2.2.1.1
    have b1 := zal_b (zns (σ 218) s kd) j.toNat
    rw [← hso] at b1
    refine zw_iload 19 dX6_kindsOf_17 rfl rfl ?_
    refine zw_bipush 21 dX6_kindsOf_19 rfl (by decide) ?_
    refine zw_iconst 22 dX6_kindsOf_21 rfl ?_
    refine zw_aload_n 23 dX6_kindsOf_22 rfl rfl ?_
    refine zw_getr 26 (218) (o := 1) dX6_kindsOf_23 rfl fX6_7 (by decide) rfl rfl ly217 ?_
    refine zw_bipush 28 dX6_kindsOf_26 rfl (by decide) ?_
    refine zw_iald 29 dX6_kindsOf_28 rfl ly218 (by omega) ?_
    refine zw_imul 30 dX6_kindsOf_29 rfl ?_
    refine zw_iadd 31 dX6_kindsOf_30 rfl ?_
    refine zw_icmp_ge 106 34 dX6_kindsOf_31 (by decide) rfl (by omega) (by omega) (fun h31 => ?_) (fun h31 => ?_)
    · refine zw_loc [true, true, true, true, true, false] rfl ?_
      exact hx so (by rw [hso]; unfold zks; congr 1; omega)
    · exfalso; omega
  | succ m ih =>
    intro j so hk hk0 hso
    have hs := hV.1
    have hv := hV.2.1
    have hy := hV.2.2.1
    have gN := hs.1
    have gC := hs.2.1
    have gM := hV.2.2.2.2.1.1
    have gK := hV.2.2.2.2.2.1.1
    have b1 := zal_b (zns (σ 218) s kd) j.toNat
    rw [← hso] at b1
    refine zw_iload 19 dX6_kindsOf_17 rfl rfl ?_
    refine zw_bipush 21 dX6_kindsOf_19 rfl (by decide) ?_
    refine zw_iconst 22 dX6_kindsOf_21 rfl ?_
    refine zw_aload_n 23 dX6_kindsOf_22 rfl rfl ?_
    refine zw_getr 26 (218) (o := 1) dX6_kindsOf_23 rfl fX6_7 (by decide) rfl rfl ly217 ?_
    refine zw_bipush 28 dX6_kindsOf_26 rfl (by decide) ?_
    refine zw_iald 29 dX6_kindsOf_28 rfl ly218 (by omega) ?_
    refine zw_imul 30 dX6_kindsOf_29 rfl ?_
    refine zw_iadd 31 dX6_kindsOf_30 rfl ?_
    refine zw_icmp_ge 106 34 dX6_kindsOf_31 (by decide) rfl (by omega) (by omega) (fun h31 => ?_) (fun h31 => ?_)
    · refine zw_loc [true, true, true, true, true, false] rfl ?_
      exact hx so (by rw [hso]; unfold zks; congr 1; omega)
    · have hn := hV.2.2.2.2.1.2 j (by omega) (by omega)
      have g1 := zgv_b (k := kd) (d := σ 218 (79 + 5 * j + 1)) (h := σ 218 (79 + 5 * j + 3)) (y := σ 218 (79 + 5 * j + 2)) (by omega) (by omega)
      refine zw_iload 36 dX6_kindsOf_34 rfl rfl ?_
      refine zw_if_eq 97 39 dX6_kindsOf_36 (by decide) rfl (by omega) (fun h36 => ?_) (fun h36 => ?_)
      · refine zw_iconst 98 dX6_kindsOf_97 rfl ?_
        refine zw_istore 100 dX6_kindsOf_98 rfl (by decide) ?_
        refine zw_iinc 103 dX6_kindsOf_100 rfl (by decide) rfl ?_
        refine zw_goto 17 dX6_kindsOf_103 (by decide) ?_
        refine zw_loc [true, true, true, true, true, true] rfl ?_
        have ih2 := ih (j + 1) (if so = 1 ∧ zns (σ 218) s kd j = 1 then 1 else 0) (by omega) (by omega) (by rw [zal_s _ hk0, hso])
        rw [show 79 + 5 * (j + 1) = 79 + 5 * j + 5 by omega] at ih2
        have hf : zns (σ 218) s kd j = if σ 218 (79 + 5 * j) ≠ s ∨ zgv kd (σ 218 (79 + 5 * j + 1)) (σ 218 (79 + 5 * j + 3)) (σ 218 (79 + 5 * j + 2)) = σ 218 (79 + 5 * j + 4) then 1 else 0 := rfl
        first | (rw [if_pos (show so = 1 ∧ zns (σ 218) s kd j = 1 by omega)] at ih2; exact ih2) | (rw [if_neg (show ¬ (so = 1 ∧ zns (σ 218) s kd j = 1) by omega)] at ih2; exact ih2)
      · refine zw_aload_n 40 dX6_kindsOf_39 rfl rfl ?_
        refine zw_getr 43 (218) (o := 1) dX6_kindsOf_40 rfl fX6_7 (by decide) rfl rfl ly217 ?_
        refine zw_iload 45 dX6_kindsOf_43 rfl rfl ?_
        refine zw_iald 46 dX6_kindsOf_45 rfl ly218 (by omega) ?_
        refine zw_iload_n 47 dX6_kindsOf_46 rfl rfl ?_
        refine zw_icmp_ne 93 50 dX6_kindsOf_47 (by decide) rfl (by omega) (by omega) (fun h47 => ?_) (fun h47 => ?_)
        · refine zw_iconst 94 dX6_kindsOf_93 rfl ?_
          refine zw_goto 98 dX6_kindsOf_94 (by decide) ?_
          refine zw_istore 100 dX6_kindsOf_98 rfl (by decide) ?_
          refine zw_iinc 103 dX6_kindsOf_100 rfl (by decide) rfl ?_
          refine zw_goto 17 dX6_kindsOf_103 (by decide) ?_
          refine zw_loc [true, true, true, true, true, true] rfl ?_
          have ih2 := ih (j + 1) (if so = 1 ∧ zns (σ 218) s kd j = 1 then 1 else 0) (by omega) (by omega) (by rw [zal_s _ hk0, hso])
          rw [show 79 + 5 * (j + 1) = 79 + 5 * j + 5 by omega] at ih2
          have hf : zns (σ 218) s kd j = if σ 218 (79 + 5 * j) ≠ s ∨ zgv kd (σ 218 (79 + 5 * j + 1)) (σ 218 (79 + 5 * j + 3)) (σ 218 (79 + 5 * j + 2)) = σ 218 (79 + 5 * j + 4) then 1 else 0 := rfl
          first | (rw [if_pos (show so = 1 ∧ zns (σ 218) s kd j = 1 by omega)] at ih2; exact ih2) | (rw [if_neg (show ¬ (so = 1 ∧ zns (σ 218) s kd j = 1) by omega)] at ih2; exact ih2)
        · refine zw_iload_n 51 dX6_kindsOf_50 rfl rfl ?_
          refine zw_aload_n 52 dX6_kindsOf_51 rfl rfl ?_
          refine zw_getr 55 (218) (o := 1) dX6_kindsOf_52 rfl fX6_7 (by decide) rfl rfl ly217 ?_
          refine zw_iload 57 dX6_kindsOf_55 rfl rfl ?_
          refine zw_iconst 58 dX6_kindsOf_57 rfl ?_
          refine zw_iadd 59 dX6_kindsOf_58 rfl ?_
          refine zw_iald 60 dX6_kindsOf_59 rfl ly218 (by omega) ?_
          refine zw_aload_n 61 dX6_kindsOf_60 rfl rfl ?_
          refine zw_getr 64 (218) (o := 1) dX6_kindsOf_61 rfl fX6_7 (by decide) rfl rfl ly217 ?_
          refine zw_iload 66 dX6_kindsOf_64 rfl rfl ?_
          refine zw_iconst 67 dX6_kindsOf_66 rfl ?_
          refine zw_iadd 68 dX6_kindsOf_67 rfl ?_
          refine zw_iald 69 dX6_kindsOf_68 rfl ly218 (by omega) ?_
          refine zw_aload_n 70 dX6_kindsOf_69 rfl rfl ?_
          refine zw_getr 73 (218) (o := 1) dX6_kindsOf_70 rfl fX6_7 (by decide) rfl rfl ly217 ?_
          refine zw_iload 75 dX6_kindsOf_73 rfl rfl ?_
          refine zw_iconst 76 dX6_kindsOf_75 rfl ?_
          refine zw_iadd 77 dX6_kindsOf_76 rfl ?_
          refine zw_iald 78 dX6_kindsOf_77 rfl ly218 (by omega) ?_
          refine zw_callS 81 _ _ dX6_kindsOf_78 rfl kX6_56 qX6_gives (sp_X6_gives (d := d - 1) (by omega) (by omega) (by omega) (by omega) (by omega)) (by omega) rfl rfl (Nat.le_of_ble_eq_true rfl) (fun r σ' hq => ?_)
          obtain ⟨rfl, rfl⟩ := hq
          refine zw_aload_n 82 dX6_kindsOf_81 rfl rfl ?_
          refine zw_getr 85 (218) (o := 1) dX6_kindsOf_82 rfl fX6_7 (by decide) rfl rfl ly217 ?_
          refine zw_iload 87 dX6_kindsOf_85 rfl rfl ?_
          refine zw_iconst 88 dX6_kindsOf_87 rfl ?_
          refine zw_iadd 89 dX6_kindsOf_88 rfl ?_
          refine zw_iald 90 dX6_kindsOf_89 rfl ly218 (by omega) ?_
          refine zw_icmp_ne 97 93 dX6_kindsOf_90 (by decide) rfl (by omega) (by omega) (fun h90 => ?_) (fun h90 => ?_)
          · refine zw_iconst 98 dX6_kindsOf_97 rfl ?_
            refine zw_istore 100 dX6_kindsOf_98 rfl (by decide) ?_
            refine zw_iinc 103 dX6_kindsOf_100 rfl (by decide) rfl ?_
            refine zw_goto 17 dX6_kindsOf_103 (by decide) ?_
            refine zw_loc [true, true, true, true, true, true] rfl ?_
            have ih2 := ih (j + 1) (if so = 1 ∧ zns (σ 218) s kd j = 1 then 1 else 0) (by omega) (by omega) (by rw [zal_s _ hk0, hso])
            rw [show 79 + 5 * (j + 1) = 79 + 5 * j + 5 by omega] at ih2
            have hf : zns (σ 218) s kd j = if σ 218 (79 + 5 * j) ≠ s ∨ zgv kd (σ 218 (79 + 5 * j + 1)) (σ 218 (79 + 5 * j + 3)) (σ 218 (79 + 5 * j + 2)) = σ 218 (79 + 5 * j + 4) then 1 else 0 := rfl
            first | (rw [if_pos (show so = 1 ∧ zns (σ 218) s kd j = 1 by omega)] at ih2; exact ih2) | (rw [if_neg (show ¬ (so = 1 ∧ zns (σ 218) s kd j = 1) by omega)] at ih2; exact ih2)
          · refine zw_iconst 94 dX6_kindsOf_93 rfl ?_
            refine zw_goto 98 dX6_kindsOf_94 (by decide) ?_
            refine zw_istore 100 dX6_kindsOf_98 rfl (by decide) ?_
            refine zw_iinc 103 dX6_kindsOf_100 rfl (by decide) rfl ?_
            refine zw_goto 17 dX6_kindsOf_103 (by decide) ?_
            refine zw_loc [true, true, true, true, true, true] rfl ?_
            have ih2 := ih (j + 1) (if so = 1 ∧ zns (σ 218) s kd j = 1 then 1 else 0) (by omega) (by omega) (by rw [zal_s _ hk0, hso])
            rw [show 79 + 5 * (j + 1) = 79 + 5 * j + 5 by omega] at ih2
            have hf : zns (σ 218) s kd j = if σ 218 (79 + 5 * j) ≠ s ∨ zgv kd (σ 218 (79 + 5 * j + 1)) (σ 218 (79 + 5 * j + 3)) (σ 218 (79 + 5 * j + 2)) = σ 218 (79 + 5 * j + 4) then 1 else 0 := rfl
            first | (rw [if_pos (show so = 1 ∧ zns (σ 218) s kd j = 1 by omega)] at ih2; exact ih2) | (rw [if_neg (show ¬ (so = 1 ∧ zns (σ 218) s kd j = 1) by omega)] at ih2; exact ih2)
theorem lp_X6_kindsOf {l : Launch} {d : Nat} {σ : zMem} (hd : 3 ≤ d) {s : Int} (hs0 : -2147483648 ≤ s ∧ s < 2147483648) (hV : zVN (σ 218))  : ∀ (m : Nat) (kd : Int) (n : Int), kd + m = 6 → 0 ≤ kd → n = zbi (zks (σ 218) s) kd.toNat → zw l d mX6_kindsOf 4 [some (.ref 217), some (.int (zI s)), some (.int (zI n)), some (.int (zI kd)), none, none] [] σ (zRi (zbi (zks (σ 218) s) 6) σ) := by
  intro m
  induction m with
  | zero =>
    intro kd n hk hk0 hn
    have hs := hV.1
    have hv := hV.2.1
    have hy := hV.2.2.1
    have gN := hs.1
    have gC := hs.2.1
    have gM := hV.2.2.2.2.1.1
    have gK := hV.2.2.2.2.2.1.1
    have b1 := zbi_b (f := zks (σ 218) s) kd.toNat (fun k _ _ => zal_b _ _)
    rw [← hn] at b1
    refine zw_iload_n 5 dX6_kindsOf_4 rfl rfl ?_
    refine zw_bipush 7 dX6_kindsOf_5 rfl (by decide) ?_
    refine zw_icmp_ge 127 10 dX6_kindsOf_7 (by decide) rfl (by omega) (by omega) (fun h7 => ?_) (fun h7 => ?_)
    · refine zw_iload_n 128 dX6_kindsOf_127 rfl rfl ?_
      refine zw_iret dX6_kindsOf_128 rfl ?_
      have ek : kd = 6 := by omega
      subst ek
      exact zRi_of hn
    · exfalso; omega
  | succ m ih =>
    intro kd n hk hk0 hn
    have hs := hV.1
    have hv := hV.2.1
    have hy := hV.2.2.1
    have gN := hs.1
    have gC := hs.2.1
    have gM := hV.2.2.2.2.1.1
    have gK := hV.2.2.2.2.2.1.1
    have b1 := zbi_b (f := zks (σ 218) s) kd.toNat (fun k _ _ => zal_b _ _)
    rw [← hn] at b1
    refine zw_iload_n 5 dX6_kindsOf_4 rfl rfl ?_
    refine zw_bipush 7 dX6_kindsOf_5 rfl (by decide) ?_
    refine zw_icmp_ge 127 10 dX6_kindsOf_7 (by decide) rfl (by omega) (by omega) (fun h7 => ?_) (fun h7 => ?_)
    · refine zw_iload_n 128 dX6_kindsOf_127 rfl rfl ?_
      refine zw_iret dX6_kindsOf_128 rfl ?_
      exfalso; omega
    · refine zw_iconst 11 dX6_kindsOf_10 rfl ?_
      refine zw_istore 13 dX6_kindsOf_11 rfl (by decide) ?_
      refine zw_bipush 15 dX6_kindsOf_13 rfl (by decide) ?_
      refine zw_istore 17 dX6_kindsOf_15 rfl (by decide) ?_
      refine zw_loc [true, true, true, true, true, true] rfl ?_
      refine lp2_X6_kindsOf (σ := σ) hd hs0 hV (by omega) (fun so hso => ?_) (σ 218 78).toNat 0 1 (by omega) (by omega) rfl
      have b2 := zal_b (zns (σ 218) s kd) (σ 218 78).toNat
      have b3 : zks (σ 218) s kd = zal (zns (σ 218) s kd) (σ 218 78).toNat := rfl
      have g3 := z2k (k := kd) (by omega)
      refine zw_iload_n 107 dX6_kindsOf_106 rfl rfl ?_
      refine zw_iload 109 dX6_kindsOf_107 rfl rfl ?_
      refine zw_if_eq 118 112 dX6_kindsOf_109 (by decide) rfl (by omega) (fun h109 => ?_) (fun h109 => ?_)
      · refine zw_iconst 119 dX6_kindsOf_118 rfl ?_
        refine zw_ior 120 _ dX6_kindsOf_119 rfl (zor_int (k := kd) (by omega) b1 (by omega)) ?_
        refine zw_istore_n 121 dX6_kindsOf_120 rfl (by decide) ?_
        refine zw_iinc 124 dX6_kindsOf_121 rfl (by decide) rfl ?_
        refine zw_goto 4 dX6_kindsOf_124 (by decide) ?_
        refine zw_loc [true, true, true, true, false, false] rfl ?_
        exact ih (kd + 1) _ (by omega) (by omega) (by rw [zbi_s2 _ hk0 (zal_b _ _), ← hn]; omega)
      · refine zw_iconst 113 dX6_kindsOf_112 rfl ?_
        refine zw_iload_n 114 dX6_kindsOf_113 rfl rfl ?_
        refine zw_ishl 115 _ dX6_kindsOf_114 rfl (zshl_int (by omega)) ?_
        refine zw_goto 119 dX6_kindsOf_115 (by decide) ?_
        refine zw_ior 120 _ dX6_kindsOf_119 rfl (zor_int (k := kd) (by omega) b1 (by omega)) ?_
        refine zw_istore_n 121 dX6_kindsOf_120 rfl (by decide) ?_
        refine zw_iinc 124 dX6_kindsOf_121 rfl (by decide) rfl ?_
        refine zw_goto 4 dX6_kindsOf_124 (by decide) ?_
        refine zw_loc [true, true, true, true, false, false] rfl ?_
        exact ih (kd + 1) _ (by omega) (by omega) (by rw [zbi_s2 _ hk0 (zal_b _ _), ← hn]; omega)
theorem sp_X6_kindsOf {l : Launch} {d : Nat} {σ : zMem} (hd : 3 ≤ d) {s : Int} (hs0 : -2147483648 ≤ s ∧ s < 2147483648) (hV : zVN (σ 218))  : zSp l d mX6_kindsOf [.ref 217, .int (zI s)] σ (zRi (zbi (zks (σ 218) s) 6) σ) := by
  refine zSp_of oX6_kindsOf (Nat.le_of_ble_eq_true rfl) ?_
  show zw l d mX6_kindsOf 0 [some (.ref 217), some (.int (zI s)), none, none, none, none] [] σ _
  refine zw_iconst 1 dX6_kindsOf_0 rfl ?_
  refine zw_istore_n 2 dX6_kindsOf_1 rfl (by decide) ?_
  refine zw_iconst 3 dX6_kindsOf_2 rfl ?_
  refine zw_istore_n 4 dX6_kindsOf_3 rfl (by decide) ?_
  exact lp_X6_kindsOf (σ := σ) hd hs0 hV 6 0 0 (by omega) (by omega) rfl
theorem lp2_X6_kindsOfOne {l : Launch} {d : Nat} {σ : zMem} (hd : 3 ≤ d) {s : Int} (hs0 : -2147483648 ≤ s ∧ s < 2147483648) (hV : zVN (σ 218)) {n kd : Int} (hkd : 0 ≤ kd ∧ kd < 6) (hx : ∀ so, so = zkc (σ 218) s kd → zw l d mX6_kindsOfOne 97 [some (.ref 217), some (.int (zI s)), some (.int (zI n)), some (.int (zI kd)), some (.int (zI so)), none] [] σ (zRi (zbi (zkc (σ 218) s) 6) σ)) : ∀ (m : Nat) (j : Int) (so : Int), j + m = σ 218 109 → 0 ≤ j → so = zal (zms (σ 218) s kd) j.toNat → zw l d mX6_kindsOfOne 17 [some (.ref 217), some (.int (zI s)), some (.int (zI n)), some (.int (zI kd)), some (.int (zI so)), some (.int (zI (110 + 4 * j)))] [] σ (zRi (zbi (zkc (σ 218) s) 6) σ) := by
  intro m
  induction m with
  | zero =>
    intro j so hk hk0 hso
    have hs := hV.1
    have hv := hV.2.1
    have hy := hV.2.2.1
    have gN := hs.1
    have gC := hs.2.1
    have gM := hV.2.2.2.2.1.1
    have gK := hV.2.2.2.2.2.1.1
    have b1 := zal_b (zms (σ 218) s kd) j.toNat
    rw [← hso] at b1
    refine zw_iload 19 dX6_kindsOfOne_17 rfl rfl ?_
    refine zw_bipush 21 dX6_kindsOfOne_19 rfl (by decide) ?_
    refine zw_iconst 22 dX6_kindsOfOne_21 rfl ?_
    refine zw_aload_n 23 dX6_kindsOfOne_22 rfl rfl ?_
    refine zw_getr 26 (218) (o := 1) dX6_kindsOfOne_23 rfl fX6_7 (by decide) rfl rfl ly217 ?_
    refine zw_bipush 28 dX6_kindsOfOne_26 rfl (by decide) ?_
    refine zw_iald 29 dX6_kindsOfOne_28 rfl ly218 (by omega) ?_
    refine zw_imul 30 dX6_kindsOfOne_29 rfl ?_
    refine zw_iadd 31 dX6_kindsOfOne_30 rfl ?_
    refine zw_icmp_ge 97 34 dX6_kindsOfOne_31 (by decide) rfl (by omega) (by omega) (fun h31 => ?_) (fun h31 => ?_)
    · refine zw_loc [true, true, true, true, true, false] rfl ?_
      exact hx so (by rw [hso]; unfold zkc; congr 1; omega)
    · exfalso; omega
  | succ m ih =>
    intro j so hk hk0 hso
    have hs := hV.1
    have hv := hV.2.1
    have hy := hV.2.2.1
    have gN := hs.1
    have gC := hs.2.1
    have gM := hV.2.2.2.2.1.1
    have gK := hV.2.2.2.2.2.1.1
    have b1 := zal_b (zms (σ 218) s kd) j.toNat
    rw [← hso] at b1
    refine zw_iload 19 dX6_kindsOfOne_17 rfl rfl ?_
    refine zw_bipush 21 dX6_kindsOfOne_19 rfl (by decide) ?_
    refine zw_iconst 22 dX6_kindsOfOne_21 rfl ?_
    refine zw_aload_n 23 dX6_kindsOfOne_22 rfl rfl ?_
    refine zw_getr 26 (218) (o := 1) dX6_kindsOfOne_23 rfl fX6_7 (by decide) rfl rfl ly217 ?_
    refine zw_bipush 28 dX6_kindsOfOne_26 rfl (by decide) ?_
    refine zw_iald 29 dX6_kindsOfOne_28 rfl ly218 (by omega) ?_
    refine zw_imul 30 dX6_kindsOfOne_29 rfl ?_
    refine zw_iadd 31 dX6_kindsOfOne_30 rfl ?_
    refine zw_icmp_ge 97 34 dX6_kindsOfOne_31 (by decide) rfl (by omega) (by omega) (fun h31 => ?_) (fun h31 => ?_)
    · refine zw_loc [true, true, true, true, true, false] rfl ?_
      exact hx so (by rw [hso]; unfold zkc; congr 1; omega)
    · have hn := hV.2.2.2.2.2.1.2 j (by omega) (by omega)
      have g1 := zac_b (k := kd) (g := σ 218 (110 + 4 * j + 1)) (h := σ 218 (110 + 4 * j + 2)) (by omega)
      refine zw_iload 36 dX6_kindsOfOne_34 rfl rfl ?_
      refine zw_if_eq 88 39 dX6_kindsOfOne_36 (by decide) rfl (by omega) (fun h36 => ?_) (fun h36 => ?_)
      · refine zw_iconst 89 dX6_kindsOfOne_88 rfl ?_
        refine zw_istore 91 dX6_kindsOfOne_89 rfl (by decide) ?_
        refine zw_iinc 94 dX6_kindsOfOne_91 rfl (by decide) rfl ?_
        refine zw_goto 17 dX6_kindsOfOne_94 (by decide) ?_
        refine zw_loc [true, true, true, true, true, true] rfl ?_
        have ih2 := ih (j + 1) (if so = 1 ∧ zms (σ 218) s kd j = 1 then 1 else 0) (by omega) (by omega) (by rw [zal_s _ hk0, hso])
        rw [show 110 + 4 * (j + 1) = 110 + 4 * j + 4 by omega] at ih2
        have hf : zms (σ 218) s kd j = if σ 218 (110 + 4 * j) ≠ s ∨ zac kd (σ 218 (110 + 4 * j + 1)) (σ 218 (110 + 4 * j + 2)) = σ 218 (110 + 4 * j + 3) then 1 else 0 := rfl
        first | (rw [if_pos (show so = 1 ∧ zms (σ 218) s kd j = 1 by omega)] at ih2; exact ih2) | (rw [if_neg (show ¬ (so = 1 ∧ zms (σ 218) s kd j = 1) by omega)] at ih2; exact ih2)
      · refine zw_aload_n 40 dX6_kindsOfOne_39 rfl rfl ?_
        refine zw_getr 43 (218) (o := 1) dX6_kindsOfOne_40 rfl fX6_7 (by decide) rfl rfl ly217 ?_
        refine zw_iload 45 dX6_kindsOfOne_43 rfl rfl ?_
        refine zw_iald 46 dX6_kindsOfOne_45 rfl ly218 (by omega) ?_
        refine zw_iload_n 47 dX6_kindsOfOne_46 rfl rfl ?_
        refine zw_icmp_ne 84 50 dX6_kindsOfOne_47 (by decide) rfl (by omega) (by omega) (fun h47 => ?_) (fun h47 => ?_)
        · refine zw_iconst 85 dX6_kindsOfOne_84 rfl ?_
          refine zw_goto 89 dX6_kindsOfOne_85 (by decide) ?_
          refine zw_istore 91 dX6_kindsOfOne_89 rfl (by decide) ?_
          refine zw_iinc 94 dX6_kindsOfOne_91 rfl (by decide) rfl ?_
          refine zw_goto 17 dX6_kindsOfOne_94 (by decide) ?_
          refine zw_loc [true, true, true, true, true, true] rfl ?_
          have ih2 := ih (j + 1) (if so = 1 ∧ zms (σ 218) s kd j = 1 then 1 else 0) (by omega) (by omega) (by rw [zal_s _ hk0, hso])
          rw [show 110 + 4 * (j + 1) = 110 + 4 * j + 4 by omega] at ih2
          have hf : zms (σ 218) s kd j = if σ 218 (110 + 4 * j) ≠ s ∨ zac kd (σ 218 (110 + 4 * j + 1)) (σ 218 (110 + 4 * j + 2)) = σ 218 (110 + 4 * j + 3) then 1 else 0 := rfl
          first | (rw [if_pos (show so = 1 ∧ zms (σ 218) s kd j = 1 by omega)] at ih2; exact ih2) | (rw [if_neg (show ¬ (so = 1 ∧ zms (σ 218) s kd j = 1) by omega)] at ih2; exact ih2)
        · refine zw_iload_n 51 dX6_kindsOfOne_50 rfl rfl ?_
          refine zw_aload_n 52 dX6_kindsOfOne_51 rfl rfl ?_
          refine zw_getr 55 (218) (o := 1) dX6_kindsOfOne_52 rfl fX6_7 (by decide) rfl rfl ly217 ?_
          refine zw_iload 57 dX6_kindsOfOne_55 rfl rfl ?_
          refine zw_iconst 58 dX6_kindsOfOne_57 rfl ?_
          refine zw_iadd 59 dX6_kindsOfOne_58 rfl ?_
          refine zw_iald 60 dX6_kindsOfOne_59 rfl ly218 (by omega) ?_
          refine zw_aload_n 61 dX6_kindsOfOne_60 rfl rfl ?_
          refine zw_getr 64 (218) (o := 1) dX6_kindsOfOne_61 rfl fX6_7 (by decide) rfl rfl ly217 ?_
          refine zw_iload 66 dX6_kindsOfOne_64 rfl rfl ?_
          refine zw_iconst 67 dX6_kindsOfOne_66 rfl ?_
          refine zw_iadd 68 dX6_kindsOfOne_67 rfl ?_
          refine zw_iald 69 dX6_kindsOfOne_68 rfl ly218 (by omega) ?_
          refine zw_callS 72 _ _ dX6_kindsOfOne_69 rfl kX6_60 qX6_takesOf (sp_X6_takesOf (d := d - 1) (by omega) (by omega) (by omega)) (by omega) rfl rfl (Nat.le_of_ble_eq_true rfl) (fun r σ' hq => ?_)
          obtain ⟨rfl, rfl⟩ := hq
          refine zw_aload_n 73 dX6_kindsOfOne_72 rfl rfl ?_
          refine zw_getr 76 (218) (o := 1) dX6_kindsOfOne_73 rfl fX6_7 (by decide) rfl rfl ly217 ?_
          refine zw_iload 78 dX6_kindsOfOne_76 rfl rfl ?_
          refine zw_iconst 79 dX6_kindsOfOne_78 rfl ?_
          refine zw_iadd 80 dX6_kindsOfOne_79 rfl ?_
          refine zw_iald 81 dX6_kindsOfOne_80 rfl ly218 (by omega) ?_
          refine zw_icmp_ne 88 84 dX6_kindsOfOne_81 (by decide) rfl (by omega) (by omega) (fun h81 => ?_) (fun h81 => ?_)
          · refine zw_iconst 89 dX6_kindsOfOne_88 rfl ?_
            refine zw_istore 91 dX6_kindsOfOne_89 rfl (by decide) ?_
            refine zw_iinc 94 dX6_kindsOfOne_91 rfl (by decide) rfl ?_
            refine zw_goto 17 dX6_kindsOfOne_94 (by decide) ?_
            refine zw_loc [true, true, true, true, true, true] rfl ?_
            have ih2 := ih (j + 1) (if so = 1 ∧ zms (σ 218) s kd j = 1 then 1 else 0) (by omega) (by omega) (by rw [zal_s _ hk0, hso])
            rw [show 110 + 4 * (j + 1) = 110 + 4 * j + 4 by omega] at ih2
            have hf : zms (σ 218) s kd j = if σ 218 (110 + 4 * j) ≠ s ∨ zac kd (σ 218 (110 + 4 * j + 1)) (σ 218 (110 + 4 * j + 2)) = σ 218 (110 + 4 * j + 3) then 1 else 0 := rfl
            first | (rw [if_pos (show so = 1 ∧ zms (σ 218) s kd j = 1 by omega)] at ih2; exact ih2) | (rw [if_neg (show ¬ (so = 1 ∧ zms (σ 218) s kd j = 1) by omega)] at ih2; exact ih2)
          · refine zw_iconst 85 dX6_kindsOfOne_84 rfl ?_
            refine zw_goto 89 dX6_kindsOfOne_85 (by decide) ?_
            refine zw_istore 91 dX6_kindsOfOne_89 rfl (by decide) ?_
            refine zw_iinc 94 dX6_kindsOfOne_91 rfl (by decide) rfl ?_
            refine zw_goto 17 dX6_kindsOfOne_94 (by decide) ?_
            refine zw_loc [true, true, true, true, true, true] rfl ?_
            have ih2 := ih (j + 1) (if so = 1 ∧ zms (σ 218) s kd j = 1 then 1 else 0) (by omega) (by omega) (by rw [zal_s _ hk0, hso])
            rw [show 110 + 4 * (j + 1) = 110 + 4 * j + 4 by omega] at ih2
            have hf : zms (σ 218) s kd j = if σ 218 (110 + 4 * j) ≠ s ∨ zac kd (σ 218 (110 + 4 * j + 1)) (σ 218 (110 + 4 * j + 2)) = σ 218 (110 + 4 * j + 3) then 1 else 0 := rfl
            first | (rw [if_pos (show so = 1 ∧ zms (σ 218) s kd j = 1 by omega)] at ih2; exact ih2) | (rw [if_neg (show ¬ (so = 1 ∧ zms (σ 218) s kd j = 1) by omega)] at ih2; exact ih2)
theorem lp_X6_kindsOfOne {l : Launch} {d : Nat} {σ : zMem} (hd : 3 ≤ d) {s : Int} (hs0 : -2147483648 ≤ s ∧ s < 2147483648) (hV : zVN (σ 218))  : ∀ (m : Nat) (kd : Int) (n : Int), kd + m = 6 → 0 ≤ kd → n = zbi (zkc (σ 218) s) kd.toNat → zw l d mX6_kindsOfOne 4 [some (.ref 217), some (.int (zI s)), some (.int (zI n)), some (.int (zI kd)), none, none] [] σ (zRi (zbi (zkc (σ 218) s) 6) σ) := by
  intro m
  induction m with
  | zero =>
    intro kd n hk hk0 hn
    have hs := hV.1
    have hv := hV.2.1
    have hy := hV.2.2.1
    have gN := hs.1
    have gC := hs.2.1
    have gM := hV.2.2.2.2.1.1
    have gK := hV.2.2.2.2.2.1.1
    have b1 := zbi_b (f := zkc (σ 218) s) kd.toNat (fun k _ _ => zal_b _ _)
    rw [← hn] at b1
    refine zw_iload_n 5 dX6_kindsOfOne_4 rfl rfl ?_
    refine zw_bipush 7 dX6_kindsOfOne_5 rfl (by decide) ?_
    refine zw_icmp_ge 118 10 dX6_kindsOfOne_7 (by decide) rfl (by omega) (by omega) (fun h7 => ?_) (fun h7 => ?_)
    · refine zw_iload_n 119 dX6_kindsOfOne_118 rfl rfl ?_
      refine zw_iret dX6_kindsOfOne_119 rfl ?_
      have ek : kd = 6 := by omega
      subst ek
      exact zRi_of hn
    · exfalso; omega
  | succ m ih =>
    intro kd n hk hk0 hn
    have hs := hV.1
    have hv := hV.2.1
    have hy := hV.2.2.1
    have gN := hs.1
    have gC := hs.2.1
    have gM := hV.2.2.2.2.1.1
    have gK := hV.2.2.2.2.2.1.1
    have b1 := zbi_b (f := zkc (σ 218) s) kd.toNat (fun k _ _ => zal_b _ _)
    rw [← hn] at b1
    refine zw_iload_n 5 dX6_kindsOfOne_4 rfl rfl ?_
    refine zw_bipush 7 dX6_kindsOfOne_5 rfl (by decide) ?_
    refine zw_icmp_ge 118 10 dX6_kindsOfOne_7 (by decide) rfl (by omega) (by omega) (fun h7 => ?_) (fun h7 => ?_)
    · refine zw_iload_n 119 dX6_kindsOfOne_118 rfl rfl ?_
      refine zw_iret dX6_kindsOfOne_119 rfl ?_
      exfalso; omega
    · refine zw_iconst 11 dX6_kindsOfOne_10 rfl ?_
      refine zw_istore 13 dX6_kindsOfOne_11 rfl (by decide) ?_
      refine zw_bipush 15 dX6_kindsOfOne_13 rfl (by decide) ?_
      refine zw_istore 17 dX6_kindsOfOne_15 rfl (by decide) ?_
      refine zw_loc [true, true, true, true, true, true] rfl ?_
      refine lp2_X6_kindsOfOne (σ := σ) hd hs0 hV (by omega) (fun so hso => ?_) (σ 218 109).toNat 0 1 (by omega) (by omega) rfl
      have b2 := zal_b (zms (σ 218) s kd) (σ 218 109).toNat
      have b3 : zkc (σ 218) s kd = zal (zms (σ 218) s kd) (σ 218 109).toNat := rfl
      have g3 := z2k (k := kd) (by omega)
      refine zw_iload_n 98 dX6_kindsOfOne_97 rfl rfl ?_
      refine zw_iload 100 dX6_kindsOfOne_98 rfl rfl ?_
      refine zw_if_eq 109 103 dX6_kindsOfOne_100 (by decide) rfl (by omega) (fun h100 => ?_) (fun h100 => ?_)
      · refine zw_iconst 110 dX6_kindsOfOne_109 rfl ?_
        refine zw_ior 111 _ dX6_kindsOfOne_110 rfl (zor_int (k := kd) (by omega) b1 (by omega)) ?_
        refine zw_istore_n 112 dX6_kindsOfOne_111 rfl (by decide) ?_
        refine zw_iinc 115 dX6_kindsOfOne_112 rfl (by decide) rfl ?_
        refine zw_goto 4 dX6_kindsOfOne_115 (by decide) ?_
        refine zw_loc [true, true, true, true, false, false] rfl ?_
        exact ih (kd + 1) _ (by omega) (by omega) (by rw [zbi_s2 _ hk0 (zal_b _ _), ← hn]; omega)
      · refine zw_iconst 104 dX6_kindsOfOne_103 rfl ?_
        refine zw_iload_n 105 dX6_kindsOfOne_104 rfl rfl ?_
        refine zw_ishl 106 _ dX6_kindsOfOne_105 rfl (zshl_int (by omega)) ?_
        refine zw_goto 110 dX6_kindsOfOne_106 (by decide) ?_
        refine zw_ior 111 _ dX6_kindsOfOne_110 rfl (zor_int (k := kd) (by omega) b1 (by omega)) ?_
        refine zw_istore_n 112 dX6_kindsOfOne_111 rfl (by decide) ?_
        refine zw_iinc 115 dX6_kindsOfOne_112 rfl (by decide) rfl ?_
        refine zw_goto 4 dX6_kindsOfOne_115 (by decide) ?_
        refine zw_loc [true, true, true, true, false, false] rfl ?_
        exact ih (kd + 1) _ (by omega) (by omega) (by rw [zbi_s2 _ hk0 (zal_b _ _), ← hn]; omega)
theorem sp_X6_kindsOfOne {l : Launch} {d : Nat} {σ : zMem} (hd : 3 ≤ d) {s : Int} (hs0 : -2147483648 ≤ s ∧ s < 2147483648) (hV : zVN (σ 218))  : zSp l d mX6_kindsOfOne [.ref 217, .int (zI s)] σ (zRi (zbi (zkc (σ 218) s) 6) σ) := by
  refine zSp_of oX6_kindsOfOne (Nat.le_of_ble_eq_true rfl) ?_
  show zw l d mX6_kindsOfOne 0 [some (.ref 217), some (.int (zI s)), none, none, none, none] [] σ _
  refine zw_iconst 1 dX6_kindsOfOne_0 rfl ?_
  refine zw_istore_n 2 dX6_kindsOfOne_1 rfl (by decide) ?_
  refine zw_iconst 3 dX6_kindsOfOne_2 rfl ?_
  refine zw_istore_n 4 dX6_kindsOfOne_3 rfl (by decide) ?_
  exact lp_X6_kindsOfOne (σ := σ) hd hs0 hV 6 0 0 (by omega) (by omega) rfl
theorem zks_b (N : zR) (s k : Int) : zks N s k = 0 ∨ zks N s k = 1 := zal_b _ _
theorem zkc_b (N : zR) (s k : Int) : zkc N s k = 0 ∨ zkc N s k = 1 := zal_b _ _
theorem sp_X6_is {l : Launch} {d : Nat} {σ : zMem} (hd : 8 ≤ d) {s : Int} (hs : -2147483648 ≤ s ∧ s < 2147483648) (hV : zVN (σ 218))  : zSp l d mX6_is [.ref 217, .int (zI s)] σ (zAn 224 (0 ≤ s ∧ s ≤ σ 218 33 - 1) (zbi (zks (σ 218) s) 6) 0 (-2) σ) := by
  refine zSp_of oX6_is (Nat.le_of_ble_eq_true rfl) ?_
  show zw l d mX6_is 0 [some (.ref 217), some (.int (zI s))] [] σ _
  have hs := hV.1
  have hv := hV.2.1
  have hy := hV.2.2.1
  have gN := hs.1
  have gC := hs.2.1
  refine zw_aload_n 1 dX6_is_0 rfl rfl ?_
  refine zw_iload_n 2 dX6_is_1 rfl rfl ?_
  refine zw_callV 5 _ _ dX6_is_2 rfl kX6_197 qX6_isSeat ly217 ⟨_, rfl, rfl⟩ (by decide) (sp_X6_isSeat (d := d - 1) (by omega) (by omega) (by omega)) (by omega) rfl rfl (Nat.le_of_ble_eq_true rfl) (fun r σ' hq => ?_)
  obtain ⟨rfl, rfl⟩ := hq
  refine zw_if_eq 16 8 dX6_is_5 (by decide) rfl (by omega) (fun h5 => ?_) (fun h5 => ?_)
  · refine zw_aload_n 17 dX6_is_16 rfl rfl ?_
    refine zw_callV 20 _ _ dX6_is_17 rfl kX6_100 qX6_bad ly217 ⟨_, rfl, rfl⟩ (by decide) (sp_X6_bad (d := d - 1) (by omega)) (by omega) rfl rfl (Nat.le_of_ble_eq_true rfl) (fun r σ' hq => ?_)
    obtain ⟨rfl, rfl⟩ := hq
    refine zw_iret dX6_is_20 rfl ?_
    first | exact zAn_f (by omega) | exact zAn_t (by omega) (by first | rfl | (simp (disch := omega) only [zwa_same, zup_same, zup_ne])) (zNS_refl _)
  · refine zw_aload_n 9 dX6_is_8 rfl rfl ?_
    refine zw_iload_n 10 dX6_is_9 rfl rfl ?_
    refine zw_callV 13 _ _ dX6_is_10 rfl kX6_256 qX6_kindsOf ly217 ⟨_, rfl, rfl⟩ (by decide) (sp_X6_kindsOf (d := d - 1) (by omega) (by omega) hV) (by omega) rfl rfl (Nat.le_of_ble_eq_true rfl) (fun r σ' hq => ?_)
    obtain ⟨rfl, rfl⟩ := hq
    refine zw_goto 20 dX6_is_13 (by decide) ?_
    refine zw_iret dX6_is_20 rfl ?_
    first | exact zAn_f (by omega) | exact zAn_t (by omega) (by first | rfl | (simp (disch := omega) only [zwa_same, zup_same, zup_ne])) (zNS_refl _)
theorem sp_X6_what {l : Launch} {d : Nat} {σ : zMem} (hd : 8 ≤ d) {c : Int} (hc : -2147483648 ≤ c ∧ c < 2147483648) (hV : zVN (σ 218))  : zSp l d mX6_what [.ref 217, .int (zI c)] σ (zAn 224 (0 ≤ c ∧ c ≤ σ 218 48 - 1) (zbi (zkc (σ 218) c) 6) 0 (-2) σ) := by
  refine zSp_of oX6_what (Nat.le_of_ble_eq_true rfl) ?_
  show zw l d mX6_what 0 [some (.ref 217), some (.int (zI c))] [] σ _
  have hs := hV.1
  have hv := hV.2.1
  have hy := hV.2.2.1
  have gN := hs.1
  have gC := hs.2.1
  refine zw_aload_n 1 dX6_what_0 rfl rfl ?_
  refine zw_iload_n 2 dX6_what_1 rfl rfl ?_
  refine zw_callV 5 _ _ dX6_what_2 rfl kX6_194 qX6_isCanon ly217 ⟨_, rfl, rfl⟩ (by decide) (sp_X6_isCanon (d := d - 1) (by omega) (by omega) (by omega)) (by omega) rfl rfl (Nat.le_of_ble_eq_true rfl) (fun r σ' hq => ?_)
  obtain ⟨rfl, rfl⟩ := hq
  refine zw_if_eq 16 8 dX6_what_5 (by decide) rfl (by omega) (fun h5 => ?_) (fun h5 => ?_)
  · refine zw_aload_n 17 dX6_what_16 rfl rfl ?_
    refine zw_callV 20 _ _ dX6_what_17 rfl kX6_100 qX6_bad ly217 ⟨_, rfl, rfl⟩ (by decide) (sp_X6_bad (d := d - 1) (by omega)) (by omega) rfl rfl (Nat.le_of_ble_eq_true rfl) (fun r σ' hq => ?_)
    obtain ⟨rfl, rfl⟩ := hq
    refine zw_iret dX6_what_20 rfl ?_
    first | exact zAn_f (by omega) | exact zAn_t (by omega) (by first | rfl | (simp (disch := omega) only [zwa_same, zup_same, zup_ne])) (zNS_refl _)
  · refine zw_aload_n 9 dX6_what_8 rfl rfl ?_
    refine zw_iload_n 10 dX6_what_9 rfl rfl ?_
    refine zw_callV 13 _ _ dX6_what_10 rfl kX6_271 qX6_kindsOfOne ly217 ⟨_, rfl, rfl⟩ (by decide) (sp_X6_kindsOfOne (d := d - 1) (by omega) (by omega) hV) (by omega) rfl rfl (Nat.le_of_ble_eq_true rfl) (fun r σ' hq => ?_)
    obtain ⟨rfl, rfl⟩ := hq
    refine zw_goto 20 dX6_what_13 (by decide) ?_
    refine zw_iret dX6_what_20 rfl ?_
    first | exact zAn_f (by omega) | exact zAn_t (by omega) (by first | rfl | (simp (disch := omega) only [zwa_same, zup_same, zup_ne])) (zNS_refl _)
