def zqf (N : zR) (s : Int) : Int := if N (41 + s + 1) = N (41 + s) then 1 else 0
theorem lp_X6_quarrels {l : Launch} {d : Nat} {σ : zMem} (hV : zVN (σ 218))  : ∀ (m : Nat) (s : Int) (n : Int), s + m = max 1 (σ 218 33) → 0 ≤ s → 1 ≤ s → n = zct (zqf (σ 218)) (s - 1).toNat → zw l d mX6_quarrels 4 [some (.ref 217), some (.int (zI n)), some (.int (zI s))] [] σ (zRi (zct (zqf (σ 218)) (σ 218 33 - 1).toNat) σ) := by
  intro m
  induction m with
  | zero =>
    intro s n hk hk0 h1 hn
    have hs := hV.1
    have hv := hV.2.1
    have hy := hV.2.2.1
    have gN := hs.1
    have gC := hs.2.1
    refine zw_iload_n 5 dX6_quarrels_4 rfl rfl ?_
    refine zw_aload_n 6 dX6_quarrels_5 rfl rfl ?_
    refine zw_getr 9 (218) (o := 1) dX6_quarrels_6 rfl fX6_7 (by decide) rfl rfl ly217 ?_
    refine zw_bipush 11 dX6_quarrels_9 rfl (by decide) ?_
    refine zw_iald 12 dX6_quarrels_11 rfl ly218 (by omega) ?_
    refine zw_icmp_ge 52 15 dX6_quarrels_12 (by decide) rfl (by omega) (by omega) (fun h12 => ?_) (fun h12 => ?_)
    · refine zw_iload_n 53 dX6_quarrels_52 rfl rfl ?_
      refine zw_iret dX6_quarrels_53 rfl ?_
      exact zRi_of (by rw [hn]; congr 1; omega)
    · exfalso; omega
  | succ m ih =>
    intro s n hk hk0 h1 hn
    have hs := hV.1
    have hv := hV.2.1
    have hy := hV.2.2.1
    have gN := hs.1
    have gC := hs.2.1
    refine zw_iload_n 5 dX6_quarrels_4 rfl rfl ?_
    refine zw_aload_n 6 dX6_quarrels_5 rfl rfl ?_
    refine zw_getr 9 (218) (o := 1) dX6_quarrels_6 rfl fX6_7 (by decide) rfl rfl ly217 ?_
    refine zw_bipush 11 dX6_quarrels_9 rfl (by decide) ?_
    refine zw_iald 12 dX6_quarrels_11 rfl ly218 (by omega) ?_
    refine zw_icmp_ge 52 15 dX6_quarrels_12 (by decide) rfl (by omega) (by omega) (fun h12 => ?_) (fun h12 => ?_)
    · refine zw_iload_n 53 dX6_quarrels_52 rfl rfl ?_
      refine zw_iret dX6_quarrels_53 rfl ?_
      exfalso; omega
    · have g1 := (hs.s (s := s) (by omega) (by omega)).2
      have g2 := (hs.s (s := s - 1) (by omega) (by omega)).2
      rw [show 41 + (s - 1) = 41 + s - 1 by omega] at g2
      refine zw_iload_n 16 dX6_quarrels_15 rfl rfl ?_
      refine zw_aload_n 17 dX6_quarrels_16 rfl rfl ?_
      refine zw_getr 20 (218) (o := 1) dX6_quarrels_17 rfl fX6_7 (by decide) rfl rfl ly217 ?_
      refine zw_bipush 22 dX6_quarrels_20 rfl (by decide) ?_
      refine zw_iload_n 23 dX6_quarrels_22 rfl rfl ?_
      refine zw_iadd 24 dX6_quarrels_23 rfl ?_
      refine zw_iald 25 dX6_quarrels_24 rfl ly218 (by omega) ?_
      refine zw_aload_n 26 dX6_quarrels_25 rfl rfl ?_
      refine zw_getr 29 (218) (o := 1) dX6_quarrels_26 rfl fX6_7 (by decide) rfl rfl ly217 ?_
      refine zw_bipush 31 dX6_quarrels_29 rfl (by decide) ?_
      refine zw_iload_n 32 dX6_quarrels_31 rfl rfl ?_
      refine zw_iadd 33 dX6_quarrels_32 rfl ?_
      refine zw_iconst 34 dX6_quarrels_33 rfl ?_
      refine zw_isub 35 dX6_quarrels_34 rfl ?_
      refine zw_iald 36 dX6_quarrels_35 rfl ly218 (by omega) ?_
      refine zw_icmp_ne 43 39 dX6_quarrels_36 (by decide) rfl (by omega) (by omega) (fun h36 => ?_) (fun h36 => ?_)
      · refine zw_iconst 44 dX6_quarrels_43 rfl ?_
        refine zw_iadd 45 dX6_quarrels_44 rfl ?_
        refine zw_istore_n 46 dX6_quarrels_45 rfl (by decide) ?_
        refine zw_iinc 49 dX6_quarrels_46 rfl (by decide) rfl ?_
        refine zw_goto 4 dX6_quarrels_49 (by decide) ?_
        refine zw_loc [true, true, true] rfl ?_
        exact ih (s + 1) _ (by omega) (by omega) (by omega) (by have := zct_s (zqf (σ 218)) (k := s - 1) (by omega); rw [show s - 1 + 1 = s + 1 - 1 by omega] at this; rw [this, ← hn, zqf, show 41 + (s - 1) + 1 = 41 + s by omega, show 41 + (s - 1) = 41 + s - 1 by omega]; omega)
      · refine zw_iconst 40 dX6_quarrels_39 rfl ?_
        refine zw_goto 44 dX6_quarrels_40 (by decide) ?_
        refine zw_iadd 45 dX6_quarrels_44 rfl ?_
        refine zw_istore_n 46 dX6_quarrels_45 rfl (by decide) ?_
        refine zw_iinc 49 dX6_quarrels_46 rfl (by decide) rfl ?_
        refine zw_goto 4 dX6_quarrels_49 (by decide) ?_
        refine zw_loc [true, true, true] rfl ?_
        exact ih (s + 1) _ (by omega) (by omega) (by omega) (by have := zct_s (zqf (σ 218)) (k := s - 1) (by omega); rw [show s - 1 + 1 = s + 1 - 1 by omega] at this; rw [this, ← hn, zqf, show 41 + (s - 1) + 1 = 41 + s by omega, show 41 + (s - 1) = 41 + s - 1 by omega]; omega)
theorem sp_X6_quarrels {l : Launch} {d : Nat} {σ : zMem} (hV : zVN (σ 218))  : zSp l d mX6_quarrels [.ref 217] σ (zRi (zct (zqf (σ 218)) (σ 218 33 - 1).toNat) σ) := by
  refine zSp_of oX6_quarrels (Nat.le_of_ble_eq_true rfl) ?_
  show zw l d mX6_quarrels 0 [some (.ref 217), none, none] [] σ _
  have gN := hV.1.1
  refine zw_iconst 1 dX6_quarrels_0 rfl ?_
  refine zw_istore_n 2 dX6_quarrels_1 rfl (by decide) ?_
  refine zw_iconst 3 dX6_quarrels_2 rfl ?_
  refine zw_istore_n 4 dX6_quarrels_3 rfl (by decide) ?_
  exact lp_X6_quarrels hV (max 1 (σ 218 33) - 1).toNat 1 0 (by omega) (by omega) (by omega) rfl
def zwhf (N : zR) (c t x s : Int) : Int := if (if N (41 + s) = t then ztk N N c s else 0) = x then 1 else 0
theorem zwhf_b (N : zR) (c t x s : Int) : zwhf N c t x s = 0 ∨ zwhf N c t x s = 1 := by unfold zwhf; omega
theorem lp_X6_where {l : Launch} {d : Nat} {σ : zMem} (hd : 7 ≤ d) {c t x : Int} (hc : 0 ≤ c ∧ c ≤ σ 218 48 - 1) (ht : 0 ≤ t ∧ t ≤ 3) (hx : 0 ≤ x ∧ x ≤ 60) (hV : zVN (σ 218))  : ∀ (m : Nat) (s : Int) (n : Int), s + m = σ 218 33 → 0 ≤ s → n = zbi (zwhf (σ 218) c t x) s.toNat → zw l d mX6_where 38 [some (.ref 217), some (.int (zI c)), some (.int (zI t)), some (.int (zI x)), some (.int (zI n)), some (.int (zI s)), none] [] σ (zAn 224 ((0 ≤ c ∧ c ≤ σ 218 48 - 1) ∧ (0 ≤ t ∧ t ≤ 3) ∧ 0 ≤ x ∧ x ≤ 60) (zbi (zwhf (σ 218) c t x) (σ 218 33).toNat) 0 (-2) σ) := by
  intro m
  induction m with
  | zero =>
    intro s n hk hk0 hn
    have hs := hV.1
    have hv := hV.2.1
    have hy := hV.2.2.1
    have gN := hs.1
    have gC := hs.2.1
    have b1 := zbi_b (f := (zwhf (σ 218) c t x)) s.toNat (fun k _ _ => zwhf_b _ _ _ _ _)
    rw [← hn] at b1
    refine zw_iload 40 dX6_where_38 rfl rfl ?_
    refine zw_aload_n 41 dX6_where_40 rfl rfl ?_
    refine zw_getr 44 (218) (o := 1) dX6_where_41 rfl fX6_7 (by decide) rfl rfl ly217 ?_
    refine zw_bipush 46 dX6_where_44 rfl (by decide) ?_
    refine zw_iald 47 dX6_where_46 rfl ly218 (by omega) ?_
    refine zw_icmp_ge 106 50 dX6_where_47 (by decide) rfl (by omega) (by omega) (fun h47 => ?_) (fun h47 => ?_)
    · refine zw_iload 108 dX6_where_106 rfl rfl ?_
      refine zw_iret dX6_where_108 rfl ?_
      exact zAn_t (by omega) (by rw [hn]; congr 1; omega) (zNS_refl _)
    · exfalso; omega
  | succ m ih =>
    intro s n hk hk0 hn
    have hs := hV.1
    have hv := hV.2.1
    have hy := hV.2.2.1
    have gN := hs.1
    have gC := hs.2.1
    have b1 := zbi_b (f := (zwhf (σ 218) c t x)) s.toNat (fun k _ _ => zwhf_b _ _ _ _ _)
    rw [← hn] at b1
    refine zw_iload 40 dX6_where_38 rfl rfl ?_
    refine zw_aload_n 41 dX6_where_40 rfl rfl ?_
    refine zw_getr 44 (218) (o := 1) dX6_where_41 rfl fX6_7 (by decide) rfl rfl ly217 ?_
    refine zw_bipush 46 dX6_where_44 rfl (by decide) ?_
    refine zw_iald 47 dX6_where_46 rfl ly218 (by omega) ?_
    refine zw_icmp_ge 106 50 dX6_where_47 (by decide) rfl (by omega) (by omega) (fun h47 => ?_) (fun h47 => ?_)
    · refine zw_iload 108 dX6_where_106 rfl rfl ?_
      refine zw_iret dX6_where_108 rfl ?_
      exfalso; omega
    · have g1 := hs.s (s := s) (by omega) (by omega)
      have g2 := ztk_b hs hv (c := c) (s := s) (by omega) (by omega)
      have g3 := z2k (k := s) (by omega)
      refine zw_aload_n 51 dX6_where_50 rfl rfl ?_
      refine zw_getr 54 (218) (o := 1) dX6_where_51 rfl fX6_7 (by decide) rfl rfl ly217 ?_
      refine zw_bipush 56 dX6_where_54 rfl (by decide) ?_
      refine zw_iload 58 dX6_where_56 rfl rfl ?_
      refine zw_iadd 59 dX6_where_58 rfl ?_
      refine zw_iald 60 dX6_where_59 rfl ly218 (by omega) ?_
      refine zw_iload_n 61 dX6_where_60 rfl rfl ?_
      refine zw_icmp_ne 78 64 dX6_where_61 (by decide) rfl (by omega) (by omega) (fun h61 => ?_) (fun h61 => ?_)
      · refine zw_iconst 79 dX6_where_78 rfl ?_
        refine zw_istore 81 dX6_where_79 rfl (by decide) ?_
        refine zw_iload 83 dX6_where_81 rfl rfl ?_
        refine zw_iload 85 dX6_where_83 rfl rfl ?_
        refine zw_iload_n 86 dX6_where_85 rfl rfl ?_
        refine zw_icmp_ne 96 89 dX6_where_86 (by decide) rfl (by omega) (by omega) (fun h86 => ?_) (fun h86 => ?_)
        · refine zw_iconst 97 dX6_where_96 rfl ?_
          refine zw_ior 98 _ dX6_where_97 rfl (zor_int (k := s) (by omega) b1 (by omega)) ?_
          refine zw_istore 100 dX6_where_98 rfl (by decide) ?_
          refine zw_iinc 103 dX6_where_100 rfl (by decide) rfl ?_
          refine zw_goto 38 dX6_where_103 (by decide) ?_
          refine zw_loc [true, true, true, true, true, true, false] rfl ?_
          exact ih (s + 1) _ (by omega) (by omega) (by rw [zbi_s2 _ hk0 (zwhf_b _ _ _ _ _), ← hn, zwhf]; omega)
        · refine zw_iconst 90 dX6_where_89 rfl ?_
          refine zw_iload 92 dX6_where_90 rfl rfl ?_
          refine zw_ishl 93 _ dX6_where_92 rfl (zshl_int (by omega)) ?_
          refine zw_goto 97 dX6_where_93 (by decide) ?_
          refine zw_ior 98 _ dX6_where_97 rfl (zor_int (k := s) (by omega) b1 (by omega)) ?_
          refine zw_istore 100 dX6_where_98 rfl (by decide) ?_
          refine zw_iinc 103 dX6_where_100 rfl (by decide) rfl ?_
          refine zw_goto 38 dX6_where_103 (by decide) ?_
          refine zw_loc [true, true, true, true, true, true, false] rfl ?_
          exact ih (s + 1) _ (by omega) (by omega) (by rw [zbi_s2 _ hk0 (zwhf_b _ _ _ _ _), ← hn, zwhf]; omega)
      · refine zw_aload_n 65 dX6_where_64 rfl rfl ?_
        refine zw_aload_n 66 dX6_where_65 rfl rfl ?_
        refine zw_getr 69 (218) (o := 1) dX6_where_66 rfl fX6_7 (by decide) rfl rfl ly217 ?_
        refine zw_iload_n 70 dX6_where_69 rfl rfl ?_
        refine zw_iload 72 dX6_where_70 rfl rfl ?_
        refine zw_callV 75 _ _ dX6_where_72 rfl kX6_64 qX6_takesOn ly217 ⟨_, rfl, rfl⟩ (by decide) (sp_X6_takesOn (d := d - 1) (by omega) ly218 (by decide) hs hv (by omega) (by omega) (by omega)) (by omega) rfl rfl (Nat.le_of_ble_eq_true rfl) (fun r σ' hq => ?_)
        obtain ⟨rfl, rfl⟩ := hq
        refine zw_goto 79 dX6_where_75 (by decide) ?_
        refine zw_istore 81 dX6_where_79 rfl (by decide) ?_
        refine zw_iload 83 dX6_where_81 rfl rfl ?_
        refine zw_iload 85 dX6_where_83 rfl rfl ?_
        refine zw_iload_n 86 dX6_where_85 rfl rfl ?_
        refine zw_icmp_ne 96 89 dX6_where_86 (by decide) rfl (by omega) (by omega) (fun h86 => ?_) (fun h86 => ?_)
        · refine zw_iconst 97 dX6_where_96 rfl ?_
          refine zw_ior 98 _ dX6_where_97 rfl (zor_int (k := s) (by omega) b1 (by omega)) ?_
          refine zw_istore 100 dX6_where_98 rfl (by decide) ?_
          refine zw_iinc 103 dX6_where_100 rfl (by decide) rfl ?_
          refine zw_goto 38 dX6_where_103 (by decide) ?_
          refine zw_loc [true, true, true, true, true, true, false] rfl ?_
          exact ih (s + 1) _ (by omega) (by omega) (by rw [zbi_s2 _ hk0 (zwhf_b _ _ _ _ _), ← hn, zwhf]; omega)
        · refine zw_iconst 90 dX6_where_89 rfl ?_
          refine zw_iload 92 dX6_where_90 rfl rfl ?_
          refine zw_ishl 93 _ dX6_where_92 rfl (zshl_int (by omega)) ?_
          refine zw_goto 97 dX6_where_93 (by decide) ?_
          refine zw_ior 98 _ dX6_where_97 rfl (zor_int (k := s) (by omega) b1 (by omega)) ?_
          refine zw_istore 100 dX6_where_98 rfl (by decide) ?_
          refine zw_iinc 103 dX6_where_100 rfl (by decide) rfl ?_
          refine zw_goto 38 dX6_where_103 (by decide) ?_
          refine zw_loc [true, true, true, true, true, true, false] rfl ?_
          exact ih (s + 1) _ (by omega) (by omega) (by rw [zbi_s2 _ hk0 (zwhf_b _ _ _ _ _), ← hn, zwhf]; omega)
theorem sp_X6_where {l : Launch} {d : Nat} {σ : zMem} (hd : 8 ≤ d) {c t x : Int} (hc : -2147483648 ≤ c ∧ c < 2147483648) (ht : -2147483648 ≤ t ∧ t < 2147483648) (hx : -2147483648 ≤ x ∧ x < 2147483648) (hV : zVN (σ 218))  : zSp l d mX6_where [.ref 217, .int (zI c), .int (zI t), .int (zI x)] σ (zAn 224 ((0 ≤ c ∧ c ≤ σ 218 48 - 1) ∧ (0 ≤ t ∧ t ≤ 3) ∧ 0 ≤ x ∧ x ≤ 60) (zbi (zwhf (σ 218) c t x) (σ 218 33).toNat) 0 (-2) σ) := by
  refine zSp_of oX6_where (Nat.le_of_ble_eq_true rfl) ?_
  show zw l d mX6_where 0 [some (.ref 217), some (.int (zI c)), some (.int (zI t)), some (.int (zI x)), none, none, none] [] σ _
  have hs := hV.1
  have hv := hV.2.1
  have hy := hV.2.2.1
  have gN := hs.1
  have gC := hs.2.1
  refine zw_aload_n 1 dX6_where_0 rfl rfl ?_
  refine zw_iload_n 2 dX6_where_1 rfl rfl ?_
  refine zw_callV 5 _ _ dX6_where_2 rfl kX6_194 qX6_isCanon ly217 ⟨_, rfl, rfl⟩ (by decide) (sp_X6_isCanon (d := d - 1) (by omega) (by omega) (by omega)) (by omega) rfl rfl (Nat.le_of_ble_eq_true rfl) (fun r σ' hq => ?_)
  obtain ⟨rfl, rfl⟩ := hq
  refine zw_if_eq 27 8 dX6_where_5 (by decide) rfl (by omega) (fun h5 => ?_) (fun h5 => ?_)
  · refine zw_aload_n 28 dX6_where_27 rfl rfl ?_
    refine zw_callV 31 _ _ dX6_where_28 rfl kX6_100 qX6_bad ly217 ⟨_, rfl, rfl⟩ (by decide) (sp_X6_bad (d := d - 1) (by omega)) (by omega) rfl rfl (Nat.le_of_ble_eq_true rfl) (fun r σ' hq => ?_)
    obtain ⟨rfl, rfl⟩ := hq
    refine zw_iret dX6_where_31 rfl ?_
    exact zAn_f (by omega)
  · refine zw_iload_n 9 dX6_where_8 rfl rfl ?_
    refine zw_callS 12 _ _ dX6_where_9 rfl kX6_94 qX6_isTrait (sp_X6_isTrait (d := d - 1) (by omega) (by omega)) (by omega) rfl rfl (Nat.le_of_ble_eq_true rfl) (fun r σ' hq => ?_)
    obtain ⟨rfl, rfl⟩ := hq
    refine zw_if_eq 27 15 dX6_where_12 (by decide) rfl (by omega) (fun h12 => ?_) (fun h12 => ?_)
    · refine zw_aload_n 28 dX6_where_27 rfl rfl ?_
      refine zw_callV 31 _ _ dX6_where_28 rfl kX6_100 qX6_bad ly217 ⟨_, rfl, rfl⟩ (by decide) (sp_X6_bad (d := d - 1) (by omega)) (by omega) rfl rfl (Nat.le_of_ble_eq_true rfl) (fun r σ' hq => ?_)
      obtain ⟨rfl, rfl⟩ := hq
      refine zw_iret dX6_where_31 rfl ?_
      exact zAn_f (by omega)
    · refine zw_iload_n 16 dX6_where_15 rfl rfl ?_
      refine zw_i2l 17 dX6_where_16 rfl (by omega) ?_
      refine zw_lconst 18 0 dX6_where_17 rfl (by decide) ?_
      refine zw_ldc2 21 (60) dX6_where_18 rfl cX6_219 ?_
      refine zw_callS 24 _ _ dX6_where_21 rfl kX6_86 qX6_in (sp_X6_in (d := d - 1) (by omega) (by omega) (by omega)) (by omega) rfl rfl (Nat.le_of_ble_eq_true rfl) (fun r σ' hq => ?_)
      obtain ⟨rfl, rfl⟩ := hq
      refine zw_if_ne 32 27 dX6_where_24 (by decide) rfl (by omega) (fun h24 => ?_) (fun h24 => ?_)
      · refine zw_iconst 33 dX6_where_32 rfl ?_
        refine zw_istore 35 dX6_where_33 rfl (by decide) ?_
        refine zw_iconst 36 dX6_where_35 rfl ?_
        refine zw_istore 38 dX6_where_36 rfl (by decide) ?_
        exact lp_X6_where (by omega) (by omega) (by omega) (by omega) hV (σ 218 33).toNat 0 0 (by omega) (by omega) rfl
      · refine zw_aload_n 28 dX6_where_27 rfl rfl ?_
        refine zw_callV 31 _ _ dX6_where_28 rfl kX6_100 qX6_bad ly217 ⟨_, rfl, rfl⟩ (by decide) (sp_X6_bad (d := d - 1) (by omega)) (by omega) rfl rfl (Nat.le_of_ble_eq_true rfl) (fun r σ' hq => ?_)
        obtain ⟨rfl, rfl⟩ := hq
        refine zw_iret dX6_where_31 rfl ?_
        exact zAn_f (by omega)
def zbf (b dep : Int) (k : Int) : Int := if max (k - b) 0 = dep then 1 else 0
def zbv (b dep w : Int) : Int := if w = 0 then zct (zbf b dep) 41 else if w = 1 then zls (zbf b dep) 41 else zgs (zbf b dep) 41
theorem lp_X6_blur {l : Launch} {d : Nat} {σ : zMem} {s c n w by0 : Int} (hc : (0 ≤ s ∧ s ≤ σ 218 33 - 1) ∧ (0 ≤ c ∧ c ≤ σ 218 48 - 1) ∧ (0 ≤ n ∧ n ≤ 20) ∧ 0 ≤ w ∧ w ≤ 2) (hb : by0 = zww (σ 218) c s) (hV : zVN (σ 218))  : ∀ (m : Nat) (k : Int) (a1 a2 a3 : Int), k + m = 41 → 0 ≤ k → a1 = zct (zbf (n * zww (σ 218) c s) (σ 218 (25 + s))) k.toNat → a2 = zls (zbf (n * zww (σ 218) c s) (σ 218 (25 + s))) k.toNat → a3 = zgs (zbf (n * zww (σ 218) c s) (σ 218 (25 + s))) k.toNat → zw l d mX6_blur 93 [some (.ref 217), some (.int (zI s)), some (.int (zI c)), some (.int (zI n)), some (.int (zI w)), some (.int (zI by0)), some (.int (zI a1)), some (.int (zI a2)), some (.int (zI a3)), some (.int (zI k)), none, none] [] σ (zAn 224 ((0 ≤ s ∧ s ≤ σ 218 33 - 1) ∧ (0 ≤ c ∧ c ≤ σ 218 48 - 1) ∧ (0 ≤ n ∧ n ≤ 20) ∧ 0 ≤ w ∧ w ≤ 2) (zbv (n * zww (σ 218) c s) (σ 218 (25 + s)) w) 0 (-2) σ) := by
  intro m
  induction m with
  | zero =>
    intro k a1 a2 a3 hk hk0 e1 e2 e3
    have hs := hV.1
    have hv := hV.2.1
    have hy := hV.2.2.1
    have gN := hs.1
    have gC := hs.2.1
    have b1 := zww_b hs s (c := c) (by omega)
    rw [← hb] at b1
    have b2 : 0 ≤ n * by0 ∧ n * by0 ≤ 140 := ⟨Int.mul_nonneg (by omega) (by omega), by have := Int.mul_le_mul (show n ≤ 20 by omega) (show by0 ≤ 7 by omega) (by omega) (by omega); omega⟩
    have b3 := hv.2.2.1 s (by omega) (by omega)
    have b4 : (zbf (n * zww (σ 218) c s) (σ 218 (25 + s))) k = if max (k - n * by0) 0 = σ 218 (25 + s) then 1 else 0 := by rw [hb]; rfl
    have b5 : 0 ≤ a1 ∧ a1 ≤ k := by rw [e1]; have := zct_b (f := (zbf (n * zww (σ 218) c s) (σ 218 (25 + s)))) k.toNat (fun q _ _ => by unfold zbf; omega); omega
    have b6 : -1 ≤ a2 ∧ a2 ≤ 41 := by
      rw [e2]
      have key : ∀ m : Nat, m ≤ 41 → -1 ≤ zls (zbf (n * zww (σ 218) c s) (σ 218 (25 + s))) m ∧ zls (zbf (n * zww (σ 218) c s) (σ 218 (25 + s))) m ≤ m := by
        intro m
        induction m with
        | zero => intro _; simp [zls]
        | succ m ih2 => intro hm; have := ih2 (by omega); unfold zls; omega
      have := key k.toNat (by omega)
      omega
    refine zw_iload 95 dX6_blur_93 rfl rfl ?_
    refine zw_bipush 97 dX6_blur_95 rfl (by decide) ?_
    refine zw_icmp_ge 199 100 dX6_blur_97 (by decide) rfl (by omega) (by omega) (fun h97 => ?_) (fun h97 => ?_)
    · refine zw_iload 201 dX6_blur_199 rfl rfl ?_
      refine zw_if_ne 209 204 dX6_blur_201 (by decide) rfl (by omega) (fun h201 => ?_) (fun h201 => ?_)
      · refine zw_iload 211 dX6_blur_209 rfl rfl ?_
        refine zw_iconst 212 dX6_blur_211 rfl ?_
        refine zw_icmp_ne 220 215 dX6_blur_212 (by decide) rfl (by omega) (by omega) (fun h212 => ?_) (fun h212 => ?_)
        · refine zw_iload 222 dX6_blur_220 rfl rfl ?_
          refine zw_iret dX6_blur_222 rfl ?_
          have ek : k = 41 := by omega
          subst ek
          exact zAn_t (by omega) (by subst hb; rw [show Int.toNat 41 = 41 from rfl] at e1 e2 e3; rw [zbv, ← e1, ← e2, ← e3]; omega) (zNS_refl _)
        · refine zw_iload 217 dX6_blur_215 rfl rfl ?_
          refine zw_goto 222 dX6_blur_217 (by decide) ?_
          refine zw_iret dX6_blur_222 rfl ?_
          have ek : k = 41 := by omega
          subst ek
          exact zAn_t (by omega) (by subst hb; rw [show Int.toNat 41 = 41 from rfl] at e1 e2 e3; rw [zbv, ← e1, ← e2, ← e3]; omega) (zNS_refl _)
      · refine zw_iload 206 dX6_blur_204 rfl rfl ?_
        refine zw_goto 222 dX6_blur_206 (by decide) ?_
        refine zw_iret dX6_blur_222 rfl ?_
        have ek : k = 41 := by omega
        subst ek
        exact zAn_t (by omega) (by subst hb; rw [show Int.toNat 41 = 41 from rfl] at e1 e2 e3; rw [zbv, ← e1, ← e2, ← e3]; omega) (zNS_refl _)
    · exfalso; omega
  | succ m ih =>
    intro k a1 a2 a3 hk hk0 e1 e2 e3
    have hs := hV.1
    have hv := hV.2.1
    have hy := hV.2.2.1
    have gN := hs.1
    have gC := hs.2.1
    have b1 := zww_b hs s (c := c) (by omega)
    rw [← hb] at b1
    have b2 : 0 ≤ n * by0 ∧ n * by0 ≤ 140 := ⟨Int.mul_nonneg (by omega) (by omega), by have := Int.mul_le_mul (show n ≤ 20 by omega) (show by0 ≤ 7 by omega) (by omega) (by omega); omega⟩
    have b3 := hv.2.2.1 s (by omega) (by omega)
    have b4 : (zbf (n * zww (σ 218) c s) (σ 218 (25 + s))) k = if max (k - n * by0) 0 = σ 218 (25 + s) then 1 else 0 := by rw [hb]; rfl
    have b5 : 0 ≤ a1 ∧ a1 ≤ k := by rw [e1]; have := zct_b (f := (zbf (n * zww (σ 218) c s) (σ 218 (25 + s)))) k.toNat (fun q _ _ => by unfold zbf; omega); omega
    have b6 : -1 ≤ a2 ∧ a2 ≤ 41 := by
      rw [e2]
      have key : ∀ m : Nat, m ≤ 41 → -1 ≤ zls (zbf (n * zww (σ 218) c s) (σ 218 (25 + s))) m ∧ zls (zbf (n * zww (σ 218) c s) (σ 218 (25 + s))) m ≤ m := by
        intro m
        induction m with
        | zero => intro _; simp [zls]
        | succ m ih2 => intro hm; have := ih2 (by omega); unfold zls; omega
      have := key k.toNat (by omega)
      omega
    refine zw_iload 95 dX6_blur_93 rfl rfl ?_
    refine zw_bipush 97 dX6_blur_95 rfl (by decide) ?_
    refine zw_icmp_ge 199 100 dX6_blur_97 (by decide) rfl (by omega) (by omega) (fun h97 => ?_) (fun h97 => ?_)
    · refine zw_iload 201 dX6_blur_199 rfl rfl ?_
      refine zw_if_ne 209 204 dX6_blur_201 (by decide) rfl (by omega) (fun h201 => ?_) (fun h201 => ?_)
      · refine zw_iload 211 dX6_blur_209 rfl rfl ?_
        refine zw_iconst 212 dX6_blur_211 rfl ?_
        refine zw_icmp_ne 220 215 dX6_blur_212 (by decide) rfl (by omega) (by omega) (fun h212 => ?_) (fun h212 => ?_)
        · refine zw_iload 222 dX6_blur_220 rfl rfl ?_
          refine zw_iret dX6_blur_222 rfl ?_
          exfalso; omega
        · refine zw_iload 217 dX6_blur_215 rfl rfl ?_
          refine zw_goto 222 dX6_blur_217 (by decide) ?_
          refine zw_iret dX6_blur_222 rfl ?_
          exfalso; omega
      · refine zw_iload 206 dX6_blur_204 rfl rfl ?_
        refine zw_goto 222 dX6_blur_206 (by decide) ?_
        refine zw_iret dX6_blur_222 rfl ?_
        exfalso; omega
    · refine zw_iload 102 dX6_blur_100 rfl rfl ?_
      refine zw_iload_n 103 dX6_blur_102 rfl rfl ?_
      refine zw_iload 105 dX6_blur_103 rfl rfl ?_
      refine zw_imul 106 dX6_blur_105 rfl ?_
      refine zw_isub 107 dX6_blur_106 rfl ?_
      refine zw_if_ge 114 110 dX6_blur_107 (by decide) rfl (by omega) (fun h107 => ?_) (fun h107 => ?_)
      · refine zw_iload 116 dX6_blur_114 rfl rfl ?_
        refine zw_iload_n 117 dX6_blur_116 rfl rfl ?_
        refine zw_iload 119 dX6_blur_117 rfl rfl ?_
        refine zw_imul 120 dX6_blur_119 rfl ?_
        refine zw_isub 121 dX6_blur_120 rfl ?_
        refine zw_istore 123 dX6_blur_121 rfl (by decide) ?_
        refine zw_iload 125 dX6_blur_123 rfl rfl ?_
        refine zw_aload_n 126 dX6_blur_125 rfl rfl ?_
        refine zw_getr 129 (218) (o := 1) dX6_blur_126 rfl fX6_7 (by decide) rfl rfl ly217 ?_
        refine zw_bipush 131 dX6_blur_129 rfl (by decide) ?_
        refine zw_iload_n 132 dX6_blur_131 rfl rfl ?_
        refine zw_iadd 133 dX6_blur_132 rfl ?_
        refine zw_iald 134 dX6_blur_133 rfl ly218 (by omega) ?_
        refine zw_icmp_ne 141 137 dX6_blur_134 (by decide) rfl (by omega) (by omega) (fun h134 => ?_) (fun h134 => ?_)
        · refine zw_iconst 142 dX6_blur_141 rfl ?_
          refine zw_istore 144 dX6_blur_142 rfl (by decide) ?_
          refine zw_iload 146 dX6_blur_144 rfl rfl ?_
          refine zw_iload 148 dX6_blur_146 rfl rfl ?_
          refine zw_if_eq 155 151 dX6_blur_148 (by decide) rfl (by omega) (fun h148 => ?_) (fun h148 => ?_)
          · refine zw_iconst 156 dX6_blur_155 rfl ?_
            refine zw_iadd 157 dX6_blur_156 rfl ?_
            refine zw_istore 159 dX6_blur_157 rfl (by decide) ?_
            refine zw_iload 161 dX6_blur_159 rfl rfl ?_
            refine zw_if_eq 175 164 dX6_blur_161 (by decide) rfl (by omega) (fun h161 => ?_) (fun h161 => ?_)
            · refine zw_iload 177 dX6_blur_175 rfl rfl ?_
              refine zw_istore 179 dX6_blur_177 rfl (by decide) ?_
              refine zw_iload 181 dX6_blur_179 rfl rfl ?_
              refine zw_if_eq 189 184 dX6_blur_181 (by decide) rfl (by omega) (fun h181 => ?_) (fun h181 => ?_)
              · refine zw_iload 191 dX6_blur_189 rfl rfl ?_
                refine zw_istore 193 dX6_blur_191 rfl (by decide) ?_
                refine zw_iinc 196 dX6_blur_193 rfl (by decide) rfl ?_
                refine zw_goto 93 dX6_blur_196 (by decide) ?_
                refine zw_loc [true, true, true, true, true, true, true, true, true, true, false, false] rfl ?_
                exact ih (k + 1) _ _ _ (by omega) (by omega) (by rw [zct_s _ hk0, ← e1]; omega) (by rw [zls_s _ hk0, ← e2]; omega) (by rw [zgs_s _ hk0, ← e3]; omega)
              · exact absurd h181 (by decide)
            · exact absurd h161 (by decide)
          · exact absurd h148 (by decide)
        · refine zw_iconst 138 dX6_blur_137 rfl ?_
          refine zw_goto 142 dX6_blur_138 (by decide) ?_
          refine zw_istore 144 dX6_blur_142 rfl (by decide) ?_
          refine zw_iload 146 dX6_blur_144 rfl rfl ?_
          refine zw_iload 148 dX6_blur_146 rfl rfl ?_
          refine zw_if_eq 155 151 dX6_blur_148 (by decide) rfl (by omega) (fun h148 => ?_) (fun h148 => ?_)
          · exact absurd h148 (by decide)
          · refine zw_iconst 152 dX6_blur_151 rfl ?_
            refine zw_goto 156 dX6_blur_152 (by decide) ?_
            refine zw_iadd 157 dX6_blur_156 rfl ?_
            refine zw_istore 159 dX6_blur_157 rfl (by decide) ?_
            refine zw_iload 161 dX6_blur_159 rfl rfl ?_
            refine zw_if_eq 175 164 dX6_blur_161 (by decide) rfl (by omega) (fun h161 => ?_) (fun h161 => ?_)
            · exact absurd h161 (by decide)
            · refine zw_iload 166 dX6_blur_164 rfl rfl ?_
              refine zw_iconst 167 dX6_blur_166 rfl ?_
              refine zw_icmp_ne 175 170 dX6_blur_167 (by decide) rfl (by omega) (by omega) (fun h167 => ?_) (fun h167 => ?_)
              · refine zw_iload 177 dX6_blur_175 rfl rfl ?_
                refine zw_istore 179 dX6_blur_177 rfl (by decide) ?_
                refine zw_iload 181 dX6_blur_179 rfl rfl ?_
                refine zw_if_eq 189 184 dX6_blur_181 (by decide) rfl (by omega) (fun h181 => ?_) (fun h181 => ?_)
                · exact absurd h181 (by decide)
                · refine zw_iload 186 dX6_blur_184 rfl rfl ?_
                  refine zw_goto 191 dX6_blur_186 (by decide) ?_
                  refine zw_istore 193 dX6_blur_191 rfl (by decide) ?_
                  refine zw_iinc 196 dX6_blur_193 rfl (by decide) rfl ?_
                  refine zw_goto 93 dX6_blur_196 (by decide) ?_
                  refine zw_loc [true, true, true, true, true, true, true, true, true, true, false, false] rfl ?_
                  exact ih (k + 1) _ _ _ (by omega) (by omega) (by rw [zct_s _ hk0, ← e1]; omega) (by rw [zls_s _ hk0, ← e2]; omega) (by rw [zgs_s _ hk0, ← e3]; omega)
              · refine zw_iload 172 dX6_blur_170 rfl rfl ?_
                refine zw_goto 177 dX6_blur_172 (by decide) ?_
                refine zw_istore 179 dX6_blur_177 rfl (by decide) ?_
                refine zw_iload 181 dX6_blur_179 rfl rfl ?_
                refine zw_if_eq 189 184 dX6_blur_181 (by decide) rfl (by omega) (fun h181 => ?_) (fun h181 => ?_)
                · exact absurd h181 (by decide)
                · refine zw_iload 186 dX6_blur_184 rfl rfl ?_
                  refine zw_goto 191 dX6_blur_186 (by decide) ?_
                  refine zw_istore 193 dX6_blur_191 rfl (by decide) ?_
                  refine zw_iinc 196 dX6_blur_193 rfl (by decide) rfl ?_
                  refine zw_goto 93 dX6_blur_196 (by decide) ?_
                  refine zw_loc [true, true, true, true, true, true, true, true, true, true, false, false] rfl ?_
                  exact ih (k + 1) _ _ _ (by omega) (by omega) (by rw [zct_s _ hk0, ← e1]; omega) (by rw [zls_s _ hk0, ← e2]; omega) (by rw [zgs_s _ hk0, ← e3]; omega)
      · refine zw_iconst 111 dX6_blur_110 rfl ?_
        refine zw_goto 121 dX6_blur_111 (by decide) ?_
        refine zw_istore 123 dX6_blur_121 rfl (by decide) ?_
        refine zw_iload 125 dX6_blur_123 rfl rfl ?_
        refine zw_aload_n 126 dX6_blur_125 rfl rfl ?_
        refine zw_getr 129 (218) (o := 1) dX6_blur_126 rfl fX6_7 (by decide) rfl rfl ly217 ?_
        refine zw_bipush 131 dX6_blur_129 rfl (by decide) ?_
        refine zw_iload_n 132 dX6_blur_131 rfl rfl ?_
        refine zw_iadd 133 dX6_blur_132 rfl ?_
        refine zw_iald 134 dX6_blur_133 rfl ly218 (by omega) ?_
        refine zw_icmp_ne 141 137 dX6_blur_134 (by decide) rfl (by omega) (by omega) (fun h134 => ?_) (fun h134 => ?_)
        · refine zw_iconst 142 dX6_blur_141 rfl ?_
          refine zw_istore 144 dX6_blur_142 rfl (by decide) ?_
          refine zw_iload 146 dX6_blur_144 rfl rfl ?_
          refine zw_iload 148 dX6_blur_146 rfl rfl ?_
          refine zw_if_eq 155 151 dX6_blur_148 (by decide) rfl (by omega) (fun h148 => ?_) (fun h148 => ?_)
          · refine zw_iconst 156 dX6_blur_155 rfl ?_
            refine zw_iadd 157 dX6_blur_156 rfl ?_
            refine zw_istore 159 dX6_blur_157 rfl (by decide) ?_
            refine zw_iload 161 dX6_blur_159 rfl rfl ?_
            refine zw_if_eq 175 164 dX6_blur_161 (by decide) rfl (by omega) (fun h161 => ?_) (fun h161 => ?_)
            · refine zw_iload 177 dX6_blur_175 rfl rfl ?_
              refine zw_istore 179 dX6_blur_177 rfl (by decide) ?_
              refine zw_iload 181 dX6_blur_179 rfl rfl ?_
              refine zw_if_eq 189 184 dX6_blur_181 (by decide) rfl (by omega) (fun h181 => ?_) (fun h181 => ?_)
              · refine zw_iload 191 dX6_blur_189 rfl rfl ?_
                refine zw_istore 193 dX6_blur_191 rfl (by decide) ?_
                refine zw_iinc 196 dX6_blur_193 rfl (by decide) rfl ?_
                refine zw_goto 93 dX6_blur_196 (by decide) ?_
                refine zw_loc [true, true, true, true, true, true, true, true, true, true, false, false] rfl ?_
                exact ih (k + 1) _ _ _ (by omega) (by omega) (by rw [zct_s _ hk0, ← e1]; omega) (by rw [zls_s _ hk0, ← e2]; omega) (by rw [zgs_s _ hk0, ← e3]; omega)
              · exact absurd h181 (by decide)
            · exact absurd h161 (by decide)
          · exact absurd h148 (by decide)
        · refine zw_iconst 138 dX6_blur_137 rfl ?_
          refine zw_goto 142 dX6_blur_138 (by decide) ?_
          refine zw_istore 144 dX6_blur_142 rfl (by decide) ?_
          refine zw_iload 146 dX6_blur_144 rfl rfl ?_
          refine zw_iload 148 dX6_blur_146 rfl rfl ?_
          refine zw_if_eq 155 151 dX6_blur_148 (by decide) rfl (by omega) (fun h148 => ?_) (fun h148 => ?_)
          · exact absurd h148 (by decide)
          · refine zw_iconst 152 dX6_blur_151 rfl ?_
            refine zw_goto 156 dX6_blur_152 (by decide) ?_
            refine zw_iadd 157 dX6_blur_156 rfl ?_
            refine zw_istore 159 dX6_blur_157 rfl (by decide) ?_
            refine zw_iload 161 dX6_blur_159 rfl rfl ?_
            refine zw_if_eq 175 164 dX6_blur_161 (by decide) rfl (by omega) (fun h161 => ?_) (fun h161 => ?_)
            · exact absurd h161 (by decide)
            · refine zw_iload 166 dX6_blur_164 rfl rfl ?_
              refine zw_iconst 167 dX6_blur_166 rfl ?_
              refine zw_icmp_ne 175 170 dX6_blur_167 (by decide) rfl (by omega) (by omega) (fun h167 => ?_) (fun h167 => ?_)
              · refine zw_iload 177 dX6_blur_175 rfl rfl ?_
                refine zw_istore 179 dX6_blur_177 rfl (by decide) ?_
                refine zw_iload 181 dX6_blur_179 rfl rfl ?_
                refine zw_if_eq 189 184 dX6_blur_181 (by decide) rfl (by omega) (fun h181 => ?_) (fun h181 => ?_)
                · exact absurd h181 (by decide)
                · refine zw_iload 186 dX6_blur_184 rfl rfl ?_
                  refine zw_goto 191 dX6_blur_186 (by decide) ?_
                  refine zw_istore 193 dX6_blur_191 rfl (by decide) ?_
                  refine zw_iinc 196 dX6_blur_193 rfl (by decide) rfl ?_
                  refine zw_goto 93 dX6_blur_196 (by decide) ?_
                  refine zw_loc [true, true, true, true, true, true, true, true, true, true, false, false] rfl ?_
                  exact ih (k + 1) _ _ _ (by omega) (by omega) (by rw [zct_s _ hk0, ← e1]; omega) (by rw [zls_s _ hk0, ← e2]; omega) (by rw [zgs_s _ hk0, ← e3]; omega)
              · refine zw_iload 172 dX6_blur_170 rfl rfl ?_
                refine zw_goto 177 dX6_blur_172 (by decide) ?_
                refine zw_istore 179 dX6_blur_177 rfl (by decide) ?_
                refine zw_iload 181 dX6_blur_179 rfl rfl ?_
                refine zw_if_eq 189 184 dX6_blur_181 (by decide) rfl (by omega) (fun h181 => ?_) (fun h181 => ?_)
                · exact absurd h181 (by decide)
                · refine zw_iload 186 dX6_blur_184 rfl rfl ?_
                  refine zw_goto 191 dX6_blur_186 (by decide) ?_
                  refine zw_istore 193 dX6_blur_191 rfl (by decide) ?_
                  refine zw_iinc 196 dX6_blur_193 rfl (by decide) rfl ?_
                  refine zw_goto 93 dX6_blur_196 (by decide) ?_
                  refine zw_loc [true, true, true, true, true, true, true, true, true, true, false, false] rfl ?_
                  exact ih (k + 1) _ _ _ (by omega) (by omega) (by rw [zct_s _ hk0, ← e1]; omega) (by rw [zls_s _ hk0, ← e2]; omega) (by rw [zgs_s _ hk0, ← e3]; omega)
theorem sp_X6_blur {l : Launch} {d : Nat} {σ : zMem} (hd : 8 ≤ d) {s c n w : Int} (hs : -2147483648 ≤ s ∧ s < 2147483648) (hc : -2147483648 ≤ c ∧ c < 2147483648) (hn : -2147483648 ≤ n ∧ n < 2147483648) (hw : -2147483648 ≤ w ∧ w < 2147483648) (hV : zVN (σ 218))  : zSp l d mX6_blur [.ref 217, .int (zI s), .int (zI c), .int (zI n), .int (zI w)] σ (zAn 224 ((0 ≤ s ∧ s ≤ σ 218 33 - 1) ∧ (0 ≤ c ∧ c ≤ σ 218 48 - 1) ∧ (0 ≤ n ∧ n ≤ 20) ∧ 0 ≤ w ∧ w ≤ 2) (zbv (n * zww (σ 218) c s) (σ 218 (25 + s)) w) 0 (-2) σ) := by
  refine zSp_of oX6_blur (Nat.le_of_ble_eq_true rfl) ?_
  show zw l d mX6_blur 0 [some (.ref 217), some (.int (zI s)), some (.int (zI c)), some (.int (zI n)), some (.int (zI w)), none, none, none, none, none, none, none] [] σ _
  have hs := hV.1
  have hv := hV.2.1
  have hy := hV.2.2.1
  have gN := hs.1
  have gC := hs.2.1
  refine zw_aload_n 1 dX6_blur_0 rfl rfl ?_
  refine zw_iload_n 2 dX6_blur_1 rfl rfl ?_
  refine zw_callV 5 _ _ dX6_blur_2 rfl kX6_197 qX6_isSeat ly217 ⟨_, rfl, rfl⟩ (by decide) (sp_X6_isSeat (d := d - 1) (by omega) (by omega) (by omega)) (by omega) rfl rfl (Nat.le_of_ble_eq_true rfl) (fun r σ' hq => ?_)
  obtain ⟨rfl, rfl⟩ := hq
  refine zw_if_eq 41 8 dX6_blur_5 (by decide) rfl (by omega) (fun h5 => ?_) (fun h5 => ?_)
  · refine zw_aload_n 42 dX6_blur_41 rfl rfl ?_
    refine zw_callV 45 _ _ dX6_blur_42 rfl kX6_100 qX6_bad ly217 ⟨_, rfl, rfl⟩ (by decide) (sp_X6_bad (d := d - 1) (by omega)) (by omega) rfl rfl (Nat.le_of_ble_eq_true rfl) (fun r σ' hq => ?_)
    obtain ⟨rfl, rfl⟩ := hq
    refine zw_iret dX6_blur_45 rfl ?_
    exact zAn_f (by omega)
  · refine zw_aload_n 9 dX6_blur_8 rfl rfl ?_
    refine zw_iload_n 10 dX6_blur_9 rfl rfl ?_
    refine zw_callV 13 _ _ dX6_blur_10 rfl kX6_194 qX6_isCanon ly217 ⟨_, rfl, rfl⟩ (by decide) (sp_X6_isCanon (d := d - 1) (by omega) (by omega) (by omega)) (by omega) rfl rfl (Nat.le_of_ble_eq_true rfl) (fun r σ' hq => ?_)
    obtain ⟨rfl, rfl⟩ := hq
    refine zw_if_eq 41 16 dX6_blur_13 (by decide) rfl (by omega) (fun h13 => ?_) (fun h13 => ?_)
    · refine zw_aload_n 42 dX6_blur_41 rfl rfl ?_
      refine zw_callV 45 _ _ dX6_blur_42 rfl kX6_100 qX6_bad ly217 ⟨_, rfl, rfl⟩ (by decide) (sp_X6_bad (d := d - 1) (by omega)) (by omega) rfl rfl (Nat.le_of_ble_eq_true rfl) (fun r σ' hq => ?_)
      obtain ⟨rfl, rfl⟩ := hq
      refine zw_iret dX6_blur_45 rfl ?_
      exact zAn_f (by omega)
    · refine zw_iload_n 17 dX6_blur_16 rfl rfl ?_
      refine zw_i2l 18 dX6_blur_17 rfl (by omega) ?_
      refine zw_lconst 19 0 dX6_blur_18 rfl (by decide) ?_
      refine zw_ldc2 22 (20) dX6_blur_19 rfl cX6_252 ?_
      refine zw_callS 25 _ _ dX6_blur_22 rfl kX6_86 qX6_in (sp_X6_in (d := d - 1) (by omega) (by omega) (by omega)) (by omega) rfl rfl (Nat.le_of_ble_eq_true rfl) (fun r σ' hq => ?_)
      obtain ⟨rfl, rfl⟩ := hq
      refine zw_if_eq 41 28 dX6_blur_25 (by decide) rfl (by omega) (fun h25 => ?_) (fun h25 => ?_)
      · refine zw_aload_n 42 dX6_blur_41 rfl rfl ?_
        refine zw_callV 45 _ _ dX6_blur_42 rfl kX6_100 qX6_bad ly217 ⟨_, rfl, rfl⟩ (by decide) (sp_X6_bad (d := d - 1) (by omega)) (by omega) rfl rfl (Nat.le_of_ble_eq_true rfl) (fun r σ' hq => ?_)
        obtain ⟨rfl, rfl⟩ := hq
        refine zw_iret dX6_blur_45 rfl ?_
        exact zAn_f (by omega)
      · refine zw_iload 30 dX6_blur_28 rfl rfl ?_
        refine zw_i2l 31 dX6_blur_30 rfl (by omega) ?_
        refine zw_lconst 32 0 dX6_blur_31 rfl (by decide) ?_
        refine zw_ldc2 35 (2) dX6_blur_32 rfl cX6_254 ?_
        refine zw_callS 38 _ _ dX6_blur_35 rfl kX6_86 qX6_in (sp_X6_in (d := d - 1) (by omega) (by omega) (by omega)) (by omega) rfl rfl (Nat.le_of_ble_eq_true rfl) (fun r σ' hq => ?_)
        obtain ⟨rfl, rfl⟩ := hq
        refine zw_if_ne 46 41 dX6_blur_38 (by decide) rfl (by omega) (fun h38 => ?_) (fun h38 => ?_)
        · have g1 := hs.s (s := s) (by omega) (by omega)
          have g2 := hs.c (c := c) (by omega) (by omega)
          have g3 := zhv_b (k := σ 218 (49 + c)) g2.2
          refine zw_aload_n 47 dX6_blur_46 rfl rfl ?_
          refine zw_getr 50 (218) (o := 1) dX6_blur_47 rfl fX6_7 (by decide) rfl rfl ly217 ?_
          refine zw_bipush 52 dX6_blur_50 rfl (by decide) ?_
          refine zw_iload_n 53 dX6_blur_52 rfl rfl ?_
          refine zw_iadd 54 dX6_blur_53 rfl ?_
          refine zw_iald 55 dX6_blur_54 rfl ly218 (by omega) ?_
          refine zw_aload_n 56 dX6_blur_55 rfl rfl ?_
          refine zw_getr 59 (218) (o := 1) dX6_blur_56 rfl fX6_7 (by decide) rfl rfl ly217 ?_
          refine zw_bipush 61 dX6_blur_59 rfl (by decide) ?_
          refine zw_iload_n 62 dX6_blur_61 rfl rfl ?_
          refine zw_iadd 63 dX6_blur_62 rfl ?_
          refine zw_iald 64 dX6_blur_63 rfl ly218 (by omega) ?_
          refine zw_aload_n 65 dX6_blur_64 rfl rfl ?_
          refine zw_getr 68 (218) (o := 1) dX6_blur_65 rfl fX6_7 (by decide) rfl rfl ly217 ?_
          refine zw_bipush 70 dX6_blur_68 rfl (by decide) ?_
          refine zw_iload_n 71 dX6_blur_70 rfl rfl ?_
          refine zw_iadd 72 dX6_blur_71 rfl ?_
          refine zw_iald 73 dX6_blur_72 rfl ly218 (by omega) ?_
          refine zw_callS 76 _ _ dX6_blur_73 rfl kX6_72 qX6_heavy (sp_X6_heavy (d := d - 1) (by omega) (by omega)) (by omega) rfl rfl (Nat.le_of_ble_eq_true rfl) (fun r σ' hq => ?_)
          obtain ⟨rfl, rfl⟩ := hq
          refine zw_callS 79 _ _ dX6_blur_76 rfl kX6_75 qX6_worn (sp_X6_worn (d := d - 1) (by omega) (by omega)) (by omega) rfl rfl (Nat.le_of_ble_eq_true rfl) (fun r σ' hq => ?_)
          obtain ⟨rfl, rfl⟩ := hq
          refine zw_istore 81 dX6_blur_79 rfl (by decide) ?_
          refine zw_iconst 82 dX6_blur_81 rfl ?_
          refine zw_istore 84 dX6_blur_82 rfl (by decide) ?_
          refine zw_iconst 85 dX6_blur_84 rfl ?_
          refine zw_istore 87 dX6_blur_85 rfl (by decide) ?_
          refine zw_iconst 88 dX6_blur_87 rfl ?_
          refine zw_istore 90 dX6_blur_88 rfl (by decide) ?_
          refine zw_iconst 91 dX6_blur_90 rfl ?_
          refine zw_istore 93 dX6_blur_91 rfl (by decide) ?_
          exact lp_X6_blur (σ := σ) (by omega) rfl hV 41 0 0 (-1) (-1) (by omega) (by omega) rfl rfl rfl
        · refine zw_aload_n 42 dX6_blur_41 rfl rfl ?_
          refine zw_callV 45 _ _ dX6_blur_42 rfl kX6_100 qX6_bad ly217 ⟨_, rfl, rfl⟩ (by decide) (sp_X6_bad (d := d - 1) (by omega)) (by omega) rfl rfl (Nat.le_of_ble_eq_true rfl) (fun r σ' hq => ?_)
          obtain ⟨rfl, rfl⟩ := hq
          refine zw_iret dX6_blur_45 rfl ?_
          exact zAn_f (by omega)
def zblp (N : zR) (s : Int) (n : Nat) : Bool := decide (zgv (N (34 + s)) (zyn N n N (25 + s)) 0 (zyn N n N 32) = 0)
theorem lp_X6_blank {l : Launch} {d : Nat} {σ : zMem} (hd : 7 ≤ d) {s : Int} (hc : 0 ≤ s ∧ s ≤ σ 218 33 - 1) (hV : zVN (σ 218))  : ∀ (m : Nat) (k : Int) (σc : zMem), k + m = 61 → 0 ≤ k → σc = zwa σ 220 (zyn (σ 218) k.toNat (zcy (σ 218) (σ 220) 0 0 33)) → zff (zblp (σ 218) s) 0 61 = zff (zblp (σ 218) s) k.toNat (61 - k).toNat → zw l d mX6_blank 19 [some (.ref 217), some (.int (zI s)), some (.int (zI k))] [] σc (zAn 224 (0 ≤ s ∧ s ≤ σ 218 33 - 1) (zff (zblp (σ 218) s) 0 61) 0 (-2) σ) := by
  intro m
  induction m with
  | zero =>
    intro k σc hk hk0 hσ hz
    have hs := hV.1
    have hv := hV.2.1
    have hy := hV.2.2.1
    have gN := hs.1
    have gC := hs.2.1
    have g0 := zcy_ag (σ 218) (σ 220)
    have hvA : zVr (σ 218) (zcy (σ 218) (σ 220) 0 0 33) := zVr_ag g0.symm hv
    obtain ⟨a1, a2, a3, a4⟩ := zstep hσ (fun i hi => (zyn_hi hs hvA (Or.inl hi) _).trans (if_neg (by omega))) hs (zyn_V hs hvA _)
    have ag : zag (σc 220) (zyn (σ 218) k.toNat (σ 218)) := by rw [a1]; exact (zyn_ag hs hv g0.symm _).symm
    have a6 : σc 220 32 = σ 218 32 + k := by rw [ag 32 (by omega) (by omega), zyn_32 hs hv]; omega
    have a7 : σc 218 = σ 218 := by rw [hσ, zwa_ne _ _ (by decide)]
    have a5 := a2 48 (by omega)
    have b1 := a3.s (s := s) (by omega) (by omega)
    have b2 := a4.2.2.1 s (by omega) (by omega)
    have b3 := zgv_b (k := σc 218 (34 + s)) (h := 0) (y := σc 220 32) b2 (by omega)
    have hp : zblp (σ 218) s k.toNat = decide (zgv (σc 218 (34 + s)) (σc 220 (25 + s)) 0 (σc 220 32) = 0) := by
      unfold zblp
      rw [a7, ag (25 + s) (by omega) (by omega), ag 32 (by omega) (by omega)]
    refine zw_iload_n 20 dX6_blank_19 rfl rfl ?_
    refine zw_bipush 22 dX6_blank_20 rfl (by decide) ?_
    refine zw_icmp_ge 73 25 dX6_blank_22 (by decide) rfl (by omega) (by omega) (fun h22 => ?_) (fun h22 => ?_)
    · refine zw_iconst 74 dX6_blank_73 rfl ?_
      refine zw_iret dX6_blank_74 rfl ?_
      have ek : k = 61 := by omega
      subst ek
      exact zAn_t (by omega) (by rw [hz]; rfl) (by rw [hσ]; exact (zNS_wa _ _ (by unfold zSk; omega) (by decide) (by decide)))
    · exfalso; omega
  | succ m ih =>
    intro k σc hk hk0 hσ hz
    have hs := hV.1
    have hv := hV.2.1
    have hy := hV.2.2.1
    have gN := hs.1
    have gC := hs.2.1
    have g0 := zcy_ag (σ 218) (σ 220)
    have hvA : zVr (σ 218) (zcy (σ 218) (σ 220) 0 0 33) := zVr_ag g0.symm hv
    obtain ⟨a1, a2, a3, a4⟩ := zstep hσ (fun i hi => (zyn_hi hs hvA (Or.inl hi) _).trans (if_neg (by omega))) hs (zyn_V hs hvA _)
    have ag : zag (σc 220) (zyn (σ 218) k.toNat (σ 218)) := by rw [a1]; exact (zyn_ag hs hv g0.symm _).symm
    have a6 : σc 220 32 = σ 218 32 + k := by rw [ag 32 (by omega) (by omega), zyn_32 hs hv]; omega
    have a7 : σc 218 = σ 218 := by rw [hσ, zwa_ne _ _ (by decide)]
    have a5 := a2 48 (by omega)
    have b1 := a3.s (s := s) (by omega) (by omega)
    have b2 := a4.2.2.1 s (by omega) (by omega)
    have b3 := zgv_b (k := σc 218 (34 + s)) (h := 0) (y := σc 220 32) b2 (by omega)
    have hp : zblp (σ 218) s k.toNat = decide (zgv (σc 218 (34 + s)) (σc 220 (25 + s)) 0 (σc 220 32) = 0) := by
      unfold zblp
      rw [a7, ag (25 + s) (by omega) (by omega), ag 32 (by omega) (by omega)]
    refine zw_iload_n 20 dX6_blank_19 rfl rfl ?_
    refine zw_bipush 22 dX6_blank_20 rfl (by decide) ?_
    refine zw_icmp_ge 73 25 dX6_blank_22 (by decide) rfl (by omega) (by omega) (fun h22 => ?_) (fun h22 => ?_)
    · refine zw_iconst 74 dX6_blank_73 rfl ?_
      refine zw_iret dX6_blank_74 rfl ?_
      exfalso; omega
    · refine zw_aload_n 26 dX6_blank_25 rfl rfl ?_
      refine zw_getr 29 (218) (o := 1) dX6_blank_26 rfl fX6_7 (by decide) rfl rfl ly217 ?_
      refine zw_bipush 31 dX6_blank_29 rfl (by decide) ?_
      refine zw_iload_n 32 dX6_blank_31 rfl rfl ?_
      refine zw_iadd 33 dX6_blank_32 rfl ?_
      refine zw_iald 34 dX6_blank_33 rfl ly218 (by omega) ?_
      refine zw_aload_n 35 dX6_blank_34 rfl rfl ?_
      refine zw_getr 38 (220) (o := 3) dX6_blank_35 rfl fX6_16 (by decide) rfl rfl ly217 ?_
      refine zw_bipush 40 dX6_blank_38 rfl (by decide) ?_
      refine zw_iload_n 41 dX6_blank_40 rfl rfl ?_
      refine zw_iadd 42 dX6_blank_41 rfl ?_
      refine zw_iald 43 dX6_blank_42 rfl ly220 (by omega) ?_
      refine zw_iconst 44 dX6_blank_43 rfl ?_
      refine zw_aload_n 45 dX6_blank_44 rfl rfl ?_
      refine zw_getr 48 (220) (o := 3) dX6_blank_45 rfl fX6_16 (by decide) rfl rfl ly217 ?_
      refine zw_bipush 50 dX6_blank_48 rfl (by decide) ?_
      refine zw_iald 51 dX6_blank_50 rfl ly220 (by omega) ?_
      refine zw_callS 54 _ _ dX6_blank_51 rfl kX6_56 qX6_gives (sp_X6_gives (d := d - 1) (by omega) (by omega) (by omega) (by omega) (by omega)) (by omega) rfl rfl (Nat.le_of_ble_eq_true rfl) (fun r σ' hq => ?_)
      obtain ⟨rfl, rfl⟩ := hq
      refine zw_if_ne 59 57 dX6_blank_54 (by decide) rfl (by omega) (fun h54 => ?_) (fun h54 => ?_)
      · refine zw_aload_n 60 dX6_blank_59 rfl rfl ?_
        refine zw_aload_n 61 dX6_blank_60 rfl rfl ?_
        refine zw_getr 64 (220) (o := 3) dX6_blank_61 rfl fX6_16 (by decide) rfl rfl ly217 ?_
        refine zw_callV 67 _ _ dX6_blank_64 rfl kX6_168 qX6_yearGoes ly217 ⟨_, rfl, rfl⟩ (by decide) (sp_X6_yearGoes (d := d - 1) (by omega) ly220 (by decide) a3 a4 (by omega)) (by omega) rfl rfl (Nat.le_of_ble_eq_true rfl) (fun r σ' hq => ?_)
        obtain ⟨rfl, rfl⟩ := hq
        refine zw_iinc 70 dX6_blank_67 rfl (by decide) rfl ?_
        refine zw_goto 19 dX6_blank_70 (by decide) ?_
        refine zw_loc [true, true, true] rfl ?_
        refine ih (k + 1) _ (by omega) (by omega) (by rw [zyn_s _ _ hk0, ← a1, ← a7, hσ, zwa_twice]) ?_
        rw [hz, show (61 - k).toNat = (61 - (k + 1)).toNat + 1 by omega, zff_miss (by rw [hp]; simpa using h54), show (k + 1).toNat = k.toNat + 1 by omega]
      · refine zw_iload_n 58 dX6_blank_57 rfl rfl ?_
        refine zw_iret dX6_blank_58 rfl ?_
        exact zAn_t (by omega) (by rw [hz, show (61 - k).toNat = (61 - (k + 1)).toNat + 1 by omega, zff_hit (by rw [hp]; simpa using h54)]; omega) (by rw [hσ]; exact (zNS_wa _ _ (by unfold zSk; omega) (by decide) (by decide)))
theorem sp_X6_blank {l : Launch} {d : Nat} {σ : zMem} (hd : 8 ≤ d) {s : Int} (hs : -2147483648 ≤ s ∧ s < 2147483648) (hV : zVN (σ 218))  : zSp l d mX6_blank [.ref 217, .int (zI s)] σ (zAn 224 (0 ≤ s ∧ s ≤ σ 218 33 - 1) (zff (zblp (σ 218) s) 0 61) 0 (-2) σ) := by
  refine zSp_of oX6_blank (Nat.le_of_ble_eq_true rfl) ?_
  show zw l d mX6_blank 0 [some (.ref 217), some (.int (zI s)), none] [] σ _
  have hs := hV.1
  have hv := hV.2.1
  have hy := hV.2.2.1
  have gN := hs.1
  have gC := hs.2.1
  refine zw_aload_n 1 dX6_blank_0 rfl rfl ?_
  refine zw_iload_n 2 dX6_blank_1 rfl rfl ?_
  refine zw_callV 5 _ _ dX6_blank_2 rfl kX6_197 qX6_isSeat ly217 ⟨_, rfl, rfl⟩ (by decide) (sp_X6_isSeat (d := d - 1) (by omega) (by omega) (by omega)) (by omega) rfl rfl (Nat.le_of_ble_eq_true rfl) (fun r σ' hq => ?_)
  obtain ⟨rfl, rfl⟩ := hq
  refine zw_if_ne 13 8 dX6_blank_5 (by decide) rfl (by omega) (fun h5 => ?_) (fun h5 => ?_)
  · refine zw_aload_n 14 dX6_blank_13 rfl rfl ?_
    refine zw_callV 17 _ _ dX6_blank_14 rfl kX6_216 qX6_layAside ly217 ⟨_, rfl, rfl⟩ (by decide) (sp_X6_layAside (d := d - 1) (by omega)) (by omega) rfl rfl (Nat.le_of_ble_eq_true rfl) (fun r σ' hq => ?_)
    obtain ⟨rfl, rfl⟩ := hq
    refine zw_iconst 18 dX6_blank_17 rfl ?_
    refine zw_istore_n 19 dX6_blank_18 rfl (by decide) ?_
    exact lp_X6_blank (σ := σ) (by omega) (by omega) hV 61 0 _ (by omega) (by omega) rfl rfl
  · refine zw_aload_n 9 dX6_blank_8 rfl rfl ?_
    refine zw_callV 12 _ _ dX6_blank_9 rfl kX6_100 qX6_bad ly217 ⟨_, rfl, rfl⟩ (by decide) (sp_X6_bad (d := d - 1) (by omega)) (by omega) rfl rfl (Nat.le_of_ble_eq_true rfl) (fun r σ' hq => ?_)
    obtain ⟨rfl, rfl⟩ := hq
    refine zw_iret dX6_blank_12 rfl ?_
    exact zAn_f (by omega)
def zfip (N : zR) (t : Int) (n : Nat) (c : Nat) : Bool := decide (zdo (zyn N n N) c = t)
def zfic (N : zR) (t : Int) (n : Nat) : Int := zff (zfip N t n) 0 (N 48).toNat
def zfin (N : zR) (t : Int) : Int := zff (fun n => decide (zfic N t n ≠ -1)) 0 61
def zfir (N : zR) (t w : Int) : Int := if zfin N t = -1 then -1 else if w = 0 then zfic N t (zfin N t).toNat else zfin N t
theorem zdo_ag {t t' : zR} (h : zag t t') {c : Int} (hc : 0 ≤ c ∧ c < 5) : zdo t c = zdo t' c := by
  have key : ∀ n : Nat, n ≤ 3 → zbs t c n = zbs t' c n := by
    intro n
    induction n with
    | zero => intro _; rfl
    | succ n ih =>
      intro hn
      have b := zbs_b t c n
      have e := ih (by omega)
      unfold zbs
      rw [← e, h (5 + 4 * c + zbs t c n) (by omega) (by omega), h (5 + 4 * c + ((n : Int) + 1)) (by omega) (by omega)]
  have b := zbs_b t c 3
  have e := key 3 (by omega)
  unfold zdo
  rw [← e, h (5 + 4 * c + zbs t c 3) (by omega) (by omega)]
theorem lp2_X6_first {l : Launch} {d : Nat} {σ : zMem} (hd : 7 ≤ d) {t w : Int} (hc : (0 ≤ t ∧ t ≤ 3) ∧ 0 ≤ w ∧ w ≤ 1) (hV : zVN (σ 218))  {k : Int} {σc : zMem} (hk : 0 ≤ k ∧ k < 61) (hσ : σc = zwa σ 220 (zyn (σ 218) k.toNat (zcy (σ 218) (σ 220) 0 0 33))) (hz : zfin (σ 218) t = zff (fun n => decide (zfic (σ 218) t n ≠ -1)) k.toNat (61 - k).toNat) (hx : zfic (σ 218) t k.toNat = -1 → zw l d mX6_first 79 [some (.ref 217), some (.int (zI t)), some (.int (zI w)), some (.int (zI k)), none] [] σc (zAn 224 ((0 ≤ t ∧ t ≤ 3) ∧ 0 ≤ w ∧ w ≤ 1) (zfir (σ 218) t w) 0 (-2) σ)) : ∀ (m : Nat) (c : Int), c + m = σ 218 48 → 0 ≤ c → zfic (σ 218) t k.toNat = zff (zfip (σ 218) t k.toNat) c.toNat (σ 218 48 - c).toNat → zw l d mX6_first 37 [some (.ref 217), some (.int (zI t)), some (.int (zI w)), some (.int (zI k)), some (.int (zI c))] [] σc (zAn 224 ((0 ≤ t ∧ t ≤ 3) ∧ 0 ≤ w ∧ w ≤ 1) (zfir (σ 218) t w) 0 (-2) σ) := by
  intro m
  induction m with
  | zero =>
    intro c hkc hk0 hz2
    have hs := hV.1
    have hv := hV.2.1
    have hy := hV.2.2.1
    have gN := hs.1
    have gC := hs.2.1
    have g0 := zcy_ag (σ 218) (σ 220)
    have hvA : zVr (σ 218) (zcy (σ 218) (σ 220) 0 0 33) := zVr_ag g0.symm hv
    obtain ⟨a1, a2, a3, a4⟩ := zstep hσ (fun i hi => (zyn_hi hs hvA (Or.inl hi) _).trans (if_neg (by omega))) hs (zyn_V hs hvA _)
    have ag : zag (σc 220) (zyn (σ 218) k.toNat (σ 218)) := by rw [a1]; exact (zyn_ag hs hv g0.symm _).symm
    have a6 : σc 220 32 = σ 218 32 + k := by rw [ag 32 (by omega) (by omega), zyn_32 hs hv]; omega
    have a7 : σc 218 = σ 218 := by rw [hσ, zwa_ne _ _ (by decide)]
    have a5 := a2 48 (by omega)
    have hp : c < 5 → zfip (σ 218) t k.toNat c.toNat = decide (zdo (σc 220) c = t) := fun h => by
      unfold zfip
      rw [zdo_ag ag ⟨by omega, h⟩, show ((c.toNat : Nat) : Int) = c by omega]
    have hp := hp
    refine zw_iload 39 dX6_first_37 rfl rfl ?_
    refine zw_aload_n 40 dX6_first_39 rfl rfl ?_
    refine zw_getr 43 (218) (o := 1) dX6_first_40 rfl fX6_7 (by decide) rfl rfl ly217 ?_
    refine zw_bipush 45 dX6_first_43 rfl (by decide) ?_
    refine zw_iald 46 dX6_first_45 rfl ly218 (by omega) ?_
    refine zw_icmp_ge 79 49 dX6_first_46 (by decide) rfl (by omega) (by omega) (fun h46 => ?_) (fun h46 => ?_)
    · refine zw_loc [true, true, true, true, false] rfl ?_
      exact hx (by rw [hz2, show (σ 218 48 - c).toNat = 0 by omega]; rfl)
    · exfalso; omega
  | succ m ih =>
    intro c hkc hk0 hz2
    have hs := hV.1
    have hv := hV.2.1
    have hy := hV.2.2.1
    have gN := hs.1
    have gC := hs.2.1
    have g0 := zcy_ag (σ 218) (σ 220)
    have hvA : zVr (σ 218) (zcy (σ 218) (σ 220) 0 0 33) := zVr_ag g0.symm hv
    obtain ⟨a1, a2, a3, a4⟩ := zstep hσ (fun i hi => (zyn_hi hs hvA (Or.inl hi) _).trans (if_neg (by omega))) hs (zyn_V hs hvA _)
    have ag : zag (σc 220) (zyn (σ 218) k.toNat (σ 218)) := by rw [a1]; exact (zyn_ag hs hv g0.symm _).symm
    have a6 : σc 220 32 = σ 218 32 + k := by rw [ag 32 (by omega) (by omega), zyn_32 hs hv]; omega
    have a7 : σc 218 = σ 218 := by rw [hσ, zwa_ne _ _ (by decide)]
    have a5 := a2 48 (by omega)
    have hp : c < 5 → zfip (σ 218) t k.toNat c.toNat = decide (zdo (σc 220) c = t) := fun h => by
      unfold zfip
      rw [zdo_ag ag ⟨by omega, h⟩, show ((c.toNat : Nat) : Int) = c by omega]
    have hp := hp
    refine zw_iload 39 dX6_first_37 rfl rfl ?_
    refine zw_aload_n 40 dX6_first_39 rfl rfl ?_
    refine zw_getr 43 (218) (o := 1) dX6_first_40 rfl fX6_7 (by decide) rfl rfl ly217 ?_
    refine zw_bipush 45 dX6_first_43 rfl (by decide) ?_
    refine zw_iald 46 dX6_first_45 rfl ly218 (by omega) ?_
    refine zw_icmp_ge 79 49 dX6_first_46 (by decide) rfl (by omega) (by omega) (fun h46 => ?_) (fun h46 => ?_)
    · refine zw_loc [true, true, true, true, false] rfl ?_
      exact hx (by rw [hz2, show (σ 218 48 - c).toNat = 0 by omega]; rfl)
    · refine zw_aload_n 50 dX6_first_49 rfl rfl ?_
      refine zw_getr 53 (220) (o := 3) dX6_first_50 rfl fX6_16 (by decide) rfl rfl ly217 ?_
      refine zw_iload 55 dX6_first_53 rfl rfl ?_
      refine zw_callS 58 _ _ dX6_first_55 rfl kX6_78 qX6_does (sp_X6_does (d := d - 1) ly220 (by decide) (by omega) (fun q h0 h1 => a4.tk2 ⟨by omega, by omega⟩ ⟨h0, h1⟩)) (by omega) rfl rfl (Nat.le_of_ble_eq_true rfl) (fun r σ' hq => ?_)
      obtain ⟨rfl, rfl⟩ := hq
      have z5 : -1 ≤ zdo (σc 220) c ∧ zdo (σc 220) c < 4 := by have := zbs_b (σc 220) c 3; unfold zdo; omega
      refine zw_iload_n 59 dX6_first_58 rfl rfl ?_
      refine zw_icmp_ne 73 62 dX6_first_59 (by decide) rfl (by omega) (by omega) (fun h59 => ?_) (fun h59 => ?_)
      · refine zw_iinc 76 dX6_first_73 rfl (by decide) rfl ?_
        refine zw_goto 37 dX6_first_76 (by decide) ?_
        refine zw_loc [true, true, true, true, true] rfl ?_
        exact ih (c + 1) (by omega) (by omega) (by rw [hz2, show (σ 218 48 - c).toNat = (σ 218 48 - (c + 1)).toNat + 1 by omega, zff_miss (by rw [hp (by omega)]; simpa using h59), show (c + 1).toNat = c.toNat + 1 by omega])
      · refine zw_iload_n 63 dX6_first_62 rfl rfl ?_
        refine zw_if_ne 71 66 dX6_first_63 (by decide) rfl (by omega) (fun h63 => ?_) (fun h63 => ?_)
        · refine zw_iload_n 72 dX6_first_71 rfl rfl ?_
          refine zw_iret dX6_first_72 rfl ?_
          have e1 : zfic (σ 218) t k.toNat = c := by
            rw [hz2, show (σ 218 48 - c).toNat = (σ 218 48 - (c + 1)).toNat + 1 by omega, zff_hit (by rw [hp (by omega)]; simpa using h59)]; omega
          have e2 : zfin (σ 218) t = k := by
            rw [hz, show (61 - k).toNat = (61 - (k + 1)).toNat + 1 by omega, zff_hit (by simp only [decide_eq_true_eq]; rw [e1]; omega)]; omega
          exact zAn_t (by omega) (by unfold zfir; rw [e2, e1]; omega) (by rw [hσ]; exact (zNS_wa _ _ (by unfold zSk; omega) (by decide) (by decide)))
        · refine zw_iload 68 dX6_first_66 rfl rfl ?_
          refine zw_goto 72 dX6_first_68 (by decide) ?_
          refine zw_iret dX6_first_72 rfl ?_
          have e1 : zfic (σ 218) t k.toNat = c := by
            rw [hz2, show (σ 218 48 - c).toNat = (σ 218 48 - (c + 1)).toNat + 1 by omega, zff_hit (by rw [hp (by omega)]; simpa using h59)]; omega
          have e2 : zfin (σ 218) t = k := by
            rw [hz, show (61 - k).toNat = (61 - (k + 1)).toNat + 1 by omega, zff_hit (by simp only [decide_eq_true_eq]; rw [e1]; omega)]; omega
          exact zAn_t (by omega) (by unfold zfir; rw [e2, e1]; omega) (by rw [hσ]; exact (zNS_wa _ _ (by unfold zSk; omega) (by decide) (by decide)))
theorem lp_X6_first {l : Launch} {d : Nat} {σ : zMem} (hd : 7 ≤ d) {t w : Int} (hc : (0 ≤ t ∧ t ≤ 3) ∧ 0 ≤ w ∧ w ≤ 1) (hV : zVN (σ 218))  : ∀ (m : Nat) (k : Int) (σc : zMem), k + m = 61 → 0 ≤ k → σc = zwa σ 220 (zyn (σ 218) k.toNat (zcy (σ 218) (σ 220) 0 0 33)) → zfin (σ 218) t = zff (fun n => decide (zfic (σ 218) t n ≠ -1)) k.toNat (61 - k).toNat → zw l d mX6_first 28 [some (.ref 217), some (.int (zI t)), some (.int (zI w)), some (.int (zI k)), none] [] σc (zAn 224 ((0 ≤ t ∧ t ≤ 3) ∧ 0 ≤ w ∧ w ≤ 1) (zfir (σ 218) t w) 0 (-2) σ) := by
  intro m
  induction m with
  | zero =>
    intro k σc hk hk0 hσ hz
    have hs := hV.1
    have hv := hV.2.1
    have hy := hV.2.2.1
    have gN := hs.1
    have gC := hs.2.1
    have g0 := zcy_ag (σ 218) (σ 220)
    have hvA : zVr (σ 218) (zcy (σ 218) (σ 220) 0 0 33) := zVr_ag g0.symm hv
    obtain ⟨a1, a2, a3, a4⟩ := zstep hσ (fun i hi => (zyn_hi hs hvA (Or.inl hi) _).trans (if_neg (by omega))) hs (zyn_V hs hvA _)
    have ag : zag (σc 220) (zyn (σ 218) k.toNat (σ 218)) := by rw [a1]; exact (zyn_ag hs hv g0.symm _).symm
    have a6 : σc 220 32 = σ 218 32 + k := by rw [ag 32 (by omega) (by omega), zyn_32 hs hv]; omega
    have a7 : σc 218 = σ 218 := by rw [hσ, zwa_ne _ _ (by decide)]
    have a5 := a2 48 (by omega)
    refine zw_iload_n 29 dX6_first_28 rfl rfl ?_
    refine zw_bipush 31 dX6_first_29 rfl (by decide) ?_
    refine zw_icmp_ge 93 34 dX6_first_31 (by decide) rfl (by omega) (by omega) (fun h31 => ?_) (fun h31 => ?_)
    · refine zw_iconst 94 dX6_first_93 rfl ?_
      refine zw_iret dX6_first_94 rfl ?_
      have ek : k = 61 := by omega
      subst ek
      exact zAn_t (by omega) (by unfold zfir; rw [hz]; rfl) (by rw [hσ]; exact (zNS_wa _ _ (by unfold zSk; omega) (by decide) (by decide)))
    · exfalso; omega
  | succ m ih =>
    intro k σc hk hk0 hσ hz
    have hs := hV.1
    have hv := hV.2.1
    have hy := hV.2.2.1
    have gN := hs.1
    have gC := hs.2.1
    have g0 := zcy_ag (σ 218) (σ 220)
    have hvA : zVr (σ 218) (zcy (σ 218) (σ 220) 0 0 33) := zVr_ag g0.symm hv
    obtain ⟨a1, a2, a3, a4⟩ := zstep hσ (fun i hi => (zyn_hi hs hvA (Or.inl hi) _).trans (if_neg (by omega))) hs (zyn_V hs hvA _)
    have ag : zag (σc 220) (zyn (σ 218) k.toNat (σ 218)) := by rw [a1]; exact (zyn_ag hs hv g0.symm _).symm
    have a6 : σc 220 32 = σ 218 32 + k := by rw [ag 32 (by omega) (by omega), zyn_32 hs hv]; omega
    have a7 : σc 218 = σ 218 := by rw [hσ, zwa_ne _ _ (by decide)]
    have a5 := a2 48 (by omega)
    refine zw_iload_n 29 dX6_first_28 rfl rfl ?_
    refine zw_bipush 31 dX6_first_29 rfl (by decide) ?_
    refine zw_icmp_ge 93 34 dX6_first_31 (by decide) rfl (by omega) (by omega) (fun h31 => ?_) (fun h31 => ?_)
    · refine zw_iconst 94 dX6_first_93 rfl ?_
      refine zw_iret dX6_first_94 rfl ?_
      exfalso; omega
    · refine zw_iconst 35 dX6_first_34 rfl ?_
      refine zw_istore 37 dX6_first_35 rfl (by decide) ?_
      refine lp2_X6_first (σ := σ) hd hc hV (by omega) hσ hz (fun hne => ?_) (σ 218 48).toNat 0 (by omega) (by omega) (by rw [Int.sub_zero]; rfl)
      refine zw_aload_n 80 dX6_first_79 rfl rfl ?_
      refine zw_aload_n 81 dX6_first_80 rfl rfl ?_
      refine zw_getr 84 (220) (o := 3) dX6_first_81 rfl fX6_16 (by decide) rfl rfl ly217 ?_
      refine zw_callV 87 _ _ dX6_first_84 rfl kX6_168 qX6_yearGoes ly217 ⟨_, rfl, rfl⟩ (by decide) (sp_X6_yearGoes (d := d - 1) (by omega) ly220 (by decide) a3 a4 (by omega)) (by omega) rfl rfl (Nat.le_of_ble_eq_true rfl) (fun r σ' hq => ?_)
      obtain ⟨rfl, rfl⟩ := hq
      refine zw_iinc 90 dX6_first_87 rfl (by decide) rfl ?_
      refine zw_goto 28 dX6_first_90 (by decide) ?_
      refine zw_loc [true, true, true, true, false] rfl ?_
      refine ih (k + 1) _ (by omega) (by omega) (by rw [zyn_s _ _ hk0, ← a1, ← a7, hσ, zwa_twice]) ?_
      rw [hz, show (61 - k).toNat = (61 - (k + 1)).toNat + 1 by omega, zff_miss (by simp [hne]), show (k + 1).toNat = k.toNat + 1 by omega]
theorem sp_X6_first {l : Launch} {d : Nat} {σ : zMem} (hd : 8 ≤ d) {t w : Int} (ht : -2147483648 ≤ t ∧ t < 2147483648) (hw : -2147483648 ≤ w ∧ w < 2147483648) (hV : zVN (σ 218))  : zSp l d mX6_first [.ref 217, .int (zI t), .int (zI w)] σ (zAn 224 ((0 ≤ t ∧ t ≤ 3) ∧ 0 ≤ w ∧ w ≤ 1) (zfir (σ 218) t w) 0 (-2) σ) := by
  refine zSp_of oX6_first (Nat.le_of_ble_eq_true rfl) ?_
  show zw l d mX6_first 0 [some (.ref 217), some (.int (zI t)), some (.int (zI w)), none, none] [] σ _
  have hs := hV.1
  have hv := hV.2.1
  have hy := hV.2.2.1
  have gN := hs.1
  have gC := hs.2.1
  refine zw_iload_n 1 dX6_first_0 rfl rfl ?_
  refine zw_callS 4 _ _ dX6_first_1 rfl kX6_94 qX6_isTrait (sp_X6_isTrait (d := d - 1) (by omega) (by omega)) (by omega) rfl rfl (Nat.le_of_ble_eq_true rfl) (fun r σ' hq => ?_)
  obtain ⟨rfl, rfl⟩ := hq
  refine zw_if_eq 17 7 dX6_first_4 (by decide) rfl (by omega) (fun h4 => ?_) (fun h4 => ?_)
  · refine zw_aload_n 18 dX6_first_17 rfl rfl ?_
    refine zw_callV 21 _ _ dX6_first_18 rfl kX6_100 qX6_bad ly217 ⟨_, rfl, rfl⟩ (by decide) (sp_X6_bad (d := d - 1) (by omega)) (by omega) rfl rfl (Nat.le_of_ble_eq_true rfl) (fun r σ' hq => ?_)
    obtain ⟨rfl, rfl⟩ := hq
    refine zw_iret dX6_first_21 rfl ?_
    exact zAn_f (by omega)
  · refine zw_iload_n 8 dX6_first_7 rfl rfl ?_
    refine zw_i2l 9 dX6_first_8 rfl (by omega) ?_
    refine zw_lconst 10 0 dX6_first_9 rfl (by decide) ?_
    refine zw_lconst 11 1 dX6_first_10 rfl (by decide) ?_
    refine zw_callS 14 _ _ dX6_first_11 rfl kX6_86 qX6_in (sp_X6_in (d := d - 1) (by omega) (by omega) (by omega)) (by omega) rfl rfl (Nat.le_of_ble_eq_true rfl) (fun r σ' hq => ?_)
    obtain ⟨rfl, rfl⟩ := hq
    refine zw_if_ne 22 17 dX6_first_14 (by decide) rfl (by omega) (fun h14 => ?_) (fun h14 => ?_)
    · refine zw_aload_n 23 dX6_first_22 rfl rfl ?_
      refine zw_callV 26 _ _ dX6_first_23 rfl kX6_216 qX6_layAside ly217 ⟨_, rfl, rfl⟩ (by decide) (sp_X6_layAside (d := d - 1) (by omega)) (by omega) rfl rfl (Nat.le_of_ble_eq_true rfl) (fun r σ' hq => ?_)
      obtain ⟨rfl, rfl⟩ := hq
      refine zw_iconst 27 dX6_first_26 rfl ?_
      refine zw_istore_n 28 dX6_first_27 rfl (by decide) ?_
      exact lp_X6_first (σ := σ) (by omega) (by omega) hV 61 0 _ (by omega) (by omega) rfl rfl
    · refine zw_aload_n 18 dX6_first_17 rfl rfl ?_
      refine zw_callV 21 _ _ dX6_first_18 rfl kX6_100 qX6_bad ly217 ⟨_, rfl, rfl⟩ (by decide) (sp_X6_bad (d := d - 1) (by omega)) (by omega) rfl rfl (Nat.le_of_ble_eq_true rfl) (fun r σ' hq => ?_)
      obtain ⟨rfl, rfl⟩ := hq
      refine zw_iret dX6_first_21 rfl ?_
      exact zAn_f (by omega)
