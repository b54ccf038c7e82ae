theorem sp_X6_chapter {l : Launch} {d : Nat} {σ : zMem} (hd : 8 ≤ d) (hV : zVN (σ 218))  : zSp l d mX6_chapter [.ref 217] σ (zRi (σ 218 48) (zwa σ 218 (zem (σ 218)))) := by
  refine zSp_of oX6_chapter (Nat.le_of_ble_eq_true rfl) ?_
  show zw l d mX6_chapter 0 [some (.ref 217), none] [] σ _
  have hs := hV.1
  have hv := hV.2.1
  have hy := hV.2.2.1
  have gN := hs.1
  have gC := hs.2.1
  refine zw_aload_n 1 dX6_chapter_0 rfl rfl ?_
  refine zw_getr 4 (218) (o := 1) dX6_chapter_1 rfl fX6_7 (by decide) rfl rfl ly217 ?_
  refine zw_bipush 6 dX6_chapter_4 rfl (by decide) ?_
  refine zw_iald 7 dX6_chapter_6 rfl ly218 (by omega) ?_
  refine zw_istore_n 8 dX6_chapter_7 rfl (by decide) ?_
  refine zw_aload_n 9 dX6_chapter_8 rfl rfl ?_
  refine zw_getr 12 (218) (o := 1) dX6_chapter_9 rfl fX6_7 (by decide) rfl rfl ly217 ?_
  refine zw_callS 15 _ _ dX6_chapter_12 rfl kX6_48 qX6_empties (sp_X6_empties (d := d - 1) ly218 (by decide)) (by omega) rfl rfl (Nat.le_of_ble_eq_true rfl) (fun r σ' hq => ?_)
  obtain ⟨rfl, rfl⟩ := hq
  refine zw_iload_n 16 dX6_chapter_15 rfl rfl ?_
  refine zw_iret dX6_chapter_16 rfl ?_
  exact ⟨rfl, rfl⟩
def zsN (N : zR) (k t d : Int) : zR :=
  let f := zup (zup (zup N (34 + N 33) k) (41 + N 33) t) (25 + N 33) d
  zup (zup f 33 (f 33 + 1)) 134 0
def zcN (N : zR) (k w : Int) : zR :=
  let f := zup (zup N (49 + N 48) k) (54 + N 48) w
  zup (zup f 48 (f 48 + 1)) 134 0
def zwN (N : zR) (c t x : Int) : zR :=
  let f := zup (zup (zup N (60 + 3 * N 59) c) (60 + 3 * N 59 + 1) t) (60 + 3 * N 59 + 2) x
  zup f 59 (f 59 + 1)
def znN (N : zR) (s d y h x : Int) : zR :=
  let f := zup (zup (zup (zup (zup N (79 + 5 * N 78) s) (79 + 5 * N 78 + 1) d) (79 + 5 * N 78 + 2) y) (79 + 5 * N 78 + 3) h) (79 + 5 * N 78 + 4) x
  zup f 78 (f 78 + 1)
def zmN (N : zR) (c g h x : Int) : zR :=
  let f := zup (zup (zup (zup N (110 + 4 * N 109) c) (110 + 4 * N 109 + 1) g) (110 + 4 * N 109 + 2) h) (110 + 4 * N 109 + 3) x
  zup f 109 (f 109 + 1)
theorem sp_X6_seat {l : Launch} {d : Nat} {σ : zMem} (hd : 8 ≤ d) {k t dp : Int} (hk : -2147483648 ≤ k ∧ k < 2147483648) (ht : -2147483648 ≤ t ∧ t < 2147483648) (hdp : -2147483648 ≤ dp ∧ dp < 2147483648) (hV : zVN (σ 218))  : zSp l d mX6_seat [.ref 217, .int (zI k), .int (zI t), .int (zI dp)] σ (zA3 ((0 ≤ k ∧ k ≤ 5) ∧ (0 ≤ t ∧ t ≤ 3) ∧ 0 ≤ dp ∧ dp ≤ 40) (σ 218 33 = 7) σ 224 0 (-2) 2 (-4) (σ 218 33) (fun σ' => zwa σ 218 (zsN (σ 218) k t dp) = σ')) := by
  refine zSp_of oX6_seat (Nat.le_of_ble_eq_true rfl) ?_
  show zw l d mX6_seat 0 [some (.ref 217), some (.int (zI k)), some (.int (zI t)), some (.int (zI dp)), none] [] σ _
  have hs := hV.1
  have hv := hV.2.1
  have hy := hV.2.2.1
  have gN := hs.1
  have gC := hs.2.1
  refine zw_iload_n 1 dX6_seat_0 rfl rfl ?_
  refine zw_i2l 2 dX6_seat_1 rfl (by omega) ?_
  refine zw_lconst 3 0 dX6_seat_2 rfl (by decide) ?_
  refine zw_ldc2 6 (5) dX6_seat_3 rfl cX6_92 ?_
  refine zw_callS 9 _ _ dX6_seat_6 rfl kX6_86 qX6_in (sp_X6_in (d := d - 1) (by omega) (by omega) (by omega)) (by omega) rfl rfl (Nat.le_of_ble_eq_true rfl) (fun r σ' hq => ?_)
  obtain ⟨rfl, rfl⟩ := hq
  refine zw_if_eq 31 12 dX6_seat_9 (by decide) rfl (by omega) (fun h9 => ?_) (fun h9 => ?_)
  · refine zw_aload_n 32 dX6_seat_31 rfl rfl ?_
    refine zw_callV 35 _ _ dX6_seat_32 rfl kX6_100 qX6_bad ly217 ⟨_, rfl, rfl⟩ (by decide) (sp_X6_bad (d := d - 1) (by omega)) (by omega) rfl rfl (Nat.le_of_ble_eq_true rfl) (fun r σ' hq => ?_)
    obtain ⟨rfl, rfl⟩ := hq
    refine zw_iret dX6_seat_35 rfl ?_
    first | exact zA3_bad (by omega) | exact zA3_full (by omega) (by omega) | exact zA3_ok (by omega) (by omega) (by first | rfl | (simp (disch := omega) only [zwa_same, zup_same, zup_ne])) rfl
  · refine zw_iload_n 13 dX6_seat_12 rfl rfl ?_
    refine zw_callS 16 _ _ dX6_seat_13 rfl kX6_94 qX6_isTrait (sp_X6_isTrait (d := d - 1) (by omega) (by omega)) (by omega) rfl rfl (Nat.le_of_ble_eq_true rfl) (fun r σ' hq => ?_)
    obtain ⟨rfl, rfl⟩ := hq
    refine zw_if_eq 31 19 dX6_seat_16 (by decide) rfl (by omega) (fun h16 => ?_) (fun h16 => ?_)
    · refine zw_aload_n 32 dX6_seat_31 rfl rfl ?_
      refine zw_callV 35 _ _ dX6_seat_32 rfl kX6_100 qX6_bad ly217 ⟨_, rfl, rfl⟩ (by decide) (sp_X6_bad (d := d - 1) (by omega)) (by omega) rfl rfl (Nat.le_of_ble_eq_true rfl) (fun r σ' hq => ?_)
      obtain ⟨rfl, rfl⟩ := hq
      refine zw_iret dX6_seat_35 rfl ?_
      first | exact zA3_bad (by omega) | exact zA3_full (by omega) (by omega) | exact zA3_ok (by omega) (by omega) (by first | rfl | (simp (disch := omega) only [zwa_same, zup_same, zup_ne])) rfl
    · refine zw_iload_n 20 dX6_seat_19 rfl rfl ?_
      refine zw_i2l 21 dX6_seat_20 rfl (by omega) ?_
      refine zw_lconst 22 0 dX6_seat_21 rfl (by decide) ?_
      refine zw_ldc2 25 (40) dX6_seat_22 rfl cX6_98 ?_
      refine zw_callS 28 _ _ dX6_seat_25 rfl kX6_86 qX6_in (sp_X6_in (d := d - 1) (by omega) (by omega) (by omega)) (by omega) rfl rfl (Nat.le_of_ble_eq_true rfl) (fun r σ' hq => ?_)
      obtain ⟨rfl, rfl⟩ := hq
      refine zw_if_ne 36 31 dX6_seat_28 (by decide) rfl (by omega) (fun h28 => ?_) (fun h28 => ?_)
      · refine zw_aload_n 37 dX6_seat_36 rfl rfl ?_
        refine zw_getr 40 (218) (o := 1) dX6_seat_37 rfl fX6_7 (by decide) rfl rfl ly217 ?_
        refine zw_bipush 42 dX6_seat_40 rfl (by decide) ?_
        refine zw_iald 43 dX6_seat_42 rfl ly218 (by omega) ?_
        refine zw_bipush 45 dX6_seat_43 rfl (by decide) ?_
        refine zw_icmp_ne 56 48 dX6_seat_45 (by decide) rfl (by omega) (by omega) (fun h45 => ?_) (fun h45 => ?_)
        · refine zw_aload_n 57 dX6_seat_56 rfl rfl ?_
          refine zw_getr 60 (218) (o := 1) dX6_seat_57 rfl fX6_7 (by decide) rfl rfl ly217 ?_
          refine zw_bipush 62 dX6_seat_60 rfl (by decide) ?_
          refine zw_iald 63 dX6_seat_62 rfl ly218 (by omega) ?_
          refine zw_istore 65 dX6_seat_63 rfl (by decide) ?_
          refine zw_aload_n 66 dX6_seat_65 rfl rfl ?_
          refine zw_getr 69 (218) (o := 1) dX6_seat_66 rfl fX6_7 (by decide) rfl rfl ly217 ?_
          refine zw_bipush 71 dX6_seat_69 rfl (by decide) ?_
          refine zw_iload 73 dX6_seat_71 rfl rfl ?_
          refine zw_iadd 74 dX6_seat_73 rfl ?_
          refine zw_iload_n 75 dX6_seat_74 rfl rfl ?_
          refine zw_iast 76 dX6_seat_75 rfl ly218 (by omega) ?_
          try simp only [zwr, zwa_same, zwa_twice]
          refine zw_aload_n 77 dX6_seat_76 rfl rfl ?_
          refine zw_getr 80 (218) (o := 1) dX6_seat_77 rfl fX6_7 (by decide) rfl rfl ly217 ?_
          refine zw_bipush 82 dX6_seat_80 rfl (by decide) ?_
          refine zw_iload 84 dX6_seat_82 rfl rfl ?_
          refine zw_iadd 85 dX6_seat_84 rfl ?_
          refine zw_iload_n 86 dX6_seat_85 rfl rfl ?_
          refine zw_iast 87 dX6_seat_86 rfl ly218 (by omega) ?_
          try simp only [zwr, zwa_same, zwa_twice]
          refine zw_aload_n 88 dX6_seat_87 rfl rfl ?_
          refine zw_getr 91 (218) (o := 1) dX6_seat_88 rfl fX6_7 (by decide) rfl rfl ly217 ?_
          refine zw_bipush 93 dX6_seat_91 rfl (by decide) ?_
          refine zw_iload 95 dX6_seat_93 rfl rfl ?_
          refine zw_iadd 96 dX6_seat_95 rfl ?_
          refine zw_iload_n 97 dX6_seat_96 rfl rfl ?_
          refine zw_iast 98 dX6_seat_97 rfl ly218 (by omega) ?_
          try simp only [zwr, zwa_same, zwa_twice]
          refine zw_aload_n 99 dX6_seat_98 rfl rfl ?_
          refine zw_getr 102 (218) (o := 1) dX6_seat_99 rfl fX6_7 (by decide) rfl rfl ly217 ?_
          refine zw_bipush 104 dX6_seat_102 rfl (by decide) ?_
          refine zw_dup2_11 105 dX6_seat_104 rfl rfl rfl ?_
          refine zw_iald 106 dX6_seat_105 rfl ly218 (by omega) ?_
          refine zw_iconst 107 dX6_seat_106 rfl ?_
          refine zw_iadd 108 dX6_seat_107 rfl ?_
          refine zw_iast 109 dX6_seat_108 rfl ly218 (by omega) ?_
          try simp only [zwr, zwa_same, zwa_twice]
          refine zw_aload_n 110 dX6_seat_109 rfl rfl ?_
          refine zw_getr 113 (218) (o := 1) dX6_seat_110 rfl fX6_7 (by decide) rfl rfl ly217 ?_
          refine zw_sipush 116 dX6_seat_113 rfl (by decide) ?_
          refine zw_iconst 117 dX6_seat_116 rfl ?_
          refine zw_iast 118 dX6_seat_117 rfl ly218 (by omega) ?_
          try simp only [zwr, zwa_same, zwa_twice]
          refine zw_iload 120 dX6_seat_118 rfl rfl ?_
          refine zw_iret dX6_seat_120 rfl ?_
          first | exact zA3_bad (by omega) | exact zA3_full (by omega) (by omega) | exact zA3_ok (by omega) (by omega) (by first | rfl | (simp (disch := omega) only [zwa_same, zup_same, zup_ne])) rfl
        · refine zw_aload_n 49 dX6_seat_48 rfl rfl ?_
          refine zw_iconst 50 dX6_seat_49 rfl ?_
          refine zw_bipush 52 dX6_seat_50 rfl (by decide) ?_
          refine zw_callV 55 _ _ dX6_seat_52 rfl kX6_52 qX6_refused ly217 ⟨_, rfl, rfl⟩ (by decide) (sp_X6_refused (d := d - 1) (by omega)) (by omega) rfl rfl (Nat.le_of_ble_eq_true rfl) (fun r σ' hq => ?_)
          obtain ⟨rfl, rfl⟩ := hq
          refine zw_iret dX6_seat_55 rfl ?_
          first | exact zA3_bad (by omega) | exact zA3_full (by omega) (by omega) | exact zA3_ok (by omega) (by omega) (by first | rfl | (simp (disch := omega) only [zwa_same, zup_same, zup_ne])) rfl
      · refine zw_aload_n 32 dX6_seat_31 rfl rfl ?_
        refine zw_callV 35 _ _ dX6_seat_32 rfl kX6_100 qX6_bad ly217 ⟨_, rfl, rfl⟩ (by decide) (sp_X6_bad (d := d - 1) (by omega)) (by omega) rfl rfl (Nat.le_of_ble_eq_true rfl) (fun r σ' hq => ?_)
        obtain ⟨rfl, rfl⟩ := hq
        refine zw_iret dX6_seat_35 rfl ?_
        first | exact zA3_bad (by omega) | exact zA3_full (by omega) (by omega) | exact zA3_ok (by omega) (by omega) (by first | rfl | (simp (disch := omega) only [zwa_same, zup_same, zup_ne])) rfl
theorem sp_X6_canon {l : Launch} {d : Nat} {σ : zMem} (hd : 8 ≤ d) {k w : Int} (hk : -2147483648 ≤ k ∧ k < 2147483648) (hw : -2147483648 ≤ w ∧ w < 2147483648) (hV : zVN (σ 218))  : zSp l d mX6_canon [.ref 217, .int (zI k), .int (zI w)] σ (zA3 ((0 ≤ k ∧ k ≤ 5) ∧ 1 ≤ w ∧ w ≤ 9) (σ 218 48 = 5) σ 224 0 (-2) 2 (-4) (σ 218 48) (fun σ' => zwa σ 218 (zcN (σ 218) k w) = σ')) := by
  refine zSp_of oX6_canon (Nat.le_of_ble_eq_true rfl) ?_
  show zw l d mX6_canon 0 [some (.ref 217), some (.int (zI k)), some (.int (zI w)), none] [] σ _
  have hs := hV.1
  have hv := hV.2.1
  have hy := hV.2.2.1
  have gN := hs.1
  have gC := hs.2.1
  refine zw_iload_n 1 dX6_canon_0 rfl rfl ?_
  refine zw_i2l 2 dX6_canon_1 rfl (by omega) ?_
  refine zw_lconst 3 0 dX6_canon_2 rfl (by decide) ?_
  refine zw_ldc2 6 (5) dX6_canon_3 rfl cX6_92 ?_
  refine zw_callS 9 _ _ dX6_canon_6 rfl kX6_86 qX6_in (sp_X6_in (d := d - 1) (by omega) (by omega) (by omega)) (by omega) rfl rfl (Nat.le_of_ble_eq_true rfl) (fun r σ' hq => ?_)
  obtain ⟨rfl, rfl⟩ := hq
  refine zw_if_eq 24 12 dX6_canon_9 (by decide) rfl (by omega) (fun h9 => ?_) (fun h9 => ?_)
  · refine zw_aload_n 25 dX6_canon_24 rfl rfl ?_
    refine zw_callV 28 _ _ dX6_canon_25 rfl kX6_100 qX6_bad ly217 ⟨_, rfl, rfl⟩ (by decide) (sp_X6_bad (d := d - 1) (by omega)) (by omega) rfl rfl (Nat.le_of_ble_eq_true rfl) (fun r σ' hq => ?_)
    obtain ⟨rfl, rfl⟩ := hq
    refine zw_iret dX6_canon_28 rfl ?_
    first | exact zA3_bad (by omega) | exact zA3_full (by omega) (by omega) | exact zA3_ok (by omega) (by omega) (by first | rfl | (simp (disch := omega) only [zwa_same, zup_same, zup_ne])) rfl
  · refine zw_iload_n 13 dX6_canon_12 rfl rfl ?_
    refine zw_i2l 14 dX6_canon_13 rfl (by omega) ?_
    refine zw_lconst 15 1 dX6_canon_14 rfl (by decide) ?_
    refine zw_ldc2 18 (9) dX6_canon_15 rfl cX6_104 ?_
    refine zw_callS 21 _ _ dX6_canon_18 rfl kX6_86 qX6_in (sp_X6_in (d := d - 1) (by omega) (by omega) (by omega)) (by omega) rfl rfl (Nat.le_of_ble_eq_true rfl) (fun r σ' hq => ?_)
    obtain ⟨rfl, rfl⟩ := hq
    refine zw_if_ne 29 24 dX6_canon_21 (by decide) rfl (by omega) (fun h21 => ?_) (fun h21 => ?_)
    · refine zw_aload_n 30 dX6_canon_29 rfl rfl ?_
      refine zw_getr 33 (218) (o := 1) dX6_canon_30 rfl fX6_7 (by decide) rfl rfl ly217 ?_
      refine zw_bipush 35 dX6_canon_33 rfl (by decide) ?_
      refine zw_iald 36 dX6_canon_35 rfl ly218 (by omega) ?_
      refine zw_iconst 37 dX6_canon_36 rfl ?_
      refine zw_icmp_ne 48 40 dX6_canon_37 (by decide) rfl (by omega) (by omega) (fun h37 => ?_) (fun h37 => ?_)
      · refine zw_aload_n 49 dX6_canon_48 rfl rfl ?_
        refine zw_getr 52 (218) (o := 1) dX6_canon_49 rfl fX6_7 (by decide) rfl rfl ly217 ?_
        refine zw_bipush 54 dX6_canon_52 rfl (by decide) ?_
        refine zw_iald 55 dX6_canon_54 rfl ly218 (by omega) ?_
        refine zw_istore_n 56 dX6_canon_55 rfl (by decide) ?_
        refine zw_aload_n 57 dX6_canon_56 rfl rfl ?_
        refine zw_getr 60 (218) (o := 1) dX6_canon_57 rfl fX6_7 (by decide) rfl rfl ly217 ?_
        refine zw_bipush 62 dX6_canon_60 rfl (by decide) ?_
        refine zw_iload_n 63 dX6_canon_62 rfl rfl ?_
        refine zw_iadd 64 dX6_canon_63 rfl ?_
        refine zw_iload_n 65 dX6_canon_64 rfl rfl ?_
        refine zw_iast 66 dX6_canon_65 rfl ly218 (by omega) ?_
        try simp only [zwr, zwa_same, zwa_twice]
        refine zw_aload_n 67 dX6_canon_66 rfl rfl ?_
        refine zw_getr 70 (218) (o := 1) dX6_canon_67 rfl fX6_7 (by decide) rfl rfl ly217 ?_
        refine zw_bipush 72 dX6_canon_70 rfl (by decide) ?_
        refine zw_iload_n 73 dX6_canon_72 rfl rfl ?_
        refine zw_iadd 74 dX6_canon_73 rfl ?_
        refine zw_iload_n 75 dX6_canon_74 rfl rfl ?_
        refine zw_iast 76 dX6_canon_75 rfl ly218 (by omega) ?_
        try simp only [zwr, zwa_same, zwa_twice]
        refine zw_aload_n 77 dX6_canon_76 rfl rfl ?_
        refine zw_getr 80 (218) (o := 1) dX6_canon_77 rfl fX6_7 (by decide) rfl rfl ly217 ?_
        refine zw_bipush 82 dX6_canon_80 rfl (by decide) ?_
        refine zw_dup2_11 83 dX6_canon_82 rfl rfl rfl ?_
        refine zw_iald 84 dX6_canon_83 rfl ly218 (by omega) ?_
        refine zw_iconst 85 dX6_canon_84 rfl ?_
        refine zw_iadd 86 dX6_canon_85 rfl ?_
        refine zw_iast 87 dX6_canon_86 rfl ly218 (by omega) ?_
        try simp only [zwr, zwa_same, zwa_twice]
        refine zw_aload_n 88 dX6_canon_87 rfl rfl ?_
        refine zw_getr 91 (218) (o := 1) dX6_canon_88 rfl fX6_7 (by decide) rfl rfl ly217 ?_
        refine zw_sipush 94 dX6_canon_91 rfl (by decide) ?_
        refine zw_iconst 95 dX6_canon_94 rfl ?_
        refine zw_iast 96 dX6_canon_95 rfl ly218 (by omega) ?_
        try simp only [zwr, zwa_same, zwa_twice]
        refine zw_iload_n 97 dX6_canon_96 rfl rfl ?_
        refine zw_iret dX6_canon_97 rfl ?_
        first | exact zA3_bad (by omega) | exact zA3_full (by omega) (by omega) | exact zA3_ok (by omega) (by omega) (by first | rfl | (simp (disch := omega) only [zwa_same, zup_same, zup_ne])) rfl
      · refine zw_aload_n 41 dX6_canon_40 rfl rfl ?_
        refine zw_iconst 42 dX6_canon_41 rfl ?_
        refine zw_bipush 44 dX6_canon_42 rfl (by decide) ?_
        refine zw_callV 47 _ _ dX6_canon_44 rfl kX6_52 qX6_refused ly217 ⟨_, rfl, rfl⟩ (by decide) (sp_X6_refused (d := d - 1) (by omega)) (by omega) rfl rfl (Nat.le_of_ble_eq_true rfl) (fun r σ' hq => ?_)
        obtain ⟨rfl, rfl⟩ := hq
        refine zw_iret dX6_canon_47 rfl ?_
        first | exact zA3_bad (by omega) | exact zA3_full (by omega) (by omega) | exact zA3_ok (by omega) (by omega) (by first | rfl | (simp (disch := omega) only [zwa_same, zup_same, zup_ne])) rfl
    · refine zw_aload_n 25 dX6_canon_24 rfl rfl ?_
      refine zw_callV 28 _ _ dX6_canon_25 rfl kX6_100 qX6_bad ly217 ⟨_, rfl, rfl⟩ (by decide) (sp_X6_bad (d := d - 1) (by omega)) (by omega) rfl rfl (Nat.le_of_ble_eq_true rfl) (fun r σ' hq => ?_)
      obtain ⟨rfl, rfl⟩ := hq
      refine zw_iret dX6_canon_28 rfl ?_
      first | exact zA3_bad (by omega) | exact zA3_full (by omega) (by omega) | exact zA3_ok (by omega) (by omega) (by first | rfl | (simp (disch := omega) only [zwa_same, zup_same, zup_ne])) rfl
theorem sp_X6_type {l : Launch} {d : Nat} {σ : zMem} (hd : 8 ≤ d) {c : Int} (hc : -2147483648 ≤ c ∧ c < 2147483648) (hV : zVN (σ 218)) (hT : 0 ≤ σ 217 6 ∧ σ 217 6 ≤ 150) : zSp l d mX6_type [.ref 217, .int (zI c)] σ (zA3 (0 ≤ c ∧ c ≤ 127) (σ 217 6 = 150) σ 224 0 (-2) 2 (-4) (σ 217 6 + 1) (fun σ' => zwr (zwr σ 223 (σ 217 6) c) 217 6 (σ 217 6 + 1) = σ')) := by
  refine zSp_of oX6_type (Nat.le_of_ble_eq_true rfl) ?_
  show zw l d mX6_type 0 [some (.ref 217), some (.int (zI c))] [] σ _
  have hs := hV.1
  have hv := hV.2.1
  have hy := hV.2.2.1
  have gN := hs.1
  have gC := hs.2.1
  refine zw_iload_n 1 dX6_type_0 rfl rfl ?_
  refine zw_i2l 2 dX6_type_1 rfl (by omega) ?_
  refine zw_lconst 3 0 dX6_type_2 rfl (by decide) ?_
  refine zw_ldc2 6 (127) dX6_type_3 rfl cX6_106 ?_
  refine zw_callS 9 _ _ dX6_type_6 rfl kX6_86 qX6_in (sp_X6_in (d := d - 1) (by omega) (by omega) (by omega)) (by omega) rfl rfl (Nat.le_of_ble_eq_true rfl) (fun r σ' hq => ?_)
  obtain ⟨rfl, rfl⟩ := hq
  refine zw_if_ne 17 12 dX6_type_9 (by decide) rfl (by omega) (fun h9 => ?_) (fun h9 => ?_)
  · refine zw_aload_n 18 dX6_type_17 rfl rfl ?_
    refine zw_gti 21 6 dX6_type_18 rfl fX6_108 (by decide) rfl rfl ly217 ?_
    refine zw_sipush 24 dX6_type_21 rfl (by decide) ?_
    refine zw_icmp_ne 35 27 dX6_type_24 (by decide) rfl (by omega) (by omega) (fun h24 => ?_) (fun h24 => ?_)
    · refine zw_aload_n 36 dX6_type_35 rfl rfl ?_
      refine zw_getr 39 (223) (o := 6) dX6_type_36 rfl fX6_26 (by decide) rfl rfl ly217 ?_
      refine zw_aload_n 40 dX6_type_39 rfl rfl ?_
      refine zw_gti 43 6 dX6_type_40 rfl fX6_108 (by decide) rfl rfl ly217 ?_
      refine zw_iload_n 44 dX6_type_43 rfl rfl ?_
      refine zw_iast 45 dX6_type_44 rfl ly223 (by omega) ?_
      refine zw_aload_n 46 dX6_type_45 rfl rfl ?_
      refine zw_dup 47 dX6_type_46 rfl rfl ?_
      refine zw_gti 50 6 dX6_type_47 rfl fX6_108 (by decide) rfl rfl ly217 ?_
      refine zw_iconst 51 dX6_type_50 rfl ?_
      refine zw_iadd 52 dX6_type_51 rfl ?_
      refine zw_pti 55 6 dX6_type_52 rfl pX6_108 (by decide) rfl rfl ly217 ?_
      refine zw_aload_n 56 dX6_type_55 rfl rfl ?_
      refine zw_gti 59 6 dX6_type_56 rfl fX6_108 (by decide) rfl rfl ly217 ?_
      refine zw_iret dX6_type_59 rfl ?_
      first | exact zA3_bad (by omega) | exact zA3_full (by omega) (by omega) | exact zA3_ok (by omega) (by omega) (by first | rfl | (simp (disch := omega) only [zwa_same, zup_same, zup_ne])) rfl
    · refine zw_aload_n 28 dX6_type_27 rfl rfl ?_
      refine zw_iconst 29 dX6_type_28 rfl ?_
      refine zw_bipush 31 dX6_type_29 rfl (by decide) ?_
      refine zw_callV 34 _ _ dX6_type_31 rfl kX6_52 qX6_refused ly217 ⟨_, rfl, rfl⟩ (by decide) (sp_X6_refused (d := d - 1) (by omega)) (by omega) rfl rfl (Nat.le_of_ble_eq_true rfl) (fun r σ' hq => ?_)
      obtain ⟨rfl, rfl⟩ := hq
      refine zw_iret dX6_type_34 rfl ?_
      first | exact zA3_bad (by omega) | exact zA3_full (by omega) (by omega) | exact zA3_ok (by omega) (by omega) (by first | rfl | (simp (disch := omega) only [zwa_same, zup_same, zup_ne])) rfl
  · refine zw_aload_n 13 dX6_type_12 rfl rfl ?_
    refine zw_callV 16 _ _ dX6_type_13 rfl kX6_100 qX6_bad ly217 ⟨_, rfl, rfl⟩ (by decide) (sp_X6_bad (d := d - 1) (by omega)) (by omega) rfl rfl (Nat.le_of_ble_eq_true rfl) (fun r σ' hq => ?_)
    obtain ⟨rfl, rfl⟩ := hq
    refine zw_iret dX6_type_16 rfl ?_
    first | exact zA3_bad (by omega) | exact zA3_full (by omega) (by omega) | exact zA3_ok (by omega) (by omega) (by first | rfl | (simp (disch := omega) only [zwa_same, zup_same, zup_ne])) rfl
theorem sp_X6_clear {l : Launch} {d : Nat} {σ : zMem} (hd : 8 ≤ d) (hV : zVN (σ 218)) (hT : 0 ≤ σ 217 6 ∧ σ 217 6 ≤ 150) : zSp l d mX6_clear [.ref 217] σ (zRi (σ 217 6) (zwr σ 217 6 0)) := by
  refine zSp_of oX6_clear (Nat.le_of_ble_eq_true rfl) ?_
  show zw l d mX6_clear 0 [some (.ref 217), none] [] σ _
  have hs := hV.1
  have hv := hV.2.1
  have hy := hV.2.2.1
  have gN := hs.1
  have gC := hs.2.1
  refine zw_aload_n 1 dX6_clear_0 rfl rfl ?_
  refine zw_gti 4 6 dX6_clear_1 rfl fX6_108 (by decide) rfl rfl ly217 ?_
  refine zw_istore_n 5 dX6_clear_4 rfl (by decide) ?_
  refine zw_aload_n 6 dX6_clear_5 rfl rfl ?_
  refine zw_iconst 7 dX6_clear_6 rfl ?_
  refine zw_pti 10 6 dX6_clear_7 rfl pX6_108 (by decide) rfl rfl ly217 ?_
  refine zw_iload_n 11 dX6_clear_10 rfl rfl ?_
  refine zw_iret dX6_clear_11 rfl ?_
  exact ⟨rfl, rfl⟩
theorem sp_X6_of {l : Launch} {d : Nat} {σ : zMem} (hd : 8 ≤ d) {s w : Int} (hs : -2147483648 ≤ s ∧ s < 2147483648) (hw : -2147483648 ≤ w ∧ w < 2147483648) (hV : zVN (σ 218))  : zSp l d mX6_of [.ref 217, .int (zI s), .int (zI w)] σ (zAn 224 ((0 ≤ s ∧ s ≤ σ 218 33 - 1) ∧ 0 ≤ w ∧ w ≤ 3) (if w = 0 then σ 218 (34 + s) else if w = 1 then σ 218 (41 + s) else if w = 2 then σ 218 (25 + s) else zwo (σ 218) s) 0 (-10) σ) := by
  refine zSp_of oX6_of (Nat.le_of_ble_eq_true rfl) ?_
  show zw l d mX6_of 0 [some (.ref 217), some (.int (zI s)), some (.int (zI w))] [] σ _
  have hs := hV.1
  have hv := hV.2.1
  have hy := hV.2.2.1
  have gN := hs.1
  have gC := hs.2.1
  refine zw_aload_n 1 dX6_of_0 rfl rfl ?_
  refine zw_iload_n 2 dX6_of_1 rfl rfl ?_
  refine zw_callV 5 _ _ dX6_of_2 rfl kX6_197 qX6_isSeat ly217 ⟨_, rfl, rfl⟩ (by decide) (sp_X6_isSeat (d := d - 1) (by omega) (by omega) (by omega)) (by omega) rfl rfl (Nat.le_of_ble_eq_true rfl) (fun r σ' hq => ?_)
  obtain ⟨rfl, rfl⟩ := hq
  refine zw_if_eq 20 8 dX6_of_5 (by decide) rfl (by omega) (fun h5 => ?_) (fun h5 => ?_)
  · refine zw_aload_n 21 dX6_of_20 rfl rfl ?_
    refine zw_callV 24 _ _ dX6_of_21 rfl kX6_200 qX6_badTen ly217 ⟨_, rfl, rfl⟩ (by decide) (sp_X6_badTen (d := d - 1) (by omega)) (by omega) rfl rfl (Nat.le_of_ble_eq_true rfl) (fun r σ' hq => ?_)
    obtain ⟨rfl, rfl⟩ := hq
    refine zw_iret dX6_of_24 rfl ?_
    first | exact zAn_f (by omega) | exact zAn_t (by omega) (by omega) (zNS_refl _)
  · refine zw_iload_n 9 dX6_of_8 rfl rfl ?_
    refine zw_i2l 10 dX6_of_9 rfl (by omega) ?_
    refine zw_lconst 11 0 dX6_of_10 rfl (by decide) ?_
    refine zw_ldc2 14 (3) dX6_of_11 rfl cX6_90 ?_
    refine zw_callS 17 _ _ dX6_of_14 rfl kX6_86 qX6_in (sp_X6_in (d := d - 1) (by omega) (by omega) (by omega)) (by omega) rfl rfl (Nat.le_of_ble_eq_true rfl) (fun r σ' hq => ?_)
    obtain ⟨rfl, rfl⟩ := hq
    refine zw_if_ne 25 20 dX6_of_17 (by decide) rfl (by omega) (fun h17 => ?_) (fun h17 => ?_)
    · refine zw_iload_n 26 dX6_of_25 rfl rfl ?_
      refine zw_if_ne 41 29 dX6_of_26 (by decide) rfl (by omega) (fun h26 => ?_) (fun h26 => ?_)
      · refine zw_iload_n 42 dX6_of_41 rfl rfl ?_
        refine zw_iconst 43 dX6_of_42 rfl ?_
        refine zw_icmp_ne 58 46 dX6_of_43 (by decide) rfl (by omega) (by omega) (fun h43 => ?_) (fun h43 => ?_)
        · refine zw_iload_n 59 dX6_of_58 rfl rfl ?_
          refine zw_iconst 60 dX6_of_59 rfl ?_
          refine zw_icmp_ne 75 63 dX6_of_60 (by decide) rfl (by omega) (by omega) (fun h60 => ?_) (fun h60 => ?_)
          · refine zw_aload_n 76 dX6_of_75 rfl rfl ?_
            refine zw_getr 79 (218) (o := 1) dX6_of_76 rfl fX6_7 (by decide) rfl rfl ly217 ?_
            refine zw_iload_n 80 dX6_of_79 rfl rfl ?_
            refine zw_callS 83 _ _ dX6_of_80 rfl kX6_162 qX6_whoOn (sp_X6_whoOn (d := d - 1) ly218 (by decide) (by omega) (fun c h0 h1 => by have := hv.1 c h0 h1; omega)) (by omega) rfl rfl (Nat.le_of_ble_eq_true rfl) (fun r σ' hq => ?_)
            obtain ⟨rfl, rfl⟩ := hq
            refine zw_iret dX6_of_83 rfl ?_
            first | exact zAn_f (by omega) | exact zAn_t (by omega) (by omega) (zNS_refl _)
          · refine zw_aload_n 64 dX6_of_63 rfl rfl ?_
            refine zw_getr 67 (218) (o := 1) dX6_of_64 rfl fX6_7 (by decide) rfl rfl ly217 ?_
            refine zw_bipush 69 dX6_of_67 rfl (by decide) ?_
            refine zw_iload_n 70 dX6_of_69 rfl rfl ?_
            refine zw_iadd 71 dX6_of_70 rfl ?_
            refine zw_iald 72 dX6_of_71 rfl ly218 (by omega) ?_
            refine zw_goto 83 dX6_of_72 (by decide) ?_
            refine zw_iret dX6_of_83 rfl ?_
            first | exact zAn_f (by omega) | exact zAn_t (by omega) (by omega) (zNS_refl _)
        · refine zw_aload_n 47 dX6_of_46 rfl rfl ?_
          refine zw_getr 50 (218) (o := 1) dX6_of_47 rfl fX6_7 (by decide) rfl rfl ly217 ?_
          refine zw_bipush 52 dX6_of_50 rfl (by decide) ?_
          refine zw_iload_n 53 dX6_of_52 rfl rfl ?_
          refine zw_iadd 54 dX6_of_53 rfl ?_
          refine zw_iald 55 dX6_of_54 rfl ly218 (by omega) ?_
          refine zw_goto 83 dX6_of_55 (by decide) ?_
          refine zw_iret dX6_of_83 rfl ?_
          first | exact zAn_f (by omega) | exact zAn_t (by omega) (by omega) (zNS_refl _)
      · refine zw_aload_n 30 dX6_of_29 rfl rfl ?_
        refine zw_getr 33 (218) (o := 1) dX6_of_30 rfl fX6_7 (by decide) rfl rfl ly217 ?_
        refine zw_bipush 35 dX6_of_33 rfl (by decide) ?_
        refine zw_iload_n 36 dX6_of_35 rfl rfl ?_
        refine zw_iadd 37 dX6_of_36 rfl ?_
        refine zw_iald 38 dX6_of_37 rfl ly218 (by omega) ?_
        refine zw_goto 83 dX6_of_38 (by decide) ?_
        refine zw_iret dX6_of_83 rfl ?_
        first | exact zAn_f (by omega) | exact zAn_t (by omega) (by omega) (zNS_refl _)
    · refine zw_aload_n 21 dX6_of_20 rfl rfl ?_
      refine zw_callV 24 _ _ dX6_of_21 rfl kX6_200 qX6_badTen ly217 ⟨_, rfl, rfl⟩ (by decide) (sp_X6_badTen (d := d - 1) (by omega)) (by omega) rfl rfl (Nat.le_of_ble_eq_true rfl) (fun r σ' hq => ?_)
      obtain ⟨rfl, rfl⟩ := hq
      refine zw_iret dX6_of_24 rfl ?_
      first | exact zAn_f (by omega) | exact zAn_t (by omega) (by omega) (zNS_refl _)
theorem sp_X6_about {l : Launch} {d : Nat} {σ : zMem} (hd : 8 ≤ d) {c w : Int} (hc : -2147483648 ≤ c ∧ c < 2147483648) (hw : -2147483648 ≤ w ∧ w < 2147483648) (hV : zVN (σ 218))  : zSp l d mX6_about [.ref 217, .int (zI c), .int (zI w)] σ (zAn 224 ((0 ≤ c ∧ c ≤ σ 218 48 - 1) ∧ 0 ≤ w ∧ w ≤ 4) (if w = 0 then σ 218 (49 + c) else if w = 1 then σ 218 (54 + c) else if w = 2 then σ 218 c else if w = 3 then zdo (σ 218) c else zhv (σ 218 (49 + c)) (σ 218 (54 + c))) 0 (-10) σ) := by
  refine zSp_of oX6_about (Nat.le_of_ble_eq_true rfl) ?_
  show zw l d mX6_about 0 [some (.ref 217), some (.int (zI c)), some (.int (zI w))] [] σ _
  have hs := hV.1
  have hv := hV.2.1
  have hy := hV.2.2.1
  have gN := hs.1
  have gC := hs.2.1
  refine zw_aload_n 1 dX6_about_0 rfl rfl ?_
  refine zw_iload_n 2 dX6_about_1 rfl rfl ?_
  refine zw_callV 5 _ _ dX6_about_2 rfl kX6_194 qX6_isCanon ly217 ⟨_, rfl, rfl⟩ (by decide) (sp_X6_isCanon (d := d - 1) (by omega) (by omega) (by omega)) (by omega) rfl rfl (Nat.le_of_ble_eq_true rfl) (fun r σ' hq => ?_)
  obtain ⟨rfl, rfl⟩ := hq
  refine zw_if_ne 13 8 dX6_about_5 (by decide) rfl (by omega) (fun h5 => ?_) (fun h5 => ?_)
  · refine zw_iload_n 14 dX6_about_13 rfl rfl ?_
    refine zw_sw 108 dX6_about_14 (by decide) (by omega) (fun h14 => ?_) (fun vh14 lh14 uh14 h14 => ?_)
    · refine zw_aload_n 109 dX6_about_108 rfl rfl ?_
      refine zw_callV 112 _ _ dX6_about_109 rfl kX6_200 qX6_badTen ly217 ⟨_, rfl, rfl⟩ (by decide) (sp_X6_badTen (d := d - 1) (by omega)) (by omega) rfl rfl (Nat.le_of_ble_eq_true rfl) (fun r σ' hq => ?_)
      obtain ⟨rfl, rfl⟩ := hq
      refine zw_iret dX6_about_112 rfl ?_
      first | exact zAn_f (by omega) | exact zAn_t (by omega) (by omega) (zNS_refl _)
    · obtain rfl | rfl | rfl | rfl | rfl : vh14 = 0 ∨ vh14 = 1 ∨ vh14 = 2 ∨ vh14 = 3 ∨ vh14 = 4 := by omega
      · refine ⟨48, _, rfl, by decide, ?_⟩
        refine zw_aload_n 49 dX6_about_48 rfl rfl ?_
        refine zw_getr 52 (218) (o := 1) dX6_about_49 rfl fX6_7 (by decide) rfl rfl ly217 ?_
        refine zw_bipush 54 dX6_about_52 rfl (by decide) ?_
        refine zw_iload_n 55 dX6_about_54 rfl rfl ?_
        refine zw_iadd 56 dX6_about_55 rfl ?_
        refine zw_iald 57 dX6_about_56 rfl ly218 (by omega) ?_
        refine zw_iret dX6_about_57 rfl ?_
        first | exact zAn_f (by omega) | exact zAn_t (by omega) (by omega) (zNS_refl _)
      · refine ⟨58, _, rfl, by decide, ?_⟩
        refine zw_aload_n 59 dX6_about_58 rfl rfl ?_
        refine zw_getr 62 (218) (o := 1) dX6_about_59 rfl fX6_7 (by decide) rfl rfl ly217 ?_
        refine zw_bipush 64 dX6_about_62 rfl (by decide) ?_
        refine zw_iload_n 65 dX6_about_64 rfl rfl ?_
        refine zw_iadd 66 dX6_about_65 rfl ?_
        refine zw_iald 67 dX6_about_66 rfl ly218 (by omega) ?_
        refine zw_iret dX6_about_67 rfl ?_
        first | exact zAn_f (by omega) | exact zAn_t (by omega) (by omega) (zNS_refl _)
      · refine ⟨68, _, rfl, by decide, ?_⟩
        refine zw_aload_n 69 dX6_about_68 rfl rfl ?_
        refine zw_getr 72 (218) (o := 1) dX6_about_69 rfl fX6_7 (by decide) rfl rfl ly217 ?_
        refine zw_iconst 73 dX6_about_72 rfl ?_
        refine zw_iload_n 74 dX6_about_73 rfl rfl ?_
        refine zw_iadd0 75 dX6_about_74 rfl ?_
        refine zw_iald 76 dX6_about_75 rfl ly218 (by omega) ?_
        refine zw_iret dX6_about_76 rfl ?_
        first | exact zAn_f (by omega) | exact zAn_t (by omega) (by omega) (zNS_refl _)
      · refine ⟨77, _, rfl, by decide, ?_⟩
        refine zw_aload_n 78 dX6_about_77 rfl rfl ?_
        refine zw_getr 81 (218) (o := 1) dX6_about_78 rfl fX6_7 (by decide) rfl rfl ly217 ?_
        refine zw_iload_n 82 dX6_about_81 rfl rfl ?_
        refine zw_callS 85 _ _ dX6_about_82 rfl kX6_78 qX6_does (sp_X6_does (d := d - 1) ly218 (by decide) (by omega) (fun k h0 h1 => hv.tk2 ⟨by omega, by omega⟩ ⟨h0, h1⟩)) (by omega) rfl rfl (Nat.le_of_ble_eq_true rfl) (fun r σ' hq => ?_)
        obtain ⟨rfl, rfl⟩ := hq
        refine zw_iret dX6_about_85 rfl ?_
        first | exact zAn_f (by omega) | exact zAn_t (by omega) (by omega) (zNS_refl _)
      · refine ⟨86, _, rfl, by decide, ?_⟩
        have gc := hs.c (c := c) (by omega) (by omega)
        refine zw_aload_n 87 dX6_about_86 rfl rfl ?_
        refine zw_getr 90 (218) (o := 1) dX6_about_87 rfl fX6_7 (by decide) rfl rfl ly217 ?_
        refine zw_bipush 92 dX6_about_90 rfl (by decide) ?_
        refine zw_iload_n 93 dX6_about_92 rfl rfl ?_
        refine zw_iadd 94 dX6_about_93 rfl ?_
        refine zw_iald 95 dX6_about_94 rfl ly218 (by omega) ?_
        refine zw_aload_n 96 dX6_about_95 rfl rfl ?_
        refine zw_getr 99 (218) (o := 1) dX6_about_96 rfl fX6_7 (by decide) rfl rfl ly217 ?_
        refine zw_bipush 101 dX6_about_99 rfl (by decide) ?_
        refine zw_iload_n 102 dX6_about_101 rfl rfl ?_
        refine zw_iadd 103 dX6_about_102 rfl ?_
        refine zw_iald 104 dX6_about_103 rfl ly218 (by omega) ?_
        refine zw_callS 107 _ _ dX6_about_104 rfl kX6_72 qX6_heavy (sp_X6_heavy (d := d - 1) (by omega) (by omega)) (by omega) rfl rfl (Nat.le_of_ble_eq_true rfl) (fun r σ' hq => ?_)
        obtain ⟨rfl, rfl⟩ := hq
        refine zw_iret dX6_about_107 rfl ?_
        first | exact zAn_f (by omega) | exact zAn_t (by omega) (by omega) (zNS_refl _)
  · refine zw_aload_n 9 dX6_about_8 rfl rfl ?_
    refine zw_callV 12 _ _ dX6_about_9 rfl kX6_200 qX6_badTen ly217 ⟨_, rfl, rfl⟩ (by decide) (sp_X6_badTen (d := d - 1) (by omega)) (by omega) rfl rfl (Nat.le_of_ble_eq_true rfl) (fun r σ' hq => ?_)
    obtain ⟨rfl, rfl⟩ := hq
    refine zw_iret dX6_about_12 rfl ?_
    first | exact zAn_f (by omega) | exact zAn_t (by omega) (by omega) (zNS_refl _)
theorem sp_X6_taken {l : Launch} {d : Nat} {σ : zMem} (hd : 8 ≤ d) {c t : Int} (hc : -2147483648 ≤ c ∧ c < 2147483648) (ht : -2147483648 ≤ t ∧ t < 2147483648) (hV : zVN (σ 218))  : zSp l d mX6_taken [.ref 217, .int (zI c), .int (zI t)] σ (zAn 224 ((0 ≤ c ∧ c ≤ σ 218 48 - 1) ∧ 0 ≤ t ∧ t ≤ 3) (σ 218 (5 + 4 * c + t)) 0 (-2) σ) := by
  refine zSp_of oX6_taken (Nat.le_of_ble_eq_true rfl) ?_
  show zw l d mX6_taken 0 [some (.ref 217), some (.int (zI c)), some (.int (zI t))] [] σ _
  have hs := hV.1
  have hv := hV.2.1
  have hy := hV.2.2.1
  have gN := hs.1
  have gC := hs.2.1
  refine zw_aload_n 1 dX6_taken_0 rfl rfl ?_
  refine zw_iload_n 2 dX6_taken_1 rfl rfl ?_
  refine zw_callV 5 _ _ dX6_taken_2 rfl kX6_194 qX6_isCanon ly217 ⟨_, rfl, rfl⟩ (by decide) (sp_X6_isCanon (d := d - 1) (by omega) (by omega) (by omega)) (by omega) rfl rfl (Nat.le_of_ble_eq_true rfl) (fun r σ' hq => ?_)
  obtain ⟨rfl, rfl⟩ := hq
  refine zw_if_eq 30 8 dX6_taken_5 (by decide) rfl (by omega) (fun h5 => ?_) (fun h5 => ?_)
  · refine zw_aload_n 31 dX6_taken_30 rfl rfl ?_
    refine zw_callV 34 _ _ dX6_taken_31 rfl kX6_100 qX6_bad ly217 ⟨_, rfl, rfl⟩ (by decide) (sp_X6_bad (d := d - 1) (by omega)) (by omega) rfl rfl (Nat.le_of_ble_eq_true rfl) (fun r σ' hq => ?_)
    obtain ⟨rfl, rfl⟩ := hq
    refine zw_iret dX6_taken_34 rfl ?_
    first | exact zAn_f (by omega) | exact zAn_t (by omega) (by first | rfl | (simp (disch := omega) only [zwa_same, zup_same, zup_ne])) (zNS_refl _)
  · refine zw_iload_n 9 dX6_taken_8 rfl rfl ?_
    refine zw_callS 12 _ _ dX6_taken_9 rfl kX6_94 qX6_isTrait (sp_X6_isTrait (d := d - 1) (by omega) (by omega)) (by omega) rfl rfl (Nat.le_of_ble_eq_true rfl) (fun r σ' hq => ?_)
    obtain ⟨rfl, rfl⟩ := hq
    refine zw_if_eq 30 15 dX6_taken_12 (by decide) rfl (by omega) (fun h12 => ?_) (fun h12 => ?_)
    · refine zw_aload_n 31 dX6_taken_30 rfl rfl ?_
      refine zw_callV 34 _ _ dX6_taken_31 rfl kX6_100 qX6_bad ly217 ⟨_, rfl, rfl⟩ (by decide) (sp_X6_bad (d := d - 1) (by omega)) (by omega) rfl rfl (Nat.le_of_ble_eq_true rfl) (fun r σ' hq => ?_)
      obtain ⟨rfl, rfl⟩ := hq
      refine zw_iret dX6_taken_34 rfl ?_
      first | exact zAn_f (by omega) | exact zAn_t (by omega) (by first | rfl | (simp (disch := omega) only [zwa_same, zup_same, zup_ne])) (zNS_refl _)
    · refine zw_aload_n 16 dX6_taken_15 rfl rfl ?_
      refine zw_getr 19 (218) (o := 1) dX6_taken_16 rfl fX6_7 (by decide) rfl rfl ly217 ?_
      refine zw_iconst 20 dX6_taken_19 rfl ?_
      refine zw_iconst 21 dX6_taken_20 rfl ?_
      refine zw_iload_n 22 dX6_taken_21 rfl rfl ?_
      refine zw_imul 23 dX6_taken_22 rfl ?_
      refine zw_iadd 24 dX6_taken_23 rfl ?_
      refine zw_iload_n 25 dX6_taken_24 rfl rfl ?_
      refine zw_iadd 26 dX6_taken_25 rfl ?_
      refine zw_iald 27 dX6_taken_26 rfl ly218 (by omega) ?_
      refine zw_goto 34 dX6_taken_27 (by decide) ?_
      refine zw_iret dX6_taken_34 rfl ?_
      first | exact zAn_f (by omega) | exact zAn_t (by omega) (by first | rfl | (simp (disch := omega) only [zwa_same, zup_same, zup_ne])) (zNS_refl _)
theorem sp_X6_takes {l : Launch} {d : Nat} {σ : zMem} (hd : 8 ≤ d) {c s : Int} (hc : -2147483648 ≤ c ∧ c < 2147483648) (hs : -2147483648 ≤ s ∧ s < 2147483648) (hV : zVN (σ 218))  : zSp l d mX6_takes [.ref 217, .int (zI c), .int (zI s)] σ (zAn 224 ((0 ≤ c ∧ c ≤ σ 218 48 - 1) ∧ 0 ≤ s ∧ s ≤ σ 218 33 - 1) (ztk (σ 218) (σ 218) c s) 0 (-2) σ) := by
  refine zSp_of oX6_takes (Nat.le_of_ble_eq_true rfl) ?_
  show zw l d mX6_takes 0 [some (.ref 217), some (.int (zI c)), some (.int (zI s))] [] σ _
  have hs := hV.1
  have hv := hV.2.1
  have hy := hV.2.2.1
  have gN := hs.1
  have gC := hs.2.1
  refine zw_aload_n 1 dX6_takes_0 rfl rfl ?_
  refine zw_iload_n 2 dX6_takes_1 rfl rfl ?_
  refine zw_callV 5 _ _ dX6_takes_2 rfl kX6_194 qX6_isCanon ly217 ⟨_, rfl, rfl⟩ (by decide) (sp_X6_isCanon (d := d - 1) (by omega) (by omega) (by omega)) (by omega) rfl rfl (Nat.le_of_ble_eq_true rfl) (fun r σ' hq => ?_)
  obtain ⟨rfl, rfl⟩ := hq
  refine zw_if_eq 29 8 dX6_takes_5 (by decide) rfl (by omega) (fun h5 => ?_) (fun h5 => ?_)
  · refine zw_aload_n 30 dX6_takes_29 rfl rfl ?_
    refine zw_callV 33 _ _ dX6_takes_30 rfl kX6_100 qX6_bad ly217 ⟨_, rfl, rfl⟩ (by decide) (sp_X6_bad (d := d - 1) (by omega)) (by omega) rfl rfl (Nat.le_of_ble_eq_true rfl) (fun r σ' hq => ?_)
    obtain ⟨rfl, rfl⟩ := hq
    refine zw_iret dX6_takes_33 rfl ?_
    first | exact zAn_f (by omega) | exact zAn_t (by omega) (by first | rfl | (simp (disch := omega) only [zwa_same, zup_same, zup_ne])) (zNS_refl _)
  · refine zw_aload_n 9 dX6_takes_8 rfl rfl ?_
    refine zw_iload_n 10 dX6_takes_9 rfl rfl ?_
    refine zw_callV 13 _ _ dX6_takes_10 rfl kX6_197 qX6_isSeat ly217 ⟨_, rfl, rfl⟩ (by decide) (sp_X6_isSeat (d := d - 1) (by omega) (by omega) (by omega)) (by omega) rfl rfl (Nat.le_of_ble_eq_true rfl) (fun r σ' hq => ?_)
    obtain ⟨rfl, rfl⟩ := hq
    refine zw_if_eq 29 16 dX6_takes_13 (by decide) rfl (by omega) (fun h13 => ?_) (fun h13 => ?_)
    · refine zw_aload_n 30 dX6_takes_29 rfl rfl ?_
      refine zw_callV 33 _ _ dX6_takes_30 rfl kX6_100 qX6_bad ly217 ⟨_, rfl, rfl⟩ (by decide) (sp_X6_bad (d := d - 1) (by omega)) (by omega) rfl rfl (Nat.le_of_ble_eq_true rfl) (fun r σ' hq => ?_)
      obtain ⟨rfl, rfl⟩ := hq
      refine zw_iret dX6_takes_33 rfl ?_
      first | exact zAn_f (by omega) | exact zAn_t (by omega) (by first | rfl | (simp (disch := omega) only [zwa_same, zup_same, zup_ne])) (zNS_refl _)
    · refine zw_aload_n 17 dX6_takes_16 rfl rfl ?_
      refine zw_aload_n 18 dX6_takes_17 rfl rfl ?_
      refine zw_getr 21 (218) (o := 1) dX6_takes_18 rfl fX6_7 (by decide) rfl rfl ly217 ?_
      refine zw_iload_n 22 dX6_takes_21 rfl rfl ?_
      refine zw_iload_n 23 dX6_takes_22 rfl rfl ?_
      refine zw_callV 26 _ _ dX6_takes_23 rfl kX6_64 qX6_takesOn ly217 ⟨_, rfl, rfl⟩ (by decide) (sp_X6_takesOn (d := d - 1) (by omega) ly218 (by decide) hs hv (by omega) (by omega) (by omega)) (by omega) rfl rfl (Nat.le_of_ble_eq_true rfl) (fun r σ' hq => ?_)
      obtain ⟨rfl, rfl⟩ := hq
      refine zw_goto 33 dX6_takes_26 (by decide) ?_
      refine zw_iret dX6_takes_33 rfl ?_
      first | exact zAn_f (by omega) | exact zAn_t (by omega) (by first | rfl | (simp (disch := omega) only [zwa_same, zup_same, zup_ne])) (zNS_refl _)
theorem sp_X6_then {l : Launch} {d : Nat} {σ : zMem} (hd : 8 ≤ d) {c t n : Int} (hc : -2147483648 ≤ c ∧ c < 2147483648) (ht : -2147483648 ≤ t ∧ t < 2147483648) (hn : -2147483648 ≤ n ∧ n < 2147483648) (hV : zVN (σ 218))  : zSp l d mX6_then [.ref 217, .int (zI c), .int (zI t), .int (zI n)] σ (zAn 224 ((0 ≤ c ∧ c ≤ σ 218 48 - 1) ∧ (0 ≤ t ∧ t ≤ 3) ∧ 0 ≤ n ∧ n ≤ 60) (zyn (σ 218) n.toNat (σ 218) (5 + 4 * c + t)) 0 (-2) σ) := by
  refine zSp_of oX6_then (Nat.le_of_ble_eq_true rfl) ?_
  show zw l d mX6_then 0 [some (.ref 217), some (.int (zI c)), some (.int (zI t)), some (.int (zI n))] [] σ _
  have hs := hV.1
  have hv := hV.2.1
  have hy := hV.2.2.1
  have gN := hs.1
  have gC := hs.2.1
  refine zw_aload_n 1 dX6_then_0 rfl rfl ?_
  refine zw_iload_n 2 dX6_then_1 rfl rfl ?_
  refine zw_callV 5 _ _ dX6_then_2 rfl kX6_194 qX6_isCanon ly217 ⟨_, rfl, rfl⟩ (by decide) (sp_X6_isCanon (d := d - 1) (by omega) (by omega) (by omega)) (by omega) rfl rfl (Nat.le_of_ble_eq_true rfl) (fun r σ' hq => ?_)
  obtain ⟨rfl, rfl⟩ := hq
  refine zw_if_eq 27 8 dX6_then_5 (by decide) rfl (by omega) (fun h5 => ?_) (fun h5 => ?_)
  · refine zw_aload_n 28 dX6_then_27 rfl rfl ?_
    refine zw_callV 31 _ _ dX6_then_28 rfl kX6_100 qX6_bad ly217 ⟨_, rfl, rfl⟩ (by decide) (sp_X6_bad (d := d - 1) (by omega)) (by omega) rfl rfl (Nat.le_of_ble_eq_true rfl) (fun r σ' hq => ?_)
    obtain ⟨rfl, rfl⟩ := hq
    refine zw_iret dX6_then_31 rfl ?_
    first | exact zAn_f (by omega) | exact zAn_t (by omega) (by rw [zwa_same]; exact (zyn_ag hs hv (zcy_ag (σ 218) (σ 220)).symm _ _ (by omega) (by omega)).symm) (zNS_wa _ _ (by unfold zSk; omega) (by decide) (by decide))
  · refine zw_iload_n 9 dX6_then_8 rfl rfl ?_
    refine zw_callS 12 _ _ dX6_then_9 rfl kX6_94 qX6_isTrait (sp_X6_isTrait (d := d - 1) (by omega) (by omega)) (by omega) rfl rfl (Nat.le_of_ble_eq_true rfl) (fun r σ' hq => ?_)
    obtain ⟨rfl, rfl⟩ := hq
    refine zw_if_eq 27 15 dX6_then_12 (by decide) rfl (by omega) (fun h12 => ?_) (fun h12 => ?_)
    · refine zw_aload_n 28 dX6_then_27 rfl rfl ?_
      refine zw_callV 31 _ _ dX6_then_28 rfl kX6_100 qX6_bad ly217 ⟨_, rfl, rfl⟩ (by decide) (sp_X6_bad (d := d - 1) (by omega)) (by omega) rfl rfl (Nat.le_of_ble_eq_true rfl) (fun r σ' hq => ?_)
      obtain ⟨rfl, rfl⟩ := hq
      refine zw_iret dX6_then_31 rfl ?_
      first | exact zAn_f (by omega) | exact zAn_t (by omega) (by rw [zwa_same]; exact (zyn_ag hs hv (zcy_ag (σ 218) (σ 220)).symm _ _ (by omega) (by omega)).symm) (zNS_wa _ _ (by unfold zSk; omega) (by decide) (by decide))
    · refine zw_iload_n 16 dX6_then_15 rfl rfl ?_
      refine zw_i2l 17 dX6_then_16 rfl (by omega) ?_
      refine zw_lconst 18 0 dX6_then_17 rfl (by decide) ?_
      refine zw_ldc2 21 (60) dX6_then_18 rfl cX6_219 ?_
      refine zw_callS 24 _ _ dX6_then_21 rfl kX6_86 qX6_in (sp_X6_in (d := d - 1) (by omega) (by omega) (by omega)) (by omega) rfl rfl (Nat.le_of_ble_eq_true rfl) (fun r σ' hq => ?_)
      obtain ⟨rfl, rfl⟩ := hq
      refine zw_if_ne 32 27 dX6_then_24 (by decide) rfl (by omega) (fun h24 => ?_) (fun h24 => ?_)
      · refine zw_aload_n 33 dX6_then_32 rfl rfl ?_
        refine zw_iload_n 34 dX6_then_33 rfl rfl ?_
        refine zw_callV 37 _ _ dX6_then_34 rfl kX6_221 qX6_layYears ly217 ⟨_, rfl, rfl⟩ (by decide) (sp_X6_layYears (d := d - 1) (by omega) hs hv (by omega) (by omega)) (by omega) rfl rfl (Nat.le_of_ble_eq_true rfl) (fun r σ' hq => ?_)
        obtain ⟨rfl, rfl⟩ := hq
        refine zw_aload_n 38 dX6_then_37 rfl rfl ?_
        refine zw_getr 41 (220) (o := 3) dX6_then_38 rfl fX6_16 (by decide) rfl rfl ly217 ?_
        refine zw_iconst 42 dX6_then_41 rfl ?_
        refine zw_iconst 43 dX6_then_42 rfl ?_
        refine zw_iload_n 44 dX6_then_43 rfl rfl ?_
        refine zw_imul 45 dX6_then_44 rfl ?_
        refine zw_iadd 46 dX6_then_45 rfl ?_
        refine zw_iload_n 47 dX6_then_46 rfl rfl ?_
        refine zw_iadd 48 dX6_then_47 rfl ?_
        refine zw_iald 49 dX6_then_48 rfl ly220 (by omega) ?_
        refine zw_iret dX6_then_49 rfl ?_
        first | exact zAn_f (by omega) | exact zAn_t (by omega) (by rw [zwa_same]; exact (zyn_ag hs hv (zcy_ag (σ 218) (σ 220)).symm _ _ (by omega) (by omega)).symm) (zNS_wa _ _ (by unfold zSk; omega) (by decide) (by decide))
      · refine zw_aload_n 28 dX6_then_27 rfl rfl ?_
        refine zw_callV 31 _ _ dX6_then_28 rfl kX6_100 qX6_bad ly217 ⟨_, rfl, rfl⟩ (by decide) (sp_X6_bad (d := d - 1) (by omega)) (by omega) rfl rfl (Nat.le_of_ble_eq_true rfl) (fun r σ' hq => ?_)
        obtain ⟨rfl, rfl⟩ := hq
        refine zw_iret dX6_then_31 rfl ?_
        first | exact zAn_f (by omega) | exact zAn_t (by omega) (by rw [zwa_same]; exact (zyn_ag hs hv (zcy_ag (σ 218) (σ 220)).symm _ _ (by omega) (by omega)).symm) (zNS_wa _ _ (by unfold zSk; omega) (by decide) (by decide))
theorem sp_X6_depth {l : Launch} {d : Nat} {σ : zMem} (hd : 8 ≤ d) {s n : Int} (hs : -2147483648 ≤ s ∧ s < 2147483648) (hn : -2147483648 ≤ n ∧ n < 2147483648) (hV : zVN (σ 218))  : zSp l d mX6_depth [.ref 217, .int (zI s), .int (zI n)] σ (zAn 224 ((0 ≤ s ∧ s ≤ σ 218 33 - 1) ∧ 0 ≤ n ∧ n ≤ 60) (zyn (σ 218) n.toNat (σ 218) (25 + s)) 0 (-2) σ) := by
  refine zSp_of oX6_depth (Nat.le_of_ble_eq_true rfl) ?_
  show zw l d mX6_depth 0 [some (.ref 217), some (.int (zI s)), some (.int (zI n))] [] σ _
  have hs := hV.1
  have hv := hV.2.1
  have hy := hV.2.2.1
  have gN := hs.1
  have gC := hs.2.1
  refine zw_aload_n 1 dX6_depth_0 rfl rfl ?_
  refine zw_iload_n 2 dX6_depth_1 rfl rfl ?_
  refine zw_callV 5 _ _ dX6_depth_2 rfl kX6_197 qX6_isSeat ly217 ⟨_, rfl, rfl⟩ (by decide) (sp_X6_isSeat (d := d - 1) (by omega) (by omega) (by omega)) (by omega) rfl rfl (Nat.le_of_ble_eq_true rfl) (fun r σ' hq => ?_)
  obtain ⟨rfl, rfl⟩ := hq
  refine zw_if_eq 20 8 dX6_depth_5 (by decide) rfl (by omega) (fun h5 => ?_) (fun h5 => ?_)
  · refine zw_aload_n 21 dX6_depth_20 rfl rfl ?_
    refine zw_callV 24 _ _ dX6_depth_21 rfl kX6_100 qX6_bad ly217 ⟨_, rfl, rfl⟩ (by decide) (sp_X6_bad (d := d - 1) (by omega)) (by omega) rfl rfl (Nat.le_of_ble_eq_true rfl) (fun r σ' hq => ?_)
    obtain ⟨rfl, rfl⟩ := hq
    refine zw_iret dX6_depth_24 rfl ?_
    first | exact zAn_f (by omega) | exact zAn_t (by omega) (by rw [zwa_same]; exact (zyn_ag hs hv (zcy_ag (σ 218) (σ 220)).symm _ _ (by omega) (by omega)).symm) (zNS_wa _ _ (by unfold zSk; omega) (by decide) (by decide))
  · refine zw_iload_n 9 dX6_depth_8 rfl rfl ?_
    refine zw_i2l 10 dX6_depth_9 rfl (by omega) ?_
    refine zw_lconst 11 0 dX6_depth_10 rfl (by decide) ?_
    refine zw_ldc2 14 (60) dX6_depth_11 rfl cX6_219 ?_
    refine zw_callS 17 _ _ dX6_depth_14 rfl kX6_86 qX6_in (sp_X6_in (d := d - 1) (by omega) (by omega) (by omega)) (by omega) rfl rfl (Nat.le_of_ble_eq_true rfl) (fun r σ' hq => ?_)
    obtain ⟨rfl, rfl⟩ := hq
    refine zw_if_ne 25 20 dX6_depth_17 (by decide) rfl (by omega) (fun h17 => ?_) (fun h17 => ?_)
    · refine zw_aload_n 26 dX6_depth_25 rfl rfl ?_
      refine zw_iload_n 27 dX6_depth_26 rfl rfl ?_
      refine zw_callV 30 _ _ dX6_depth_27 rfl kX6_221 qX6_layYears ly217 ⟨_, rfl, rfl⟩ (by decide) (sp_X6_layYears (d := d - 1) (by omega) hs hv (by omega) (by omega)) (by omega) rfl rfl (Nat.le_of_ble_eq_true rfl) (fun r σ' hq => ?_)
      obtain ⟨rfl, rfl⟩ := hq
      refine zw_aload_n 31 dX6_depth_30 rfl rfl ?_
      refine zw_getr 34 (220) (o := 3) dX6_depth_31 rfl fX6_16 (by decide) rfl rfl ly217 ?_
      refine zw_bipush 36 dX6_depth_34 rfl (by decide) ?_
      refine zw_iload_n 37 dX6_depth_36 rfl rfl ?_
      refine zw_iadd 38 dX6_depth_37 rfl ?_
      refine zw_iald 39 dX6_depth_38 rfl ly220 (by omega) ?_
      refine zw_iret dX6_depth_39 rfl ?_
      first | exact zAn_f (by omega) | exact zAn_t (by omega) (by rw [zwa_same]; exact (zyn_ag hs hv (zcy_ag (σ 218) (σ 220)).symm _ _ (by omega) (by omega)).symm) (zNS_wa _ _ (by unfold zSk; omega) (by decide) (by decide))
    · refine zw_aload_n 21 dX6_depth_20 rfl rfl ?_
      refine zw_callV 24 _ _ dX6_depth_21 rfl kX6_100 qX6_bad ly217 ⟨_, rfl, rfl⟩ (by decide) (sp_X6_bad (d := d - 1) (by omega)) (by omega) rfl rfl (Nat.le_of_ble_eq_true rfl) (fun r σ' hq => ?_)
      obtain ⟨rfl, rfl⟩ := hq
      refine zw_iret dX6_depth_24 rfl ?_
      first | exact zAn_f (by omega) | exact zAn_t (by omega) (by rw [zwa_same]; exact (zyn_ag hs hv (zcy_ag (σ 218) (σ 220)).symm _ _ (by omega) (by omega)).symm) (zNS_wa _ _ (by unfold zSk; omega) (by decide) (by decide))
theorem sp_X6_when {l : Launch} {d : Nat} {σ : zMem} (hd : 8 ≤ d) {c t x : Int} (hc : -2147483648 ≤ c ∧ c < 2147483648) (ht : -2147483648 ≤ t ∧ t < 2147483648) (hx : -2147483648 ≤ x ∧ x < 2147483648) (hV : zVN (σ 218))  : zSp l d mX6_when [.ref 217, .int (zI c), .int (zI t), .int (zI x)] σ (zAn 224 ((0 ≤ c ∧ c ≤ σ 218 48 - 1) ∧ (0 ≤ t ∧ t ≤ 3) ∧ 1 ≤ x ∧ x ≤ 99) (zff (fun n => decide (x ≤ zyn (σ 218) n (σ 218) (5 + 4 * c + t))) 0 61) 0 (-2) σ) := by
  refine zSp_of oX6_when (Nat.le_of_ble_eq_true rfl) ?_
  show zw l d mX6_when 0 [some (.ref 217), some (.int (zI c)), some (.int (zI t)), some (.int (zI x))] [] σ _
  have hs := hV.1
  have hv := hV.2.1
  have hy := hV.2.2.1
  have gN := hs.1
  have gC := hs.2.1
  refine zw_aload_n 1 dX6_when_0 rfl rfl ?_
  refine zw_iload_n 2 dX6_when_1 rfl rfl ?_
  refine zw_callV 5 _ _ dX6_when_2 rfl kX6_194 qX6_isCanon ly217 ⟨_, rfl, rfl⟩ (by decide) (sp_X6_isCanon (d := d - 1) (by omega) (by omega) (by omega)) (by omega) rfl rfl (Nat.le_of_ble_eq_true rfl) (fun r σ' hq => ?_)
  obtain ⟨rfl, rfl⟩ := hq
  refine zw_if_eq 27 8 dX6_when_5 (by decide) rfl (by omega) (fun h5 => ?_) (fun h5 => ?_)
  · refine zw_aload_n 28 dX6_when_27 rfl rfl ?_
    refine zw_callV 31 _ _ dX6_when_28 rfl kX6_100 qX6_bad ly217 ⟨_, rfl, rfl⟩ (by decide) (sp_X6_bad (d := d - 1) (by omega)) (by omega) rfl rfl (Nat.le_of_ble_eq_true rfl) (fun r σ' hq => ?_)
    obtain ⟨rfl, rfl⟩ := hq
    refine zw_iret dX6_when_31 rfl ?_
    first | exact zAn_f (by omega) | exact zAn_t (by omega) (by rw [zwa_same, zwa_ne _ _ (by decide)]; exact zff_congr _ _ (fun k _ _ => by rw [zyn_ag hs hv (zcy_ag (σ 218) (σ 220)).symm k _ (by omega) (by omega)])) (by rw [zwa_twice]; exact (zNS_wa _ _ (by unfold zSk; omega) (by decide) (by decide)))
  · refine zw_iload_n 9 dX6_when_8 rfl rfl ?_
    refine zw_callS 12 _ _ dX6_when_9 rfl kX6_94 qX6_isTrait (sp_X6_isTrait (d := d - 1) (by omega) (by omega)) (by omega) rfl rfl (Nat.le_of_ble_eq_true rfl) (fun r σ' hq => ?_)
    obtain ⟨rfl, rfl⟩ := hq
    refine zw_if_eq 27 15 dX6_when_12 (by decide) rfl (by omega) (fun h12 => ?_) (fun h12 => ?_)
    · refine zw_aload_n 28 dX6_when_27 rfl rfl ?_
      refine zw_callV 31 _ _ dX6_when_28 rfl kX6_100 qX6_bad ly217 ⟨_, rfl, rfl⟩ (by decide) (sp_X6_bad (d := d - 1) (by omega)) (by omega) rfl rfl (Nat.le_of_ble_eq_true rfl) (fun r σ' hq => ?_)
      obtain ⟨rfl, rfl⟩ := hq
      refine zw_iret dX6_when_31 rfl ?_
      first | exact zAn_f (by omega) | exact zAn_t (by omega) (by rw [zwa_same, zwa_ne _ _ (by decide)]; exact zff_congr _ _ (fun k _ _ => by rw [zyn_ag hs hv (zcy_ag (σ 218) (σ 220)).symm k _ (by omega) (by omega)])) (by rw [zwa_twice]; exact (zNS_wa _ _ (by unfold zSk; omega) (by decide) (by decide)))
    · refine zw_iload_n 16 dX6_when_15 rfl rfl ?_
      refine zw_i2l 17 dX6_when_16 rfl (by omega) ?_
      refine zw_lconst 18 1 dX6_when_17 rfl (by decide) ?_
      refine zw_ldc2 21 (99) dX6_when_18 rfl cX6_225 ?_
      refine zw_callS 24 _ _ dX6_when_21 rfl kX6_86 qX6_in (sp_X6_in (d := d - 1) (by omega) (by omega) (by omega)) (by omega) rfl rfl (Nat.le_of_ble_eq_true rfl) (fun r σ' hq => ?_)
      obtain ⟨rfl, rfl⟩ := hq
      refine zw_if_ne 32 27 dX6_when_24 (by decide) rfl (by omega) (fun h24 => ?_) (fun h24 => ?_)
      · refine zw_aload_n 33 dX6_when_32 rfl rfl ?_
        refine zw_callV 36 _ _ dX6_when_33 rfl kX6_216 qX6_layAside ly217 ⟨_, rfl, rfl⟩ (by decide) (sp_X6_layAside (d := d - 1) (by omega)) (by omega) rfl rfl (Nat.le_of_ble_eq_true rfl) (fun r σ' hq => ?_)
        obtain ⟨rfl, rfl⟩ := hq
        refine zw_aload_n 37 dX6_when_36 rfl rfl ?_
        refine zw_iload_n 38 dX6_when_37 rfl rfl ?_
        refine zw_iload_n 39 dX6_when_38 rfl rfl ?_
        refine zw_iload_n 40 dX6_when_39 rfl rfl ?_
        refine zw_callV 43 _ _ dX6_when_40 rfl kX6_227 qX6_untilTaken ly217 ⟨_, rfl, rfl⟩ (by decide) (sp_X6_untilTaken (d := d - 1) (σ := zwa σ 220 (zcy (σ 218) (σ 220) 0 0 33)) (c := c) (t := t) (x := x) (by omega) (by rw [zwa_ne _ _ (by decide)]; exact hs) (by rw [zwa_ne _ _ (by decide), zwa_same]; exact zVr_ag (zcy_ag _ _).symm hv) (by rw [zwa_same, zcy_ag _ _ 32 (by omega) (by omega)]; omega) (by omega) (by omega) (by omega)) (by omega) rfl rfl (Nat.le_of_ble_eq_true rfl) (fun r σ' hq => ?_)
        obtain ⟨rfl, f, rfl⟩ := hq
        refine zw_iret dX6_when_43 rfl ?_
        first | exact zAn_f (by omega) | exact zAn_t (by omega) (by rw [zwa_same, zwa_ne _ _ (by decide)]; exact zff_congr _ _ (fun k _ _ => by rw [zyn_ag hs hv (zcy_ag (σ 218) (σ 220)).symm k _ (by omega) (by omega)])) (by rw [zwa_twice]; exact (zNS_wa _ _ (by unfold zSk; omega) (by decide) (by decide)))
      · refine zw_aload_n 28 dX6_when_27 rfl rfl ?_
        refine zw_callV 31 _ _ dX6_when_28 rfl kX6_100 qX6_bad ly217 ⟨_, rfl, rfl⟩ (by decide) (sp_X6_bad (d := d - 1) (by omega)) (by omega) rfl rfl (Nat.le_of_ble_eq_true rfl) (fun r σ' hq => ?_)
        obtain ⟨rfl, rfl⟩ := hq
        refine zw_iret dX6_when_31 rfl ?_
        first | exact zAn_f (by omega) | exact zAn_t (by omega) (by rw [zwa_same, zwa_ne _ _ (by decide)]; exact zff_congr _ _ (fun k _ _ => by rw [zyn_ag hs hv (zcy_ag (σ 218) (σ 220)).symm k _ (by omega) (by omega)])) (by rw [zwa_twice]; exact (zNS_wa _ _ (by unfold zSk; omega) (by decide) (by decide)))
theorem sp_X6_wish {l : Launch} {d : Nat} {σ : zMem} (hd : 8 ≤ d) {c t x : Int} (hc : -2147483648 ≤ c ∧ c < 2147483648) (ht : -2147483648 ≤ t ∧ t < 2147483648) (hx : -2147483648 ≤ x ∧ x < 2147483648) (hV : zVN (σ 218))  : zSp l d mX6_wish [.ref 217, .int (zI c), .int (zI t), .int (zI x)] σ (zA3 ((0 ≤ c ∧ c ≤ σ 218 48 - 1) ∧ (0 ≤ t ∧ t ≤ 3) ∧ 0 ≤ x ∧ x ≤ 99) (σ 218 59 = 6) σ 224 0 (-2) 2 (-4) (σ 218 59 + 1) (fun σ' => zwa σ 218 (zwN (σ 218) c t x) = σ')) := by
  refine zSp_of oX6_wish (Nat.le_of_ble_eq_true rfl) ?_
  show zw l d mX6_wish 0 [some (.ref 217), some (.int (zI c)), some (.int (zI t)), some (.int (zI x)), none] [] σ _
  have hs := hV.1
  have hv := hV.2.1
  have hy := hV.2.2.1
  have gN := hs.1
  have gC := hs.2.1
  have gW := hV.2.2.2.1.1
  refine zw_aload_n 1 dX6_wish_0 rfl rfl ?_
  refine zw_iload_n 2 dX6_wish_1 rfl rfl ?_
  refine zw_callV 5 _ _ dX6_wish_2 rfl kX6_194 qX6_isCanon ly217 ⟨_, rfl, rfl⟩ (by decide) (sp_X6_isCanon (d := d - 1) (by omega) (by omega) (by omega)) (by omega) rfl rfl (Nat.le_of_ble_eq_true rfl) (fun r σ' hq => ?_)
  obtain ⟨rfl, rfl⟩ := hq
  refine zw_if_eq 27 8 dX6_wish_5 (by decide) rfl (by omega) (fun h5 => ?_) (fun h5 => ?_)
  · refine zw_aload_n 28 dX6_wish_27 rfl rfl ?_
    refine zw_callV 31 _ _ dX6_wish_28 rfl kX6_100 qX6_bad ly217 ⟨_, rfl, rfl⟩ (by decide) (sp_X6_bad (d := d - 1) (by omega)) (by omega) rfl rfl (Nat.le_of_ble_eq_true rfl) (fun r σ' hq => ?_)
    obtain ⟨rfl, rfl⟩ := hq
    refine zw_iret dX6_wish_31 rfl ?_
    first | exact zA3_bad (by omega) | exact zA3_full (by omega) (by omega) | exact zA3_ok (by omega) (by omega) (by first | rfl | (simp (disch := omega) only [zwa_same, zup_same, zup_ne])) rfl
  · refine zw_iload_n 9 dX6_wish_8 rfl rfl ?_
    refine zw_callS 12 _ _ dX6_wish_9 rfl kX6_94 qX6_isTrait (sp_X6_isTrait (d := d - 1) (by omega) (by omega)) (by omega) rfl rfl (Nat.le_of_ble_eq_true rfl) (fun r σ' hq => ?_)
    obtain ⟨rfl, rfl⟩ := hq
    refine zw_if_eq 27 15 dX6_wish_12 (by decide) rfl (by omega) (fun h12 => ?_) (fun h12 => ?_)
    · refine zw_aload_n 28 dX6_wish_27 rfl rfl ?_
      refine zw_callV 31 _ _ dX6_wish_28 rfl kX6_100 qX6_bad ly217 ⟨_, rfl, rfl⟩ (by decide) (sp_X6_bad (d := d - 1) (by omega)) (by omega) rfl rfl (Nat.le_of_ble_eq_true rfl) (fun r σ' hq => ?_)
      obtain ⟨rfl, rfl⟩ := hq
      refine zw_iret dX6_wish_31 rfl ?_
      first | exact zA3_bad (by omega) | exact zA3_full (by omega) (by omega) | exact zA3_ok (by omega) (by omega) (by first | rfl | (simp (disch := omega) only [zwa_same, zup_same, zup_ne])) rfl
    · refine zw_iload_n 16 dX6_wish_15 rfl rfl ?_
      refine zw_i2l 17 dX6_wish_16 rfl (by omega) ?_
      refine zw_lconst 18 0 dX6_wish_17 rfl (by decide) ?_
      refine zw_ldc2 21 (99) dX6_wish_18 rfl cX6_225 ?_
      refine zw_callS 24 _ _ dX6_wish_21 rfl kX6_86 qX6_in (sp_X6_in (d := d - 1) (by omega) (by omega) (by omega)) (by omega) rfl rfl (Nat.le_of_ble_eq_true rfl) (fun r σ' hq => ?_)
      obtain ⟨rfl, rfl⟩ := hq
      refine zw_if_ne 32 27 dX6_wish_24 (by decide) rfl (by omega) (fun h24 => ?_) (fun h24 => ?_)
      · refine zw_aload_n 33 dX6_wish_32 rfl rfl ?_
        refine zw_getr 36 (218) (o := 1) dX6_wish_33 rfl fX6_7 (by decide) rfl rfl ly217 ?_
        refine zw_bipush 38 dX6_wish_36 rfl (by decide) ?_
        refine zw_iald 39 dX6_wish_38 rfl ly218 (by omega) ?_
        refine zw_bipush 41 dX6_wish_39 rfl (by decide) ?_
        refine zw_icmp_ne 52 44 dX6_wish_41 (by decide) rfl (by omega) (by omega) (fun h41 => ?_) (fun h41 => ?_)
        · refine zw_bipush 54 dX6_wish_52 rfl (by decide) ?_
          refine zw_iconst 55 dX6_wish_54 rfl ?_
          refine zw_aload_n 56 dX6_wish_55 rfl rfl ?_
          refine zw_getr 59 (218) (o := 1) dX6_wish_56 rfl fX6_7 (by decide) rfl rfl ly217 ?_
          refine zw_bipush 61 dX6_wish_59 rfl (by decide) ?_
          refine zw_iald 62 dX6_wish_61 rfl ly218 (by omega) ?_
          refine zw_imul 63 dX6_wish_62 rfl ?_
          refine zw_iadd 64 dX6_wish_63 rfl ?_
          refine zw_istore 66 dX6_wish_64 rfl (by decide) ?_
          refine zw_aload_n 67 dX6_wish_66 rfl rfl ?_
          refine zw_getr 70 (218) (o := 1) dX6_wish_67 rfl fX6_7 (by decide) rfl rfl ly217 ?_
          refine zw_iload 72 dX6_wish_70 rfl rfl ?_
          refine zw_iload_n 73 dX6_wish_72 rfl rfl ?_
          refine zw_iast 74 dX6_wish_73 rfl ly218 (by omega) ?_
          try simp only [zwr, zwa_same, zwa_twice]
          refine zw_aload_n 75 dX6_wish_74 rfl rfl ?_
          refine zw_getr 78 (218) (o := 1) dX6_wish_75 rfl fX6_7 (by decide) rfl rfl ly217 ?_
          refine zw_iload 80 dX6_wish_78 rfl rfl ?_
          refine zw_iconst 81 dX6_wish_80 rfl ?_
          refine zw_iadd 82 dX6_wish_81 rfl ?_
          refine zw_iload_n 83 dX6_wish_82 rfl rfl ?_
          refine zw_iast 84 dX6_wish_83 rfl ly218 (by omega) ?_
          try simp only [zwr, zwa_same, zwa_twice]
          refine zw_aload_n 85 dX6_wish_84 rfl rfl ?_
          refine zw_getr 88 (218) (o := 1) dX6_wish_85 rfl fX6_7 (by decide) rfl rfl ly217 ?_
          refine zw_iload 90 dX6_wish_88 rfl rfl ?_
          refine zw_iconst 91 dX6_wish_90 rfl ?_
          refine zw_iadd 92 dX6_wish_91 rfl ?_
          refine zw_iload_n 93 dX6_wish_92 rfl rfl ?_
          refine zw_iast 94 dX6_wish_93 rfl ly218 (by omega) ?_
          try simp only [zwr, zwa_same, zwa_twice]
          refine zw_aload_n 95 dX6_wish_94 rfl rfl ?_
          refine zw_getr 98 (218) (o := 1) dX6_wish_95 rfl fX6_7 (by decide) rfl rfl ly217 ?_
          refine zw_bipush 100 dX6_wish_98 rfl (by decide) ?_
          refine zw_dup2_11 101 dX6_wish_100 rfl rfl rfl ?_
          refine zw_iald 102 dX6_wish_101 rfl ly218 (by omega) ?_
          refine zw_iconst 103 dX6_wish_102 rfl ?_
          refine zw_iadd 104 dX6_wish_103 rfl ?_
          refine zw_iast 105 dX6_wish_104 rfl ly218 (by omega) ?_
          try simp only [zwr, zwa_same, zwa_twice]
          refine zw_aload_n 106 dX6_wish_105 rfl rfl ?_
          refine zw_getr 109 (218) (o := 1) dX6_wish_106 rfl fX6_7 (by decide) rfl rfl ly217 ?_
          refine zw_bipush 111 dX6_wish_109 rfl (by decide) ?_
          refine zw_iald 112 dX6_wish_111 rfl ly218 (by omega) ?_
          refine zw_iret dX6_wish_112 rfl ?_
          first | exact zA3_bad (by omega) | exact zA3_full (by omega) (by omega) | exact zA3_ok (by omega) (by omega) (by first | rfl | (simp (disch := omega) only [zwa_same, zup_same, zup_ne])) rfl
        · refine zw_aload_n 45 dX6_wish_44 rfl rfl ?_
          refine zw_iconst 46 dX6_wish_45 rfl ?_
          refine zw_bipush 48 dX6_wish_46 rfl (by decide) ?_
          refine zw_callV 51 _ _ dX6_wish_48 rfl kX6_52 qX6_refused ly217 ⟨_, rfl, rfl⟩ (by decide) (sp_X6_refused (d := d - 1) (by omega)) (by omega) rfl rfl (Nat.le_of_ble_eq_true rfl) (fun r σ' hq => ?_)
          obtain ⟨rfl, rfl⟩ := hq
          refine zw_iret dX6_wish_51 rfl ?_
          first | exact zA3_bad (by omega) | exact zA3_full (by omega) (by omega) | exact zA3_ok (by omega) (by omega) (by first | rfl | (simp (disch := omega) only [zwa_same, zup_same, zup_ne])) rfl
      · refine zw_aload_n 28 dX6_wish_27 rfl rfl ?_
        refine zw_callV 31 _ _ dX6_wish_28 rfl kX6_100 qX6_bad ly217 ⟨_, rfl, rfl⟩ (by decide) (sp_X6_bad (d := d - 1) (by omega)) (by omega) rfl rfl (Nat.le_of_ble_eq_true rfl) (fun r σ' hq => ?_)
        obtain ⟨rfl, rfl⟩ := hq
        refine zw_iret dX6_wish_31 rfl ?_
        first | exact zA3_bad (by omega) | exact zA3_full (by omega) (by omega) | exact zA3_ok (by omega) (by omega) (by first | rfl | (simp (disch := omega) only [zwa_same, zup_same, zup_ne])) rfl
theorem sp_X6_note {l : Launch} {d : Nat} {σ : zMem} (hd : 8 ≤ d) {s dp y h x : Int} (hs : -2147483648 ≤ s ∧ s < 2147483648) (hdp : -2147483648 ≤ dp ∧ dp < 2147483648) (hy : -2147483648 ≤ y ∧ y < 2147483648) (hh : -2147483648 ≤ h ∧ h < 2147483648) (hx : -2147483648 ≤ x ∧ x < 2147483648) (hV : zVN (σ 218))  : zSp l d mX6_note [.ref 217, .int (zI s), .int (zI dp), .int (zI y), .int (zI h), .int (zI x)] σ (zA3 ((0 ≤ s ∧ s ≤ σ 218 33 - 1) ∧ (0 ≤ dp ∧ dp ≤ 40) ∧ (0 ≤ y ∧ y ≤ 99) ∧ (0 ≤ h ∧ h ≤ 99) ∧ 0 ≤ x ∧ x ≤ 40) (σ 218 78 = 6) σ 224 0 (-2) 2 (-4) (σ 218 78 + 1) (fun σ' => zwa σ 218 (znN (σ 218) s dp y h x) = σ')) := by
  refine zSp_of oX6_note (Nat.le_of_ble_eq_true rfl) ?_
  show zw l d mX6_note 0 [some (.ref 217), some (.int (zI s)), some (.int (zI dp)), some (.int (zI y)), some (.int (zI h)), some (.int (zI x)), none] [] σ _
  have hs := hV.1
  have hv := hV.2.1
  have hyy := hV.2.2.1
  have gN := hs.1
  have gC := hs.2.1
  have gW := hV.2.2.2.2.1.1
  refine zw_aload_n 1 dX6_note_0 rfl rfl ?_
  refine zw_iload_n 2 dX6_note_1 rfl rfl ?_
  refine zw_callV 5 _ _ dX6_note_2 rfl kX6_197 qX6_isSeat ly217 ⟨_, rfl, rfl⟩ (by decide) (sp_X6_isSeat (d := d - 1) (by omega) (by omega) (by omega)) (by omega) rfl rfl (Nat.le_of_ble_eq_true rfl) (fun r σ' hq => ?_)
  obtain ⟨rfl, rfl⟩ := hq
  refine zw_if_eq 58 8 dX6_note_5 (by decide) rfl (by omega) (fun h5 => ?_) (fun h5 => ?_)
  · refine zw_aload_n 59 dX6_note_58 rfl rfl ?_
    refine zw_callV 62 _ _ dX6_note_59 rfl kX6_100 qX6_bad ly217 ⟨_, rfl, rfl⟩ (by decide) (sp_X6_bad (d := d - 1) (by omega)) (by omega) rfl rfl (Nat.le_of_ble_eq_true rfl) (fun r σ' hq => ?_)
    obtain ⟨rfl, rfl⟩ := hq
    refine zw_iret dX6_note_62 rfl ?_
    first | exact zA3_bad (by omega) | exact zA3_full (by omega) (by omega) | exact zA3_ok (by omega) (by omega) (by first | rfl | (simp (disch := omega) only [zwa_same, zup_same, zup_ne])) rfl
  · refine zw_iload_n 9 dX6_note_8 rfl rfl ?_
    refine zw_i2l 10 dX6_note_9 rfl (by omega) ?_
    refine zw_lconst 11 0 dX6_note_10 rfl (by decide) ?_
    refine zw_ldc2 14 (40) dX6_note_11 rfl cX6_98 ?_
    refine zw_callS 17 _ _ dX6_note_14 rfl kX6_86 qX6_in (sp_X6_in (d := d - 1) (by omega) (by omega) (by omega)) (by omega) rfl rfl (Nat.le_of_ble_eq_true rfl) (fun r σ' hq => ?_)
    obtain ⟨rfl, rfl⟩ := hq
    refine zw_if_eq 58 20 dX6_note_17 (by decide) rfl (by omega) (fun h17 => ?_) (fun h17 => ?_)
    · refine zw_aload_n 59 dX6_note_58 rfl rfl ?_
      refine zw_callV 62 _ _ dX6_note_59 rfl kX6_100 qX6_bad ly217 ⟨_, rfl, rfl⟩ (by decide) (sp_X6_bad (d := d - 1) (by omega)) (by omega) rfl rfl (Nat.le_of_ble_eq_true rfl) (fun r σ' hq => ?_)
      obtain ⟨rfl, rfl⟩ := hq
      refine zw_iret dX6_note_62 rfl ?_
      first | exact zA3_bad (by omega) | exact zA3_full (by omega) (by omega) | exact zA3_ok (by omega) (by omega) (by first | rfl | (simp (disch := omega) only [zwa_same, zup_same, zup_ne])) rfl
    · refine zw_iload_n 21 dX6_note_20 rfl rfl ?_
      refine zw_i2l 22 dX6_note_21 rfl (by omega) ?_
      refine zw_lconst 23 0 dX6_note_22 rfl (by decide) ?_
      refine zw_ldc2 26 (99) dX6_note_23 rfl cX6_225 ?_
      refine zw_callS 29 _ _ dX6_note_26 rfl kX6_86 qX6_in (sp_X6_in (d := d - 1) (by omega) (by omega) (by omega)) (by omega) rfl rfl (Nat.le_of_ble_eq_true rfl) (fun r σ' hq => ?_)
      obtain ⟨rfl, rfl⟩ := hq
      refine zw_if_eq 58 32 dX6_note_29 (by decide) rfl (by omega) (fun h29 => ?_) (fun h29 => ?_)
      · refine zw_aload_n 59 dX6_note_58 rfl rfl ?_
        refine zw_callV 62 _ _ dX6_note_59 rfl kX6_100 qX6_bad ly217 ⟨_, rfl, rfl⟩ (by decide) (sp_X6_bad (d := d - 1) (by omega)) (by omega) rfl rfl (Nat.le_of_ble_eq_true rfl) (fun r σ' hq => ?_)
        obtain ⟨rfl, rfl⟩ := hq
        refine zw_iret dX6_note_62 rfl ?_
        first | exact zA3_bad (by omega) | exact zA3_full (by omega) (by omega) | exact zA3_ok (by omega) (by omega) (by first | rfl | (simp (disch := omega) only [zwa_same, zup_same, zup_ne])) rfl
      · refine zw_iload 34 dX6_note_32 rfl rfl ?_
        refine zw_i2l 35 dX6_note_34 rfl (by omega) ?_
        refine zw_lconst 36 0 dX6_note_35 rfl (by decide) ?_
        refine zw_ldc2 39 (99) dX6_note_36 rfl cX6_225 ?_
        refine zw_callS 42 _ _ dX6_note_39 rfl kX6_86 qX6_in (sp_X6_in (d := d - 1) (by omega) (by omega) (by omega)) (by omega) rfl rfl (Nat.le_of_ble_eq_true rfl) (fun r σ' hq => ?_)
        obtain ⟨rfl, rfl⟩ := hq
        refine zw_if_eq 58 45 dX6_note_42 (by decide) rfl (by omega) (fun h42 => ?_) (fun h42 => ?_)
        · refine zw_aload_n 59 dX6_note_58 rfl rfl ?_
          refine zw_callV 62 _ _ dX6_note_59 rfl kX6_100 qX6_bad ly217 ⟨_, rfl, rfl⟩ (by decide) (sp_X6_bad (d := d - 1) (by omega)) (by omega) rfl rfl (Nat.le_of_ble_eq_true rfl) (fun r σ' hq => ?_)
          obtain ⟨rfl, rfl⟩ := hq
          refine zw_iret dX6_note_62 rfl ?_
          first | exact zA3_bad (by omega) | exact zA3_full (by omega) (by omega) | exact zA3_ok (by omega) (by omega) (by first | rfl | (simp (disch := omega) only [zwa_same, zup_same, zup_ne])) rfl
        · refine zw_iload 47 dX6_note_45 rfl rfl ?_
          refine zw_i2l 48 dX6_note_47 rfl (by omega) ?_
          refine zw_lconst 49 0 dX6_note_48 rfl (by decide) ?_
          refine zw_ldc2 52 (40) dX6_note_49 rfl cX6_98 ?_
          refine zw_callS 55 _ _ dX6_note_52 rfl kX6_86 qX6_in (sp_X6_in (d := d - 1) (by omega) (by omega) (by omega)) (by omega) rfl rfl (Nat.le_of_ble_eq_true rfl) (fun r σ' hq => ?_)
          obtain ⟨rfl, rfl⟩ := hq
          refine zw_if_ne 63 58 dX6_note_55 (by decide) rfl (by omega) (fun h55 => ?_) (fun h55 => ?_)
          · refine zw_aload_n 64 dX6_note_63 rfl rfl ?_
            refine zw_getr 67 (218) (o := 1) dX6_note_64 rfl fX6_7 (by decide) rfl rfl ly217 ?_
            refine zw_bipush 69 dX6_note_67 rfl (by decide) ?_
            refine zw_iald 70 dX6_note_69 rfl ly218 (by omega) ?_
            refine zw_bipush 72 dX6_note_70 rfl (by decide) ?_
            refine zw_icmp_ne 83 75 dX6_note_72 (by decide) rfl (by omega) (by omega) (fun h72 => ?_) (fun h72 => ?_)
            · refine zw_bipush 85 dX6_note_83 rfl (by decide) ?_
              refine zw_iconst 86 dX6_note_85 rfl ?_
              refine zw_aload_n 87 dX6_note_86 rfl rfl ?_
              refine zw_getr 90 (218) (o := 1) dX6_note_87 rfl fX6_7 (by decide) rfl rfl ly217 ?_
              refine zw_bipush 92 dX6_note_90 rfl (by decide) ?_
              refine zw_iald 93 dX6_note_92 rfl ly218 (by omega) ?_
              refine zw_imul 94 dX6_note_93 rfl ?_
              refine zw_iadd 95 dX6_note_94 rfl ?_
              refine zw_istore 97 dX6_note_95 rfl (by decide) ?_
              refine zw_aload_n 98 dX6_note_97 rfl rfl ?_
              refine zw_getr 101 (218) (o := 1) dX6_note_98 rfl fX6_7 (by decide) rfl rfl ly217 ?_
              refine zw_iload 103 dX6_note_101 rfl rfl ?_
              refine zw_iload_n 104 dX6_note_103 rfl rfl ?_
              refine zw_iast 105 dX6_note_104 rfl ly218 (by omega) ?_
              try simp only [zwr, zwa_same, zwa_twice]
              refine zw_aload_n 106 dX6_note_105 rfl rfl ?_
              refine zw_getr 109 (218) (o := 1) dX6_note_106 rfl fX6_7 (by decide) rfl rfl ly217 ?_
              refine zw_iload 111 dX6_note_109 rfl rfl ?_
              refine zw_iconst 112 dX6_note_111 rfl ?_
              refine zw_iadd 113 dX6_note_112 rfl ?_
              refine zw_iload_n 114 dX6_note_113 rfl rfl ?_
              refine zw_iast 115 dX6_note_114 rfl ly218 (by omega) ?_
              try simp only [zwr, zwa_same, zwa_twice]
              refine zw_aload_n 116 dX6_note_115 rfl rfl ?_
              refine zw_getr 119 (218) (o := 1) dX6_note_116 rfl fX6_7 (by decide) rfl rfl ly217 ?_
              refine zw_iload 121 dX6_note_119 rfl rfl ?_
              refine zw_iconst 122 dX6_note_121 rfl ?_
              refine zw_iadd 123 dX6_note_122 rfl ?_
              refine zw_iload_n 124 dX6_note_123 rfl rfl ?_
              refine zw_iast 125 dX6_note_124 rfl ly218 (by omega) ?_
              try simp only [zwr, zwa_same, zwa_twice]
              refine zw_aload_n 126 dX6_note_125 rfl rfl ?_
              refine zw_getr 129 (218) (o := 1) dX6_note_126 rfl fX6_7 (by decide) rfl rfl ly217 ?_
              refine zw_iload 131 dX6_note_129 rfl rfl ?_
              refine zw_iconst 132 dX6_note_131 rfl ?_
              refine zw_iadd 133 dX6_note_132 rfl ?_
              refine zw_iload 135 dX6_note_133 rfl rfl ?_
              refine zw_iast 136 dX6_note_135 rfl ly218 (by omega) ?_
              try simp only [zwr, zwa_same, zwa_twice]
              refine zw_aload_n 137 dX6_note_136 rfl rfl ?_
              refine zw_getr 140 (218) (o := 1) dX6_note_137 rfl fX6_7 (by decide) rfl rfl ly217 ?_
              refine zw_iload 142 dX6_note_140 rfl rfl ?_
              refine zw_iconst 143 dX6_note_142 rfl ?_
              refine zw_iadd 144 dX6_note_143 rfl ?_
              refine zw_iload 146 dX6_note_144 rfl rfl ?_
              refine zw_iast 147 dX6_note_146 rfl ly218 (by omega) ?_
              try simp only [zwr, zwa_same, zwa_twice]
              refine zw_aload_n 148 dX6_note_147 rfl rfl ?_
              refine zw_getr 151 (218) (o := 1) dX6_note_148 rfl fX6_7 (by decide) rfl rfl ly217 ?_
              refine zw_bipush 153 dX6_note_151 rfl (by decide) ?_
              refine zw_dup2_11 154 dX6_note_153 rfl rfl rfl ?_
              refine zw_iald 155 dX6_note_154 rfl ly218 (by omega) ?_
              refine zw_iconst 156 dX6_note_155 rfl ?_
              refine zw_iadd 157 dX6_note_156 rfl ?_
              refine zw_iast 158 dX6_note_157 rfl ly218 (by omega) ?_
              try simp only [zwr, zwa_same, zwa_twice]
              refine zw_aload_n 159 dX6_note_158 rfl rfl ?_
              refine zw_getr 162 (218) (o := 1) dX6_note_159 rfl fX6_7 (by decide) rfl rfl ly217 ?_
              refine zw_bipush 164 dX6_note_162 rfl (by decide) ?_
              refine zw_iald 165 dX6_note_164 rfl ly218 (by omega) ?_
              refine zw_iret dX6_note_165 rfl ?_
              first | exact zA3_bad (by omega) | exact zA3_full (by omega) (by omega) | exact zA3_ok (by omega) (by omega) (by first | rfl | (simp (disch := omega) only [zwa_same, zup_same, zup_ne])) rfl
            · refine zw_aload_n 76 dX6_note_75 rfl rfl ?_
              refine zw_iconst 77 dX6_note_76 rfl ?_
              refine zw_bipush 79 dX6_note_77 rfl (by decide) ?_
              refine zw_callV 82 _ _ dX6_note_79 rfl kX6_52 qX6_refused ly217 ⟨_, rfl, rfl⟩ (by decide) (sp_X6_refused (d := d - 1) (by omega)) (by omega) rfl rfl (Nat.le_of_ble_eq_true rfl) (fun r σ' hq => ?_)
              obtain ⟨rfl, rfl⟩ := hq
              refine zw_iret dX6_note_82 rfl ?_
              first | exact zA3_bad (by omega) | exact zA3_full (by omega) (by omega) | exact zA3_ok (by omega) (by omega) (by first | rfl | (simp (disch := omega) only [zwa_same, zup_same, zup_ne])) rfl
          · refine zw_aload_n 59 dX6_note_58 rfl rfl ?_
            refine zw_callV 62 _ _ dX6_note_59 rfl kX6_100 qX6_bad ly217 ⟨_, rfl, rfl⟩ (by decide) (sp_X6_bad (d := d - 1) (by omega)) (by omega) rfl rfl (Nat.le_of_ble_eq_true rfl) (fun r σ' hq => ?_)
            obtain ⟨rfl, rfl⟩ := hq
            refine zw_iret dX6_note_62 rfl ?_
            first | exact zA3_bad (by omega) | exact zA3_full (by omega) (by omega) | exact zA3_ok (by omega) (by omega) (by first | rfl | (simp (disch := omega) only [zwa_same, zup_same, zup_ne])) rfl
theorem sp_X6_mark {l : Launch} {d : Nat} {σ : zMem} (hd : 8 ≤ d) {c g h x : Int} (hc : -2147483648 ≤ c ∧ c < 2147483648) (hg : -2147483648 ≤ g ∧ g < 2147483648) (hh : -2147483648 ≤ h ∧ h < 2147483648) (hx : -2147483648 ≤ x ∧ x < 2147483648) (hV : zVN (σ 218))  : zSp l d mX6_mark [.ref 217, .int (zI c), .int (zI g), .int (zI h), .int (zI x)] σ (zA3 ((0 ≤ c ∧ c ≤ σ 218 48 - 1) ∧ (0 ≤ g ∧ g ≤ 40) ∧ (0 ≤ h ∧ h ≤ 99) ∧ 0 ≤ x ∧ x ≤ 60) (σ 218 109 = 6) σ 224 0 (-2) 2 (-4) (σ 218 109 + 1) (fun σ' => zwa σ 218 (zmN (σ 218) c g h x) = σ')) := by
  refine zSp_of oX6_mark (Nat.le_of_ble_eq_true rfl) ?_
  show zw l d mX6_mark 0 [some (.ref 217), some (.int (zI c)), some (.int (zI g)), some (.int (zI h)), some (.int (zI x)), none] [] σ _
  have hs := hV.1
  have hv := hV.2.1
  have hy := hV.2.2.1
  have gN := hs.1
  have gC := hs.2.1
  have gW := hV.2.2.2.2.2.1.1
  refine zw_aload_n 1 dX6_mark_0 rfl rfl ?_
  refine zw_iload_n 2 dX6_mark_1 rfl rfl ?_
  refine zw_callV 5 _ _ dX6_mark_2 rfl kX6_194 qX6_isCanon ly217 ⟨_, rfl, rfl⟩ (by decide) (sp_X6_isCanon (d := d - 1) (by omega) (by omega) (by omega)) (by omega) rfl rfl (Nat.le_of_ble_eq_true rfl) (fun r σ' hq => ?_)
  obtain ⟨rfl, rfl⟩ := hq
  refine zw_if_eq 45 8 dX6_mark_5 (by decide) rfl (by omega) (fun h5 => ?_) (fun h5 => ?_)
  · refine zw_aload_n 46 dX6_mark_45 rfl rfl ?_
    refine zw_callV 49 _ _ dX6_mark_46 rfl kX6_100 qX6_bad ly217 ⟨_, rfl, rfl⟩ (by decide) (sp_X6_bad (d := d - 1) (by omega)) (by omega) rfl rfl (Nat.le_of_ble_eq_true rfl) (fun r σ' hq => ?_)
    obtain ⟨rfl, rfl⟩ := hq
    refine zw_iret dX6_mark_49 rfl ?_
    first | exact zA3_bad (by omega) | exact zA3_full (by omega) (by omega) | exact zA3_ok (by omega) (by omega) (by first | rfl | (simp (disch := omega) only [zwa_same, zup_same, zup_ne])) rfl
  · refine zw_iload_n 9 dX6_mark_8 rfl rfl ?_
    refine zw_i2l 10 dX6_mark_9 rfl (by omega) ?_
    refine zw_lconst 11 0 dX6_mark_10 rfl (by decide) ?_
    refine zw_ldc2 14 (40) dX6_mark_11 rfl cX6_98 ?_
    refine zw_callS 17 _ _ dX6_mark_14 rfl kX6_86 qX6_in (sp_X6_in (d := d - 1) (by omega) (by omega) (by omega)) (by omega) rfl rfl (Nat.le_of_ble_eq_true rfl) (fun r σ' hq => ?_)
    obtain ⟨rfl, rfl⟩ := hq
    refine zw_if_eq 45 20 dX6_mark_17 (by decide) rfl (by omega) (fun h17 => ?_) (fun h17 => ?_)
    · refine zw_aload_n 46 dX6_mark_45 rfl rfl ?_
      refine zw_callV 49 _ _ dX6_mark_46 rfl kX6_100 qX6_bad ly217 ⟨_, rfl, rfl⟩ (by decide) (sp_X6_bad (d := d - 1) (by omega)) (by omega) rfl rfl (Nat.le_of_ble_eq_true rfl) (fun r σ' hq => ?_)
      obtain ⟨rfl, rfl⟩ := hq
      refine zw_iret dX6_mark_49 rfl ?_
      first | exact zA3_bad (by omega) | exact zA3_full (by omega) (by omega) | exact zA3_ok (by omega) (by omega) (by first | rfl | (simp (disch := omega) only [zwa_same, zup_same, zup_ne])) rfl
    · refine zw_iload_n 21 dX6_mark_20 rfl rfl ?_
      refine zw_i2l 22 dX6_mark_21 rfl (by omega) ?_
      refine zw_lconst 23 0 dX6_mark_22 rfl (by decide) ?_
      refine zw_ldc2 26 (99) dX6_mark_23 rfl cX6_225 ?_
      refine zw_callS 29 _ _ dX6_mark_26 rfl kX6_86 qX6_in (sp_X6_in (d := d - 1) (by omega) (by omega) (by omega)) (by omega) rfl rfl (Nat.le_of_ble_eq_true rfl) (fun r σ' hq => ?_)
      obtain ⟨rfl, rfl⟩ := hq
      refine zw_if_eq 45 32 dX6_mark_29 (by decide) rfl (by omega) (fun h29 => ?_) (fun h29 => ?_)
      · refine zw_aload_n 46 dX6_mark_45 rfl rfl ?_
        refine zw_callV 49 _ _ dX6_mark_46 rfl kX6_100 qX6_bad ly217 ⟨_, rfl, rfl⟩ (by decide) (sp_X6_bad (d := d - 1) (by omega)) (by omega) rfl rfl (Nat.le_of_ble_eq_true rfl) (fun r σ' hq => ?_)
        obtain ⟨rfl, rfl⟩ := hq
        refine zw_iret dX6_mark_49 rfl ?_
        first | exact zA3_bad (by omega) | exact zA3_full (by omega) (by omega) | exact zA3_ok (by omega) (by omega) (by first | rfl | (simp (disch := omega) only [zwa_same, zup_same, zup_ne])) rfl
      · refine zw_iload 34 dX6_mark_32 rfl rfl ?_
        refine zw_i2l 35 dX6_mark_34 rfl (by omega) ?_
        refine zw_lconst 36 0 dX6_mark_35 rfl (by decide) ?_
        refine zw_ldc2 39 (60) dX6_mark_36 rfl cX6_219 ?_
        refine zw_callS 42 _ _ dX6_mark_39 rfl kX6_86 qX6_in (sp_X6_in (d := d - 1) (by omega) (by omega) (by omega)) (by omega) rfl rfl (Nat.le_of_ble_eq_true rfl) (fun r σ' hq => ?_)
        obtain ⟨rfl, rfl⟩ := hq
        refine zw_if_ne 50 45 dX6_mark_42 (by decide) rfl (by omega) (fun h42 => ?_) (fun h42 => ?_)
        · refine zw_aload_n 51 dX6_mark_50 rfl rfl ?_
          refine zw_getr 54 (218) (o := 1) dX6_mark_51 rfl fX6_7 (by decide) rfl rfl ly217 ?_
          refine zw_bipush 56 dX6_mark_54 rfl (by decide) ?_
          refine zw_iald 57 dX6_mark_56 rfl ly218 (by omega) ?_
          refine zw_bipush 59 dX6_mark_57 rfl (by decide) ?_
          refine zw_icmp_ne 70 62 dX6_mark_59 (by decide) rfl (by omega) (by omega) (fun h59 => ?_) (fun h59 => ?_)
          · refine zw_bipush 72 dX6_mark_70 rfl (by decide) ?_
            refine zw_iconst 73 dX6_mark_72 rfl ?_
            refine zw_aload_n 74 dX6_mark_73 rfl rfl ?_
            refine zw_getr 77 (218) (o := 1) dX6_mark_74 rfl fX6_7 (by decide) rfl rfl ly217 ?_
            refine zw_bipush 79 dX6_mark_77 rfl (by decide) ?_
            refine zw_iald 80 dX6_mark_79 rfl ly218 (by omega) ?_
            refine zw_imul 81 dX6_mark_80 rfl ?_
            refine zw_iadd 82 dX6_mark_81 rfl ?_
            refine zw_istore 84 dX6_mark_82 rfl (by decide) ?_
            refine zw_aload_n 85 dX6_mark_84 rfl rfl ?_
            refine zw_getr 88 (218) (o := 1) dX6_mark_85 rfl fX6_7 (by decide) rfl rfl ly217 ?_
            refine zw_iload 90 dX6_mark_88 rfl rfl ?_
            refine zw_iload_n 91 dX6_mark_90 rfl rfl ?_
            refine zw_iast 92 dX6_mark_91 rfl ly218 (by omega) ?_
            try simp only [zwr, zwa_same, zwa_twice]
            refine zw_aload_n 93 dX6_mark_92 rfl rfl ?_
            refine zw_getr 96 (218) (o := 1) dX6_mark_93 rfl fX6_7 (by decide) rfl rfl ly217 ?_
            refine zw_iload 98 dX6_mark_96 rfl rfl ?_
            refine zw_iconst 99 dX6_mark_98 rfl ?_
            refine zw_iadd 100 dX6_mark_99 rfl ?_
            refine zw_iload_n 101 dX6_mark_100 rfl rfl ?_
            refine zw_iast 102 dX6_mark_101 rfl ly218 (by omega) ?_
            try simp only [zwr, zwa_same, zwa_twice]
            refine zw_aload_n 103 dX6_mark_102 rfl rfl ?_
            refine zw_getr 106 (218) (o := 1) dX6_mark_103 rfl fX6_7 (by decide) rfl rfl ly217 ?_
            refine zw_iload 108 dX6_mark_106 rfl rfl ?_
            refine zw_iconst 109 dX6_mark_108 rfl ?_
            refine zw_iadd 110 dX6_mark_109 rfl ?_
            refine zw_iload_n 111 dX6_mark_110 rfl rfl ?_
            refine zw_iast 112 dX6_mark_111 rfl ly218 (by omega) ?_
            try simp only [zwr, zwa_same, zwa_twice]
            refine zw_aload_n 113 dX6_mark_112 rfl rfl ?_
            refine zw_getr 116 (218) (o := 1) dX6_mark_113 rfl fX6_7 (by decide) rfl rfl ly217 ?_
            refine zw_iload 118 dX6_mark_116 rfl rfl ?_
            refine zw_iconst 119 dX6_mark_118 rfl ?_
            refine zw_iadd 120 dX6_mark_119 rfl ?_
            refine zw_iload 122 dX6_mark_120 rfl rfl ?_
            refine zw_iast 123 dX6_mark_122 rfl ly218 (by omega) ?_
            try simp only [zwr, zwa_same, zwa_twice]
            refine zw_aload_n 124 dX6_mark_123 rfl rfl ?_
            refine zw_getr 127 (218) (o := 1) dX6_mark_124 rfl fX6_7 (by decide) rfl rfl ly217 ?_
            refine zw_bipush 129 dX6_mark_127 rfl (by decide) ?_
            refine zw_dup2_11 130 dX6_mark_129 rfl rfl rfl ?_
            refine zw_iald 131 dX6_mark_130 rfl ly218 (by omega) ?_
            refine zw_iconst 132 dX6_mark_131 rfl ?_
            refine zw_iadd 133 dX6_mark_132 rfl ?_
            refine zw_iast 134 dX6_mark_133 rfl ly218 (by omega) ?_
            try simp only [zwr, zwa_same, zwa_twice]
            refine zw_aload_n 135 dX6_mark_134 rfl rfl ?_
            refine zw_getr 138 (218) (o := 1) dX6_mark_135 rfl fX6_7 (by decide) rfl rfl ly217 ?_
            refine zw_bipush 140 dX6_mark_138 rfl (by decide) ?_
            refine zw_iald 141 dX6_mark_140 rfl ly218 (by omega) ?_
            refine zw_iret dX6_mark_141 rfl ?_
            first | exact zA3_bad (by omega) | exact zA3_full (by omega) (by omega) | exact zA3_ok (by omega) (by omega) (by first | rfl | (simp (disch := omega) only [zwa_same, zup_same, zup_ne])) rfl
          · refine zw_aload_n 63 dX6_mark_62 rfl rfl ?_
            refine zw_iconst 64 dX6_mark_63 rfl ?_
            refine zw_bipush 66 dX6_mark_64 rfl (by decide) ?_
            refine zw_callV 69 _ _ dX6_mark_66 rfl kX6_52 qX6_refused ly217 ⟨_, rfl, rfl⟩ (by decide) (sp_X6_refused (d := d - 1) (by omega)) (by omega) rfl rfl (Nat.le_of_ble_eq_true rfl) (fun r σ' hq => ?_)
            obtain ⟨rfl, rfl⟩ := hq
            refine zw_iret dX6_mark_69 rfl ?_
            first | exact zA3_bad (by omega) | exact zA3_full (by omega) (by omega) | exact zA3_ok (by omega) (by omega) (by first | rfl | (simp (disch := omega) only [zwa_same, zup_same, zup_ne])) rfl
        · refine zw_aload_n 46 dX6_mark_45 rfl rfl ?_
          refine zw_callV 49 _ _ dX6_mark_46 rfl kX6_100 qX6_bad ly217 ⟨_, rfl, rfl⟩ (by decide) (sp_X6_bad (d := d - 1) (by omega)) (by omega) rfl rfl (Nat.le_of_ble_eq_true rfl) (fun r σ' hq => ?_)
          obtain ⟨rfl, rfl⟩ := hq
          refine zw_iret dX6_mark_49 rfl ?_
          first | exact zA3_bad (by omega) | exact zA3_full (by omega) (by omega) | exact zA3_ok (by omega) (by omega) (by first | rfl | (simp (disch := omega) only [zwa_same, zup_same, zup_ne])) rfl
theorem sp_X6_forget {l : Launch} {d : Nat} {σ : zMem} (hd : 8 ≤ d) {w : Int} (hw : -2147483648 ≤ w ∧ w < 2147483648) (hV : zVN (σ 218))  : zSp l d mX6_forget [.ref 217, .int (zI w)] σ (zA3 (0 ≤ w ∧ w ≤ 2) False σ 224 0 (-2) 2 (-4) (σ 218 (if w = 0 then 59 else if w = 1 then 78 else 109)) (fun σ' => zwa σ 218 (zup (σ 218) (if w = 0 then 59 else if w = 1 then 78 else 109) 0) = σ')) := by
  refine zSp_of oX6_forget (Nat.le_of_ble_eq_true rfl) ?_
  show zw l d mX6_forget 0 [some (.ref 217), some (.int (zI w)), none, none] [] σ _
  have hs := hV.1
  have hv := hV.2.1
  have hy := hV.2.2.1
  have gN := hs.1
  have gC := hs.2.1
  refine zw_iload_n 1 dX6_forget_0 rfl rfl ?_
  refine zw_i2l 2 dX6_forget_1 rfl (by omega) ?_
  refine zw_lconst 3 0 dX6_forget_2 rfl (by decide) ?_
  refine zw_ldc2 6 (2) dX6_forget_3 rfl cX6_254 ?_
  refine zw_callS 9 _ _ dX6_forget_6 rfl kX6_86 qX6_in (sp_X6_in (d := d - 1) (by omega) (by omega) (by omega)) (by omega) rfl rfl (Nat.le_of_ble_eq_true rfl) (fun r σ' hq => ?_)
  obtain ⟨rfl, rfl⟩ := hq
  refine zw_if_ne 17 12 dX6_forget_9 (by decide) rfl (by omega) (fun h9 => ?_) (fun h9 => ?_)
  · refine zw_iload_n 18 dX6_forget_17 rfl rfl ?_
    refine zw_if_ne 26 21 dX6_forget_18 (by decide) rfl (by omega) (fun h18 => ?_) (fun h18 => ?_)
    · refine zw_iload_n 27 dX6_forget_26 rfl rfl ?_
      refine zw_iconst 28 dX6_forget_27 rfl ?_
      refine zw_icmp_ne 36 31 dX6_forget_28 (by decide) rfl (by omega) (by omega) (fun h28 => ?_) (fun h28 => ?_)
      · refine zw_bipush 38 dX6_forget_36 rfl (by decide) ?_
        refine zw_istore_n 39 dX6_forget_38 rfl (by decide) ?_
        refine zw_aload_n 40 dX6_forget_39 rfl rfl ?_
        refine zw_getr 43 (218) (o := 1) dX6_forget_40 rfl fX6_7 (by decide) rfl rfl ly217 ?_
        refine zw_iload_n 44 dX6_forget_43 rfl rfl ?_
        refine zw_iald 45 dX6_forget_44 rfl ly218 (by omega) ?_
        refine zw_istore_n 46 dX6_forget_45 rfl (by decide) ?_
        refine zw_aload_n 47 dX6_forget_46 rfl rfl ?_
        refine zw_getr 50 (218) (o := 1) dX6_forget_47 rfl fX6_7 (by decide) rfl rfl ly217 ?_
        refine zw_iload_n 51 dX6_forget_50 rfl rfl ?_
        refine zw_iconst 52 dX6_forget_51 rfl ?_
        refine zw_iast 53 dX6_forget_52 rfl ly218 (by omega) ?_
        try simp only [zwr, zwa_same, zwa_twice]
        refine zw_iload_n 54 dX6_forget_53 rfl rfl ?_
        refine zw_iret dX6_forget_54 rfl ?_
        first | exact zA3_bad (by omega) | exact zA3_ok (by omega) (by simp) (by congr 1; omega) (by congr 2; omega)
      · refine zw_bipush 33 dX6_forget_31 rfl (by decide) ?_
        refine zw_goto 38 dX6_forget_33 (by decide) ?_
        refine zw_istore_n 39 dX6_forget_38 rfl (by decide) ?_
        refine zw_aload_n 40 dX6_forget_39 rfl rfl ?_
        refine zw_getr 43 (218) (o := 1) dX6_forget_40 rfl fX6_7 (by decide) rfl rfl ly217 ?_
        refine zw_iload_n 44 dX6_forget_43 rfl rfl ?_
        refine zw_iald 45 dX6_forget_44 rfl ly218 (by omega) ?_
        refine zw_istore_n 46 dX6_forget_45 rfl (by decide) ?_
        refine zw_aload_n 47 dX6_forget_46 rfl rfl ?_
        refine zw_getr 50 (218) (o := 1) dX6_forget_47 rfl fX6_7 (by decide) rfl rfl ly217 ?_
        refine zw_iload_n 51 dX6_forget_50 rfl rfl ?_
        refine zw_iconst 52 dX6_forget_51 rfl ?_
        refine zw_iast 53 dX6_forget_52 rfl ly218 (by omega) ?_
        try simp only [zwr, zwa_same, zwa_twice]
        refine zw_iload_n 54 dX6_forget_53 rfl rfl ?_
        refine zw_iret dX6_forget_54 rfl ?_
        first | exact zA3_bad (by omega) | exact zA3_ok (by omega) (by simp) (by congr 1; omega) (by congr 2; omega)
    · refine zw_bipush 23 dX6_forget_21 rfl (by decide) ?_
      refine zw_goto 38 dX6_forget_23 (by decide) ?_
      refine zw_istore_n 39 dX6_forget_38 rfl (by decide) ?_
      refine zw_aload_n 40 dX6_forget_39 rfl rfl ?_
      refine zw_getr 43 (218) (o := 1) dX6_forget_40 rfl fX6_7 (by decide) rfl rfl ly217 ?_
      refine zw_iload_n 44 dX6_forget_43 rfl rfl ?_
      refine zw_iald 45 dX6_forget_44 rfl ly218 (by omega) ?_
      refine zw_istore_n 46 dX6_forget_45 rfl (by decide) ?_
      refine zw_aload_n 47 dX6_forget_46 rfl rfl ?_
      refine zw_getr 50 (218) (o := 1) dX6_forget_47 rfl fX6_7 (by decide) rfl rfl ly217 ?_
      refine zw_iload_n 51 dX6_forget_50 rfl rfl ?_
      refine zw_iconst 52 dX6_forget_51 rfl ?_
      refine zw_iast 53 dX6_forget_52 rfl ly218 (by omega) ?_
      try simp only [zwr, zwa_same, zwa_twice]
      refine zw_iload_n 54 dX6_forget_53 rfl rfl ?_
      refine zw_iret dX6_forget_54 rfl ?_
      first | exact zA3_bad (by omega) | exact zA3_ok (by omega) (by simp) (by congr 1; omega) (by congr 2; omega)
  · refine zw_aload_n 13 dX6_forget_12 rfl rfl ?_
    refine zw_callV 16 _ _ dX6_forget_13 rfl kX6_100 qX6_bad ly217 ⟨_, rfl, rfl⟩ (by decide) (sp_X6_bad (d := d - 1) (by omega)) (by omega) rfl rfl (Nat.le_of_ble_eq_true rfl) (fun r σ' hq => ?_)
    obtain ⟨rfl, rfl⟩ := hq
    refine zw_iret dX6_forget_16 rfl ?_
    first | exact zA3_bad (by omega) | exact zA3_ok (by omega) (by simp) (by congr 1; omega) (by congr 2; omega)
theorem sp_X6_status {l : Launch} {d : Nat} {σ : zMem} (hd : 8 ≤ d) {w : Int} (hw : -2147483648 ≤ w ∧ w < 2147483648) (hV : zVN (σ 218))  : zSp l d mX6_status [.ref 217, .int (zI w)] σ (zAn 224 (0 ≤ w ∧ w ≤ 2) (σ 224 w) 0 (-1) σ) := by
  refine zSp_of oX6_status (Nat.le_of_ble_eq_true rfl) ?_
  show zw l d mX6_status 0 [some (.ref 217), some (.int (zI w))] [] σ _
  have hs := hV.1
  have hv := hV.2.1
  have hy := hV.2.2.1
  have gN := hs.1
  have gC := hs.2.1
  refine zw_iload_n 1 dX6_status_0 rfl rfl ?_
  refine zw_i2l 2 dX6_status_1 rfl (by omega) ?_
  refine zw_lconst 3 0 dX6_status_2 rfl (by decide) ?_
  refine zw_ldc2 6 (2) dX6_status_3 rfl cX6_254 ?_
  refine zw_callS 9 _ _ dX6_status_6 rfl kX6_86 qX6_in (sp_X6_in (d := d - 1) (by omega) (by omega) (by omega)) (by omega) rfl rfl (Nat.le_of_ble_eq_true rfl) (fun r σ' hq => ?_)
  obtain ⟨rfl, rfl⟩ := hq
  refine zw_if_eq 21 12 dX6_status_9 (by decide) rfl (by omega) (fun h9 => ?_) (fun h9 => ?_)
  · refine zw_aload_n 22 dX6_status_21 rfl rfl ?_
    refine zw_iconst 23 dX6_status_22 rfl ?_
    refine zw_iconst 24 dX6_status_23 rfl ?_
    refine zw_callV 27 _ _ dX6_status_24 rfl kX6_52 qX6_refused ly217 ⟨_, rfl, rfl⟩ (by decide) (sp_X6_refused (d := d - 1) (by omega)) (by omega) rfl rfl (Nat.le_of_ble_eq_true rfl) (fun r σ' hq => ?_)
    obtain ⟨rfl, rfl⟩ := hq
    refine zw_iret dX6_status_27 rfl ?_
    first | exact zAn_f (by omega) | exact zAn_t (by omega) (by first | rfl | (simp (disch := omega) only [zwa_same, zup_same, zup_ne])) (zNS_refl _)
  · refine zw_aload_n 13 dX6_status_12 rfl rfl ?_
    refine zw_getr 16 (224) (o := 7) dX6_status_13 rfl fX6_33 (by decide) rfl rfl ly217 ?_
    refine zw_iload_n 17 dX6_status_16 rfl rfl ?_
    refine zw_iald 18 dX6_status_17 rfl ly224 (by omega) ?_
    refine zw_goto 27 dX6_status_18 (by decide) ?_
    refine zw_iret dX6_status_27 rfl ?_
    first | exact zAn_f (by omega) | exact zAn_t (by omega) (by first | rfl | (simp (disch := omega) only [zwa_same, zup_same, zup_ne])) (zNS_refl _)
