theorem li_X5_seatKinds {l : Launch} {d : Nat} {σ : zMem} {N : zR} (hC : zCh σ 2 N) (hV : zVN N) (hd : 3 ≤ d) {s : Int} (hsx : -2147483648 ≤ s ∧ s < 2147483648) {k n : Int} (hk6 : 0 ≤ k ∧ k < 6) {Q : Option Value → zMem → Prop} (kk : zw l d mX5_seatKinds 104 [some (.ref 1), some (.int (zI s)), some (.ref 15), some (.int (zI n)), some (.int (zI k)), some (.int (zI ((zal (zns N s k) (N 78).toNat)))), none, none] [] σ Q) : ∀ (mm i : Nat), i + mm = (N 78).toNat → zw l d mX5_seatKinds 26 [some (.ref 1), some (.int (zI s)), some (.ref 15), some (.int (zI n)), some (.int (zI k)), some (.int (zI ((zal (zns N s k) i)))), some (.int (zI ((i : Int)))), none] [] σ Q := by
  have hs := hV.1
  have hv := hV.2.1
  have hy := hV.2.2.1
  have hB := zVN_bd hV
  have gN := hs.1
  have gC := hs.2.1
  have c0 : σ 2 0 = N 33 := hC.1.1.1
  have c1 : σ 2 1 = N 48 := hC.1.1.2.1
  have c2 : ∀ s, 0 ≤ s → s < N 33 → σ 3 s = N (34 + s) ∧ σ 4 s = N (41 + s) := hC.1.1.2.2.1
  have c3 : ∀ c, 0 ≤ c → c < N 48 → σ 5 c = N (49 + c) ∧ σ 6 c = N (54 + c) ∧ σ 7 c = zhv (N (49 + c)) (N (54 + c)) := hC.1.1.2.2.2
  have c4 : zSc σ 8 N := hC.1.2.1
  have c41 : ∀ c, 0 ≤ c → c < 5 → σ 9 c = N c := c4.1
  have c42 : ∀ i, 0 ≤ i → i < 20 → σ 10 i = N (5 + i) := c4.2.1
  have c43 : ∀ s, 0 ≤ s → s < 7 → σ 11 s = N (25 + s) := c4.2.2.1
  have c44 : σ 8 0 = N 32 := c4.2.2.2
  have c5 : zRo σ 13 3 59 N := hC.1.2.2.1
  have c6 : zRo σ 15 5 78 N := hC.1.2.2.2.1
  have c7 : zRo σ 17 4 109 N := hC.1.2.2.2.2
  have c8 : σ 2 2 = N 134 := hC.2.1
  have hb5 : ∀ c, 0 ≤ c → c < 5 → -1 ≤ N c ∧ N c < 1000 := fun c h0 h1 => by have := hv.1 c h0 h1; omega
  have gW := hV.2.2.2.2.1
  have gr := hC.1.2.2.2.1
  intro mm
  induction mm with
  | zero =>
    intro i hi
    have e : i = (N 78).toNat := by omega
    rw [e]
    rw [show (((((N 78).toNat) : Nat) : Int)) = N 78 by omega]
    refine zw_iload 28 dX5_seatKinds_26 rfl rfl ?_
    refine zw_aload_n 29 dX5_seatKinds_28 rfl rfl ?_
    refine zw_gti 32 1 dX5_seatKinds_29 rfl fX5_257 (by decide) rfl rfl ly15 ?_
    rw [gr.2.1]
    refine zw_icmp_ge 104 35 dX5_seatKinds_32 (by decide) rfl (by omega) (by omega) (fun h32 => ?_) (fun h32 => ?_)
    · refine zw_loc [true, true, true, true, true, true, false, false] rfl ?_
      exact kk
    · exfalso; omega
  | succ mm ih =>
    intro i hi
    have n0 : σ (15 + 1) (5 * (i : Int) + 0) = N (79 + 5 * i) := by
      rw [gr.2.2 i 0 (by omega) (by omega) (by omega) (by omega)]; congr 1 <;> omega
    have n1 : σ (15 + 1) (5 * (i : Int) + 1) = N (79 + 5 * i + 1) := by
      rw [gr.2.2 i 1 (by omega) (by omega) (by omega) (by omega)]; congr 1 <;> omega
    have n2 : σ (15 + 1) (5 * (i : Int) + 2) = N (79 + 5 * i + 2) := by
      rw [gr.2.2 i 2 (by omega) (by omega) (by omega) (by omega)]; congr 1 <;> omega
    have n3 : σ (15 + 1) (5 * (i : Int) + 3) = N (79 + 5 * i + 3) := by
      rw [gr.2.2 i 3 (by omega) (by omega) (by omega) (by omega)]; congr 1 <;> omega
    have n4 : σ (15 + 1) (5 * (i : Int) + 4) = N (79 + 5 * i + 4) := by
      rw [gr.2.2 i 4 (by omega) (by omega) (by omega) (by omega)]; congr 1 <;> omega
    have gb := gW.2 i (by omega) (by omega)
    have zb := zal_b (zns N s k) i
    have ih2 := ih (i + 1) (by omega)
    rw [show (((i + 1 : Nat) : Int)) = (i : Int) + 1 by omega, show zal (zns N s k) (i + 1) = if zal (zns N s k) i = 1 ∧ (zns N s k) i = 1 then 1 else 0 from rfl] at ih2
    have ef : (zns N s k) i = (if N (79 + 5 * i) ≠ s ∨ zgv k (N (79 + 5 * i + 1)) (N (79 + 5 * i + 3)) (N (79 + 5 * i + 2)) = N (79 + 5 * i + 4) then 1 else 0) := rfl
    have gg := zgv_b (k := k) (d := N (79 + 5 * i + 1)) (h := N (79 + 5 * i + 3)) (y := N (79 + 5 * i + 2)) (by omega) (by omega)
    have g33 := hs.1
    refine zw_iload 28 dX5_seatKinds_26 rfl rfl ?_
    refine zw_aload_n 29 dX5_seatKinds_28 rfl rfl ?_
    refine zw_gti 32 1 dX5_seatKinds_29 rfl fX5_257 (by decide) rfl rfl ly15 ?_
    rw [gr.2.1]
    refine zw_icmp_ge 104 35 dX5_seatKinds_32 (by decide) rfl (by omega) (by omega) (fun h32 => ?_) (fun h32 => ?_)
    · exfalso; omega
    · refine zw_iload 37 dX5_seatKinds_35 rfl rfl ?_
      refine zw_aload_n 38 dX5_seatKinds_37 rfl rfl ?_
      refine zw_iload 40 dX5_seatKinds_38 rfl rfl ?_
      refine zw_iconst 41 dX5_seatKinds_40 rfl ?_
      refine zw_callV 44 _ _ dX5_seatKinds_41 rfl kX5_324 qX1_at ly15 ⟨_, rfl, rfl⟩ (by decide) (sp_X1_at (d := d - 1) ly15 (i := (i : Int)) (j := 1) (by omega) (by omega)) (by omega) rfl rfl (Nat.le_of_ble_eq_true rfl) (fun r σ' hq => ?_)
      obtain ⟨rfl, rfl⟩ := hq
      rw [n1]
      refine zw_aload_n 45 dX5_seatKinds_44 rfl rfl ?_
      refine zw_iload 47 dX5_seatKinds_45 rfl rfl ?_
      refine zw_iconst 48 dX5_seatKinds_47 rfl ?_
      refine zw_callV 51 _ _ dX5_seatKinds_48 rfl kX5_324 qX1_at ly15 ⟨_, rfl, rfl⟩ (by decide) (sp_X1_at (d := d - 1) ly15 (i := (i : Int)) (j := 2) (by omega) (by omega)) (by omega) rfl rfl (Nat.le_of_ble_eq_true rfl) (fun r σ' hq => ?_)
      obtain ⟨rfl, rfl⟩ := hq
      rw [n2]
      refine zw_aload_n 52 dX5_seatKinds_51 rfl rfl ?_
      refine zw_iload 54 dX5_seatKinds_52 rfl rfl ?_
      refine zw_iconst 55 dX5_seatKinds_54 rfl ?_
      refine zw_callV 58 _ _ dX5_seatKinds_55 rfl kX5_324 qX1_at ly15 ⟨_, rfl, rfl⟩ (by decide) (sp_X1_at (d := d - 1) ly15 (i := (i : Int)) (j := 3) (by omega) (by omega)) (by omega) rfl rfl (Nat.le_of_ble_eq_true rfl) (fun r σ' hq => ?_)
      obtain ⟨rfl, rfl⟩ := hq
      rw [n3]
      refine zw_callS 61 _ _ dX5_seatKinds_58 rfl kX5_218 qX5_given (sp_X5_given (d := d - 1) (by omega) (k := k) (dd := N (79 + 5 * i + 1)) (y := N (79 + 5 * i + 2)) (h := N (79 + 5 * i + 3)) (by omega) (by omega) (by omega) (by omega)) (by omega) rfl rfl (Nat.le_of_ble_eq_true rfl) (fun r σ' hq => ?_)
      obtain ⟨rfl, rfl⟩ := hq
      refine zw_istore 63 dX5_seatKinds_61 rfl (by decide) ?_
      refine zw_iload 65 dX5_seatKinds_63 rfl rfl ?_
      refine zw_if_eq 95 68 dX5_seatKinds_65 (by decide) rfl (by omega) (fun h65 => ?_) (fun h65 => ?_)
      · refine zw_iconst 96 dX5_seatKinds_95 rfl ?_
        refine zw_istore 98 dX5_seatKinds_96 rfl (by decide) ?_
        refine zw_iinc 101 dX5_seatKinds_98 rfl (by decide) rfl ?_
        refine zw_goto 26 dX5_seatKinds_101 (by decide) ?_
        refine zw_loc [true, true, true, true, true, true, true, false] rfl ?_
        first
          | (rw [if_pos (by rw [ef]; refine ⟨by omega, ?_⟩; rw [if_pos (by omega)])] at ih2; exact ih2)
          | (rw [if_neg (by rw [ef]; intro q; have q2 := q.2; rw [if_neg (by omega)] at q2; omega)] at ih2; exact ih2)
          | (rw [if_neg (fun q => by have := q.1; omega)] at ih2; exact ih2)
      · refine zw_aload_n 69 dX5_seatKinds_68 rfl rfl ?_
        refine zw_iload 71 dX5_seatKinds_69 rfl rfl ?_
        refine zw_iconst 72 dX5_seatKinds_71 rfl ?_
        refine zw_callV 75 _ _ dX5_seatKinds_72 rfl kX5_324 qX1_at ly15 ⟨_, rfl, rfl⟩ (by decide) (sp_X1_at (d := d - 1) ly15 (i := (i : Int)) (j := 0) (by omega) (by omega)) (by omega) rfl rfl (Nat.le_of_ble_eq_true rfl) (fun r σ' hq => ?_)
        obtain ⟨rfl, rfl⟩ := hq
        rw [n0]
        refine zw_iload_n 76 dX5_seatKinds_75 rfl rfl ?_
        refine zw_icmp_ne 91 79 dX5_seatKinds_76 (by decide) rfl (by omega) (by omega) (fun h76 => ?_) (fun h76 => ?_)
        · refine zw_iconst 92 dX5_seatKinds_91 rfl ?_
          refine zw_goto 96 dX5_seatKinds_92 (by decide) ?_
          refine zw_istore 98 dX5_seatKinds_96 rfl (by decide) ?_
          refine zw_iinc 101 dX5_seatKinds_98 rfl (by decide) rfl ?_
          refine zw_goto 26 dX5_seatKinds_101 (by decide) ?_
          refine zw_loc [true, true, true, true, true, true, true, false] rfl ?_
          first
            | (rw [if_pos (by rw [ef]; refine ⟨by omega, ?_⟩; rw [if_pos (by omega)])] at ih2; exact ih2)
            | (rw [if_neg (by rw [ef]; intro q; have q2 := q.2; rw [if_neg (by omega)] at q2; omega)] at ih2; exact ih2)
            | (rw [if_neg (fun q => by have := q.1; omega)] at ih2; exact ih2)
        · refine zw_iload 81 dX5_seatKinds_79 rfl rfl ?_
          refine zw_aload_n 82 dX5_seatKinds_81 rfl rfl ?_
          refine zw_iload 84 dX5_seatKinds_82 rfl rfl ?_
          refine zw_iconst 85 dX5_seatKinds_84 rfl ?_
          refine zw_callV 88 _ _ dX5_seatKinds_85 rfl kX5_324 qX1_at ly15 ⟨_, rfl, rfl⟩ (by decide) (sp_X1_at (d := d - 1) ly15 (i := (i : Int)) (j := 4) (by omega) (by omega)) (by omega) rfl rfl (Nat.le_of_ble_eq_true rfl) (fun r σ' hq => ?_)
          obtain ⟨rfl, rfl⟩ := hq
          rw [n4]
          refine zw_icmp_ne 95 91 dX5_seatKinds_88 (by decide) rfl (by omega) (by omega) (fun h88 => ?_) (fun h88 => ?_)
          · refine zw_iconst 96 dX5_seatKinds_95 rfl ?_
            refine zw_istore 98 dX5_seatKinds_96 rfl (by decide) ?_
            refine zw_iinc 101 dX5_seatKinds_98 rfl (by decide) rfl ?_
            refine zw_goto 26 dX5_seatKinds_101 (by decide) ?_
            refine zw_loc [true, true, true, true, true, true, true, false] rfl ?_
            first
              | (rw [if_pos (by rw [ef]; refine ⟨by omega, ?_⟩; rw [if_pos (by omega)])] at ih2; exact ih2)
              | (rw [if_neg (by rw [ef]; intro q; have q2 := q.2; rw [if_neg (by omega)] at q2; omega)] at ih2; exact ih2)
              | (rw [if_neg (fun q => by have := q.1; omega)] at ih2; exact ih2)
          · refine zw_iconst 92 dX5_seatKinds_91 rfl ?_
            refine zw_goto 96 dX5_seatKinds_92 (by decide) ?_
            refine zw_istore 98 dX5_seatKinds_96 rfl (by decide) ?_
            refine zw_iinc 101 dX5_seatKinds_98 rfl (by decide) rfl ?_
            refine zw_goto 26 dX5_seatKinds_101 (by decide) ?_
            refine zw_loc [true, true, true, true, true, true, true, false] rfl ?_
            first
              | (rw [if_pos (by rw [ef]; refine ⟨by omega, ?_⟩; rw [if_pos (by omega)])] at ih2; exact ih2)
              | (rw [if_neg (by rw [ef]; intro q; have q2 := q.2; rw [if_neg (by omega)] at q2; omega)] at ih2; exact ih2)
              | (rw [if_neg (fun q => by have := q.1; omega)] at ih2; exact ih2)
theorem lo_X5_seatKinds {l : Launch} {d : Nat} {σ : zMem} {N : zR} (hC : zCh σ 2 N) (hV : zVN N) (hd : 3 ≤ d) {s : Int} (hsx : -2147483648 ≤ s ∧ s < 2147483648) : ∀ (mm : Nat) (k n : Int), k + mm = 6 → 0 ≤ k → n = zbi (zks N s) k.toNat → zw l d mX5_seatKinds 13 [some (.ref 1), some (.int (zI s)), some (.ref 15), some (.int (zI n)), some (.int (zI k)), none, none, none] [] σ (zRi (zbi (zks N s) 6) σ) := by
  intro mm
  induction mm with
  | zero =>
    intro k n hk hk0 hn
    obtain rfl : k = 6 := by omega
    refine zw_iload 15 dX5_seatKinds_13 rfl rfl ?_
    refine zw_bipush 17 dX5_seatKinds_15 rfl (by decide) ?_
    refine zw_icmp_ge 126 20 dX5_seatKinds_17 (by decide) rfl (by omega) (by omega) (fun h17 => ?_) (fun h17 => ?_)
    · refine zw_iload_n 127 dX5_seatKinds_126 rfl rfl ?_
      refine zw_iret dX5_seatKinds_127 rfl ?_
      exact zRi_of (by rw [hn]; rfl)
    · exfalso; omega
  | succ mm ih =>
    intro k n hk hk0 hn
    have zb := zal_b (zns N s k) (N 78).toNat
    have b1 := zbi_b (f := (zks N s)) k.toNat (fun k _ _ => zal_b _ _)
    rw [← hn] at b1
    have g3 := z2k (k := k) (by omega)
    have h78 : 0 ≤ N 78 ∧ N 78 ≤ 6 := (hV.2.2.2.2.1).1
    have kk : zw l d mX5_seatKinds 104 [some (.ref 1), some (.int (zI s)), some (.ref 15), some (.int (zI n)), some (.int (zI k)), some (.int (zI ((zal (zns N s k) (N 78).toNat)))), none, none] [] σ (zRi (zbi (zks N s) 6) σ) := by
      refine zw_iload_n 105 dX5_seatKinds_104 rfl rfl ?_
      refine zw_iload 107 dX5_seatKinds_105 rfl rfl ?_
      refine zw_if_eq 117 110 dX5_seatKinds_107 (by decide) rfl (by omega) (fun h107 => ?_) (fun h107 => ?_)
      · refine zw_iconst 118 dX5_seatKinds_117 rfl ?_
        refine zw_ior 119 _ dX5_seatKinds_118 rfl (by first | exact zor_int (k := k) (by omega) b1 (Or.inr rfl) | exact zor_int (k := k) (by omega) b1 (Or.inl rfl)) ?_
        refine zw_istore_n 120 dX5_seatKinds_119 rfl (by decide) ?_
        refine zw_iinc 123 dX5_seatKinds_120 rfl (by decide) rfl ?_
        refine zw_goto 13 dX5_seatKinds_123 (by decide) ?_
        refine zw_loc [true, true, true, true, true, false, false, false] rfl ?_
        first
          | (have e : ¬ zks N s k = 1 := by show ¬ zal (zns N s k) (N 78).toNat = 1; omega
             exact ih (k + 1) _ (by omega) (by omega) (by rw [zbi_s2 _ hk0 (zal_b _ _), ← hn, if_neg e]))
          | (have e : zks N s k = 1 := by show zal (zns N s k) (N 78).toNat = 1; omega
             exact ih (k + 1) _ (by omega) (by omega) (by rw [zbi_s2 _ hk0 (zal_b _ _), ← hn, if_pos e]))
      · refine zw_iconst 111 dX5_seatKinds_110 rfl ?_
        refine zw_iload 113 dX5_seatKinds_111 rfl rfl ?_
        refine zw_ishl 114 _ dX5_seatKinds_113 rfl (zshl_int (by omega)) ?_
        refine zw_goto 118 dX5_seatKinds_114 (by decide) ?_
        refine zw_ior 119 _ dX5_seatKinds_118 rfl (by first | exact zor_int (k := k) (by omega) b1 (Or.inr rfl) | exact zor_int (k := k) (by omega) b1 (Or.inl rfl)) ?_
        refine zw_istore_n 120 dX5_seatKinds_119 rfl (by decide) ?_
        refine zw_iinc 123 dX5_seatKinds_120 rfl (by decide) rfl ?_
        refine zw_goto 13 dX5_seatKinds_123 (by decide) ?_
        refine zw_loc [true, true, true, true, true, false, false, false] rfl ?_
        first
          | (have e : ¬ zks N s k = 1 := by show ¬ zal (zns N s k) (N 78).toNat = 1; omega
             exact ih (k + 1) _ (by omega) (by omega) (by rw [zbi_s2 _ hk0 (zal_b _ _), ← hn, if_neg e]))
          | (have e : zks N s k = 1 := by show zal (zns N s k) (N 78).toNat = 1; omega
             exact ih (k + 1) _ (by omega) (by omega) (by rw [zbi_s2 _ hk0 (zal_b _ _), ← hn, if_pos e]))
    have h2 := li_X5_seatKinds (l := l) hC hV hd hsx (k := k) (n := n) (by omega) kk (N 78).toNat 0 (by omega)
    rw [show zal (zns N s k) 0 = 1 from rfl, show (((0 : Nat) : Int)) = 0 from rfl] at h2
    refine zw_iload 15 dX5_seatKinds_13 rfl rfl ?_
    refine zw_bipush 17 dX5_seatKinds_15 rfl (by decide) ?_
    refine zw_icmp_ge 126 20 dX5_seatKinds_17 (by decide) rfl (by omega) (by omega) (fun h17 => ?_) (fun h17 => ?_)
    · exfalso; omega
    · refine zw_iconst 21 dX5_seatKinds_20 rfl ?_
      refine zw_istore 23 dX5_seatKinds_21 rfl (by decide) ?_
      refine zw_iconst 24 dX5_seatKinds_23 rfl ?_
      refine zw_istore 26 dX5_seatKinds_24 rfl (by decide) ?_
      exact h2
theorem sp_X5_seatKinds {l : Launch} {d : Nat} {σ : zMem} (hd : 3 ≤ d) {N : zR} (hC : zCh σ 2 N) (hV : zVN N) {s : Int} (hsx : -2147483648 ≤ s ∧ s < 2147483648)  : zSp l d mX5_seatKinds [.ref 1, .int (zI s)] σ (zRi (zbi (zks N s) 6) σ) := by
  refine zSp_of oX5_seatKinds (Nat.le_of_ble_eq_true rfl) ?_
  show zw l d mX5_seatKinds 0 [some (.ref 1), some (.int (zI s)), none, none, none, none, none, none] [] σ _
  refine zw_aload_n 1 dX5_seatKinds_0 rfl rfl ?_
  refine zw_getr 4 (2) (o := 1) dX5_seatKinds_1 rfl fX5_10 (by decide) rfl rfl ly1 ?_
  refine zw_getr 7 (15) (o := 13) dX5_seatKinds_4 rfl fX5_251 (by decide) rfl rfl ly2 ?_
  refine zw_astore_n 8 dX5_seatKinds_7 rfl (by decide) ?_
  refine zw_iconst 9 dX5_seatKinds_8 rfl ?_
  refine zw_istore_n 10 dX5_seatKinds_9 rfl (by decide) ?_
  refine zw_iconst 11 dX5_seatKinds_10 rfl ?_
  refine zw_istore 13 dX5_seatKinds_11 rfl (by decide) ?_
  exact lo_X5_seatKinds hC hV hd hsx 6 0 0 (by omega) (by omega) rfl
theorem li_X5_canonKinds {l : Launch} {d : Nat} {σ : zMem} {N : zR} (hC : zCh σ 2 N) (hV : zVN N) (hd : 3 ≤ d) {c : Int} (hsx : -2147483648 ≤ c ∧ c < 2147483648) {k n : Int} (hk6 : 0 ≤ k ∧ k < 6) {Q : Option Value → zMem → Prop} (kk : zw l d mX5_canonKinds 97 [some (.ref 1), some (.int (zI c)), some (.ref 17), some (.int (zI n)), some (.int (zI k)), some (.int (zI ((zal (zms N c k) (N 109).toNat)))), none, none] [] σ Q) : ∀ (mm i : Nat), i + mm = (N 109).toNat → zw l d mX5_canonKinds 26 [some (.ref 1), some (.int (zI c)), some (.ref 17), some (.int (zI n)), some (.int (zI k)), some (.int (zI ((zal (zms N c k) i)))), some (.int (zI ((i : Int)))), none] [] σ Q := by
  have hs := hV.1
  have hv := hV.2.1
  have hy := hV.2.2.1
  have hB := zVN_bd hV
  have gN := hs.1
  have gC := hs.2.1
  have c0 : σ 2 0 = N 33 := hC.1.1.1
  have c1 : σ 2 1 = N 48 := hC.1.1.2.1
  have c2 : ∀ s, 0 ≤ s → s < N 33 → σ 3 s = N (34 + s) ∧ σ 4 s = N (41 + s) := hC.1.1.2.2.1
  have c3 : ∀ c, 0 ≤ c → c < N 48 → σ 5 c = N (49 + c) ∧ σ 6 c = N (54 + c) ∧ σ 7 c = zhv (N (49 + c)) (N (54 + c)) := hC.1.1.2.2.2
  have c4 : zSc σ 8 N := hC.1.2.1
  have c41 : ∀ c, 0 ≤ c → c < 5 → σ 9 c = N c := c4.1
  have c42 : ∀ i, 0 ≤ i → i < 20 → σ 10 i = N (5 + i) := c4.2.1
  have c43 : ∀ s, 0 ≤ s → s < 7 → σ 11 s = N (25 + s) := c4.2.2.1
  have c44 : σ 8 0 = N 32 := c4.2.2.2
  have c5 : zRo σ 13 3 59 N := hC.1.2.2.1
  have c6 : zRo σ 15 5 78 N := hC.1.2.2.2.1
  have c7 : zRo σ 17 4 109 N := hC.1.2.2.2.2
  have c8 : σ 2 2 = N 134 := hC.2.1
  have hb5 : ∀ c, 0 ≤ c → c < 5 → -1 ≤ N c ∧ N c < 1000 := fun c h0 h1 => by have := hv.1 c h0 h1; omega
  have gW := hV.2.2.2.2.2.1
  have gr := hC.1.2.2.2.2
  intro mm
  induction mm with
  | zero =>
    intro i hi
    have e : i = (N 109).toNat := by omega
    rw [e]
    rw [show (((((N 109).toNat) : Nat) : Int)) = N 109 by omega]
    refine zw_iload 28 dX5_canonKinds_26 rfl rfl ?_
    refine zw_aload_n 29 dX5_canonKinds_28 rfl rfl ?_
    refine zw_gti 32 1 dX5_canonKinds_29 rfl fX5_257 (by decide) rfl rfl ly17 ?_
    rw [gr.2.1]
    refine zw_icmp_ge 97 35 dX5_canonKinds_32 (by decide) rfl (by omega) (by omega) (fun h32 => ?_) (fun h32 => ?_)
    · refine zw_loc [true, true, true, true, true, true, false, false] rfl ?_
      exact kk
    · exfalso; omega
  | succ mm ih =>
    intro i hi
    have n0 : σ (17 + 1) (5 * (i : Int) + 0) = N (110 + 4 * i) := by
      rw [gr.2.2 i 0 (by omega) (by omega) (by omega) (by omega)]; congr 1 <;> omega
    have n1 : σ (17 + 1) (5 * (i : Int) + 1) = N (110 + 4 * i + 1) := by
      rw [gr.2.2 i 1 (by omega) (by omega) (by omega) (by omega)]; congr 1 <;> omega
    have n2 : σ (17 + 1) (5 * (i : Int) + 2) = N (110 + 4 * i + 2) := by
      rw [gr.2.2 i 2 (by omega) (by omega) (by omega) (by omega)]; congr 1 <;> omega
    have n3 : σ (17 + 1) (5 * (i : Int) + 3) = N (110 + 4 * i + 3) := by
      rw [gr.2.2 i 3 (by omega) (by omega) (by omega) (by omega)]; congr 1 <;> omega
    have gb := gW.2 i (by omega) (by omega)
    have zb := zal_b (zms N c k) i
    have ih2 := ih (i + 1) (by omega)
    rw [show (((i + 1 : Nat) : Int)) = (i : Int) + 1 by omega, show zal (zms N c k) (i + 1) = if zal (zms N c k) i = 1 ∧ (zms N c k) i = 1 then 1 else 0 from rfl] at ih2
    have ef : (zms N c k) i = (if N (110 + 4 * i) ≠ c ∨ zac k (N (110 + 4 * i + 1)) (N (110 + 4 * i + 2)) = N (110 + 4 * i + 3) then 1 else 0) := rfl
    have gg := zac_b (k := k) (g := N (110 + 4 * i + 1)) (h := N (110 + 4 * i + 2)) (by omega)
    have g33 := hs.2.1
    refine zw_iload 28 dX5_canonKinds_26 rfl rfl ?_
    refine zw_aload_n 29 dX5_canonKinds_28 rfl rfl ?_
    refine zw_gti 32 1 dX5_canonKinds_29 rfl fX5_257 (by decide) rfl rfl ly17 ?_
    rw [gr.2.1]
    refine zw_icmp_ge 97 35 dX5_canonKinds_32 (by decide) rfl (by omega) (by omega) (fun h32 => ?_) (fun h32 => ?_)
    · exfalso; omega
    · refine zw_iload 37 dX5_canonKinds_35 rfl rfl ?_
      refine zw_aload_n 38 dX5_canonKinds_37 rfl rfl ?_
      refine zw_iload 40 dX5_canonKinds_38 rfl rfl ?_
      refine zw_iconst 41 dX5_canonKinds_40 rfl ?_
      refine zw_callV 44 _ _ dX5_canonKinds_41 rfl kX5_324 qX1_at ly17 ⟨_, rfl, rfl⟩ (by decide) (sp_X1_at (d := d - 1) ly17 (i := (i : Int)) (j := 1) (by omega) (by omega)) (by omega) rfl rfl (Nat.le_of_ble_eq_true rfl) (fun r σ' hq => ?_)
      obtain ⟨rfl, rfl⟩ := hq
      rw [n1]
      refine zw_aload_n 45 dX5_canonKinds_44 rfl rfl ?_
      refine zw_iload 47 dX5_canonKinds_45 rfl rfl ?_
      refine zw_iconst 48 dX5_canonKinds_47 rfl ?_
      refine zw_callV 51 _ _ dX5_canonKinds_48 rfl kX5_324 qX1_at ly17 ⟨_, rfl, rfl⟩ (by decide) (sp_X1_at (d := d - 1) ly17 (i := (i : Int)) (j := 2) (by omega) (by omega)) (by omega) rfl rfl (Nat.le_of_ble_eq_true rfl) (fun r σ' hq => ?_)
      obtain ⟨rfl, rfl⟩ := hq
      rw [n2]
      refine zw_callS 54 _ _ dX5_canonKinds_51 rfl kX5_271 qX5_accepted (sp_X5_accepted (d := d - 1) (k := k) (g := N (110 + 4 * i + 1)) (h := N (110 + 4 * i + 2)) (by omega) (by omega) (by omega)) (by omega) rfl rfl (Nat.le_of_ble_eq_true rfl) (fun r σ' hq => ?_)
      obtain ⟨rfl, rfl⟩ := hq
      refine zw_istore 56 dX5_canonKinds_54 rfl (by decide) ?_
      refine zw_iload 58 dX5_canonKinds_56 rfl rfl ?_
      refine zw_if_eq 88 61 dX5_canonKinds_58 (by decide) rfl (by omega) (fun h58 => ?_) (fun h58 => ?_)
      · refine zw_iconst 89 dX5_canonKinds_88 rfl ?_
        refine zw_istore 91 dX5_canonKinds_89 rfl (by decide) ?_
        refine zw_iinc 94 dX5_canonKinds_91 rfl (by decide) rfl ?_
        refine zw_goto 26 dX5_canonKinds_94 (by decide) ?_
        refine zw_loc [true, true, true, true, true, true, true, false] rfl ?_
        first
          | (rw [if_pos (by rw [ef]; refine ⟨by omega, ?_⟩; rw [if_pos (by omega)])] at ih2; exact ih2)
          | (rw [if_neg (by rw [ef]; intro q; have q2 := q.2; rw [if_neg (by omega)] at q2; omega)] at ih2; exact ih2)
          | (rw [if_neg (fun q => by have := q.1; omega)] at ih2; exact ih2)
      · refine zw_aload_n 62 dX5_canonKinds_61 rfl rfl ?_
        refine zw_iload 64 dX5_canonKinds_62 rfl rfl ?_
        refine zw_iconst 65 dX5_canonKinds_64 rfl ?_
        refine zw_callV 68 _ _ dX5_canonKinds_65 rfl kX5_324 qX1_at ly17 ⟨_, rfl, rfl⟩ (by decide) (sp_X1_at (d := d - 1) ly17 (i := (i : Int)) (j := 0) (by omega) (by omega)) (by omega) rfl rfl (Nat.le_of_ble_eq_true rfl) (fun r σ' hq => ?_)
        obtain ⟨rfl, rfl⟩ := hq
        rw [n0]
        refine zw_iload_n 69 dX5_canonKinds_68 rfl rfl ?_
        refine zw_icmp_ne 84 72 dX5_canonKinds_69 (by decide) rfl (by omega) (by omega) (fun h69 => ?_) (fun h69 => ?_)
        · refine zw_iconst 85 dX5_canonKinds_84 rfl ?_
          refine zw_goto 89 dX5_canonKinds_85 (by decide) ?_
          refine zw_istore 91 dX5_canonKinds_89 rfl (by decide) ?_
          refine zw_iinc 94 dX5_canonKinds_91 rfl (by decide) rfl ?_
          refine zw_goto 26 dX5_canonKinds_94 (by decide) ?_
          refine zw_loc [true, true, true, true, true, true, true, false] rfl ?_
          first
            | (rw [if_pos (by rw [ef]; refine ⟨by omega, ?_⟩; rw [if_pos (by omega)])] at ih2; exact ih2)
            | (rw [if_neg (by rw [ef]; intro q; have q2 := q.2; rw [if_neg (by omega)] at q2; omega)] at ih2; exact ih2)
            | (rw [if_neg (fun q => by have := q.1; omega)] at ih2; exact ih2)
        · refine zw_iload 74 dX5_canonKinds_72 rfl rfl ?_
          refine zw_aload_n 75 dX5_canonKinds_74 rfl rfl ?_
          refine zw_iload 77 dX5_canonKinds_75 rfl rfl ?_
          refine zw_iconst 78 dX5_canonKinds_77 rfl ?_
          refine zw_callV 81 _ _ dX5_canonKinds_78 rfl kX5_324 qX1_at ly17 ⟨_, rfl, rfl⟩ (by decide) (sp_X1_at (d := d - 1) ly17 (i := (i : Int)) (j := 3) (by omega) (by omega)) (by omega) rfl rfl (Nat.le_of_ble_eq_true rfl) (fun r σ' hq => ?_)
          obtain ⟨rfl, rfl⟩ := hq
          rw [n3]
          refine zw_icmp_ne 88 84 dX5_canonKinds_81 (by decide) rfl (by omega) (by omega) (fun h81 => ?_) (fun h81 => ?_)
          · refine zw_iconst 89 dX5_canonKinds_88 rfl ?_
            refine zw_istore 91 dX5_canonKinds_89 rfl (by decide) ?_
            refine zw_iinc 94 dX5_canonKinds_91 rfl (by decide) rfl ?_
            refine zw_goto 26 dX5_canonKinds_94 (by decide) ?_
            refine zw_loc [true, true, true, true, true, true, true, false] rfl ?_
            first
              | (rw [if_pos (by rw [ef]; refine ⟨by omega, ?_⟩; rw [if_pos (by omega)])] at ih2; exact ih2)
              | (rw [if_neg (by rw [ef]; intro q; have q2 := q.2; rw [if_neg (by omega)] at q2; omega)] at ih2; exact ih2)
              | (rw [if_neg (fun q => by have := q.1; omega)] at ih2; exact ih2)
          · refine zw_iconst 85 dX5_canonKinds_84 rfl ?_
            refine zw_goto 89 dX5_canonKinds_85 (by decide) ?_
            refine zw_istore 91 dX5_canonKinds_89 rfl (by decide) ?_
            refine zw_iinc 94 dX5_canonKinds_91 rfl (by decide) rfl ?_
            refine zw_goto 26 dX5_canonKinds_94 (by decide) ?_
            refine zw_loc [true, true, true, true, true, true, true, false] rfl ?_
            first
              | (rw [if_pos (by rw [ef]; refine ⟨by omega, ?_⟩; rw [if_pos (by omega)])] at ih2; exact ih2)
              | (rw [if_neg (by rw [ef]; intro q; have q2 := q.2; rw [if_neg (by omega)] at q2; omega)] at ih2; exact ih2)
              | (rw [if_neg (fun q => by have := q.1; omega)] at ih2; exact ih2)
theorem lo_X5_canonKinds {l : Launch} {d : Nat} {σ : zMem} {N : zR} (hC : zCh σ 2 N) (hV : zVN N) (hd : 3 ≤ d) {c : Int} (hsx : -2147483648 ≤ c ∧ c < 2147483648) : ∀ (mm : Nat) (k n : Int), k + mm = 6 → 0 ≤ k → n = zbi (zkc N c) k.toNat → zw l d mX5_canonKinds 13 [some (.ref 1), some (.int (zI c)), some (.ref 17), some (.int (zI n)), some (.int (zI k)), none, none, none] [] σ (zRi (zbi (zkc N c) 6) σ) := by
  intro mm
  induction mm with
  | zero =>
    intro k n hk hk0 hn
    obtain rfl : k = 6 := by omega
    refine zw_iload 15 dX5_canonKinds_13 rfl rfl ?_
    refine zw_bipush 17 dX5_canonKinds_15 rfl (by decide) ?_
    refine zw_icmp_ge 119 20 dX5_canonKinds_17 (by decide) rfl (by omega) (by omega) (fun h17 => ?_) (fun h17 => ?_)
    · refine zw_iload_n 120 dX5_canonKinds_119 rfl rfl ?_
      refine zw_iret dX5_canonKinds_120 rfl ?_
      exact zRi_of (by rw [hn]; rfl)
    · exfalso; omega
  | succ mm ih =>
    intro k n hk hk0 hn
    have zb := zal_b (zms N c k) (N 109).toNat
    have b1 := zbi_b (f := (zkc N c)) k.toNat (fun k _ _ => zal_b _ _)
    rw [← hn] at b1
    have g3 := z2k (k := k) (by omega)
    have h78 : 0 ≤ N 109 ∧ N 109 ≤ 6 := (hV.2.2.2.2.2.1).1
    have kk : zw l d mX5_canonKinds 97 [some (.ref 1), some (.int (zI c)), some (.ref 17), some (.int (zI n)), some (.int (zI k)), some (.int (zI ((zal (zms N c k) (N 109).toNat)))), none, none] [] σ (zRi (zbi (zkc N c) 6) σ) := by
      refine zw_iload_n 98 dX5_canonKinds_97 rfl rfl ?_
      refine zw_iload 100 dX5_canonKinds_98 rfl rfl ?_
      refine zw_if_eq 110 103 dX5_canonKinds_100 (by decide) rfl (by omega) (fun h100 => ?_) (fun h100 => ?_)
      · refine zw_iconst 111 dX5_canonKinds_110 rfl ?_
        refine zw_ior 112 _ dX5_canonKinds_111 rfl (by first | exact zor_int (k := k) (by omega) b1 (Or.inr rfl) | exact zor_int (k := k) (by omega) b1 (Or.inl rfl)) ?_
        refine zw_istore_n 113 dX5_canonKinds_112 rfl (by decide) ?_
        refine zw_iinc 116 dX5_canonKinds_113 rfl (by decide) rfl ?_
        refine zw_goto 13 dX5_canonKinds_116 (by decide) ?_
        refine zw_loc [true, true, true, true, true, false, false, false] rfl ?_
        first
          | (have e : ¬ zkc N c k = 1 := by show ¬ zal (zms N c k) (N 109).toNat = 1; omega
             exact ih (k + 1) _ (by omega) (by omega) (by rw [zbi_s2 _ hk0 (zal_b _ _), ← hn, if_neg e]))
          | (have e : zkc N c k = 1 := by show zal (zms N c k) (N 109).toNat = 1; omega
             exact ih (k + 1) _ (by omega) (by omega) (by rw [zbi_s2 _ hk0 (zal_b _ _), ← hn, if_pos e]))
      · refine zw_iconst 104 dX5_canonKinds_103 rfl ?_
        refine zw_iload 106 dX5_canonKinds_104 rfl rfl ?_
        refine zw_ishl 107 _ dX5_canonKinds_106 rfl (zshl_int (by omega)) ?_
        refine zw_goto 111 dX5_canonKinds_107 (by decide) ?_
        refine zw_ior 112 _ dX5_canonKinds_111 rfl (by first | exact zor_int (k := k) (by omega) b1 (Or.inr rfl) | exact zor_int (k := k) (by omega) b1 (Or.inl rfl)) ?_
        refine zw_istore_n 113 dX5_canonKinds_112 rfl (by decide) ?_
        refine zw_iinc 116 dX5_canonKinds_113 rfl (by decide) rfl ?_
        refine zw_goto 13 dX5_canonKinds_116 (by decide) ?_
        refine zw_loc [true, true, true, true, true, false, false, false] rfl ?_
        first
          | (have e : ¬ zkc N c k = 1 := by show ¬ zal (zms N c k) (N 109).toNat = 1; omega
             exact ih (k + 1) _ (by omega) (by omega) (by rw [zbi_s2 _ hk0 (zal_b _ _), ← hn, if_neg e]))
          | (have e : zkc N c k = 1 := by show zal (zms N c k) (N 109).toNat = 1; omega
             exact ih (k + 1) _ (by omega) (by omega) (by rw [zbi_s2 _ hk0 (zal_b _ _), ← hn, if_pos e]))
    have h2 := li_X5_canonKinds (l := l) hC hV hd hsx (k := k) (n := n) (by omega) kk (N 109).toNat 0 (by omega)
    rw [show zal (zms N c k) 0 = 1 from rfl, show (((0 : Nat) : Int)) = 0 from rfl] at h2
    refine zw_iload 15 dX5_canonKinds_13 rfl rfl ?_
    refine zw_bipush 17 dX5_canonKinds_15 rfl (by decide) ?_
    refine zw_icmp_ge 119 20 dX5_canonKinds_17 (by decide) rfl (by omega) (by omega) (fun h17 => ?_) (fun h17 => ?_)
    · exfalso; omega
    · refine zw_iconst 21 dX5_canonKinds_20 rfl ?_
      refine zw_istore 23 dX5_canonKinds_21 rfl (by decide) ?_
      refine zw_iconst 24 dX5_canonKinds_23 rfl ?_
      refine zw_istore 26 dX5_canonKinds_24 rfl (by decide) ?_
      exact h2
theorem sp_X5_canonKinds {l : Launch} {d : Nat} {σ : zMem} (hd : 3 ≤ d) {N : zR} (hC : zCh σ 2 N) (hV : zVN N) {c : Int} (hsx : -2147483648 ≤ c ∧ c < 2147483648)  : zSp l d mX5_canonKinds [.ref 1, .int (zI c)] σ (zRi (zbi (zkc N c) 6) σ) := by
  refine zSp_of oX5_canonKinds (Nat.le_of_ble_eq_true rfl) ?_
  show zw l d mX5_canonKinds 0 [some (.ref 1), some (.int (zI c)), none, none, none, none, none, none] [] σ _
  refine zw_aload_n 1 dX5_canonKinds_0 rfl rfl ?_
  refine zw_getr 4 (2) (o := 1) dX5_canonKinds_1 rfl fX5_10 (by decide) rfl rfl ly1 ?_
  refine zw_getr 7 (17) (o := 15) dX5_canonKinds_4 rfl fX5_254 (by decide) rfl rfl ly2 ?_
  refine zw_astore_n 8 dX5_canonKinds_7 rfl (by decide) ?_
  refine zw_iconst 9 dX5_canonKinds_8 rfl ?_
  refine zw_istore_n 10 dX5_canonKinds_9 rfl (by decide) ?_
  refine zw_iconst 11 dX5_canonKinds_10 rfl ?_
  refine zw_istore 13 dX5_canonKinds_11 rfl (by decide) ?_
  exact lo_X5_canonKinds hC hV hd hsx 6 0 0 (by omega) (by omega) rfl
theorem sp_X5_is {l : Launch} {d : Nat} {σ : zMem} (hd : 8 ≤ d) {N : zR} (hC : zCh σ 2 N) (hV : zVN N) {s : Int} (hs : -2147483648 ≤ s ∧ s < 2147483648)  : zSp l d mX5_is [.ref 1, .int (zI s)] σ (zAn 118 (0 ≤ s ∧ s ≤ N 33 - 1) (zbi (zks N s) 6) 0 (-2) σ) := by
  refine zSp_of oX5_is (Nat.le_of_ble_eq_true rfl) ?_
  show zw l d mX5_is 0 [some (.ref 1), some (.int (zI s))] [] σ _
  have hs := hV.1
  have hv := hV.2.1
  have hy := hV.2.2.1
  have hB := zVN_bd hV
  have gN := hs.1
  have gC := hs.2.1
  have c0 : σ 2 0 = N 33 := hC.1.1.1
  have c1 : σ 2 1 = N 48 := hC.1.1.2.1
  have c2 : ∀ s, 0 ≤ s → s < N 33 → σ 3 s = N (34 + s) ∧ σ 4 s = N (41 + s) := hC.1.1.2.2.1
  have c3 : ∀ c, 0 ≤ c → c < N 48 → σ 5 c = N (49 + c) ∧ σ 6 c = N (54 + c) ∧ σ 7 c = zhv (N (49 + c)) (N (54 + c)) := hC.1.1.2.2.2
  have c4 : zSc σ 8 N := hC.1.2.1
  have c41 : ∀ c, 0 ≤ c → c < 5 → σ 9 c = N c := c4.1
  have c42 : ∀ i, 0 ≤ i → i < 20 → σ 10 i = N (5 + i) := c4.2.1
  have c43 : ∀ s, 0 ≤ s → s < 7 → σ 11 s = N (25 + s) := c4.2.2.1
  have c44 : σ 8 0 = N 32 := c4.2.2.2
  have c5 : zRo σ 13 3 59 N := hC.1.2.2.1
  have c6 : zRo σ 15 5 78 N := hC.1.2.2.2.1
  have c7 : zRo σ 17 4 109 N := hC.1.2.2.2.2
  have c8 : σ 2 2 = N 134 := hC.2.1
  have hb5 : ∀ c, 0 ≤ c → c < 5 → -1 ≤ N c ∧ N c < 1000 := fun c h0 h1 => by have := hv.1 c h0 h1; omega
  refine zw_aload_n 1 dX5_is_0 rfl rfl ?_
  refine zw_iload_n 2 dX5_is_1 rfl rfl ?_
  refine zw_callV 5 _ _ dX5_is_2 rfl kX5_165 qX5_isSeat ly1 ⟨_, rfl, rfl⟩ (by decide) (sp_X5_isSeat (d := d - 1) (by omega) hC.1.1 (by omega) (by omega)) (by omega) rfl rfl (Nat.le_of_ble_eq_true rfl) (fun r σ' hq => ?_)
  obtain ⟨rfl, rfl⟩ := hq
  refine zw_if_eq 16 8 dX5_is_5 (by decide) rfl (by omega) (fun h5 => ?_) (fun h5 => ?_)
  · refine zw_aload_n 17 dX5_is_16 rfl rfl ?_
    refine zw_bipush 19 dX5_is_17 rfl (by decide) ?_
    refine zw_callV 22 _ _ dX5_is_19 rfl kX5_89 qX5_refuse ly1 ⟨_, rfl, rfl⟩ (by decide) (sp_X5_refuse_2 (d := d - 1)) (by omega) rfl rfl (Nat.le_of_ble_eq_true rfl) (fun r σ' hq => ?_)
    obtain ⟨rfl, rfl⟩ := hq
    refine zw_iret dX5_is_22 rfl ?_
    first
      | exact zAn_f (by omega)
      | exact zAn_t (by omega) rfl (zNS_refl _)
  · refine zw_aload_n 9 dX5_is_8 rfl rfl ?_
    refine zw_iload_n 10 dX5_is_9 rfl rfl ?_
    refine zw_callV 13 _ _ dX5_is_10 rfl kX5_262 qX5_seatKinds ly1 ⟨_, rfl, rfl⟩ (by decide) (sp_X5_seatKinds (d := d - 1) (by omega) hC hV (s := s) (by omega)) (by omega) rfl rfl (Nat.le_of_ble_eq_true rfl) (fun r σ' hq => ?_)
    obtain ⟨rfl, rfl⟩ := hq
    refine zw_goto 22 dX5_is_13 (by decide) ?_
    refine zw_iret dX5_is_22 rfl ?_
    first
      | exact zAn_f (by omega)
      | exact zAn_t (by omega) rfl (zNS_refl _)
theorem sp_X5_what {l : Launch} {d : Nat} {σ : zMem} (hd : 8 ≤ d) {N : zR} (hC : zCh σ 2 N) (hV : zVN N) {c : Int} (hc : -2147483648 ≤ c ∧ c < 2147483648)  : zSp l d mX5_what [.ref 1, .int (zI c)] σ (zAn 118 (0 ≤ c ∧ c ≤ N 48 - 1) (zbi (zkc N c) 6) 0 (-2) σ) := by
  refine zSp_of oX5_what (Nat.le_of_ble_eq_true rfl) ?_
  show zw l d mX5_what 0 [some (.ref 1), some (.int (zI c))] [] σ _
  have hs := hV.1
  have hv := hV.2.1
  have hy := hV.2.2.1
  have hB := zVN_bd hV
  have gN := hs.1
  have gC := hs.2.1
  have c0 : σ 2 0 = N 33 := hC.1.1.1
  have c1 : σ 2 1 = N 48 := hC.1.1.2.1
  have c2 : ∀ s, 0 ≤ s → s < N 33 → σ 3 s = N (34 + s) ∧ σ 4 s = N (41 + s) := hC.1.1.2.2.1
  have c3 : ∀ c, 0 ≤ c → c < N 48 → σ 5 c = N (49 + c) ∧ σ 6 c = N (54 + c) ∧ σ 7 c = zhv (N (49 + c)) (N (54 + c)) := hC.1.1.2.2.2
  have c4 : zSc σ 8 N := hC.1.2.1
  have c41 : ∀ c, 0 ≤ c → c < 5 → σ 9 c = N c := c4.1
  have c42 : ∀ i, 0 ≤ i → i < 20 → σ 10 i = N (5 + i) := c4.2.1
  have c43 : ∀ s, 0 ≤ s → s < 7 → σ 11 s = N (25 + s) := c4.2.2.1
  have c44 : σ 8 0 = N 32 := c4.2.2.2
  have c5 : zRo σ 13 3 59 N := hC.1.2.2.1
  have c6 : zRo σ 15 5 78 N := hC.1.2.2.2.1
  have c7 : zRo σ 17 4 109 N := hC.1.2.2.2.2
  have c8 : σ 2 2 = N 134 := hC.2.1
  have hb5 : ∀ c, 0 ≤ c → c < 5 → -1 ≤ N c ∧ N c < 1000 := fun c h0 h1 => by have := hv.1 c h0 h1; omega
  refine zw_aload_n 1 dX5_what_0 rfl rfl ?_
  refine zw_iload_n 2 dX5_what_1 rfl rfl ?_
  refine zw_callV 5 _ _ dX5_what_2 rfl kX5_122 qX5_isCanon ly1 ⟨_, rfl, rfl⟩ (by decide) (sp_X5_isCanon (d := d - 1) (by omega) hC.1.1 (by omega) (by omega)) (by omega) rfl rfl (Nat.le_of_ble_eq_true rfl) (fun r σ' hq => ?_)
  obtain ⟨rfl, rfl⟩ := hq
  refine zw_if_eq 16 8 dX5_what_5 (by decide) rfl (by omega) (fun h5 => ?_) (fun h5 => ?_)
  · refine zw_aload_n 17 dX5_what_16 rfl rfl ?_
    refine zw_bipush 19 dX5_what_17 rfl (by decide) ?_
    refine zw_callV 22 _ _ dX5_what_19 rfl kX5_89 qX5_refuse ly1 ⟨_, rfl, rfl⟩ (by decide) (sp_X5_refuse_2 (d := d - 1)) (by omega) rfl rfl (Nat.le_of_ble_eq_true rfl) (fun r σ' hq => ?_)
    obtain ⟨rfl, rfl⟩ := hq
    refine zw_iret dX5_what_22 rfl ?_
    first
      | exact zAn_f (by omega)
      | exact zAn_t (by omega) rfl (zNS_refl _)
  · refine zw_aload_n 9 dX5_what_8 rfl rfl ?_
    refine zw_iload_n 10 dX5_what_9 rfl rfl ?_
    refine zw_callV 13 _ _ dX5_what_10 rfl kX5_268 qX5_canonKinds ly1 ⟨_, rfl, rfl⟩ (by decide) (sp_X5_canonKinds (d := d - 1) (by omega) hC hV (c := c) (by omega)) (by omega) rfl rfl (Nat.le_of_ble_eq_true rfl) (fun r σ' hq => ?_)
    obtain ⟨rfl, rfl⟩ := hq
    refine zw_goto 22 dX5_what_13 (by decide) ?_
    refine zw_iret dX5_what_22 rfl ?_
    first
      | exact zAn_f (by omega)
      | exact zAn_t (by omega) rfl (zNS_refl _)
