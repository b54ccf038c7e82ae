theorem lp_X6_sum {l : Launch} {d : Nat} {σ : zMem} {f m0 : Int} (hf : 0 ≤ f ∧ 0 ≤ m0 ∧ f + m0 ≤ 399)  : ∀ (m : Nat) (i : Int) (n : Int), i + m = m0 → 0 ≤ i → n = zct (fun i => σ 218 (f + i)) i.toNat → zw l d mX6_sum 5 [some (.ref 217), some (.int (zI f)), some (.int (zI m0)), some (.int (zI n)), some (.int (zI i))] [] σ (zRi (zct (fun i => σ 218 (f + i)) m0.toNat) σ) := by
  intro m
  induction m with
  | zero =>
    intro i n hk hk0 hn
    refine zw_iload 7 dX6_sum_5 rfl rfl ?_
    refine zw_iload_n 8 dX6_sum_7 rfl rfl ?_
    refine zw_icmp_ge 29 11 dX6_sum_8 (by decide) rfl (by omega) (by omega) (fun h8 => ?_) (fun h8 => ?_)
    · refine zw_iload_n 30 dX6_sum_29 rfl rfl ?_
      refine zw_iret dX6_sum_30 rfl ?_
      exact zRi_of (by rw [hn]; congr 1; omega)
    · exfalso; omega
  | succ m ih =>
    intro i n hk hk0 hn
    refine zw_iload 7 dX6_sum_5 rfl rfl ?_
    refine zw_iload_n 8 dX6_sum_7 rfl rfl ?_
    refine zw_icmp_ge 29 11 dX6_sum_8 (by decide) rfl (by omega) (by omega) (fun h8 => ?_) (fun h8 => ?_)
    · refine zw_iload_n 30 dX6_sum_29 rfl rfl ?_
      refine zw_iret dX6_sum_30 rfl ?_
      exfalso; omega
    · refine zw_iload_n 12 dX6_sum_11 rfl rfl ?_
      refine zw_aload_n 13 dX6_sum_12 rfl rfl ?_
      refine zw_getr 16 (218) (o := 1) dX6_sum_13 rfl fX6_7 (by decide) rfl rfl ly217 ?_
      refine zw_iload_n 17 dX6_sum_16 rfl rfl ?_
      refine zw_iload 19 dX6_sum_17 rfl rfl ?_
      refine zw_iadd 20 dX6_sum_19 rfl ?_
      refine zw_iald 21 dX6_sum_20 rfl ly218 (by omega) ?_
      refine zw_iadd 22 dX6_sum_21 rfl ?_
      refine zw_istore_n 23 dX6_sum_22 rfl (by decide) ?_
      refine zw_iinc 26 dX6_sum_23 rfl (by decide) rfl ?_
      refine zw_goto 5 dX6_sum_26 (by decide) ?_
      refine zw_loc [true, true, true, true, true] rfl ?_
      exact ih (i + 1) _ (by omega) (by omega) (by rw [zct_s _ hk0, hn])
theorem sp_X6_sum {l : Launch} {d : Nat} {σ : zMem} {f m0 : Int} (hf : 0 ≤ f ∧ 0 ≤ m0 ∧ f + m0 ≤ 399)  : zSp l d mX6_sum [.ref 217, .int (zI f), .int (zI m0)] σ (zRi (zct (fun i => σ 218 (f + i)) m0.toNat) σ) := by
  refine zSp_of oX6_sum (Nat.le_of_ble_eq_true rfl) ?_
  show zw l d mX6_sum 0 [some (.ref 217), some (.int (zI f)), some (.int (zI m0)), none, none] [] σ _
  refine zw_iconst 1 dX6_sum_0 rfl ?_
  refine zw_istore_n 2 dX6_sum_1 rfl (by decide) ?_
  refine zw_iconst 3 dX6_sum_2 rfl ?_
  refine zw_istore 5 dX6_sum_3 rfl (by decide) ?_
  exact lp_X6_sum (σ := σ) hf m0.toNat 0 0 (by omega) (by omega) rfl
def zwsf (N : zR) (c : Int) : Int := if N c = -1 then 0 else 1
theorem zwsf_b (N : zR) (c : Int) : zwsf N c = 0 ∨ zwsf N c = 1 := by unfold zwsf; omega
theorem lp_X6_whoSit {l : Launch} {d : Nat} {σ : zMem} (hV : zVN (σ 218))  : ∀ (m : Nat) (c : Int) (n : Int), c + m = σ 218 48 → 0 ≤ c → n = zbi (zwsf (σ 218)) c.toNat → zw l d mX6_whoSit 4 [some (.ref 217), some (.int (zI n)), some (.int (zI c))] [] σ (zRi (zbi (zwsf (σ 218)) (σ 218 48).toNat) σ) := by
  intro m
  induction m with
  | zero =>
    intro c n hk hk0 hn
    have hs := hV.1
    have hv := hV.2.1
    have hy := hV.2.2.1
    have gN := hs.1
    have gC := hs.2.1
    have b1 := zbi_b (f := zwsf (σ 218)) c.toNat (fun k _ _ => zwsf_b _ _)
    rw [← hn] at b1
    refine zw_iload_n 5 dX6_whoSit_4 rfl rfl ?_
    refine zw_aload_n 6 dX6_whoSit_5 rfl rfl ?_
    refine zw_getr 9 (218) (o := 1) dX6_whoSit_6 rfl fX6_7 (by decide) rfl rfl ly217 ?_
    refine zw_bipush 11 dX6_whoSit_9 rfl (by decide) ?_
    refine zw_iald 12 dX6_whoSit_11 rfl ly218 (by omega) ?_
    refine zw_icmp_ge 43 15 dX6_whoSit_12 (by decide) rfl (by omega) (by omega) (fun h12 => ?_) (fun h12 => ?_)
    · refine zw_iload_n 44 dX6_whoSit_43 rfl rfl ?_
      refine zw_iret dX6_whoSit_44 rfl ?_
      exact zRi_of (by rw [hn]; congr 1; omega)
    · exfalso; omega
  | succ m ih =>
    intro c n hk hk0 hn
    have hs := hV.1
    have hv := hV.2.1
    have hy := hV.2.2.1
    have gN := hs.1
    have gC := hs.2.1
    have b1 := zbi_b (f := zwsf (σ 218)) c.toNat (fun k _ _ => zwsf_b _ _)
    rw [← hn] at b1
    refine zw_iload_n 5 dX6_whoSit_4 rfl rfl ?_
    refine zw_aload_n 6 dX6_whoSit_5 rfl rfl ?_
    refine zw_getr 9 (218) (o := 1) dX6_whoSit_6 rfl fX6_7 (by decide) rfl rfl ly217 ?_
    refine zw_bipush 11 dX6_whoSit_9 rfl (by decide) ?_
    refine zw_iald 12 dX6_whoSit_11 rfl ly218 (by omega) ?_
    refine zw_icmp_ge 43 15 dX6_whoSit_12 (by decide) rfl (by omega) (by omega) (fun h12 => ?_) (fun h12 => ?_)
    · refine zw_iload_n 44 dX6_whoSit_43 rfl rfl ?_
      refine zw_iret dX6_whoSit_44 rfl ?_
      exfalso; omega
    · have g3 := z2k (k := c) (by omega)
      have g4 := hv.1 c (by omega) (by omega)
      refine zw_iload_n 16 dX6_whoSit_15 rfl rfl ?_
      refine zw_aload_n 17 dX6_whoSit_16 rfl rfl ?_
      refine zw_getr 20 (218) (o := 1) dX6_whoSit_17 rfl fX6_7 (by decide) rfl rfl ly217 ?_
      refine zw_iconst 21 dX6_whoSit_20 rfl ?_
      refine zw_iload_n 22 dX6_whoSit_21 rfl rfl ?_
      refine zw_iadd0 23 dX6_whoSit_22 rfl ?_
      refine zw_iald 24 dX6_whoSit_23 rfl ly218 (by omega) ?_
      refine zw_iconst 25 dX6_whoSit_24 rfl ?_
      refine zw_icmp_ne 32 28 dX6_whoSit_25 (by decide) rfl (by omega) (by omega) (fun h25 => ?_) (fun h25 => ?_)
      · refine zw_iconst 33 dX6_whoSit_32 rfl ?_
        refine zw_iload_n 34 dX6_whoSit_33 rfl rfl ?_
        refine zw_ishl 35 _ dX6_whoSit_34 rfl (zshl_int (by omega)) ?_
        refine zw_ior 36 _ dX6_whoSit_35 rfl (zor_int (k := c) (by omega) b1 (by omega)) ?_
        refine zw_istore_n 37 dX6_whoSit_36 rfl (by decide) ?_
        refine zw_iinc 40 dX6_whoSit_37 rfl (by decide) rfl ?_
        refine zw_goto 4 dX6_whoSit_40 (by decide) ?_
        refine zw_loc [true, true, true] rfl ?_
        exact ih (c + 1) _ (by omega) (by omega) (by rw [zbi_s2 _ hk0 (zwsf_b _ _), ← hn, zwsf]; omega)
      · refine zw_iconst 29 dX6_whoSit_28 rfl ?_
        refine zw_goto 35 dX6_whoSit_29 (by decide) ?_
        refine zw_ior 36 _ dX6_whoSit_35 rfl (zor_int (k := c) (by omega) b1 (by omega)) ?_
        refine zw_istore_n 37 dX6_whoSit_36 rfl (by decide) ?_
        refine zw_iinc 40 dX6_whoSit_37 rfl (by decide) rfl ?_
        refine zw_goto 4 dX6_whoSit_40 (by decide) ?_
        refine zw_loc [true, true, true] rfl ?_
        exact ih (c + 1) _ (by omega) (by omega) (by rw [zbi_s2 _ hk0 (zwsf_b _ _), ← hn, zwsf]; omega)
theorem sp_X6_whoSit {l : Launch} {d : Nat} {σ : zMem} (hV : zVN (σ 218))  : zSp l d mX6_whoSit [.ref 217] σ (zRi (zbi (zwsf (σ 218)) (σ 218 48).toNat) σ) := by
  refine zSp_of oX6_whoSit (Nat.le_of_ble_eq_true rfl) ?_
  show zw l d mX6_whoSit 0 [some (.ref 217), none, none] [] σ _
  have gC := hV.1.2.1
  refine zw_iconst 1 dX6_whoSit_0 rfl ?_
  refine zw_istore_n 2 dX6_whoSit_1 rfl (by decide) ?_
  refine zw_iconst 3 dX6_whoSit_2 rfl ?_
  refine zw_istore_n 4 dX6_whoSit_3 rfl (by decide) ?_
  exact lp_X6_whoSit hV (σ 218 48).toNat 0 0 (by omega) (by omega) rfl
def zcnt (N : zR) (tx w : Int) : Int := if w = 0 then N 33 else if w = 1 then N 48 else if w = 2 then N 32 else if w = 3 then zbi (zwsf N) (N 48).toNat else if w = 4 then zct (fun i => N (25 + i)) 7 else if w = 5 then zct (fun i => N (5 + i)) 20 else if w = 6 then N 59 else if w = 7 then N 78 else if w = 8 then N 109 else if w = 9 then N 134 else tx
theorem zct_b2 {f : Int → Int} {B : Int} : ∀ n : Nat, (∀ k : Int, 0 ≤ k → k < n → 0 ≤ f k ∧ f k ≤ B) → 0 ≤ zct f n ∧ zct f n ≤ B * n
  | 0, _ => by simp [zct]
  | n + 1, h => by
    have h1 := zct_b2 n (fun k a b => h k a (by omega))
    have h2 := h n (by omega) (by omega)
    have h3 : B * ((n + 1 : Nat) : Int) = B * n + B := by rw [Int.natCast_add, Int.mul_add]; simp
    unfold zct; omega
theorem zcnt_b {N : zR} {tx w : Int} (hV : zVN N) (hT : 0 ≤ tx ∧ tx ≤ 150) : 0 ≤ zcnt N tx w ∧ zcnt N tx w ≤ 5000 := by
  have h1 := zct_b2 (f := fun i => N (25 + i)) (B := 40) 7 (fun k a b => hV.2.1.2.2.1 k a (by omega))
  have h2 := zct_b2 (f := fun i => N (5 + i)) (B := 99) 20 (fun k a b => hV.2.1.2.1 k a (by omega))
  have gC := hV.1.2.1
  have h3 := zbi_b (f := zwsf N) (N 48).toNat (fun k _ _ => zwsf_b _ _)
  have h4 : (2 : Int) ^ (N 48).toNat ≤ 64 := (z2k (k := N 48) (by omega)).1
  have := hV.1.1
  have := hV.2.2.1
  have := hV.2.2.2.1.1
  have := hV.2.2.2.2.1.1
  have := hV.2.2.2.2.2.1.1
  have := hV.2.2.2.2.2.2.1
  unfold zcnt
  omega
theorem sp_X6_counted {l : Launch} {d : Nat} {σ : zMem} (hd : 2 ≤ d) {w : Int} (hw : 0 ≤ w ∧ w ≤ 10) (hV : zVN (σ 218)) (hT : 0 ≤ σ 217 6 ∧ σ 217 6 ≤ 150)  : zSp l d mX6_counted [.ref 217, .int (zI w)] σ (zRi (zcnt (σ 218) (σ 217 6) w) σ) := by
  refine zSp_of oX6_counted (Nat.le_of_ble_eq_true rfl) ?_
  show zw l d mX6_counted 0 [some (.ref 217), some (.int (zI w))] [] σ _
  refine zw_iload_n 1 dX6_counted_0 rfl rfl ?_
  refine zw_sw 135 dX6_counted_1 (by decide) (by omega) (fun h1 => ?_) (fun vh1 lh1 uh1 h1 => ?_)
  · refine zw_aload_n 136 dX6_counted_135 rfl rfl ?_
    refine zw_gti 139 6 dX6_counted_136 rfl fX6_108 (by decide) rfl rfl ly217 ?_
    refine zw_iret dX6_counted_139 rfl ?_
    exact zRi_of (by unfold zcnt; first | omega | (subst h1; rfl))
  · obtain rfl | rfl | rfl | rfl | rfl | rfl | rfl | rfl | rfl | rfl : vh1 = 0 ∨ vh1 = 1 ∨ vh1 = 2 ∨ vh1 = 3 ∨ vh1 = 4 ∨ vh1 = 5 ∨ vh1 = 6 ∨ vh1 = 7 ∨ vh1 = 8 ∨ vh1 = 9 := by omega
    · refine ⟨56, _, rfl, by decide, ?_⟩
      refine zw_aload_n 57 dX6_counted_56 rfl rfl ?_
      refine zw_getr 60 (218) (o := 1) dX6_counted_57 rfl fX6_7 (by decide) rfl rfl ly217 ?_
      refine zw_bipush 62 dX6_counted_60 rfl (by decide) ?_
      refine zw_iald 63 dX6_counted_62 rfl ly218 (by omega) ?_
      refine zw_iret dX6_counted_63 rfl ?_
      exact zRi_of (by unfold zcnt; first | omega | (subst h1; rfl))
    · refine ⟨64, _, rfl, by decide, ?_⟩
      refine zw_aload_n 65 dX6_counted_64 rfl rfl ?_
      refine zw_getr 68 (218) (o := 1) dX6_counted_65 rfl fX6_7 (by decide) rfl rfl ly217 ?_
      refine zw_bipush 70 dX6_counted_68 rfl (by decide) ?_
      refine zw_iald 71 dX6_counted_70 rfl ly218 (by omega) ?_
      refine zw_iret dX6_counted_71 rfl ?_
      exact zRi_of (by unfold zcnt; first | omega | (subst h1; rfl))
    · refine ⟨72, _, rfl, by decide, ?_⟩
      refine zw_aload_n 73 dX6_counted_72 rfl rfl ?_
      refine zw_getr 76 (218) (o := 1) dX6_counted_73 rfl fX6_7 (by decide) rfl rfl ly217 ?_
      refine zw_bipush 78 dX6_counted_76 rfl (by decide) ?_
      refine zw_iald 79 dX6_counted_78 rfl ly218 (by omega) ?_
      refine zw_iret dX6_counted_79 rfl ?_
      exact zRi_of (by unfold zcnt; first | omega | (subst h1; rfl))
    · refine ⟨80, _, rfl, by decide, ?_⟩
      refine zw_aload_n 81 dX6_counted_80 rfl rfl ?_
      refine zw_callV 84 _ _ dX6_counted_81 rfl kX6_299 qX6_whoSit ly217 ⟨_, rfl, rfl⟩ (by decide) (sp_X6_whoSit (d := d - 1) hV) (by omega) rfl rfl (Nat.le_of_ble_eq_true rfl) (fun r σ' hq => ?_)
      obtain ⟨rfl, rfl⟩ := hq
      refine zw_iret dX6_counted_84 rfl ?_
      exact zRi_of (by unfold zcnt; first | omega | (subst h1; rfl))
    · refine ⟨85, _, rfl, by decide, ?_⟩
      refine zw_aload_n 86 dX6_counted_85 rfl rfl ?_
      refine zw_bipush 88 dX6_counted_86 rfl (by decide) ?_
      refine zw_bipush 90 dX6_counted_88 rfl (by decide) ?_
      refine zw_callV 93 _ _ dX6_counted_90 rfl kX6_302 qX6_sum ly217 ⟨_, rfl, rfl⟩ (by decide) (sp_X6_sum (d := d - 1) (by omega)) (by omega) rfl rfl (Nat.le_of_ble_eq_true rfl) (fun r σ' hq => ?_)
      obtain ⟨rfl, rfl⟩ := hq
      refine zw_iret dX6_counted_93 rfl ?_
      exact zRi_of (by unfold zcnt; first | omega | (subst h1; rfl))
    · refine ⟨94, _, rfl, by decide, ?_⟩
      refine zw_aload_n 95 dX6_counted_94 rfl rfl ?_
      refine zw_iconst 96 dX6_counted_95 rfl ?_
      refine zw_bipush 98 dX6_counted_96 rfl (by decide) ?_
      refine zw_callV 101 _ _ dX6_counted_98 rfl kX6_302 qX6_sum ly217 ⟨_, rfl, rfl⟩ (by decide) (sp_X6_sum (d := d - 1) (by omega)) (by omega) rfl rfl (Nat.le_of_ble_eq_true rfl) (fun r σ' hq => ?_)
      obtain ⟨rfl, rfl⟩ := hq
      refine zw_iret dX6_counted_101 rfl ?_
      exact zRi_of (by unfold zcnt; first | omega | (subst h1; rfl))
    · refine ⟨102, _, rfl, by decide, ?_⟩
      refine zw_aload_n 103 dX6_counted_102 rfl rfl ?_
      refine zw_getr 106 (218) (o := 1) dX6_counted_103 rfl fX6_7 (by decide) rfl rfl ly217 ?_
      refine zw_bipush 108 dX6_counted_106 rfl (by decide) ?_
      refine zw_iald 109 dX6_counted_108 rfl ly218 (by omega) ?_
      refine zw_iret dX6_counted_109 rfl ?_
      exact zRi_of (by unfold zcnt; first | omega | (subst h1; rfl))
    · refine ⟨110, _, rfl, by decide, ?_⟩
      refine zw_aload_n 111 dX6_counted_110 rfl rfl ?_
      refine zw_getr 114 (218) (o := 1) dX6_counted_111 rfl fX6_7 (by decide) rfl rfl ly217 ?_
      refine zw_bipush 116 dX6_counted_114 rfl (by decide) ?_
      refine zw_iald 117 dX6_counted_116 rfl ly218 (by omega) ?_
      refine zw_iret dX6_counted_117 rfl ?_
      exact zRi_of (by unfold zcnt; first | omega | (subst h1; rfl))
    · refine ⟨118, _, rfl, by decide, ?_⟩
      refine zw_aload_n 119 dX6_counted_118 rfl rfl ?_
      refine zw_getr 122 (218) (o := 1) dX6_counted_119 rfl fX6_7 (by decide) rfl rfl ly217 ?_
      refine zw_bipush 124 dX6_counted_122 rfl (by decide) ?_
      refine zw_iald 125 dX6_counted_124 rfl ly218 (by omega) ?_
      refine zw_iret dX6_counted_125 rfl ?_
      exact zRi_of (by unfold zcnt; first | omega | (subst h1; rfl))
    · refine ⟨126, _, rfl, by decide, ?_⟩
      refine zw_aload_n 127 dX6_counted_126 rfl rfl ?_
      refine zw_getr 130 (218) (o := 1) dX6_counted_127 rfl fX6_7 (by decide) rfl rfl ly217 ?_
      refine zw_sipush 133 dX6_counted_130 rfl (by decide) ?_
      refine zw_iald 134 dX6_counted_133 rfl ly218 (by omega) ?_
      refine zw_iret dX6_counted_134 rfl ?_
      exact zRi_of (by unfold zcnt; first | omega | (subst h1; rfl))
theorem sp_X6_count {l : Launch} {d : Nat} {σ : zMem} (hd : 8 ≤ d) {w : Int} (hw : -2147483648 ≤ w ∧ w < 2147483648) (hV : zVN (σ 218)) (hT : 0 ≤ σ 217 6 ∧ σ 217 6 ≤ 150)  : zSp l d mX6_count [.ref 217, .int (zI w)] σ (zAn 224 (0 ≤ w ∧ w ≤ 10) (zcnt (σ 218) (σ 217 6) w) 0 (-2) σ) := by
  refine zSp_of oX6_count (Nat.le_of_ble_eq_true rfl) ?_
  show zw l d mX6_count 0 [some (.ref 217), some (.int (zI w))] [] σ _
  have hs := hV.1
  have hv := hV.2.1
  have hy := hV.2.2.1
  have gN := hs.1
  have gC := hs.2.1
  refine zw_iload_n 1 dX6_count_0 rfl rfl ?_
  refine zw_i2l 2 dX6_count_1 rfl (by omega) ?_
  refine zw_lconst 3 0 dX6_count_2 rfl (by decide) ?_
  refine zw_ldc2 6 (10) dX6_count_3 rfl cX6_281 ?_
  refine zw_callS 9 _ _ dX6_count_6 rfl kX6_86 qX6_in (sp_X6_in (d := d - 1) (by omega) (by omega) (by omega)) (by omega) rfl rfl (Nat.le_of_ble_eq_true rfl) (fun r σ' hq => ?_)
  obtain ⟨rfl, rfl⟩ := hq
  refine zw_if_eq 20 12 dX6_count_9 (by decide) rfl (by omega) (fun h9 => ?_) (fun h9 => ?_)
  · refine zw_aload_n 21 dX6_count_20 rfl rfl ?_
    refine zw_callV 24 _ _ dX6_count_21 rfl kX6_100 qX6_bad ly217 ⟨_, rfl, rfl⟩ (by decide) (sp_X6_bad (d := d - 1) (by omega)) (by omega) rfl rfl (Nat.le_of_ble_eq_true rfl) (fun r σ' hq => ?_)
    obtain ⟨rfl, rfl⟩ := hq
    refine zw_iret dX6_count_24 rfl ?_
    first | exact zAn_f (by omega) | exact zAn_t (by omega) (by first | rfl | (simp (disch := omega) only [zwa_same, zup_same, zup_ne])) (zNS_refl _)
  · refine zw_aload_n 13 dX6_count_12 rfl rfl ?_
    refine zw_iload_n 14 dX6_count_13 rfl rfl ?_
    refine zw_callV 17 _ _ dX6_count_14 rfl kX6_305 qX6_counted ly217 ⟨_, rfl, rfl⟩ (by decide) (sp_X6_counted (d := d - 1) (by omega) (by omega) hV (by omega)) (by omega) rfl rfl (Nat.le_of_ble_eq_true rfl) (fun r σ' hq => ?_)
    obtain ⟨rfl, rfl⟩ := hq
    refine zw_goto 24 dX6_count_17 (by decide) ?_
    refine zw_iret dX6_count_24 rfl ?_
    first | exact zAn_f (by omega) | exact zAn_t (by omega) (by first | rfl | (simp (disch := omega) only [zwa_same, zup_same, zup_ne])) (zNS_refl _)
def zdg (f : Int → Int) (p : Int) : Nat → Int → Int
  | 0, h => h
  | n + 1, h => 31 * zdg f p n h + f (p + n)
theorem zdg_s (f : Int → Int) (p h : Int) {k : Int} (hk : 0 ≤ k) : zdg f p (k + 1).toNat h = 31 * zdg f p k.toNat h + f (p + k) := by
  have e : (k + 1).toNat = k.toNat + 1 := by omega
  have e2 : ((k.toNat : Nat) : Int) = k := by omega
  rw [e, zdg, e2]
theorem zwr_same (σ : zMem) (r : Nat) (i x : Int) : zwr σ r i x r i = x := by unfold zwr; rw [zwa_same, zup_same]
theorem zwr_ne (σ : zMem) {r b : Nat} (i x : Int) (h : b ≠ r) : zwr σ r i x b = σ b := zwa_ne _ _ h
theorem zwr_ni (σ : zMem) (r : Nat) {i j : Int} (x : Int) (h : j ≠ i) : zwr σ r i x r j = σ r j := by unfold zwr; rw [zwa_same, zup_ne _ _ h]
theorem zwr_twice (σ : zMem) (r : Nat) (i x y : Int) : zwr (zwr σ r i x) r i y = zwr σ r i y := by
  unfold zwr; rw [zwa_same, zwa_twice]; congr 1
  funext j; unfold zup; split <;> rfl
theorem zwr_id (σ : zMem) (r : Nat) (i : Int) : zwr σ r i (σ r i) = σ := by
  unfold zwr
  rw [show zup (σ r) i (σ r i) = σ r from by funext j; unfold zup; split <;> simp_all, zwa_id]
theorem lp_X6_digests {l : Launch} {d : Nat} {σ : zMem} {q m0 : Int} (hq : 0 ≤ q ∧ 0 ≤ m0 ∧ q + m0 ≤ 399) (hb : ∀ i, q ≤ i → i < q + m0 → -2147483648 ≤ σ 218 i ∧ σ 218 i < 2147483648)  : ∀ (m : Nat) (i : Int), i + m = m0 → 0 ≤ i → zw l d mX6_digests 2 [some (.ref 217), some (.int (zI q)), some (.int (zI m0)), some (.int (zI i))] [] (zwr σ 217 23 (zdg (σ 218) q i.toNat (σ 217 23))) (zRv (zwr σ 217 23 (zdg (σ 218) q m0.toNat (σ 217 23)))) := by
  intro m
  induction m with
  | zero =>
    intro i hk hk0
    refine zw_iload_n 3 dX6_digests_2 rfl rfl ?_
    refine zw_iload_n 4 dX6_digests_3 rfl rfl ?_
    refine zw_icmp_ge 35 7 dX6_digests_4 (by decide) rfl (by omega) (by omega) (fun h4 => ?_) (fun h4 => ?_)
    · refine zw_vret dX6_digests_35 rfl ?_
      have ei : i = m0 := by omega
      subst ei
      exact ⟨rfl, rfl⟩
    · exfalso; omega
  | succ m ih =>
    intro i hk hk0
    refine zw_iload_n 3 dX6_digests_2 rfl rfl ?_
    refine zw_iload_n 4 dX6_digests_3 rfl rfl ?_
    refine zw_icmp_ge 35 7 dX6_digests_4 (by decide) rfl (by omega) (by omega) (fun h4 => ?_) (fun h4 => ?_)
    · refine zw_vret dX6_digests_35 rfl ?_
      exfalso; omega
    · refine zw_aload_n 8 dX6_digests_7 rfl rfl ?_
      refine zw_ldc2 11 (31) dX6_digests_8 rfl cX6_308 ?_
      refine zw_aload_n 12 dX6_digests_11 rfl rfl ?_
      refine zw_gtl 15 23 dX6_digests_12 rfl fX6_310 (by decide) rfl rfl ly217 ?_
      refine zw_lmul 16 dX6_digests_15 rfl ?_
      refine zw_aload_n 17 dX6_digests_16 rfl rfl ?_
      refine zw_getr 20 (218) (o := 1) dX6_digests_17 rfl fX6_7 (by decide) rfl rfl ly217 ?_
      refine zw_iload_n 21 dX6_digests_20 rfl rfl ?_
      refine zw_iload_n 22 dX6_digests_21 rfl rfl ?_
      refine zw_iadd 23 dX6_digests_22 rfl ?_
      refine zw_iald 24 dX6_digests_23 rfl ly218 (by omega) ?_
      rw [zwr_ne _ _ _ (by decide)]
      have hb2 := hb (q + i) (by omega) (by omega)
      refine zw_i2l 25 dX6_digests_24 rfl (by omega) ?_
      refine zw_ladd 26 dX6_digests_25 rfl ?_
      refine zw_ptl 29 23 dX6_digests_26 rfl pX6_310 (by decide) rfl rfl ly217 ?_
      rw [zwr_same, zwr_twice, ← zdg_s _ _ _ hk0]
      refine zw_iinc 32 dX6_digests_29 rfl (by decide) rfl ?_
      refine zw_goto 2 dX6_digests_32 (by decide) ?_
      refine zw_loc [true, true, true, true] rfl ?_
      exact ih (i + 1) (by omega) (by omega)
theorem sp_X6_digests {l : Launch} {d : Nat} {σ : zMem} {q m0 : Int} (hq : 0 ≤ q ∧ 0 ≤ m0 ∧ q + m0 ≤ 399) (hb : ∀ i, q ≤ i → i < q + m0 → -2147483648 ≤ σ 218 i ∧ σ 218 i < 2147483648)  : zSp l d mX6_digests [.ref 217, .int (zI q), .int (zI m0)] σ (zRv (zwr σ 217 23 (zdg (σ 218) q m0.toNat (σ 217 23)))) := by
  refine zSp_of oX6_digests (Nat.le_of_ble_eq_true rfl) ?_
  show zw l d mX6_digests 0 [some (.ref 217), some (.int (zI q)), some (.int (zI m0)), none] [] σ _
  refine zw_iconst 1 dX6_digests_0 rfl ?_
  refine zw_istore_n 2 dX6_digests_1 rfl (by decide) ?_
  have h := lp_X6_digests (l := l) (d := d) (σ := σ) hq hb m0.toNat 0 (by omega) (by omega)
  rw [show zdg (σ 218) q (Int.toNat 0) (σ 217 23) = σ 217 23 from rfl, zwr_id] at h
  exact h
theorem zwr218 (σ : zMem) (x : Int) : zwr σ 217 23 x 218 = σ 218 := zwr_ne _ _ _ (by decide)
theorem zwr2176 (σ : zMem) (x : Int) : zwr σ 217 23 x 217 6 = σ 217 6 := zwr_ni _ _ _ (by decide)
theorem zwr2177 (σ : zMem) (x : Int) : zwr σ 217 23 x 217 7 = σ 217 7 := zwr_ni _ _ _ (by decide)
theorem zwr2178 (σ : zMem) (x : Int) : zwr σ 217 23 x 217 8 = σ 217 8 := zwr_ni _ _ _ (by decide)
theorem zdg_1 (f : Int → Int) (q h : Int) : zdg f q (Int.toNat 1) h = 31 * h + f q := by
  show 31 * h + f (q + (0 : Nat)) = 31 * h + f q
  simp
theorem zVN_w {N : zR} (hV : zVN N) {i : Int} (h0 : 60 ≤ i) (h1 : i < 60 + 3 * N 59) : 0 ≤ N i ∧ N i ≤ 99 := by
  have h := hV.2.2.2.1.2 ((i - 60) / 3) (by omega) (by omega)
  have gC := hV.1.2.1
  have e : i = 60 + 3 * ((i - 60) / 3) ∨ i = 60 + 3 * ((i - 60) / 3) + 1 ∨ i = 60 + 3 * ((i - 60) / 3) + 2 := by omega
  rcases e with e | e | e <;> rw [e] <;> omega
theorem zVN_n {N : zR} (hV : zVN N) {i : Int} (h0 : 79 ≤ i) (h1 : i < 79 + 5 * N 78) : 0 ≤ N i ∧ N i ≤ 99 := by
  have h := hV.2.2.2.2.1.2 ((i - 79) / 5) (by omega) (by omega)
  have gN := hV.1.1
  have e : i = 79 + 5 * ((i - 79) / 5) ∨ i = 79 + 5 * ((i - 79) / 5) + 1 ∨ i = 79 + 5 * ((i - 79) / 5) + 2 ∨ i = 79 + 5 * ((i - 79) / 5) + 3 ∨ i = 79 + 5 * ((i - 79) / 5) + 4 := by omega
  rcases e with e | e | e | e | e <;> rw [e] <;> omega
theorem zVN_m {N : zR} (hV : zVN N) {i : Int} (h0 : 110 ≤ i) (h1 : i < 110 + 4 * N 109) : 0 ≤ N i ∧ N i ≤ 99 := by
  have h := hV.2.2.2.2.2.1.2 ((i - 110) / 4) (by omega) (by omega)
  have gC := hV.1.2.1
  have e : i = 110 + 4 * ((i - 110) / 4) ∨ i = 110 + 4 * ((i - 110) / 4) + 1 ∨ i = 110 + 4 * ((i - 110) / 4) + 2 ∨ i = 110 + 4 * ((i - 110) / 4) + 3 := by omega
  rcases e with e | e | e | e <;> rw [e] <;> omega
def zds (N : zR) : Nat → Int → Int
  | 0, h => h
  | n + 1, h => 31 * (31 * (31 * zds N n h + N (34 + n)) + N (41 + n)) + N (25 + n)
theorem zds_s (N : zR) (h : Int) {k : Int} (hk : 0 ≤ k) : zds N (k + 1).toNat h = 31 * (31 * (31 * zds N k.toNat h + N (34 + k)) + N (41 + k)) + N (25 + k) := by
  have e : (k + 1).toNat = k.toNat + 1 := by omega
  have e2 : ((k.toNat : Nat) : Int) = k := by omega
  rw [e, zds, e2]
def zdc (N : zR) : Nat → Int → Int
  | 0, h => h
  | n + 1, h => zdg N (5 + 4 * n) 4 (31 * (31 * (31 * zdc N n h + N (49 + n)) + N (54 + n)) + N n)
theorem zdc_s (N : zR) (h : Int) {k : Int} (hk : 0 ≤ k) : zdc N (k + 1).toNat h = zdg N (5 + 4 * k) 4 (31 * (31 * (31 * zdc N k.toNat h + N (49 + k)) + N (54 + k)) + N k) := by
  have e : (k + 1).toNat = k.toNat + 1 := by omega
  have e2 : ((k.toNat : Nat) : Int) = k := by omega
  rw [e, zdc, e2]
/-- what digest comes to ahead of THE FRACTION -/
def zdR (N : zR) (tx : Int) : Int := zdg N 110 (4 * N 109).toNat (zdg N 79 (5 * N 78).toNat (zdg N 60 (3 * N 59).toNat (zdc N (N 48).toNat (zds N (N 33).toNat (zdg (zcnt N tx) 0 11 1499)))))
theorem lp3_X6_digest {l : Launch} {d : Nat} {σ : zMem} (hd : 8 ≤ d) (hV : zVN (σ 218)) (hT : 0 ≤ σ 217 6 ∧ σ 217 6 ≤ 150)  : ∀ (m : Nat) (c : Int), c + m = σ 218 48 → 0 ≤ c → zw l d mX6_digest 88 [some (.ref 217), some (.int (zI c))] [] (zwr σ 217 23 (zdc (σ 218) c.toNat (zds (σ 218) (σ 218 33).toNat (zdg (zcnt (σ 218) (σ 217 6)) 0 11 1499)))) (fun a σ' => a = some (.long (zL (31 * (31 * zdR (σ 218) (σ 217 6) + σ 217 7) + σ 217 8))) ∧ zNS σ σ') := by
  intro m
  induction m with
  | zero =>
    intro c hk hk0
    have hs := hV.1
    have hv := hV.2.1
    have hy := hV.2.2.1
    have gN := hs.1
    have gC := hs.2.1
    have gW := hV.2.2.2.1.1
    have gM := hV.2.2.2.2.1.1
    have gK := hV.2.2.2.2.2.1.1
    refine zw_iload_n 89 dX6_digest_88 rfl rfl ?_
    refine zw_aload_n 90 dX6_digest_89 rfl rfl ?_
    refine zw_getr 93 (218) (o := 1) dX6_digest_90 rfl fX6_7 (by decide) rfl rfl ly217 ?_
    refine zw_bipush 95 dX6_digest_93 rfl (by decide) ?_
    refine zw_iald 96 dX6_digest_95 rfl ly218 (by omega) ?_
    rw [zwr218]
    refine zw_icmp_ge 141 99 dX6_digest_96 (by decide) rfl (by omega) (by omega) (fun h96 => ?_) (fun h96 => ?_)
    · refine zw_aload_n 142 dX6_digest_141 rfl rfl ?_
      refine zw_bipush 144 dX6_digest_142 rfl (by decide) ?_
      refine zw_iconst 145 dX6_digest_144 rfl ?_
      refine zw_aload_n 146 dX6_digest_145 rfl rfl ?_
      refine zw_getr 149 (218) (o := 1) dX6_digest_146 rfl fX6_7 (by decide) rfl rfl ly217 ?_
      refine zw_bipush 151 dX6_digest_149 rfl (by decide) ?_
      refine zw_iald 152 dX6_digest_151 rfl ly218 (by omega) ?_
      rw [zwr218]
      refine zw_imul 153 dX6_digest_152 rfl ?_
      refine zw_callV 156 _ _ dX6_digest_153 rfl kX6_315 qX6_digests ly217 ⟨_, rfl, rfl⟩ (by decide) (sp_X6_digests (d := d - 1) (by omega) (fun i h0 h1 => by (first | rw [zwr218] | skip); have := zVN_w hV h0 h1; omega)) (by omega) rfl rfl (Nat.le_of_ble_eq_true rfl) (fun r σ' hq => ?_)
      obtain ⟨rfl, rfl⟩ := hq
      simp only [zwr_same, zwr_twice, zdg_1, zwr218]
      refine zw_aload_n 157 dX6_digest_156 rfl rfl ?_
      refine zw_bipush 159 dX6_digest_157 rfl (by decide) ?_
      refine zw_iconst 160 dX6_digest_159 rfl ?_
      refine zw_aload_n 161 dX6_digest_160 rfl rfl ?_
      refine zw_getr 164 (218) (o := 1) dX6_digest_161 rfl fX6_7 (by decide) rfl rfl ly217 ?_
      refine zw_bipush 166 dX6_digest_164 rfl (by decide) ?_
      refine zw_iald 167 dX6_digest_166 rfl ly218 (by omega) ?_
      rw [zwr218]
      refine zw_imul 168 dX6_digest_167 rfl ?_
      refine zw_callV 171 _ _ dX6_digest_168 rfl kX6_315 qX6_digests ly217 ⟨_, rfl, rfl⟩ (by decide) (sp_X6_digests (d := d - 1) (by omega) (fun i h0 h1 => by (first | rw [zwr218] | skip); have := zVN_n hV h0 h1; omega)) (by omega) rfl rfl (Nat.le_of_ble_eq_true rfl) (fun r σ' hq => ?_)
      obtain ⟨rfl, rfl⟩ := hq
      simp only [zwr_same, zwr_twice, zdg_1, zwr218]
      refine zw_aload_n 172 dX6_digest_171 rfl rfl ?_
      refine zw_bipush 174 dX6_digest_172 rfl (by decide) ?_
      refine zw_iconst 175 dX6_digest_174 rfl ?_
      refine zw_aload_n 176 dX6_digest_175 rfl rfl ?_
      refine zw_getr 179 (218) (o := 1) dX6_digest_176 rfl fX6_7 (by decide) rfl rfl ly217 ?_
      refine zw_bipush 181 dX6_digest_179 rfl (by decide) ?_
      refine zw_iald 182 dX6_digest_181 rfl ly218 (by omega) ?_
      rw [zwr218]
      refine zw_imul 183 dX6_digest_182 rfl ?_
      refine zw_callV 186 _ _ dX6_digest_183 rfl kX6_315 qX6_digests ly217 ⟨_, rfl, rfl⟩ (by decide) (sp_X6_digests (d := d - 1) (by omega) (fun i h0 h1 => by (first | rw [zwr218] | skip); have := zVN_m hV h0 h1; omega)) (by omega) rfl rfl (Nat.le_of_ble_eq_true rfl) (fun r σ' hq => ?_)
      obtain ⟨rfl, rfl⟩ := hq
      simp only [zwr_same, zwr_twice, zdg_1, zwr218]
      refine zw_ldc2 189 (31) dX6_digest_186 rfl cX6_308 ?_
      refine zw_ldc2 192 (31) dX6_digest_189 rfl cX6_308 ?_
      refine zw_aload_n 193 dX6_digest_192 rfl rfl ?_
      refine zw_gtl 196 23 dX6_digest_193 rfl fX6_310 (by decide) rfl rfl ly217 ?_
      refine zw_lmul 197 dX6_digest_196 rfl ?_
      refine zw_aload_n 198 dX6_digest_197 rfl rfl ?_
      refine zw_gtl 201 7 dX6_digest_198 rfl fX6_278 (by decide) rfl rfl ly217 ?_
      refine zw_ladd 202 dX6_digest_201 rfl ?_
      refine zw_lmul 203 dX6_digest_202 rfl ?_
      refine zw_aload_n 204 dX6_digest_203 rfl rfl ?_
      refine zw_gtl 207 8 dX6_digest_204 rfl fX6_29 (by decide) rfl rfl ly217 ?_
      refine zw_ladd 208 dX6_digest_207 rfl ?_
      refine zw_lret dX6_digest_208 rfl ?_
      have e : c = σ 218 48 := by omega
      subst e
      exact ⟨by rw [zwr2177, zwr2178]; rfl, zNS_wr _ _ _ (by unfold zSk; omega) (by decide) (by decide)⟩
    · exfalso; omega
  | succ m ih =>
    intro c hk hk0
    have hs := hV.1
    have hv := hV.2.1
    have hy := hV.2.2.1
    have gN := hs.1
    have gC := hs.2.1
    have gW := hV.2.2.2.1.1
    have gM := hV.2.2.2.2.1.1
    have gK := hV.2.2.2.2.2.1.1
    refine zw_iload_n 89 dX6_digest_88 rfl rfl ?_
    refine zw_aload_n 90 dX6_digest_89 rfl rfl ?_
    refine zw_getr 93 (218) (o := 1) dX6_digest_90 rfl fX6_7 (by decide) rfl rfl ly217 ?_
    refine zw_bipush 95 dX6_digest_93 rfl (by decide) ?_
    refine zw_iald 96 dX6_digest_95 rfl ly218 (by omega) ?_
    rw [zwr218]
    refine zw_icmp_ge 141 99 dX6_digest_96 (by decide) rfl (by omega) (by omega) (fun h96 => ?_) (fun h96 => ?_)
    · refine zw_aload_n 142 dX6_digest_141 rfl rfl ?_
      refine zw_bipush 144 dX6_digest_142 rfl (by decide) ?_
      refine zw_iconst 145 dX6_digest_144 rfl ?_
      refine zw_aload_n 146 dX6_digest_145 rfl rfl ?_
      refine zw_getr 149 (218) (o := 1) dX6_digest_146 rfl fX6_7 (by decide) rfl rfl ly217 ?_
      refine zw_bipush 151 dX6_digest_149 rfl (by decide) ?_
      refine zw_iald 152 dX6_digest_151 rfl ly218 (by omega) ?_
      rw [zwr218]
      refine zw_imul 153 dX6_digest_152 rfl ?_
      refine zw_callV 156 _ _ dX6_digest_153 rfl kX6_315 qX6_digests ly217 ⟨_, rfl, rfl⟩ (by decide) (sp_X6_digests (d := d - 1) (by omega) (fun i h0 h1 => by (first | rw [zwr218] | skip); have := zVN_w hV h0 h1; omega)) (by omega) rfl rfl (Nat.le_of_ble_eq_true rfl) (fun r σ' hq => ?_)
      obtain ⟨rfl, rfl⟩ := hq
      simp only [zwr_same, zwr_twice, zdg_1, zwr218]
      refine zw_aload_n 157 dX6_digest_156 rfl rfl ?_
      refine zw_bipush 159 dX6_digest_157 rfl (by decide) ?_
      refine zw_iconst 160 dX6_digest_159 rfl ?_
      refine zw_aload_n 161 dX6_digest_160 rfl rfl ?_
      refine zw_getr 164 (218) (o := 1) dX6_digest_161 rfl fX6_7 (by decide) rfl rfl ly217 ?_
      refine zw_bipush 166 dX6_digest_164 rfl (by decide) ?_
      refine zw_iald 167 dX6_digest_166 rfl ly218 (by omega) ?_
      rw [zwr218]
      refine zw_imul 168 dX6_digest_167 rfl ?_
      refine zw_callV 171 _ _ dX6_digest_168 rfl kX6_315 qX6_digests ly217 ⟨_, rfl, rfl⟩ (by decide) (sp_X6_digests (d := d - 1) (by omega) (fun i h0 h1 => by (first | rw [zwr218] | skip); have := zVN_n hV h0 h1; omega)) (by omega) rfl rfl (Nat.le_of_ble_eq_true rfl) (fun r σ' hq => ?_)
      obtain ⟨rfl, rfl⟩ := hq
      simp only [zwr_same, zwr_twice, zdg_1, zwr218]
      refine zw_aload_n 172 dX6_digest_171 rfl rfl ?_
      refine zw_bipush 174 dX6_digest_172 rfl (by decide) ?_
      refine zw_iconst 175 dX6_digest_174 rfl ?_
      refine zw_aload_n 176 dX6_digest_175 rfl rfl ?_
      refine zw_getr 179 (218) (o := 1) dX6_digest_176 rfl fX6_7 (by decide) rfl rfl ly217 ?_
      refine zw_bipush 181 dX6_digest_179 rfl (by decide) ?_
      refine zw_iald 182 dX6_digest_181 rfl ly218 (by omega) ?_
      rw [zwr218]
      refine zw_imul 183 dX6_digest_182 rfl ?_
      refine zw_callV 186 _ _ dX6_digest_183 rfl kX6_315 qX6_digests ly217 ⟨_, rfl, rfl⟩ (by decide) (sp_X6_digests (d := d - 1) (by omega) (fun i h0 h1 => by (first | rw [zwr218] | skip); have := zVN_m hV h0 h1; omega)) (by omega) rfl rfl (Nat.le_of_ble_eq_true rfl) (fun r σ' hq => ?_)
      obtain ⟨rfl, rfl⟩ := hq
      simp only [zwr_same, zwr_twice, zdg_1, zwr218]
      refine zw_ldc2 189 (31) dX6_digest_186 rfl cX6_308 ?_
      refine zw_ldc2 192 (31) dX6_digest_189 rfl cX6_308 ?_
      refine zw_aload_n 193 dX6_digest_192 rfl rfl ?_
      refine zw_gtl 196 23 dX6_digest_193 rfl fX6_310 (by decide) rfl rfl ly217 ?_
      refine zw_lmul 197 dX6_digest_196 rfl ?_
      refine zw_aload_n 198 dX6_digest_197 rfl rfl ?_
      refine zw_gtl 201 7 dX6_digest_198 rfl fX6_278 (by decide) rfl rfl ly217 ?_
      refine zw_ladd 202 dX6_digest_201 rfl ?_
      refine zw_lmul 203 dX6_digest_202 rfl ?_
      refine zw_aload_n 204 dX6_digest_203 rfl rfl ?_
      refine zw_gtl 207 8 dX6_digest_204 rfl fX6_29 (by decide) rfl rfl ly217 ?_
      refine zw_ladd 208 dX6_digest_207 rfl ?_
      refine zw_lret dX6_digest_208 rfl ?_
      exfalso; omega
    · refine zw_aload_n 100 dX6_digest_99 rfl rfl ?_
      refine zw_bipush 102 dX6_digest_100 rfl (by decide) ?_
      refine zw_iload_n 103 dX6_digest_102 rfl rfl ?_
      refine zw_iadd 104 dX6_digest_103 rfl ?_
      refine zw_iconst 105 dX6_digest_104 rfl ?_
      refine zw_callV 108 _ _ dX6_digest_105 rfl kX6_315 qX6_digests ly217 ⟨_, rfl, rfl⟩ (by decide) (sp_X6_digests (d := d - 1) (by omega) (fun i h0 h1 => by (first | rw [zwr218] | skip); have := hs.c (c := c) (by omega) (by omega); rw [show i = 49 + c by omega]; omega)) (by omega) rfl rfl (Nat.le_of_ble_eq_true rfl) (fun r σ' hq => ?_)
      obtain ⟨rfl, rfl⟩ := hq
      simp only [zwr_same, zwr_twice, zdg_1, zwr218]
      refine zw_aload_n 109 dX6_digest_108 rfl rfl ?_
      refine zw_bipush 111 dX6_digest_109 rfl (by decide) ?_
      refine zw_iload_n 112 dX6_digest_111 rfl rfl ?_
      refine zw_iadd 113 dX6_digest_112 rfl ?_
      refine zw_iconst 114 dX6_digest_113 rfl ?_
      refine zw_callV 117 _ _ dX6_digest_114 rfl kX6_315 qX6_digests ly217 ⟨_, rfl, rfl⟩ (by decide) (sp_X6_digests (d := d - 1) (by omega) (fun i h0 h1 => by (first | rw [zwr218] | skip); have := hs.c (c := c) (by omega) (by omega); rw [show i = 54 + c by omega]; omega)) (by omega) rfl rfl (Nat.le_of_ble_eq_true rfl) (fun r σ' hq => ?_)
      obtain ⟨rfl, rfl⟩ := hq
      simp only [zwr_same, zwr_twice, zdg_1, zwr218]
      refine zw_aload_n 118 dX6_digest_117 rfl rfl ?_
      refine zw_iconst 119 dX6_digest_118 rfl ?_
      refine zw_iload_n 120 dX6_digest_119 rfl rfl ?_
      refine zw_iadd0 121 dX6_digest_120 rfl ?_
      refine zw_iconst 122 dX6_digest_121 rfl ?_
      refine zw_callV 125 _ _ dX6_digest_122 rfl kX6_315 qX6_digests ly217 ⟨_, rfl, rfl⟩ (by decide) (sp_X6_digests (d := d - 1) (by omega) (fun i h0 h1 => by (first | rw [zwr218] | skip); have := hv.1 c (by omega) (by omega); rw [show i = c by omega]; omega)) (by omega) rfl rfl (Nat.le_of_ble_eq_true rfl) (fun r σ' hq => ?_)
      obtain ⟨rfl, rfl⟩ := hq
      simp only [zwr_same, zwr_twice, zdg_1, zwr218]
      refine zw_aload_n 126 dX6_digest_125 rfl rfl ?_
      refine zw_iconst 127 dX6_digest_126 rfl ?_
      refine zw_iconst 128 dX6_digest_127 rfl ?_
      refine zw_iload_n 129 dX6_digest_128 rfl rfl ?_
      refine zw_imul 130 dX6_digest_129 rfl ?_
      refine zw_iadd 131 dX6_digest_130 rfl ?_
      refine zw_iconst 132 dX6_digest_131 rfl ?_
      refine zw_callV 135 _ _ dX6_digest_132 rfl kX6_315 qX6_digests ly217 ⟨_, rfl, rfl⟩ (by decide) (sp_X6_digests (d := d - 1) (by omega) (fun i h0 h1 => by (first | rw [zwr218] | skip); have := hv.2.1 (i - 5) (by omega) (by omega); rw [show i = 5 + (i - 5) by omega]; omega)) (by omega) rfl rfl (Nat.le_of_ble_eq_true rfl) (fun r σ' hq => ?_)
      obtain ⟨rfl, rfl⟩ := hq
      simp only [zwr_same, zwr_twice, zdg_1, zwr218]
      refine zw_iinc 138 dX6_digest_135 rfl (by decide) rfl ?_
      refine zw_goto 88 dX6_digest_138 (by decide) ?_
      refine zw_loc [true, true] rfl ?_
      rw [show Int.toNat 4 = 4 from rfl, ← zdc_s _ _ hk0]
      exact ih (c + 1) (by omega) (by omega)
theorem lp2_X6_digest {l : Launch} {d : Nat} {σ : zMem} (hd : 8 ≤ d) (hV : zVN (σ 218)) (hT : 0 ≤ σ 217 6 ∧ σ 217 6 ≤ 150)  : ∀ (m : Nat) (s : Int), s + m = σ 218 33 → 0 ≤ s → zw l d mX6_digest 42 [some (.ref 217), some (.int (zI s))] [] (zwr σ 217 23 (zds (σ 218) s.toNat (zdg (zcnt (σ 218) (σ 217 6)) 0 11 1499))) (fun a σ' => a = some (.long (zL (31 * (31 * zdR (σ 218) (σ 217 6) + σ 217 7) + σ 217 8))) ∧ zNS σ σ') := by
  intro m
  induction m with
  | zero =>
    intro s hk hk0
    have hs := hV.1
    have hv := hV.2.1
    have hy := hV.2.2.1
    have gN := hs.1
    have gC := hs.2.1
    refine zw_iload_n 43 dX6_digest_42 rfl rfl ?_
    refine zw_aload_n 44 dX6_digest_43 rfl rfl ?_
    refine zw_getr 47 (218) (o := 1) dX6_digest_44 rfl fX6_7 (by decide) rfl rfl ly217 ?_
    refine zw_bipush 49 dX6_digest_47 rfl (by decide) ?_
    refine zw_iald 50 dX6_digest_49 rfl ly218 (by omega) ?_
    rw [zwr218]
    refine zw_icmp_ge 86 53 dX6_digest_50 (by decide) rfl (by omega) (by omega) (fun h50 => ?_) (fun h50 => ?_)
    · refine zw_iconst 87 dX6_digest_86 rfl ?_
      refine zw_istore_n 88 dX6_digest_87 rfl (by decide) ?_
      refine zw_loc [true, true] rfl ?_
      have e : s = σ 218 33 := by omega
      subst e
      exact lp3_X6_digest (σ := σ) hd hV hT (σ 218 48).toNat 0 (by omega) (by omega)
    · exfalso; omega
  | succ m ih =>
    intro s hk hk0
    have hs := hV.1
    have hv := hV.2.1
    have hy := hV.2.2.1
    have gN := hs.1
    have gC := hs.2.1
    refine zw_iload_n 43 dX6_digest_42 rfl rfl ?_
    refine zw_aload_n 44 dX6_digest_43 rfl rfl ?_
    refine zw_getr 47 (218) (o := 1) dX6_digest_44 rfl fX6_7 (by decide) rfl rfl ly217 ?_
    refine zw_bipush 49 dX6_digest_47 rfl (by decide) ?_
    refine zw_iald 50 dX6_digest_49 rfl ly218 (by omega) ?_
    rw [zwr218]
    refine zw_icmp_ge 86 53 dX6_digest_50 (by decide) rfl (by omega) (by omega) (fun h50 => ?_) (fun h50 => ?_)
    · refine zw_iconst 87 dX6_digest_86 rfl ?_
      refine zw_istore_n 88 dX6_digest_87 rfl (by decide) ?_
      refine zw_loc [true, true] rfl ?_
      have e : s = σ 218 33 := by omega
      subst e
      exact lp3_X6_digest (σ := σ) hd hV hT (σ 218 48).toNat 0 (by omega) (by omega)
    · refine zw_aload_n 54 dX6_digest_53 rfl rfl ?_
      refine zw_bipush 56 dX6_digest_54 rfl (by decide) ?_
      refine zw_iload_n 57 dX6_digest_56 rfl rfl ?_
      refine zw_iadd 58 dX6_digest_57 rfl ?_
      refine zw_iconst 59 dX6_digest_58 rfl ?_
      refine zw_callV 62 _ _ dX6_digest_59 rfl kX6_315 qX6_digests ly217 ⟨_, rfl, rfl⟩ (by decide) (sp_X6_digests (d := d - 1) (by omega) (fun i h0 h1 => by (first | rw [zwr218] | skip); have := hs.s (s := s) (by omega) (by omega); rw [show i = 34 + s by omega]; omega)) (by omega) rfl rfl (Nat.le_of_ble_eq_true rfl) (fun r σ' hq => ?_)
      obtain ⟨rfl, rfl⟩ := hq
      simp only [zwr_same, zwr_twice, zdg_1, zwr218]
      refine zw_aload_n 63 dX6_digest_62 rfl rfl ?_
      refine zw_bipush 65 dX6_digest_63 rfl (by decide) ?_
      refine zw_iload_n 66 dX6_digest_65 rfl rfl ?_
      refine zw_iadd 67 dX6_digest_66 rfl ?_
      refine zw_iconst 68 dX6_digest_67 rfl ?_
      refine zw_callV 71 _ _ dX6_digest_68 rfl kX6_315 qX6_digests ly217 ⟨_, rfl, rfl⟩ (by decide) (sp_X6_digests (d := d - 1) (by omega) (fun i h0 h1 => by (first | rw [zwr218] | skip); have := hs.s (s := s) (by omega) (by omega); rw [show i = 41 + s by omega]; omega)) (by omega) rfl rfl (Nat.le_of_ble_eq_true rfl) (fun r σ' hq => ?_)
      obtain ⟨rfl, rfl⟩ := hq
      simp only [zwr_same, zwr_twice, zdg_1, zwr218]
      refine zw_aload_n 72 dX6_digest_71 rfl rfl ?_
      refine zw_bipush 74 dX6_digest_72 rfl (by decide) ?_
      refine zw_iload_n 75 dX6_digest_74 rfl rfl ?_
      refine zw_iadd 76 dX6_digest_75 rfl ?_
      refine zw_iconst 77 dX6_digest_76 rfl ?_
      refine zw_callV 80 _ _ dX6_digest_77 rfl kX6_315 qX6_digests ly217 ⟨_, rfl, rfl⟩ (by decide) (sp_X6_digests (d := d - 1) (by omega) (fun i h0 h1 => by (first | rw [zwr218] | skip); have := hv.2.2.1 s (by omega) (by omega); rw [show i = 25 + s by omega]; omega)) (by omega) rfl rfl (Nat.le_of_ble_eq_true rfl) (fun r σ' hq => ?_)
      obtain ⟨rfl, rfl⟩ := hq
      simp only [zwr_same, zwr_twice, zdg_1, zwr218]
      refine zw_iinc 83 dX6_digest_80 rfl (by decide) rfl ?_
      refine zw_goto 42 dX6_digest_83 (by decide) ?_
      refine zw_loc [true, true] rfl ?_
      rw [← zds_s _ _ hk0]
      exact ih (s + 1) (by omega) (by omega)
theorem lp1_X6_digest {l : Launch} {d : Nat} {σ : zMem} (hd : 8 ≤ d) (hV : zVN (σ 218)) (hT : 0 ≤ σ 217 6 ∧ σ 217 6 ≤ 150)  : ∀ (m : Nat) (w : Int), w + m = 11 → 0 ≤ w → zw l d mX6_digest 9 [some (.ref 217), some (.int (zI w))] [] (zwr σ 217 23 (zdg (zcnt (σ 218) (σ 217 6)) 0 w.toNat 1499)) (fun a σ' => a = some (.long (zL (31 * (31 * zdR (σ 218) (σ 217 6) + σ 217 7) + σ 217 8))) ∧ zNS σ σ') := by
  intro m
  induction m with
  | zero =>
    intro w hk hk0
    have hs := hV.1
    have hv := hV.2.1
    have hy := hV.2.2.1
    have gN := hs.1
    have gC := hs.2.1
    refine zw_iload_n 10 dX6_digest_9 rfl rfl ?_
    refine zw_bipush 12 dX6_digest_10 rfl (by decide) ?_
    refine zw_icmp_ge 40 15 dX6_digest_12 (by decide) rfl (by omega) (by omega) (fun h12 => ?_) (fun h12 => ?_)
    · refine zw_iconst 41 dX6_digest_40 rfl ?_
      refine zw_istore_n 42 dX6_digest_41 rfl (by decide) ?_
      refine zw_loc [true, true] rfl ?_
      have e : w = 11 := by omega
      subst e
      exact lp2_X6_digest (σ := σ) hd hV hT (σ 218 33).toNat 0 (by omega) (by omega)
    · exfalso; omega
  | succ m ih =>
    intro w hk hk0
    have hs := hV.1
    have hv := hV.2.1
    have hy := hV.2.2.1
    have gN := hs.1
    have gC := hs.2.1
    refine zw_iload_n 10 dX6_digest_9 rfl rfl ?_
    refine zw_bipush 12 dX6_digest_10 rfl (by decide) ?_
    refine zw_icmp_ge 40 15 dX6_digest_12 (by decide) rfl (by omega) (by omega) (fun h12 => ?_) (fun h12 => ?_)
    · refine zw_iconst 41 dX6_digest_40 rfl ?_
      refine zw_istore_n 42 dX6_digest_41 rfl (by decide) ?_
      refine zw_loc [true, true] rfl ?_
      have e : w = 11 := by omega
      subst e
      exact lp2_X6_digest (σ := σ) hd hV hT (σ 218 33).toNat 0 (by omega) (by omega)
    · refine zw_aload_n 16 dX6_digest_15 rfl rfl ?_
      refine zw_ldc2 19 (31) dX6_digest_16 rfl cX6_308 ?_
      refine zw_aload_n 20 dX6_digest_19 rfl rfl ?_
      refine zw_gtl 23 23 dX6_digest_20 rfl fX6_310 (by decide) rfl rfl ly217 ?_
      refine zw_lmul 24 dX6_digest_23 rfl ?_
      refine zw_aload_n 25 dX6_digest_24 rfl rfl ?_
      refine zw_iload_n 26 dX6_digest_25 rfl rfl ?_
      refine zw_callV 29 _ _ dX6_digest_26 rfl kX6_305 qX6_counted ly217 ⟨_, rfl, rfl⟩ (by decide) (sp_X6_counted (d := d - 1) (by omega) (by omega) (by rw [zwr218]; exact hV) (by rw [zwr2176]; exact hT)) (by omega) rfl rfl (Nat.le_of_ble_eq_true rfl) (fun r σ' hq => ?_)
      obtain ⟨rfl, rfl⟩ := hq
      rw [zwr218, zwr2176]
      have hcb := zcnt_b (w := w) hV hT
      refine zw_i2l 30 dX6_digest_29 rfl (by omega) ?_
      refine zw_ladd 31 dX6_digest_30 rfl ?_
      refine zw_ptl 34 23 dX6_digest_31 rfl pX6_310 (by decide) rfl rfl ly217 ?_
      simp only [zwr_same, zwr_twice]
      refine zw_iinc 37 dX6_digest_34 rfl (by decide) rfl ?_
      refine zw_goto 9 dX6_digest_37 (by decide) ?_
      refine zw_loc [true, true] rfl ?_
      rw [show zcnt (σ 218) (σ 217 6) w = zcnt (σ 218) (σ 217 6) (0 + w) by rw [Int.zero_add], ← zdg_s _ _ _ hk0]
      exact ih (w + 1) (by omega) (by omega)
theorem sp_X6_digest {l : Launch} {d : Nat} {σ : zMem} (hd : 8 ≤ d) (hV : zVN (σ 218)) (hT : 0 ≤ σ 217 6 ∧ σ 217 6 ≤ 150)  : zSp l d mX6_digest [.ref 217] σ (fun a σ' => a = some (.long (zL (31 * (31 * zdR (σ 218) (σ 217 6) + σ 217 7) + σ 217 8))) ∧ zNS σ σ') := by
  refine zSp_of oX6_digest (Nat.le_of_ble_eq_true rfl) ?_
  show zw l d mX6_digest 0 [some (.ref 217), none] [] σ _
  have gN := hV.1.1
  refine zw_aload_n 1 dX6_digest_0 rfl rfl ?_
  refine zw_ldc2 4 (1499) dX6_digest_1 rfl cX6_313 ?_
  refine zw_ptl 7 23 dX6_digest_4 rfl pX6_310 (by decide) rfl rfl ly217 ?_
  refine zw_iconst 8 dX6_digest_7 rfl ?_
  refine zw_istore_n 9 dX6_digest_8 rfl (by decide) ?_
  exact lp1_X6_digest (σ := σ) hd hV hT 11 0 (by omega) (by omega)
