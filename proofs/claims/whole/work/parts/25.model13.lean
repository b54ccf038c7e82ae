def zwy (lv al st : Int) : Nat → Int
  | 0 => 1
  | n + 1 => zwy lv al st n * (if zbt st n = 1 then lv else al - lv)
theorem zwy_s (lv al st : Int) {k : Int} (h : 0 ≤ k) : zwy lv al st (k + 1).toNat = zwy lv al st k.toNat * (if zbt st k = 1 then lv else al - lv) := by
  have e : (k + 1).toNat = k.toNat + 1 := by omega
  have e2 : ((k.toNat : Nat) : Int) = k := by omega
  rw [e, zwy, e2]
def zlf (lv al k : Int) (n : Nat) (st : Int) : Int := if k ≤ zct (zbt st) n then zwy lv al st n else 0
def zlS (lv al k : Int) (n : Nat) : Int := zct (zlf lv al k n) (2 ^ n)
def zch (n : Int) : Nat → Int
  | 0 => 1
  | i + 1 => zch n i * (n - i) / (i + 1)
def zlg (lv al n : Int) (j : Int) : Int := zch n j.toNat * lv ^ j.toNat * (al - lv) ^ (n - j).toNat
/-- the same, by how many are left -/
def zlC (lv al k n : Int) : Int := zct (fun t => zlg lv al n (k + t)) (n + 1 - k).toNat
def zlq (m c k n : Nat) : Bool := decide (zlS ((10 - (c : Int)) ^ m) (10 ^ m) k n = zlC ((10 - (c : Int)) ^ m) (10 ^ m) k n ∧ 0 ≤ zlS ((10 - (c : Int)) ^ m) (10 ^ m) k n ∧ zlS ((10 - (c : Int)) ^ m) (10 ^ m) k n ≤ 1000000000000000 ∧ 1 ≤ ((10 : Int) ^ m) ^ n ∧ ((10 : Int) ^ m) ^ n ≤ 1000000000000000)
set_option maxRecDepth 100000 in
theorem zlq_ok : ∀ m, m < 4 → ∀ c, c < 11 → ∀ k, k < 6 → ∀ n, n < 6 → zlq m c k n = true := by decide +kernel
theorem zlq_int {m c k n : Int} (hm : 0 ≤ m ∧ m ≤ 3) (hc : 0 ≤ c ∧ c ≤ 10) (hk : 0 ≤ k ∧ k ≤ 5) (hn : 0 ≤ n ∧ n ≤ 5) : zlS ((10 - c) ^ m.toNat) (10 ^ m.toNat) k n.toNat = zlC ((10 - c) ^ m.toNat) (10 ^ m.toNat) k n ∧ 0 ≤ zlS ((10 - c) ^ m.toNat) (10 ^ m.toNat) k n.toNat ∧ zlS ((10 - c) ^ m.toNat) (10 ^ m.toNat) k n.toNat ≤ 1000000000000000 ∧ 1 ≤ ((10 : Int) ^ m.toNat) ^ n.toNat ∧ ((10 : Int) ^ m.toNat) ^ n.toNat ≤ 1000000000000000 := by
  obtain ⟨m1, rfl⟩ := Int.eq_ofNat_of_zero_le hm.1
  obtain ⟨c1, rfl⟩ := Int.eq_ofNat_of_zero_le hc.1
  obtain ⟨k1, rfl⟩ := Int.eq_ofNat_of_zero_le hk.1
  obtain ⟨n1, rfl⟩ := Int.eq_ofNat_of_zero_le hn.1
  have h := zlq_ok m1 (by omega) c1 (by omega) k1 (by omega) n1 (by omega)
  exact of_decide_eq_true h
theorem zpow_s (b : Int) {k : Int} (h : 0 ≤ k) : b ^ (k + 1).toNat = b ^ k.toNat * b := by
  have e : (k + 1).toNat = k.toNat + 1 := by omega
  rw [e, Int.pow_succ]
/-- THE FRACTION, in lowest terms -/
def zfr (σ : zMem) (x y : Int) : zMem := zwr (zwr σ 217 7 (x / (Int.gcd x y : Int))) 217 8 (y / (Int.gcd x y : Int))
theorem zgcd_step {a b : Int} (ha : 0 ≤ a) (hb : 0 < b) : Int.gcd b (a % b) = Int.gcd a b := by
  obtain ⟨x, rfl⟩ := Int.eq_ofNat_of_zero_le ha
  obtain ⟨y, rfl⟩ := Int.eq_ofNat_of_zero_le (Int.le_of_lt hb)
  rw [← Int.natCast_emod]
  show Nat.gcd y (x % y) = Nat.gcd x y
  rw [Nat.gcd_comm y, ← Nat.gcd_rec, Nat.gcd_comm]
theorem lp_X6_fraction {l : Launch} {d : Nat} {σ : zMem} {x y : Int} (hx : 0 ≤ x ∧ x < 4611686018427387904) (hy : 0 < y ∧ y < 4611686018427387904) : ∀ (m : Nat) (a b : Int), b ≤ m → 0 ≤ b → b < 4611686018427387904 → 0 ≤ a → a < 4611686018427387904 → (a ≠ 0 ∨ b ≠ 0) → Int.gcd a b = Int.gcd x y → zw l d mX6_fraction 6 [some (.ref 217), some (.long (zL x)), none, some (.long (zL y)), none, some (.long (zL a)), none, some (.long (zL b)), none, none, none] [] σ (zRv (zfr σ x y)) := by
  intro m
  induction m with
  | zero =>
    intro a b h1 h2 h3 h4 h5 h6 h7
    obtain rfl : b = 0 := by omega
    have e : (Int.gcd x y : Int) = a := by rw [← h7, Int.gcd_zero_right]; omega
    have z1 := zcmp_spec 0 0
    refine zw_lload 8 dX6_fraction_6 rfl rfl ?_
    refine zw_lconst 9 0 dX6_fraction_8 rfl (by decide) ?_
    refine zw_lcmp 10 dX6_fraction_9 rfl (by omega) (by omega) ?_
    refine zw_if_eq 31 13 dX6_fraction_10 (by decide) rfl (by omega) (fun h10 => ?_) (fun h10 => ?_)
    · refine zw_aload_n 32 dX6_fraction_31 rfl rfl ?_
      refine zw_lload_n 33 dX6_fraction_32 rfl rfl ?_
      refine zw_lload 35 dX6_fraction_33 rfl rfl ?_
      refine zw_ldiv 36 dX6_fraction_35 rfl (by omega) (by omega) ?_
      refine zw_ptl 39 7 dX6_fraction_36 rfl pX6_278 (by decide) rfl rfl ly217 ?_
      refine zw_aload_n 40 dX6_fraction_39 rfl rfl ?_
      refine zw_lload_n 41 dX6_fraction_40 rfl rfl ?_
      refine zw_lload 43 dX6_fraction_41 rfl rfl ?_
      refine zw_ldiv 44 dX6_fraction_43 rfl (by omega) (by omega) ?_
      refine zw_ptl 47 8 dX6_fraction_44 rfl pX6_29 (by decide) rfl rfl ly217 ?_
      refine zw_vret dX6_fraction_47 rfl ?_
      exact ⟨rfl, by unfold zfr; rw [e]⟩
    · exfalso; omega
  | succ m ih =>
    intro a b h1 h2 h3 h4 h5 h6 h7
    have z1 := zcmp_spec b 0
    refine zw_lload 8 dX6_fraction_6 rfl rfl ?_
    refine zw_lconst 9 0 dX6_fraction_8 rfl (by decide) ?_
    refine zw_lcmp 10 dX6_fraction_9 rfl (by omega) (by omega) ?_
    refine zw_if_eq 31 13 dX6_fraction_10 (by decide) rfl (by omega) (fun h10 => ?_) (fun h10 => ?_)
    · obtain rfl : b = 0 := by omega
      have e : (Int.gcd x y : Int) = a := by rw [← h7, Int.gcd_zero_right]; omega
      refine zw_aload_n 32 dX6_fraction_31 rfl rfl ?_
      refine zw_lload_n 33 dX6_fraction_32 rfl rfl ?_
      refine zw_lload 35 dX6_fraction_33 rfl rfl ?_
      refine zw_ldiv 36 dX6_fraction_35 rfl (by omega) (by omega) ?_
      refine zw_ptl 39 7 dX6_fraction_36 rfl pX6_278 (by decide) rfl rfl ly217 ?_
      refine zw_aload_n 40 dX6_fraction_39 rfl rfl ?_
      refine zw_lload_n 41 dX6_fraction_40 rfl rfl ?_
      refine zw_lload 43 dX6_fraction_41 rfl rfl ?_
      refine zw_ldiv 44 dX6_fraction_43 rfl (by omega) (by omega) ?_
      refine zw_ptl 47 8 dX6_fraction_44 rfl pX6_29 (by decide) rfl rfl ly217 ?_
      refine zw_vret dX6_fraction_47 rfl ?_
      exact ⟨rfl, by unfold zfr; rw [e]⟩
    · refine zw_lload 15 dX6_fraction_13 rfl rfl ?_
      refine zw_lload 17 dX6_fraction_15 rfl rfl ?_
      refine zw_lrem 18 dX6_fraction_17 rfl (by omega) (by omega) ?_
      refine zw_lstore 20 dX6_fraction_18 rfl (by decide) ?_
      refine zw_lload 22 dX6_fraction_20 rfl rfl ?_
      refine zw_lstore 24 dX6_fraction_22 rfl (by decide) ?_
      refine zw_lload 26 dX6_fraction_24 rfl rfl ?_
      refine zw_lstore 28 dX6_fraction_26 rfl (by decide) ?_
      refine zw_goto 6 dX6_fraction_28 (by decide) ?_
      refine zw_loc [true, true, false, true, false, true, false, true, false, false, false] rfl ?_
      have e1 := Int.emod_nonneg a (show b ≠ 0 by omega)
      have e2 := Int.emod_lt_of_pos a (show 0 < b by omega)
      exact ih b (a % b) (by omega) (by omega) (by omega) (by omega) (by omega) (by omega) (by rw [zgcd_step (by omega) (by omega)]; exact h7)
theorem sp_X6_fraction {l : Launch} {d : Nat} {σ : zMem} {x y : Int} (hx : 0 ≤ x ∧ x < 4611686018427387904) (hy : 0 < y ∧ y < 4611686018427387904)  : zSp l d mX6_fraction [.ref 217, .long (zL x), .long (zL y)] σ (zRv (zfr σ x y)) := by
  refine zSp_of oX6_fraction (Nat.le_of_ble_eq_true rfl) ?_
  show zw l d mX6_fraction 0 [some (.ref 217), some (.long (zL x)), none, some (.long (zL y)), none, none, none, none, none, none, none] [] σ _
  refine zw_lload_n 1 dX6_fraction_0 rfl rfl ?_
  refine zw_lstore 3 dX6_fraction_1 rfl (by decide) ?_
  refine zw_lload_n 4 dX6_fraction_3 rfl rfl ?_
  refine zw_lstore 6 dX6_fraction_4 rfl (by decide) ?_
  exact lp_X6_fraction (σ := σ) hx hy y.toNat x y (by omega) (by omega) (by omega) (by omega) (by omega) (by omega) rfl
theorem lp4_X6_left {l : Launch} {d : Nat} {σ : zMem} (hd : 8 ≤ d) {k mm c : Int} (hc : (0 ≤ k ∧ k ≤ 5) ∧ (0 ≤ mm ∧ mm ≤ 3) ∧ 0 ≤ c ∧ c ≤ 10) (hV : zVN (σ 218)) {sm st : Int} (hst : 0 ≤ st ∧ st < 64) (hx : zw l d mX6_left 195 [some (.ref 217), some (.int (zI k)), some (.int (zI mm)), some (.int (zI c)), some (.long (zL ((10 - c) ^ mm.toNat))), none, some (.long (zL (10 ^ mm.toNat))), none, some (.long (zL sm)), none, some (.long (zL (((10 : Int) ^ mm.toNat) ^ (σ 218 48).toNat))), none, some (.int (zI st)), some (.long (zL (zwy ((10 - c) ^ mm.toNat) (10 ^ mm.toNat) st (σ 218 48).toNat))), none, some (.int (zI (zct (zbt st) (σ 218 48).toNat))), none] [] σ (zA3 ((0 ≤ k ∧ k ≤ 5) ∧ (0 ≤ mm ∧ mm ≤ 3) ∧ 0 ≤ c ∧ c ≤ 10) False σ 224 0 (-2) 2 (-4) 1 (fun σ' => zfr σ (zlS ((10 - c) ^ mm.toNat) (10 ^ mm.toNat) k (σ 218 48).toNat) (((10 : Int) ^ mm.toNat) ^ (σ 218 48).toNat) = σ'))) : ∀ (m : Nat) (i : Int) (wy mn : Int), i + m = σ 218 48 → 0 ≤ i → wy = zwy ((10 - c) ^ mm.toNat) (10 ^ mm.toNat) st i.toNat → mn = zct (zbt st) i.toNat → zw l d mX6_left 140 [some (.ref 217), some (.int (zI k)), some (.int (zI mm)), some (.int (zI c)), some (.long (zL ((10 - c) ^ mm.toNat))), none, some (.long (zL (10 ^ mm.toNat))), none, some (.long (zL sm)), none, some (.long (zL (((10 : Int) ^ mm.toNat) ^ (σ 218 48).toNat))), none, some (.int (zI st)), some (.long (zL wy)), none, some (.int (zI mn)), some (.int (zI i))] [] σ (zA3 ((0 ≤ k ∧ k ≤ 5) ∧ (0 ≤ mm ∧ mm ≤ 3) ∧ 0 ≤ c ∧ c ≤ 10) False σ 224 0 (-2) 2 (-4) 1 (fun σ' => zfr σ (zlS ((10 - c) ^ mm.toNat) (10 ^ mm.toNat) k (σ 218 48).toNat) (((10 : Int) ^ mm.toNat) ^ (σ 218 48).toNat) = σ')) := by
  intro m
  induction m with
  | zero =>
    intro i wy mn hk hk0 e1 e2
    have hs := hV.1
    have gN := hs.1
    have gC := hs.2.1
    refine zw_iload 142 dX6_left_140 rfl rfl ?_
    refine zw_aload_n 143 dX6_left_142 rfl rfl ?_
    refine zw_getr 146 (218) (o := 1) dX6_left_143 rfl fX6_7 (by decide) rfl rfl ly217 ?_
    refine zw_bipush 148 dX6_left_146 rfl (by decide) ?_
    refine zw_iald 149 dX6_left_148 rfl ly218 (by omega) ?_
    refine zw_icmp_ge 195 152 dX6_left_149 (by decide) rfl (by omega) (by omega) (fun h149 => ?_) (fun h149 => ?_)
    · refine zw_loc [true, true, true, true, true, false, true, false, true, false, true, false, true, true, false, true, false] rfl ?_
      have ei : i.toNat = (σ 218 48).toNat := by congr 1; omega
      rw [ei] at e1 e2
      rw [e1, e2]
      exact hx
    · exfalso; omega
  | succ m ih =>
    intro i wy mn hk hk0 e1 e2
    have hs := hV.1
    have gN := hs.1
    have gC := hs.2.1
    refine zw_iload 142 dX6_left_140 rfl rfl ?_
    refine zw_aload_n 143 dX6_left_142 rfl rfl ?_
    refine zw_getr 146 (218) (o := 1) dX6_left_143 rfl fX6_7 (by decide) rfl rfl ly217 ?_
    refine zw_bipush 148 dX6_left_146 rfl (by decide) ?_
    refine zw_iald 149 dX6_left_148 rfl ly218 (by omega) ?_
    refine zw_icmp_ge 195 152 dX6_left_149 (by decide) rfl (by omega) (by omega) (fun h149 => ?_) (fun h149 => ?_)
    · refine zw_loc [true, true, true, true, true, false, true, false, true, false, true, false, true, true, false, true, false] rfl ?_
      have ei : i.toNat = (σ 218 48).toNat := by congr 1; omega
      rw [ei] at e1 e2
      rw [e1, e2]
      exact hx
    · refine zw_lload 154 dX6_left_152 rfl rfl ?_
      refine zw_iload 156 dX6_left_154 rfl rfl ?_
      refine zw_iload 158 dX6_left_156 rfl rfl ?_
      refine zw_callS 161 _ _ dX6_left_158 rfl kX6_265 qX6_has (sp_X6_has (d := d - 1) (by omega) (by omega)) (by omega) rfl rfl (Nat.le_of_ble_eq_true rfl) (fun r σ' hq => ?_)
      obtain ⟨rfl, rfl⟩ := hq
      refine zw_if_eq 169 164 dX6_left_161 (by decide) rfl (by omega) (fun h161 => ?_) (fun h161 => ?_)
      · refine zw_lload 171 dX6_left_169 rfl rfl ?_
        refine zw_lload 173 dX6_left_171 rfl rfl ?_
        refine zw_lsub 174 dX6_left_173 rfl ?_
        refine zw_lmul 175 dX6_left_174 rfl ?_
        refine zw_lstore 177 dX6_left_175 rfl (by decide) ?_
        refine zw_iload 179 dX6_left_177 rfl rfl ?_
        refine zw_iload 181 dX6_left_179 rfl rfl ?_
        refine zw_iload 183 dX6_left_181 rfl rfl ?_
        refine zw_ishr 184 _ dX6_left_183 rfl (zsh_int (by omega) (by omega)) ?_
        refine zw_iconst 185 dX6_left_184 rfl ?_
        refine zw_iand 186 _ dX6_left_185 rfl (zand_int (by have := zsh_b (a := st) (i := i) (by omega); omega)) ?_
        refine zw_iadd 187 dX6_left_186 rfl ?_
        refine zw_istore 189 dX6_left_187 rfl (by decide) ?_
        refine zw_iinc 192 dX6_left_189 rfl (by decide) rfl ?_
        refine zw_goto 140 dX6_left_192 (by decide) ?_
        refine zw_loc [true, true, true, true, true, false, true, false, true, false, true, false, true, true, false, true, true] rfl ?_
        first
          | (refine ih (i + 1) _ _ (by omega) (by omega) ?_ ?_
             · rw [zwy_s _ _ _ hk0, if_pos (show zbt st i = 1 by omega), ← e1]
             · rw [zct_s _ hk0, ← e2]; rfl)
          | (refine ih (i + 1) _ _ (by omega) (by omega) ?_ ?_
             · rw [zwy_s _ _ _ hk0, if_neg (show ¬ zbt st i = 1 by omega), ← e1]
             · rw [zct_s _ hk0, ← e2]; rfl)
      · refine zw_lload 166 dX6_left_164 rfl rfl ?_
        refine zw_goto 174 dX6_left_166 (by decide) ?_
        refine zw_lmul 175 dX6_left_174 rfl ?_
        refine zw_lstore 177 dX6_left_175 rfl (by decide) ?_
        refine zw_iload 179 dX6_left_177 rfl rfl ?_
        refine zw_iload 181 dX6_left_179 rfl rfl ?_
        refine zw_iload 183 dX6_left_181 rfl rfl ?_
        refine zw_ishr 184 _ dX6_left_183 rfl (zsh_int (by omega) (by omega)) ?_
        refine zw_iconst 185 dX6_left_184 rfl ?_
        refine zw_iand 186 _ dX6_left_185 rfl (zand_int (by have := zsh_b (a := st) (i := i) (by omega); omega)) ?_
        refine zw_iadd 187 dX6_left_186 rfl ?_
        refine zw_istore 189 dX6_left_187 rfl (by decide) ?_
        refine zw_iinc 192 dX6_left_189 rfl (by decide) rfl ?_
        refine zw_goto 140 dX6_left_192 (by decide) ?_
        refine zw_loc [true, true, true, true, true, false, true, false, true, false, true, false, true, true, false, true, true] rfl ?_
        first
          | (refine ih (i + 1) _ _ (by omega) (by omega) ?_ ?_
             · rw [zwy_s _ _ _ hk0, if_pos (show zbt st i = 1 by omega), ← e1]
             · rw [zct_s _ hk0, ← e2]; rfl)
          | (refine ih (i + 1) _ _ (by omega) (by omega) ?_ ?_
             · rw [zwy_s _ _ _ hk0, if_neg (show ¬ zbt st i = 1 by omega), ← e1]
             · rw [zct_s _ hk0, ← e2]; rfl)
theorem lp3_X6_left {l : Launch} {d : Nat} {σ : zMem} (hd : 8 ≤ d) {k mm c : Int} (hc : (0 ≤ k ∧ k ≤ 5) ∧ (0 ≤ mm ∧ mm ≤ 3) ∧ 0 ≤ c ∧ c ≤ 10) (hV : zVN (σ 218))  : ∀ (m : Nat) (st : Int) (sm : Int), st + m = 2 ^ (σ 218 48).toNat → 0 ≤ st → sm = zct (zlf ((10 - c) ^ mm.toNat) (10 ^ mm.toNat) k (σ 218 48).toNat) st.toNat → zw l d mX6_left 117 [some (.ref 217), some (.int (zI k)), some (.int (zI mm)), some (.int (zI c)), some (.long (zL ((10 - c) ^ mm.toNat))), none, some (.long (zL (10 ^ mm.toNat))), none, some (.long (zL sm)), none, some (.long (zL (((10 : Int) ^ mm.toNat) ^ (σ 218 48).toNat))), none, some (.int (zI st)), none, none, none, none] [] σ (zA3 ((0 ≤ k ∧ k ≤ 5) ∧ (0 ≤ mm ∧ mm ≤ 3) ∧ 0 ≤ c ∧ c ≤ 10) False σ 224 0 (-2) 2 (-4) 1 (fun σ' => zfr σ (zlS ((10 - c) ^ mm.toNat) (10 ^ mm.toNat) k (σ 218 48).toNat) (((10 : Int) ^ mm.toNat) ^ (σ 218 48).toNat) = σ')) := by
  intro m
  induction m with
  | zero =>
    intro st sm hk hk0 e1
    have hs := hV.1
    have gN := hs.1
    have gC := hs.2.1
    have hn2 := z2k (k := σ 218 48) (by omega)
    refine zw_iload 119 dX6_left_117 rfl rfl ?_
    refine zw_iconst 120 dX6_left_119 rfl ?_
    refine zw_aload_n 121 dX6_left_120 rfl rfl ?_
    refine zw_getr 124 (218) (o := 1) dX6_left_121 rfl fX6_7 (by decide) rfl rfl ly217 ?_
    refine zw_bipush 126 dX6_left_124 rfl (by decide) ?_
    refine zw_iald 127 dX6_left_126 rfl ly218 (by omega) ?_
    refine zw_ishl 128 _ dX6_left_127 rfl (zshl_int (by omega)) ?_
    refine zw_icmp_ge 218 131 dX6_left_128 (by decide) rfl (by omega) (by omega) (fun h128 => ?_) (fun h128 => ?_)
    · have es : sm = zlS ((10 - c) ^ mm.toNat) (10 ^ mm.toNat) k (σ 218 48).toNat := by
        rw [e1]; unfold zlS; congr 1
        have : st = 2 ^ (σ 218 48).toNat := by omega
        rw [this]; exact Int.toNat_pow_of_nonneg (by decide) _
      have hq9 := zlq_int (m := mm) (c := c) (k := k) (n := σ 218 48) (by omega) (by omega) (by omega) (by omega)
      rw [← es] at hq9
      refine zw_aload_n 219 dX6_left_218 rfl rfl ?_
      refine zw_lload 221 dX6_left_219 rfl rfl ?_
      refine zw_lload 223 dX6_left_221 rfl rfl ?_
      refine zw_callV 226 _ _ dX6_left_223 rfl kX6_283 qX6_fraction ly217 ⟨_, rfl, rfl⟩ (by decide) (sp_X6_fraction (d := d - 1) (by omega) (by omega)) (by omega) rfl rfl (Nat.le_of_ble_eq_true rfl) (fun r σ' hq => ?_)
      obtain ⟨rfl, rfl⟩ := hq
      refine zw_iconst 227 dX6_left_226 rfl ?_
      refine zw_iret dX6_left_227 rfl ?_
      rw [es]
      exact zA3_ok (by omega) (by simp) rfl rfl
    · exfalso; omega
  | succ m ih =>
    intro st sm hk hk0 e1
    have hs := hV.1
    have gN := hs.1
    have gC := hs.2.1
    have hn2 := z2k (k := σ 218 48) (by omega)
    refine zw_iload 119 dX6_left_117 rfl rfl ?_
    refine zw_iconst 120 dX6_left_119 rfl ?_
    refine zw_aload_n 121 dX6_left_120 rfl rfl ?_
    refine zw_getr 124 (218) (o := 1) dX6_left_121 rfl fX6_7 (by decide) rfl rfl ly217 ?_
    refine zw_bipush 126 dX6_left_124 rfl (by decide) ?_
    refine zw_iald 127 dX6_left_126 rfl ly218 (by omega) ?_
    refine zw_ishl 128 _ dX6_left_127 rfl (zshl_int (by omega)) ?_
    refine zw_icmp_ge 218 131 dX6_left_128 (by decide) rfl (by omega) (by omega) (fun h128 => ?_) (fun h128 => ?_)
    · have es : sm = zlS ((10 - c) ^ mm.toNat) (10 ^ mm.toNat) k (σ 218 48).toNat := by
        rw [e1]; unfold zlS; congr 1
        have : st = 2 ^ (σ 218 48).toNat := by omega
        rw [this]; exact Int.toNat_pow_of_nonneg (by decide) _
      have hq9 := zlq_int (m := mm) (c := c) (k := k) (n := σ 218 48) (by omega) (by omega) (by omega) (by omega)
      rw [← es] at hq9
      refine zw_aload_n 219 dX6_left_218 rfl rfl ?_
      refine zw_lload 221 dX6_left_219 rfl rfl ?_
      refine zw_lload 223 dX6_left_221 rfl rfl ?_
      refine zw_callV 226 _ _ dX6_left_223 rfl kX6_283 qX6_fraction ly217 ⟨_, rfl, rfl⟩ (by decide) (sp_X6_fraction (d := d - 1) (by omega) (by omega)) (by omega) rfl rfl (Nat.le_of_ble_eq_true rfl) (fun r σ' hq => ?_)
      obtain ⟨rfl, rfl⟩ := hq
      refine zw_iconst 227 dX6_left_226 rfl ?_
      refine zw_iret dX6_left_227 rfl ?_
      exfalso; omega
    · refine zw_lconst 132 1 dX6_left_131 rfl (by decide) ?_
      refine zw_lstore 134 dX6_left_132 rfl (by decide) ?_
      refine zw_iconst 135 dX6_left_134 rfl ?_
      refine zw_istore 137 dX6_left_135 rfl (by decide) ?_
      refine zw_iconst 138 dX6_left_137 rfl ?_
      refine zw_istore 140 dX6_left_138 rfl (by decide) ?_
      refine zw_loc [true, true, true, true, true, false, true, false, true, false, true, false, true, true, false, true, true] rfl ?_
      refine lp4_X6_left (σ := σ) hd hc hV (by omega) ?_ (σ 218 48).toNat 0 1 0 (by omega) (by omega) rfl rfl
      have mb := zct_b (f := zbt st) (σ 218 48).toNat (fun q _ _ => by unfold zbt; omega)
      refine zw_lload 197 dX6_left_195 rfl rfl ?_
      refine zw_iload 199 dX6_left_197 rfl rfl ?_
      refine zw_iload_n 200 dX6_left_199 rfl rfl ?_
      refine zw_icmp_lt 208 203 dX6_left_200 (by decide) rfl (by omega) (by omega) (fun h200 => ?_) (fun h200 => ?_)
      · refine zw_lconst 209 0 dX6_left_208 rfl (by decide) ?_
        refine zw_ladd 210 dX6_left_209 rfl ?_
        refine zw_lstore 212 dX6_left_210 rfl (by decide) ?_
        refine zw_iinc 215 dX6_left_212 rfl (by decide) rfl ?_
        refine zw_goto 117 dX6_left_215 (by decide) ?_
        refine zw_loc [true, true, true, true, true, false, true, false, true, false, true, false, true, false, false, false, false] rfl ?_
        refine ih (st + 1) _ (by omega) (by omega) ?_
        rw [zct_s _ hk0, ← e1]; unfold zlf
        first | (rw [if_pos (show k ≤ zct (zbt st) (σ 218 48).toNat by omega)]; done) | (rw [if_neg (show ¬ k ≤ zct (zbt st) (σ 218 48).toNat by omega)]; done)
      · refine zw_lload 205 dX6_left_203 rfl rfl ?_
        refine zw_goto 209 dX6_left_205 (by decide) ?_
        refine zw_ladd 210 dX6_left_209 rfl ?_
        refine zw_lstore 212 dX6_left_210 rfl (by decide) ?_
        refine zw_iinc 215 dX6_left_212 rfl (by decide) rfl ?_
        refine zw_goto 117 dX6_left_215 (by decide) ?_
        refine zw_loc [true, true, true, true, true, false, true, false, true, false, true, false, true, false, false, false, false] rfl ?_
        refine ih (st + 1) _ (by omega) (by omega) ?_
        rw [zct_s _ hk0, ← e1]; unfold zlf
        first | (rw [if_pos (show k ≤ zct (zbt st) (σ 218 48).toNat by omega)]; done) | (rw [if_neg (show ¬ k ≤ zct (zbt st) (σ 218 48).toNat by omega)]; done)
theorem lp2_X6_left {l : Launch} {d : Nat} {σ : zMem} (hd : 8 ≤ d) {k mm c : Int} (hc : (0 ≤ k ∧ k ≤ 5) ∧ (0 ≤ mm ∧ mm ≤ 3) ∧ 0 ≤ c ∧ c ≤ 10) (hV : zVN (σ 218))  : ∀ (m : Nat) (i : Int) (wh : Int), i + m = σ 218 48 → 0 ≤ i → wh = ((10 : Int) ^ mm.toNat) ^ i.toNat → zw l d mX6_left 89 [some (.ref 217), some (.int (zI k)), some (.int (zI mm)), some (.int (zI c)), some (.long (zL ((10 - c) ^ mm.toNat))), none, some (.long (zL (10 ^ mm.toNat))), none, some (.long (zL 0)), none, some (.long (zL wh)), none, some (.int (zI i)), none, none, none, none] [] σ (zA3 ((0 ≤ k ∧ k ≤ 5) ∧ (0 ≤ mm ∧ mm ≤ 3) ∧ 0 ≤ c ∧ c ≤ 10) False σ 224 0 (-2) 2 (-4) 1 (fun σ' => zfr σ (zlS ((10 - c) ^ mm.toNat) (10 ^ mm.toNat) k (σ 218 48).toNat) (((10 : Int) ^ mm.toNat) ^ (σ 218 48).toNat) = σ')) := by
  intro m
  induction m with
  | zero =>
    intro i wh hk hk0 e1
    have hs := hV.1
    have gN := hs.1
    have gC := hs.2.1
    have hn2 := z2k (k := σ 218 48) (by omega)
    refine zw_iload 91 dX6_left_89 rfl rfl ?_
    refine zw_aload_n 92 dX6_left_91 rfl rfl ?_
    refine zw_getr 95 (218) (o := 1) dX6_left_92 rfl fX6_7 (by decide) rfl rfl ly217 ?_
    refine zw_bipush 97 dX6_left_95 rfl (by decide) ?_
    refine zw_iald 98 dX6_left_97 rfl ly218 (by omega) ?_
    refine zw_icmp_ge 114 101 dX6_left_98 (by decide) rfl (by omega) (by omega) (fun h98 => ?_) (fun h98 => ?_)
    · refine zw_iconst 115 dX6_left_114 rfl ?_
      refine zw_istore 117 dX6_left_115 rfl (by decide) ?_
      refine zw_loc [true, true, true, true, true, false, true, false, true, false, true, false, true, false, false, false, false] rfl ?_
      have ei : i.toNat = (σ 218 48).toNat := by congr 1; omega
      rw [ei] at e1
      rw [e1]
      exact lp3_X6_left (σ := σ) hd hc hV ((2 : Int) ^ (σ 218 48).toNat).toNat 0 0 (by omega) (by omega) rfl
    · exfalso; omega
  | succ m ih =>
    intro i wh hk hk0 e1
    have hs := hV.1
    have gN := hs.1
    have gC := hs.2.1
    have hn2 := z2k (k := σ 218 48) (by omega)
    refine zw_iload 91 dX6_left_89 rfl rfl ?_
    refine zw_aload_n 92 dX6_left_91 rfl rfl ?_
    refine zw_getr 95 (218) (o := 1) dX6_left_92 rfl fX6_7 (by decide) rfl rfl ly217 ?_
    refine zw_bipush 97 dX6_left_95 rfl (by decide) ?_
    refine zw_iald 98 dX6_left_97 rfl ly218 (by omega) ?_
    refine zw_icmp_ge 114 101 dX6_left_98 (by decide) rfl (by omega) (by omega) (fun h98 => ?_) (fun h98 => ?_)
    · refine zw_iconst 115 dX6_left_114 rfl ?_
      refine zw_istore 117 dX6_left_115 rfl (by decide) ?_
      refine zw_loc [true, true, true, true, true, false, true, false, true, false, true, false, true, false, false, false, false] rfl ?_
      have ei : i.toNat = (σ 218 48).toNat := by congr 1; omega
      rw [ei] at e1
      rw [e1]
      exact lp3_X6_left (σ := σ) hd hc hV ((2 : Int) ^ (σ 218 48).toNat).toNat 0 0 (by omega) (by omega) rfl
    · refine zw_lload 103 dX6_left_101 rfl rfl ?_
      refine zw_lload 105 dX6_left_103 rfl rfl ?_
      refine zw_lmul 106 dX6_left_105 rfl ?_
      refine zw_lstore 108 dX6_left_106 rfl (by decide) ?_
      refine zw_iinc 111 dX6_left_108 rfl (by decide) rfl ?_
      refine zw_goto 89 dX6_left_111 (by decide) ?_
      refine zw_loc [true, true, true, true, true, false, true, false, true, false, true, false, true, false, false, false, false] rfl ?_
      exact ih (i + 1) _ (by omega) (by omega) (by rw [zpow_s _ hk0, e1])
theorem lp1_X6_left {l : Launch} {d : Nat} {σ : zMem} (hd : 8 ≤ d) {k mm c : Int} (hc : (0 ≤ k ∧ k ≤ 5) ∧ (0 ≤ mm ∧ mm ≤ 3) ∧ 0 ≤ c ∧ c ≤ 10) (hV : zVN (σ 218))  : ∀ (m : Nat) (i : Int) (lv al : Int), i + m = mm → 0 ≤ i → lv = (10 - c) ^ i.toNat → al = 10 ^ i.toNat → zw l d mX6_left 50 [some (.ref 217), some (.int (zI k)), some (.int (zI mm)), some (.int (zI c)), some (.long (zL lv)), none, some (.long (zL al)), none, some (.int (zI i)), none, none, none, none, none, none, none, none] [] σ (zA3 ((0 ≤ k ∧ k ≤ 5) ∧ (0 ≤ mm ∧ mm ≤ 3) ∧ 0 ≤ c ∧ c ≤ 10) False σ 224 0 (-2) 2 (-4) 1 (fun σ' => zfr σ (zlS ((10 - c) ^ mm.toNat) (10 ^ mm.toNat) k (σ 218 48).toNat) (((10 : Int) ^ mm.toNat) ^ (σ 218 48).toNat) = σ')) := by
  intro m
  induction m with
  | zero =>
    intro i lv al hk hk0 e1 e2
    have hs := hV.1
    have gN := hs.1
    have gC := hs.2.1
    refine zw_iload 52 dX6_left_50 rfl rfl ?_
    refine zw_iload_n 53 dX6_left_52 rfl rfl ?_
    refine zw_icmp_ge 80 56 dX6_left_53 (by decide) rfl (by omega) (by omega) (fun h53 => ?_) (fun h53 => ?_)
    · refine zw_lconst 81 0 dX6_left_80 rfl (by decide) ?_
      refine zw_lstore 83 dX6_left_81 rfl (by decide) ?_
      refine zw_lconst 84 1 dX6_left_83 rfl (by decide) ?_
      refine zw_lstore 86 dX6_left_84 rfl (by decide) ?_
      refine zw_iconst 87 dX6_left_86 rfl ?_
      refine zw_istore 89 dX6_left_87 rfl (by decide) ?_
      refine zw_loc [true, true, true, true, true, false, true, false, true, false, true, false, true, false, false, false, false] rfl ?_
      have ei : i.toNat = mm.toNat := by congr 1; omega
      rw [ei] at e1 e2
      rw [e1, e2]
      exact lp2_X6_left (σ := σ) hd hc hV (σ 218 48).toNat 0 1 (by omega) (by omega) (by simp)
    · exfalso; omega
  | succ m ih =>
    intro i lv al hk hk0 e1 e2
    have hs := hV.1
    have gN := hs.1
    have gC := hs.2.1
    refine zw_iload 52 dX6_left_50 rfl rfl ?_
    refine zw_iload_n 53 dX6_left_52 rfl rfl ?_
    refine zw_icmp_ge 80 56 dX6_left_53 (by decide) rfl (by omega) (by omega) (fun h53 => ?_) (fun h53 => ?_)
    · refine zw_lconst 81 0 dX6_left_80 rfl (by decide) ?_
      refine zw_lstore 83 dX6_left_81 rfl (by decide) ?_
      refine zw_lconst 84 1 dX6_left_83 rfl (by decide) ?_
      refine zw_lstore 86 dX6_left_84 rfl (by decide) ?_
      refine zw_iconst 87 dX6_left_86 rfl ?_
      refine zw_istore 89 dX6_left_87 rfl (by decide) ?_
      refine zw_loc [true, true, true, true, true, false, true, false, true, false, true, false, true, false, false, false, false] rfl ?_
      have ei : i.toNat = mm.toNat := by congr 1; omega
      rw [ei] at e1 e2
      rw [e1, e2]
      exact lp2_X6_left (σ := σ) hd hc hV (σ 218 48).toNat 0 1 (by omega) (by omega) (by simp)
    · refine zw_lload 58 dX6_left_56 rfl rfl ?_
      refine zw_bipush 60 dX6_left_58 rfl (by decide) ?_
      refine zw_iload_n 61 dX6_left_60 rfl rfl ?_
      refine zw_isub 62 dX6_left_61 rfl ?_
      refine zw_i2l 63 dX6_left_62 rfl (by omega) ?_
      refine zw_lmul 64 dX6_left_63 rfl ?_
      refine zw_lstore 66 dX6_left_64 rfl (by decide) ?_
      refine zw_lload 68 dX6_left_66 rfl rfl ?_
      refine zw_ldc2 71 (10) dX6_left_68 rfl cX6_281 ?_
      refine zw_lmul 72 dX6_left_71 rfl ?_
      refine zw_lstore 74 dX6_left_72 rfl (by decide) ?_
      refine zw_iinc 77 dX6_left_74 rfl (by decide) rfl ?_
      refine zw_goto 50 dX6_left_77 (by decide) ?_
      refine zw_loc [true, true, true, true, true, false, true, false, true, false, false, false, false, false, false, false, false] rfl ?_
      exact ih (i + 1) _ _ (by omega) (by omega) (by rw [zpow_s _ hk0, e1]) (by rw [zpow_s _ hk0, e2])
theorem sp_X6_left {l : Launch} {d : Nat} {σ : zMem} (hd : 8 ≤ d) {k mm c : Int} (hk : -2147483648 ≤ k ∧ k < 2147483648) (hmm : -2147483648 ≤ mm ∧ mm < 2147483648) (hc : -2147483648 ≤ c ∧ c < 2147483648) (hV : zVN (σ 218))  : zSp l d mX6_left [.ref 217, .int (zI k), .int (zI mm), .int (zI c)] σ (zA3 ((0 ≤ k ∧ k ≤ 5) ∧ (0 ≤ mm ∧ mm ≤ 3) ∧ 0 ≤ c ∧ c ≤ 10) False σ 224 0 (-2) 2 (-4) 1 (fun σ' => zfr σ (zlS ((10 - c) ^ mm.toNat) (10 ^ mm.toNat) k (σ 218 48).toNat) (((10 : Int) ^ mm.toNat) ^ (σ 218 48).toNat) = σ')) := by
  refine zSp_of oX6_left (Nat.le_of_ble_eq_true rfl) ?_
  show zw l d mX6_left 0 [some (.ref 217), some (.int (zI k)), some (.int (zI mm)), some (.int (zI c)), none, none, none, none, none, none, none, none, none, none, none, none, none] [] σ _
  have hs := hV.1
  have hv := hV.2.1
  have hy := hV.2.2.1
  have gN := hs.1
  have gC := hs.2.1
  refine zw_iload_n 1 dX6_left_0 rfl rfl ?_
  refine zw_i2l 2 dX6_left_1 rfl (by omega) ?_
  refine zw_lconst 3 0 dX6_left_2 rfl (by decide) ?_
  refine zw_ldc2 6 (5) dX6_left_3 rfl cX6_92 ?_
  refine zw_callS 9 _ _ dX6_left_6 rfl kX6_86 qX6_in (sp_X6_in (d := d - 1) (by omega) (by omega) (by omega)) (by omega) rfl rfl (Nat.le_of_ble_eq_true rfl) (fun r σ' hq => ?_)
  obtain ⟨rfl, rfl⟩ := hq
  refine zw_if_eq 36 12 dX6_left_9 (by decide) rfl (by omega) (fun h9 => ?_) (fun h9 => ?_)
  · refine zw_aload_n 37 dX6_left_36 rfl rfl ?_
    refine zw_callV 40 _ _ dX6_left_37 rfl kX6_100 qX6_bad ly217 ⟨_, rfl, rfl⟩ (by decide) (sp_X6_bad (d := d - 1) (by omega)) (by omega) rfl rfl (Nat.le_of_ble_eq_true rfl) (fun r σ' hq => ?_)
    obtain ⟨rfl, rfl⟩ := hq
    refine zw_iret dX6_left_40 rfl ?_
    exact zA3_bad (by omega)
  · refine zw_iload_n 13 dX6_left_12 rfl rfl ?_
    refine zw_i2l 14 dX6_left_13 rfl (by omega) ?_
    refine zw_lconst 15 0 dX6_left_14 rfl (by decide) ?_
    refine zw_ldc2 18 (3) dX6_left_15 rfl cX6_90 ?_
    refine zw_callS 21 _ _ dX6_left_18 rfl kX6_86 qX6_in (sp_X6_in (d := d - 1) (by omega) (by omega) (by omega)) (by omega) rfl rfl (Nat.le_of_ble_eq_true rfl) (fun r σ' hq => ?_)
    obtain ⟨rfl, rfl⟩ := hq
    refine zw_if_eq 36 24 dX6_left_21 (by decide) rfl (by omega) (fun h21 => ?_) (fun h21 => ?_)
    · refine zw_aload_n 37 dX6_left_36 rfl rfl ?_
      refine zw_callV 40 _ _ dX6_left_37 rfl kX6_100 qX6_bad ly217 ⟨_, rfl, rfl⟩ (by decide) (sp_X6_bad (d := d - 1) (by omega)) (by omega) rfl rfl (Nat.le_of_ble_eq_true rfl) (fun r σ' hq => ?_)
      obtain ⟨rfl, rfl⟩ := hq
      refine zw_iret dX6_left_40 rfl ?_
      exact zA3_bad (by omega)
    · refine zw_iload_n 25 dX6_left_24 rfl rfl ?_
      refine zw_i2l 26 dX6_left_25 rfl (by omega) ?_
      refine zw_lconst 27 0 dX6_left_26 rfl (by decide) ?_
      refine zw_ldc2 30 (10) dX6_left_27 rfl cX6_281 ?_
      refine zw_callS 33 _ _ dX6_left_30 rfl kX6_86 qX6_in (sp_X6_in (d := d - 1) (by omega) (by omega) (by omega)) (by omega) rfl rfl (Nat.le_of_ble_eq_true rfl) (fun r σ' hq => ?_)
      obtain ⟨rfl, rfl⟩ := hq
      refine zw_if_ne 41 36 dX6_left_33 (by decide) rfl (by omega) (fun h33 => ?_) (fun h33 => ?_)
      · refine zw_lconst 42 1 dX6_left_41 rfl (by decide) ?_
        refine zw_lstore 44 dX6_left_42 rfl (by decide) ?_
        refine zw_lconst 45 1 dX6_left_44 rfl (by decide) ?_
        refine zw_lstore 47 dX6_left_45 rfl (by decide) ?_
        refine zw_iconst 48 dX6_left_47 rfl ?_
        refine zw_istore 50 dX6_left_48 rfl (by decide) ?_
        exact lp1_X6_left (σ := σ) (by omega) (by omega) hV mm.toNat 0 1 1 (by omega) (by omega) (by simp) (by simp)
      · refine zw_aload_n 37 dX6_left_36 rfl rfl ?_
        refine zw_callV 40 _ _ dX6_left_37 rfl kX6_100 qX6_bad ly217 ⟨_, rfl, rfl⟩ (by decide) (sp_X6_bad (d := d - 1) (by omega)) (by omega) rfl rfl (Nat.le_of_ble_eq_true rfl) (fun r σ' hq => ?_)
        obtain ⟨rfl, rfl⟩ := hq
        refine zw_iret dX6_left_40 rfl ?_
        exact zA3_bad (by omega)
