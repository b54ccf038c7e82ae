def zh0 (N : zR) (c s o : Int) : Int := if s = o then 0 else ztk N N c s
def zsf1 (N : zR) (c s o k : Int) : Int := if k = o ∨ ztk N N c k ≤ zh0 N c s o then 1 else 0
/-- whether c, on s, the other one on o, would get no more elsewhere -/
def zst (N : zR) (c s o : Int) : Int := zal (zsf1 N c s o) (N 33).toNat
theorem zst_b (N : zR) (c s o : Int) : zst N c s o = 0 ∨ zst N c s o = 1 := zal_b _ _
def zti (P : Int → Int → Int) (k i : Int) : Nat → Int × Int → Int × Int
  | 0, a => a
  | j + 1, a => if P i j = 1 then ((zti P k i j a).1 + 1, if (zti P k i j a).1 = k then 7 * i + j else (zti P k i j a).2) else zti P k i j a
theorem zti_s (P : Int → Int → Int) (k i : Int) (a : Int × Int) {j : Int} (h : 0 ≤ j) : zti P k i (j + 1).toNat a = if P i j = 1 then ((zti P k i j.toNat a).1 + 1, if (zti P k i j.toNat a).1 = k then 7 * i + j else (zti P k i j.toNat a).2) else zti P k i j.toNat a := by
  have e : (j + 1).toNat = j.toNat + 1 := by omega
  have e2 : ((j.toNat : Nat) : Int) = j := by omega
  rw [e, zti, e2]
def ztt (P : Int → Int → Int) (k : Int) (J : Nat) : Nat → Int × Int
  | 0 => (0, -5)
  | i + 1 => zti P k i J (ztt P k J i)
theorem ztt_s (P : Int → Int → Int) (k : Int) (J : Nat) {i : Int} (h : 0 ≤ i) : ztt P k J (i + 1).toNat = zti P k i J (ztt P k J i.toNat) := by
  have e : (i + 1).toNat = i.toNat + 1 := by omega
  have e2 : ((i.toNat : Nat) : Int) = i := by omega
  rw [e, ztt, e2]
theorem zti_b (P : Int → Int → Int) (k i : Int) (hi : 0 ≤ i ∧ i ≤ 7) (a : Int × Int) (ha : (0 ≤ a.1 ∧ a.1 ≤ 7 * i) ∧ -5 ≤ a.2 ∧ a.2 ≤ 1000) : ∀ j : Nat, j ≤ 7 → (0 ≤ (zti P k i j a).1 ∧ (zti P k i j a).1 ≤ 7 * i + j) ∧ -5 ≤ (zti P k i j a).2 ∧ (zti P k i j a).2 ≤ 1000
  | 0, _ => by simpa [zti] using ha
  | j + 1, hj => by
    have := zti_b P k i hi a ha j (by omega)
    unfold zti
    split
    · dsimp only; omega
    · omega
theorem ztt_b (P : Int → Int → Int) (k : Int) (J : Nat) (hJ : J ≤ 7) : ∀ i : Nat, i ≤ 7 → (0 ≤ (ztt P k J i).1 ∧ (ztt P k J i).1 ≤ 7 * i) ∧ -5 ≤ (ztt P k J i).2 ∧ (ztt P k J i).2 ≤ 1000
  | 0, _ => by simp [ztt]
  | i + 1, hi => by
    have := zti_b P k i (by omega) _ (ztt_b P k J hJ i (by omega)) J hJ
    unfold ztt
    omega
def zP2 (N : zR) (a b i j : Int) : Int := if zst N a i j = 1 ∧ zst N b j i = 1 then 1 else 0
def z2v (N : zR) (a b k : Int) : Int := if k = -1 then (ztt (zP2 N a b) k (N 33).toNat (N 33).toNat).1 else (ztt (zP2 N a b) k (N 33).toNat (N 33).toNat).2
theorem lp_X6_stays {l : Launch} {d : Nat} {σ : zMem} (hd : 4 ≤ d) {c s o : Int} (hc : 0 ≤ c ∧ c < 5) (hs0 : 0 ≤ s ∧ s < σ 218 33) (ho : 0 ≤ o ∧ o < σ 218 33) (hV : zVN (σ 218))  : ∀ (m : Nat) (q : Int) (so : Int), q + m = σ 218 33 → 0 ≤ q → so = zal (zsf1 (σ 218) c s o) q.toNat → zw l d mX6_stays 27 [some (.ref 217), some (.int (zI c)), some (.int (zI s)), some (.int (zI o)), some (.int (zI (zh0 (σ 218) c s o))), some (.int (zI so)), some (.int (zI q))] [] σ (zRi (zst (σ 218) c s o) σ) := by
  intro m
  induction m with
  | zero =>
    intro q so hk hk0 hso
    have hs := hV.1
    have hv := hV.2.1
    have hy0 := hV.2.2.1
    have gN := hs.1
    have gC := hs.2.1
    have b1 := zal_b (zsf1 (σ 218) c s o) q.toNat
    rw [← hso] at b1
    have b2 : 0 ≤ zh0 (σ 218) c s o ∧ zh0 (σ 218) c s o ≤ 101 := by
      have := ztk_b hs hv (c := c) (s := s) (by omega) (by omega)
      unfold zh0; omega
    refine zw_iload 29 dX6_stays_27 rfl rfl ?_
    refine zw_aload_n 30 dX6_stays_29 rfl rfl ?_
    refine zw_getr 33 (218) (o := 1) dX6_stays_30 rfl fX6_7 (by decide) rfl rfl ly217 ?_
    refine zw_bipush 35 dX6_stays_33 rfl (by decide) ?_
    refine zw_iald 36 dX6_stays_35 rfl ly218 (by omega) ?_
    refine zw_icmp_ge 79 39 dX6_stays_36 (by decide) rfl (by omega) (by omega) (fun h36 => ?_) (fun h36 => ?_)
    · refine zw_iload 81 dX6_stays_79 rfl rfl ?_
      refine zw_zret dX6_stays_81 rfl (by omega) ?_
      exact zRi_of (by rw [hso]; unfold zst; congr 1; omega)
    · exfalso; omega
  | succ m ih =>
    intro q so hk hk0 hso
    have hs := hV.1
    have hv := hV.2.1
    have hy0 := hV.2.2.1
    have gN := hs.1
    have gC := hs.2.1
    have b1 := zal_b (zsf1 (σ 218) c s o) q.toNat
    rw [← hso] at b1
    have b2 : 0 ≤ zh0 (σ 218) c s o ∧ zh0 (σ 218) c s o ≤ 101 := by
      have := ztk_b hs hv (c := c) (s := s) (by omega) (by omega)
      unfold zh0; omega
    refine zw_iload 29 dX6_stays_27 rfl rfl ?_
    refine zw_aload_n 30 dX6_stays_29 rfl rfl ?_
    refine zw_getr 33 (218) (o := 1) dX6_stays_30 rfl fX6_7 (by decide) rfl rfl ly217 ?_
    refine zw_bipush 35 dX6_stays_33 rfl (by decide) ?_
    refine zw_iald 36 dX6_stays_35 rfl ly218 (by omega) ?_
    refine zw_icmp_ge 79 39 dX6_stays_36 (by decide) rfl (by omega) (by omega) (fun h36 => ?_) (fun h36 => ?_)
    · refine zw_iload 81 dX6_stays_79 rfl rfl ?_
      refine zw_zret dX6_stays_81 rfl (by omega) ?_
      exfalso; omega
    · have b3 := ztk_b hs hv (c := c) (s := q) (by omega) (by omega)
      refine zw_iload 41 dX6_stays_39 rfl rfl ?_
      refine zw_if_eq 70 44 dX6_stays_41 (by decide) rfl (by omega) (fun h41 => ?_) (fun h41 => ?_)
      · refine zw_iconst 71 dX6_stays_70 rfl ?_
        refine zw_istore 73 dX6_stays_71 rfl (by decide) ?_
        refine zw_iinc 76 dX6_stays_73 rfl (by decide) rfl ?_
        refine zw_goto 27 dX6_stays_76 (by decide) ?_
        refine zw_loc [true, true, true, true, true, true, true] rfl ?_
        have ih2 := ih (q + 1) (if so = 1 ∧ zsf1 (σ 218) c s o q = 1 then 1 else 0) (by omega) (by omega) (by rw [zal_s _ hk0, hso])
        have hf : zsf1 (σ 218) c s o q = if q = o ∨ ztk (σ 218) (σ 218) c q ≤ zh0 (σ 218) c s o then 1 else 0 := rfl
        first | (rw [if_pos (show so = 1 ∧ zsf1 (σ 218) c s o q = 1 by omega)] at ih2; exact ih2) | (rw [if_neg (show ¬ (so = 1 ∧ zsf1 (σ 218) c s o q = 1) by omega)] at ih2; exact ih2)
      · refine zw_iload 46 dX6_stays_44 rfl rfl ?_
        refine zw_iload_n 47 dX6_stays_46 rfl rfl ?_
        refine zw_icmp_eq 66 50 dX6_stays_47 (by decide) rfl (by omega) (by omega) (fun h47 => ?_) (fun h47 => ?_)
        · refine zw_iconst 67 dX6_stays_66 rfl ?_
          refine zw_goto 71 dX6_stays_67 (by decide) ?_
          refine zw_istore 73 dX6_stays_71 rfl (by decide) ?_
          refine zw_iinc 76 dX6_stays_73 rfl (by decide) rfl ?_
          refine zw_goto 27 dX6_stays_76 (by decide) ?_
          refine zw_loc [true, true, true, true, true, true, true] rfl ?_
          have ih2 := ih (q + 1) (if so = 1 ∧ zsf1 (σ 218) c s o q = 1 then 1 else 0) (by omega) (by omega) (by rw [zal_s _ hk0, hso])
          have hf : zsf1 (σ 218) c s o q = if q = o ∨ ztk (σ 218) (σ 218) c q ≤ zh0 (σ 218) c s o then 1 else 0 := rfl
          first | (rw [if_pos (show so = 1 ∧ zsf1 (σ 218) c s o q = 1 by omega)] at ih2; exact ih2) | (rw [if_neg (show ¬ (so = 1 ∧ zsf1 (σ 218) c s o q = 1) by omega)] at ih2; exact ih2)
        · refine zw_aload_n 51 dX6_stays_50 rfl rfl ?_
          refine zw_aload_n 52 dX6_stays_51 rfl rfl ?_
          refine zw_getr 55 (218) (o := 1) dX6_stays_52 rfl fX6_7 (by decide) rfl rfl ly217 ?_
          refine zw_iload_n 56 dX6_stays_55 rfl rfl ?_
          refine zw_iload 58 dX6_stays_56 rfl rfl ?_
          refine zw_callV 61 _ _ dX6_stays_58 rfl kX6_64 qX6_takesOn ly217 ⟨_, rfl, rfl⟩ (by decide) (sp_X6_takesOn (d := d - 1) (by omega) ly218 (by decide) hs hv (by omega) (by omega) (by omega)) (by omega) rfl rfl (Nat.le_of_ble_eq_true rfl) (fun r σ' hq => ?_)
          obtain ⟨rfl, rfl⟩ := hq
          refine zw_iload 63 dX6_stays_61 rfl rfl ?_
          refine zw_icmp_gt 70 66 dX6_stays_63 (by decide) rfl (by omega) (by omega) (fun h63 => ?_) (fun h63 => ?_)
          · refine zw_iconst 71 dX6_stays_70 rfl ?_
            refine zw_istore 73 dX6_stays_71 rfl (by decide) ?_
            refine zw_iinc 76 dX6_stays_73 rfl (by decide) rfl ?_
            refine zw_goto 27 dX6_stays_76 (by decide) ?_
            refine zw_loc [true, true, true, true, true, true, true] rfl ?_
            have ih2 := ih (q + 1) (if so = 1 ∧ zsf1 (σ 218) c s o q = 1 then 1 else 0) (by omega) (by omega) (by rw [zal_s _ hk0, hso])
            have hf : zsf1 (σ 218) c s o q = if q = o ∨ ztk (σ 218) (σ 218) c q ≤ zh0 (σ 218) c s o then 1 else 0 := rfl
            first | (rw [if_pos (show so = 1 ∧ zsf1 (σ 218) c s o q = 1 by omega)] at ih2; exact ih2) | (rw [if_neg (show ¬ (so = 1 ∧ zsf1 (σ 218) c s o q = 1) by omega)] at ih2; exact ih2)
          · refine zw_iconst 67 dX6_stays_66 rfl ?_
            refine zw_goto 71 dX6_stays_67 (by decide) ?_
            refine zw_istore 73 dX6_stays_71 rfl (by decide) ?_
            refine zw_iinc 76 dX6_stays_73 rfl (by decide) rfl ?_
            refine zw_goto 27 dX6_stays_76 (by decide) ?_
            refine zw_loc [true, true, true, true, true, true, true] rfl ?_
            have ih2 := ih (q + 1) (if so = 1 ∧ zsf1 (σ 218) c s o q = 1 then 1 else 0) (by omega) (by omega) (by rw [zal_s _ hk0, hso])
            have hf : zsf1 (σ 218) c s o q = if q = o ∨ ztk (σ 218) (σ 218) c q ≤ zh0 (σ 218) c s o then 1 else 0 := rfl
            first | (rw [if_pos (show so = 1 ∧ zsf1 (σ 218) c s o q = 1 by omega)] at ih2; exact ih2) | (rw [if_neg (show ¬ (so = 1 ∧ zsf1 (σ 218) c s o q = 1) by omega)] at ih2; exact ih2)
theorem sp_X6_stays {l : Launch} {d : Nat} {σ : zMem} (hd : 4 ≤ d) {c s o : Int} (hc : 0 ≤ c ∧ c < 5) (hs0 : 0 ≤ s ∧ s < σ 218 33) (ho : 0 ≤ o ∧ o < σ 218 33) (hV : zVN (σ 218))  : zSp l d mX6_stays [.ref 217, .int (zI c), .int (zI s), .int (zI o)] σ (zRi (zst (σ 218) c s o) σ) := by
  refine zSp_of oX6_stays (Nat.le_of_ble_eq_true rfl) ?_
  show zw l d mX6_stays 0 [some (.ref 217), some (.int (zI c)), some (.int (zI s)), some (.int (zI o)), none, none, none] [] σ _
  have hs := hV.1
  have hv := hV.2.1
  have hy0 := hV.2.2.1
  have gN := hs.1
  refine zw_iload_n 1 dX6_stays_0 rfl rfl ?_
  refine zw_iload_n 2 dX6_stays_1 rfl rfl ?_
  refine zw_icmp_ne 9 5 dX6_stays_2 (by decide) rfl (by omega) (by omega) (fun h2 => ?_) (fun h2 => ?_)
  · refine zw_aload_n 10 dX6_stays_9 rfl rfl ?_
    refine zw_aload_n 11 dX6_stays_10 rfl rfl ?_
    refine zw_getr 14 (218) (o := 1) dX6_stays_11 rfl fX6_7 (by decide) rfl rfl ly217 ?_
    refine zw_iload_n 15 dX6_stays_14 rfl rfl ?_
    refine zw_iload_n 16 dX6_stays_15 rfl rfl ?_
    refine zw_callV 19 _ _ dX6_stays_16 rfl kX6_64 qX6_takesOn ly217 ⟨_, rfl, rfl⟩ (by decide) (sp_X6_takesOn (d := d - 1) (by omega) ly218 (by decide) hs hv (by omega) (by omega) (by omega)) (by omega) rfl rfl (Nat.le_of_ble_eq_true rfl) (fun r σ' hq => ?_)
    obtain ⟨rfl, rfl⟩ := hq
    refine zw_istore 21 dX6_stays_19 rfl (by decide) ?_
    refine zw_iconst 22 dX6_stays_21 rfl ?_
    refine zw_istore 24 dX6_stays_22 rfl (by decide) ?_
    refine zw_iconst 25 dX6_stays_24 rfl ?_
    refine zw_istore 27 dX6_stays_25 rfl (by decide) ?_
    have h := lp_X6_stays (l := l) hd hc hs0 ho hV (σ 218 33).toNat 0 1 (by omega) (by omega) rfl
    first
      | (rw [show zh0 (σ 218) c s o = 0 from if_pos h2] at h; exact h)
      | (rw [show zh0 (σ 218) c s o = ztk (σ 218) (σ 218) c s from if_neg h2] at h; exact h)
  · refine zw_iconst 6 dX6_stays_5 rfl ?_
    refine zw_goto 19 dX6_stays_6 (by decide) ?_
    refine zw_istore 21 dX6_stays_19 rfl (by decide) ?_
    refine zw_iconst 22 dX6_stays_21 rfl ?_
    refine zw_istore 24 dX6_stays_22 rfl (by decide) ?_
    refine zw_iconst 25 dX6_stays_24 rfl ?_
    refine zw_istore 27 dX6_stays_25 rfl (by decide) ?_
    have h := lp_X6_stays (l := l) hd hc hs0 ho hV (σ 218 33).toNat 0 1 (by omega) (by omega) rfl
    first
      | (rw [show zh0 (σ 218) c s o = 0 from if_pos h2] at h; exact h)
      | (rw [show zh0 (σ 218) c s o = ztk (σ 218) (σ 218) c s from if_neg h2] at h; exact h)
theorem lp2_X6_two {l : Launch} {d : Nat} {σ : zMem} (hd : 8 ≤ d) {a b k : Int} (hc : (0 ≤ a ∧ a ≤ σ 218 48 - 1) ∧ (0 ≤ b ∧ b ≤ σ 218 48 - 1) ∧ a ≠ b ∧ -1 ≤ k) (hk9 : k < 2147483648) (hV : zVN (σ 218)) {i : Int} (hi : 0 ≤ i ∧ i < σ 218 33) (hx : ∀ n its, n = (ztt (zP2 (σ 218) a b) k (σ 218 33).toNat (i + 1).toNat).1 → its = (ztt (zP2 (σ 218) a b) k (σ 218 33).toNat (i + 1).toNat).2 → zw l d mX6_two 122 [some (.ref 217), some (.int (zI a)), some (.int (zI b)), some (.int (zI k)), some (.int (zI n)), some (.int (zI its)), some (.int (zI i)), none] [] σ (zAn 224 ((0 ≤ a ∧ a ≤ σ 218 48 - 1) ∧ (0 ≤ b ∧ b ≤ σ 218 48 - 1) ∧ a ≠ b ∧ -1 ≤ k) (z2v (σ 218) a b k) 0 (-10) σ)) : ∀ (m : Nat) (j : Int) (n its : Int), j + m = σ 218 33 → 0 ≤ j → n = (zti (zP2 (σ 218) a b) k i j.toNat (ztt (zP2 (σ 218) a b) k (σ 218 33).toNat i.toNat)).1 → its = (zti (zP2 (σ 218) a b) k i j.toNat (ztt (zP2 (σ 218) a b) k (σ 218 33).toNat i.toNat)).2 → zw l d mX6_two 56 [some (.ref 217), some (.int (zI a)), some (.int (zI b)), some (.int (zI k)), some (.int (zI n)), some (.int (zI its)), some (.int (zI i)), some (.int (zI j))] [] σ (zAn 224 ((0 ≤ a ∧ a ≤ σ 218 48 - 1) ∧ (0 ≤ b ∧ b ≤ σ 218 48 - 1) ∧ a ≠ b ∧ -1 ≤ k) (z2v (σ 218) a b k) 0 (-10) σ) := by
  intro m
  induction m with
  | zero =>
    intro j n its hk hk0 e1 e2
    have hs := hV.1
    have hv := hV.2.1
    have hy0 := hV.2.2.1
    have gN := hs.1
    have gC := hs.2.1
    have b1 := ztt_b (zP2 (σ 218) a b) k (σ 218 33).toNat (by omega) i.toNat (by omega)
    have e9 := zti_s (zP2 (σ 218) a b) k i (ztt (zP2 (σ 218) a b) k (σ 218 33).toNat i.toNat) hk0
    refine zw_iload 58 dX6_two_56 rfl rfl ?_
    refine zw_aload_n 59 dX6_two_58 rfl rfl ?_
    refine zw_getr 62 (218) (o := 1) dX6_two_59 rfl fX6_7 (by decide) rfl rfl ly217 ?_
    refine zw_bipush 64 dX6_two_62 rfl (by decide) ?_
    refine zw_iald 65 dX6_two_64 rfl ly218 (by omega) ?_
    refine zw_icmp_ge 122 68 dX6_two_65 (by decide) rfl (by omega) (by omega) (fun h65 => ?_) (fun h65 => ?_)
    · refine zw_loc [true, true, true, true, true, true, true, false] rfl ?_
      exact hx _ _ (by rw [e1, ztt_s _ _ _ hi.1]; congr 2; omega) (by rw [e2, ztt_s _ _ _ hi.1]; congr 2; omega)
    · exfalso; omega
  | succ m ih =>
    intro j n its hk hk0 e1 e2
    have hs := hV.1
    have hv := hV.2.1
    have hy0 := hV.2.2.1
    have gN := hs.1
    have gC := hs.2.1
    have b1 := ztt_b (zP2 (σ 218) a b) k (σ 218 33).toNat (by omega) i.toNat (by omega)
    have e9 := zti_s (zP2 (σ 218) a b) k i (ztt (zP2 (σ 218) a b) k (σ 218 33).toNat i.toNat) hk0
    refine zw_iload 58 dX6_two_56 rfl rfl ?_
    refine zw_aload_n 59 dX6_two_58 rfl rfl ?_
    refine zw_getr 62 (218) (o := 1) dX6_two_59 rfl fX6_7 (by decide) rfl rfl ly217 ?_
    refine zw_bipush 64 dX6_two_62 rfl (by decide) ?_
    refine zw_iald 65 dX6_two_64 rfl ly218 (by omega) ?_
    refine zw_icmp_ge 122 68 dX6_two_65 (by decide) rfl (by omega) (by omega) (fun h65 => ?_) (fun h65 => ?_)
    · refine zw_loc [true, true, true, true, true, true, true, false] rfl ?_
      exact hx _ _ (by rw [e1, ztt_s _ _ _ hi.1]; congr 2; omega) (by rw [e2, ztt_s _ _ _ hi.1]; congr 2; omega)
    · have b2 := zti_b (zP2 (σ 218) a b) k i (by omega) (ztt (zP2 (σ 218) a b) k (σ 218 33).toNat i.toNat) (by omega) j.toNat (by omega)
      rw [← e1, ← e2] at b2
      have s1 := zst_b (σ 218) a i j
      have s2 := zst_b (σ 218) b j i
      refine zw_aload_n 69 dX6_two_68 rfl rfl ?_
      refine zw_iload_n 70 dX6_two_69 rfl rfl ?_
      refine zw_iload 72 dX6_two_70 rfl rfl ?_
      refine zw_iload 74 dX6_two_72 rfl rfl ?_
      refine zw_callV 77 _ _ dX6_two_74 rfl kX6_274 qX6_stays ly217 ⟨_, rfl, rfl⟩ (by decide) (sp_X6_stays (d := d - 1) (by omega) (by omega) (by omega) (by omega) hV) (by omega) rfl rfl (Nat.le_of_ble_eq_true rfl) (fun r σ' hq => ?_)
      obtain ⟨rfl, rfl⟩ := hq
      refine zw_if_eq 116 80 dX6_two_77 (by decide) rfl (by omega) (fun h77 => ?_) (fun h77 => ?_)
      · refine zw_iinc 119 dX6_two_116 rfl (by decide) rfl ?_
        refine zw_goto 56 dX6_two_119 (by decide) ?_
        refine zw_loc [true, true, true, true, true, true, true, true] rfl ?_
        first
          | (exfalso; omega)
          | (rw [if_neg (show ¬ zP2 (σ 218) a b i j = 1 by unfold zP2; omega)] at e9; refine ih (j + 1) _ _ (by omega) (by omega) ?_ ?_ <;> (rw [e9]; assumption))
          | (rw [if_pos (show zP2 (σ 218) a b i j = 1 by unfold zP2; omega), ← e1, ← e2] at e9; refine ih (j + 1) _ _ (by omega) (by omega) ?_ ?_ <;> (rw [e9]; try (dsimp only; omega)))
      · refine zw_aload_n 81 dX6_two_80 rfl rfl ?_
        refine zw_iload_n 82 dX6_two_81 rfl rfl ?_
        refine zw_iload 84 dX6_two_82 rfl rfl ?_
        refine zw_iload 86 dX6_two_84 rfl rfl ?_
        refine zw_callV 89 _ _ dX6_two_86 rfl kX6_274 qX6_stays ly217 ⟨_, rfl, rfl⟩ (by decide) (sp_X6_stays (d := d - 1) (by omega) (by omega) (by omega) (by omega) hV) (by omega) rfl rfl (Nat.le_of_ble_eq_true rfl) (fun r σ' hq => ?_)
        obtain ⟨rfl, rfl⟩ := hq
        refine zw_if_eq 116 92 dX6_two_89 (by decide) rfl (by omega) (fun h89 => ?_) (fun h89 => ?_)
        · refine zw_iinc 119 dX6_two_116 rfl (by decide) rfl ?_
          refine zw_goto 56 dX6_two_119 (by decide) ?_
          refine zw_loc [true, true, true, true, true, true, true, true] rfl ?_
          first
            | (exfalso; omega)
            | (rw [if_neg (show ¬ zP2 (σ 218) a b i j = 1 by unfold zP2; omega)] at e9; refine ih (j + 1) _ _ (by omega) (by omega) ?_ ?_ <;> (rw [e9]; assumption))
            | (rw [if_pos (show zP2 (σ 218) a b i j = 1 by unfold zP2; omega), ← e1, ← e2] at e9; refine ih (j + 1) _ _ (by omega) (by omega) ?_ ?_ <;> (rw [e9]; try (dsimp only; omega)))
        · refine zw_iload 94 dX6_two_92 rfl rfl ?_
          refine zw_iload_n 95 dX6_two_94 rfl rfl ?_
          refine zw_icmp_ne 109 98 dX6_two_95 (by decide) rfl (by omega) (by omega) (fun h95 => ?_) (fun h95 => ?_)
          · refine zw_iload 111 dX6_two_109 rfl rfl ?_
            refine zw_istore 113 dX6_two_111 rfl (by decide) ?_
            refine zw_iinc 116 dX6_two_113 rfl (by decide) rfl ?_
            refine zw_iinc 119 dX6_two_116 rfl (by decide) rfl ?_
            refine zw_goto 56 dX6_two_119 (by decide) ?_
            refine zw_loc [true, true, true, true, true, true, true, true] rfl ?_
            first
              | (exfalso; omega)
              | (rw [if_neg (show ¬ zP2 (σ 218) a b i j = 1 by unfold zP2; omega)] at e9; refine ih (j + 1) _ _ (by omega) (by omega) ?_ ?_ <;> (rw [e9]; assumption))
              | (rw [if_pos (show zP2 (σ 218) a b i j = 1 by unfold zP2; omega), ← e1, ← e2] at e9; refine ih (j + 1) _ _ (by omega) (by omega) ?_ ?_ <;> (rw [e9]; try (dsimp only; omega)))
          · refine zw_bipush 100 dX6_two_98 rfl (by decide) ?_
            refine zw_iload 102 dX6_two_100 rfl rfl ?_
            refine zw_imul 103 dX6_two_102 rfl ?_
            refine zw_iload 105 dX6_two_103 rfl rfl ?_
            refine zw_iadd 106 dX6_two_105 rfl ?_
            refine zw_goto 111 dX6_two_106 (by decide) ?_
            refine zw_istore 113 dX6_two_111 rfl (by decide) ?_
            refine zw_iinc 116 dX6_two_113 rfl (by decide) rfl ?_
            refine zw_iinc 119 dX6_two_116 rfl (by decide) rfl ?_
            refine zw_goto 56 dX6_two_119 (by decide) ?_
            refine zw_loc [true, true, true, true, true, true, true, true] rfl ?_
            first
              | (exfalso; omega)
              | (rw [if_neg (show ¬ zP2 (σ 218) a b i j = 1 by unfold zP2; omega)] at e9; refine ih (j + 1) _ _ (by omega) (by omega) ?_ ?_ <;> (rw [e9]; assumption))
              | (rw [if_pos (show zP2 (σ 218) a b i j = 1 by unfold zP2; omega), ← e1, ← e2] at e9; refine ih (j + 1) _ _ (by omega) (by omega) ?_ ?_ <;> (rw [e9]; try (dsimp only; omega)))
theorem lp_X6_two {l : Launch} {d : Nat} {σ : zMem} (hd : 8 ≤ d) {a b k : Int} (hc : (0 ≤ a ∧ a ≤ σ 218 48 - 1) ∧ (0 ≤ b ∧ b ≤ σ 218 48 - 1) ∧ a ≠ b ∧ -1 ≤ k) (hk9 : k < 2147483648) (hV : zVN (σ 218))  : ∀ (m : Nat) (i : Int) (n its : Int), i + m = σ 218 33 → 0 ≤ i → n = (ztt (zP2 (σ 218) a b) k (σ 218 33).toNat i.toNat).1 → its = (ztt (zP2 (σ 218) a b) k (σ 218 33).toNat i.toNat).2 → zw l d mX6_two 41 [some (.ref 217), some (.int (zI a)), some (.int (zI b)), some (.int (zI k)), some (.int (zI n)), some (.int (zI its)), some (.int (zI i)), none] [] σ (zAn 224 ((0 ≤ a ∧ a ≤ σ 218 48 - 1) ∧ (0 ≤ b ∧ b ≤ σ 218 48 - 1) ∧ a ≠ b ∧ -1 ≤ k) (z2v (σ 218) a b k) 0 (-10) σ) := by
  intro m
  induction m with
  | zero =>
    intro i n its hk hk0 e1 e2
    have hs := hV.1
    have hv := hV.2.1
    have hy0 := hV.2.2.1
    have gN := hs.1
    have gC := hs.2.1
    refine zw_iload 43 dX6_two_41 rfl rfl ?_
    refine zw_aload_n 44 dX6_two_43 rfl rfl ?_
    refine zw_getr 47 (218) (o := 1) dX6_two_44 rfl fX6_7 (by decide) rfl rfl ly217 ?_
    refine zw_bipush 49 dX6_two_47 rfl (by decide) ?_
    refine zw_iald 50 dX6_two_49 rfl ly218 (by omega) ?_
    refine zw_icmp_ge 128 53 dX6_two_50 (by decide) rfl (by omega) (by omega) (fun h50 => ?_) (fun h50 => ?_)
    · refine zw_iload_n 129 dX6_two_128 rfl rfl ?_
      refine zw_iconst 130 dX6_two_129 rfl ?_
      refine zw_icmp_ne 138 133 dX6_two_130 (by decide) rfl (by omega) (by omega) (fun h130 => ?_) (fun h130 => ?_)
      · refine zw_iload 140 dX6_two_138 rfl rfl ?_
        refine zw_iret dX6_two_140 rfl ?_
        exact zAn_t (by omega) (by unfold z2v; rw [show i.toNat = (σ 218 33).toNat by congr 1; omega] at e1 e2; rw [← e1, ← e2]; omega) (zNS_refl _)
      · refine zw_iload 135 dX6_two_133 rfl rfl ?_
        refine zw_goto 140 dX6_two_135 (by decide) ?_
        refine zw_iret dX6_two_140 rfl ?_
        exact zAn_t (by omega) (by unfold z2v; rw [show i.toNat = (σ 218 33).toNat by congr 1; omega] at e1 e2; rw [← e1, ← e2]; omega) (zNS_refl _)
    · exfalso; omega
  | succ m ih =>
    intro i n its hk hk0 e1 e2
    have hs := hV.1
    have hv := hV.2.1
    have hy0 := hV.2.2.1
    have gN := hs.1
    have gC := hs.2.1
    refine zw_iload 43 dX6_two_41 rfl rfl ?_
    refine zw_aload_n 44 dX6_two_43 rfl rfl ?_
    refine zw_getr 47 (218) (o := 1) dX6_two_44 rfl fX6_7 (by decide) rfl rfl ly217 ?_
    refine zw_bipush 49 dX6_two_47 rfl (by decide) ?_
    refine zw_iald 50 dX6_two_49 rfl ly218 (by omega) ?_
    refine zw_icmp_ge 128 53 dX6_two_50 (by decide) rfl (by omega) (by omega) (fun h50 => ?_) (fun h50 => ?_)
    · refine zw_iload_n 129 dX6_two_128 rfl rfl ?_
      refine zw_iconst 130 dX6_two_129 rfl ?_
      refine zw_icmp_ne 138 133 dX6_two_130 (by decide) rfl (by omega) (by omega) (fun h130 => ?_) (fun h130 => ?_)
      · refine zw_iload 140 dX6_two_138 rfl rfl ?_
        refine zw_iret dX6_two_140 rfl ?_
        exfalso; omega
      · refine zw_iload 135 dX6_two_133 rfl rfl ?_
        refine zw_goto 140 dX6_two_135 (by decide) ?_
        refine zw_iret dX6_two_140 rfl ?_
        exfalso; omega
    · refine zw_iconst 54 dX6_two_53 rfl ?_
      refine zw_istore 56 dX6_two_54 rfl (by decide) ?_
      refine lp2_X6_two (σ := σ) hd hc hk9 hV ⟨hk0, by omega⟩ (fun n2 its2 f1 f2 => ?_) (σ 218 33).toNat 0 _ _ (by omega) (by omega) (by rw [e1]; rfl) (by rw [e2]; rfl)
      refine zw_iinc 125 dX6_two_122 rfl (by decide) rfl ?_
      refine zw_goto 41 dX6_two_125 (by decide) ?_
      refine zw_loc [true, true, true, true, true, true, true, false] rfl ?_
      exact ih (i + 1) _ _ (by omega) (by omega) f1 f2
theorem sp_X6_two {l : Launch} {d : Nat} {σ : zMem} (hd : 8 ≤ d) {a b k : Int} (ha : -2147483648 ≤ a ∧ a < 2147483648) (hb : -2147483648 ≤ b ∧ b < 2147483648) (hk : -2147483648 ≤ k ∧ k < 2147483648) (hV : zVN (σ 218))  : zSp l d mX6_two [.ref 217, .int (zI a), .int (zI b), .int (zI k)] σ (zAn 224 ((0 ≤ a ∧ a ≤ σ 218 48 - 1) ∧ (0 ≤ b ∧ b ≤ σ 218 48 - 1) ∧ a ≠ b ∧ -1 ≤ k) (z2v (σ 218) a b k) 0 (-10) σ) := by
  refine zSp_of oX6_two (Nat.le_of_ble_eq_true rfl) ?_
  show zw l d mX6_two 0 [some (.ref 217), some (.int (zI a)), some (.int (zI b)), some (.int (zI k)), none, none, none, none] [] σ _
  have hs := hV.1
  have hv := hV.2.1
  have hy := hV.2.2.1
  have gN := hs.1
  have gC := hs.2.1
  refine zw_aload_n 1 dX6_two_0 rfl rfl ?_
  refine zw_iload_n 2 dX6_two_1 rfl rfl ?_
  refine zw_callV 5 _ _ dX6_two_2 rfl kX6_194 qX6_isCanon ly217 ⟨_, rfl, rfl⟩ (by decide) (sp_X6_isCanon (d := d - 1) (by omega) (by omega) (by omega)) (by omega) rfl rfl (Nat.le_of_ble_eq_true rfl) (fun r σ' hq => ?_)
  obtain ⟨rfl, rfl⟩ := hq
  refine zw_if_eq 26 8 dX6_two_5 (by decide) rfl (by omega) (fun h5 => ?_) (fun h5 => ?_)
  · refine zw_aload_n 27 dX6_two_26 rfl rfl ?_
    refine zw_callV 30 _ _ dX6_two_27 rfl kX6_200 qX6_badTen ly217 ⟨_, rfl, rfl⟩ (by decide) (sp_X6_badTen (d := d - 1) (by omega)) (by omega) rfl rfl (Nat.le_of_ble_eq_true rfl) (fun r σ' hq => ?_)
    obtain ⟨rfl, rfl⟩ := hq
    refine zw_iret dX6_two_30 rfl ?_
    exact zAn_f (by omega)
  · refine zw_aload_n 9 dX6_two_8 rfl rfl ?_
    refine zw_iload_n 10 dX6_two_9 rfl rfl ?_
    refine zw_callV 13 _ _ dX6_two_10 rfl kX6_194 qX6_isCanon ly217 ⟨_, rfl, rfl⟩ (by decide) (sp_X6_isCanon (d := d - 1) (by omega) (by omega) (by omega)) (by omega) rfl rfl (Nat.le_of_ble_eq_true rfl) (fun r σ' hq => ?_)
    obtain ⟨rfl, rfl⟩ := hq
    refine zw_if_eq 26 16 dX6_two_13 (by decide) rfl (by omega) (fun h13 => ?_) (fun h13 => ?_)
    · refine zw_aload_n 27 dX6_two_26 rfl rfl ?_
      refine zw_callV 30 _ _ dX6_two_27 rfl kX6_200 qX6_badTen ly217 ⟨_, rfl, rfl⟩ (by decide) (sp_X6_badTen (d := d - 1) (by omega)) (by omega) rfl rfl (Nat.le_of_ble_eq_true rfl) (fun r σ' hq => ?_)
      obtain ⟨rfl, rfl⟩ := hq
      refine zw_iret dX6_two_30 rfl ?_
      exact zAn_f (by omega)
    · refine zw_iload_n 17 dX6_two_16 rfl rfl ?_
      refine zw_iload_n 18 dX6_two_17 rfl rfl ?_
      refine zw_icmp_eq 26 21 dX6_two_18 (by decide) rfl (by omega) (by omega) (fun h18 => ?_) (fun h18 => ?_)
      · refine zw_aload_n 27 dX6_two_26 rfl rfl ?_
        refine zw_callV 30 _ _ dX6_two_27 rfl kX6_200 qX6_badTen ly217 ⟨_, rfl, rfl⟩ (by decide) (sp_X6_badTen (d := d - 1) (by omega)) (by omega) rfl rfl (Nat.le_of_ble_eq_true rfl) (fun r σ' hq => ?_)
        obtain ⟨rfl, rfl⟩ := hq
        refine zw_iret dX6_two_30 rfl ?_
        exact zAn_f (by omega)
      · refine zw_iload_n 22 dX6_two_21 rfl rfl ?_
        refine zw_iconst 23 dX6_two_22 rfl ?_
        refine zw_icmp_ge 31 26 dX6_two_23 (by decide) rfl (by omega) (by omega) (fun h23 => ?_) (fun h23 => ?_)
        · refine zw_iconst 32 dX6_two_31 rfl ?_
          refine zw_istore 34 dX6_two_32 rfl (by decide) ?_
          refine zw_bipush 36 dX6_two_34 rfl (by decide) ?_
          refine zw_istore 38 dX6_two_36 rfl (by decide) ?_
          refine zw_iconst 39 dX6_two_38 rfl ?_
          refine zw_istore 41 dX6_two_39 rfl (by decide) ?_
          exact lp_X6_two (σ := σ) (by omega) (by omega) (by omega) hV (σ 218 33).toNat 0 0 (-5) (by omega) (by omega) rfl rfl
        · refine zw_aload_n 27 dX6_two_26 rfl rfl ?_
          refine zw_callV 30 _ _ dX6_two_27 rfl kX6_200 qX6_badTen ly217 ⟨_, rfl, rfl⟩ (by decide) (sp_X6_badTen (d := d - 1) (by omega)) (by omega) rfl rfl (Nat.le_of_ble_eq_true rfl) (fun r σ' hq => ?_)
          obtain ⟨rfl, rfl⟩ := hq
          refine zw_iret dX6_two_30 rfl ?_
          exact zAn_f (by omega)
def zyx (x : Int) : Int := (x * 1103515245 + 12345) % 2147483648
def zya (x : Int) : Int := x / 65536 % 5
def zyb (x : Int) : Int := x / 1048576 % 5
def zyc (N : zR) (x : Int) (t : zR) : zR := if (0 ≤ zya x ∧ zya x ≤ N 48 - 1) ∧ (0 ≤ zyb x ∧ zyb x ≤ N 48 - 1) ∧ zya x ≠ zyb x then zsw t (zya x) (zyb x) else t
def zxn (seed : Int) : Nat → Int
  | 0 => seed
  | n + 1 => zyx (zxn seed n)
/-- years with changes of seats by a seed -/
def zsy (N : zR) (seed : Int) : Nat → zR → zR
  | 0, t => t
  | n + 1, t => zyr N (zyc N (zxn seed (n + 1)) (zsy N seed n t))
theorem zyx_b {x : Int} (h : 0 ≤ x ∧ x < 2147483648) : 0 ≤ zyx x ∧ zyx x < 2147483648 := by unfold zyx; omega
theorem zxn_b {seed : Int} (h : 0 ≤ seed ∧ seed < 2147483648) : ∀ n, 0 ≤ zxn seed n ∧ zxn seed n < 2147483648
  | 0 => h
  | n + 1 => zyx_b (zxn_b h n)
theorem zsw_at (t : zR) {a b : Int} (hab : a ≠ b) (j : Int) : zsw t a b j = if j = b then t a else if j = a then t b else t j := by
  unfold zsw zup; split
  · rfl
  · rfl
theorem zsw_V {N t : zR} (hv : zVr N t) {a b : Int} (ha : 0 ≤ a ∧ a ≤ N 48 - 1 ∧ a < 5) (hb : 0 ≤ b ∧ b ≤ N 48 - 1 ∧ b < 5) (hab : a ≠ b) : zVr N (zsw t a b) := by
  have o : ∀ j, 5 ≤ j → zsw t a b j = t j := fun j hj => by rw [zsw_at t hab, if_neg (by omega), if_neg (by omega)]
  have e : ∀ j, ∃ j', (0 ≤ j → j < 5 → 0 ≤ j' ∧ j' < 5) ∧ zsw t a b j = t j' ∧ j' = (if j = b then a else if j = a then b else j) := fun j => by
    refine ⟨_, ?_, ?_, rfl⟩
    · intro h0 h1; omega
    · rw [zsw_at t hab]; split
      · rfl
      · split <;> rfl
  refine ⟨fun c h0 h1 => ?_, fun i h0 h1 => ?_, fun s h0 h1 => ?_, fun c c' h0 h1 h2 h3 hne he => ?_, fun c hc h0 h1 => ?_⟩
  · obtain ⟨c2, hb2, he, -⟩ := e c
    rw [he]; exact hv.1 c2 (hb2 h0 h1).1 (hb2 h0 h1).2
  · rw [o _ (by omega)]; exact hv.2.1 i h0 h1
  · rw [o _ (by omega)]; exact hv.2.2.1 s h0 h1
  · obtain ⟨c2, hb2, he2, hd2⟩ := e c
    obtain ⟨c3, hb3, he3, hd3⟩ := e c'
    rw [he2, he3] at he
    rw [he2]
    exact hv.2.2.2.1 c2 c3 (hb2 h0 h1).1 (hb2 h0 h1).2 (hb3 h2 h3).1 (hb3 h2 h3).2 (by omega) he
  · have e1 : zsw t a b c = t c := by rw [zsw_at t hab, if_neg (by omega), if_neg (by omega)]
    rw [e1]
    refine ⟨(hv.2.2.2.2 c hc h0 h1).1, fun k hk hk1 => ?_⟩
    rw [o _ (by omega)]
    exact (hv.2.2.2.2 c hc h0 h1).2 k hk hk1
theorem zyc_V {N t : zR} (hs : zVs N) (hv : zVr N t) (x : Int) : zVr N (zyc N x t) := by
  have := hs.2.1
  unfold zyc
  split
  · exact zsw_V hv (by omega) (by omega) (by omega)
  · exact hv
theorem zyc_hi {N t : zR} (hs : zVs N) (x : Int) {j : Int} (hj : 5 ≤ j) : zyc N x t j = t j := by
  have := hs.2.1
  unfold zyc
  split
  · rw [zsw_at _ (by omega), if_neg (by omega), if_neg (by omega)]
  · rfl
theorem zyc_ag {N t t' : zR} (hs : zVs N) (h : zag t t') (x : Int) : zag (zyc N x t) (zyc N x t') := fun j a b => by
  have := hs.2.1
  unfold zyc
  split
  · rw [zsw_at _ (by omega), zsw_at _ (by omega), h (zya x) (by omega) (by omega), h (zyb x) (by omega) (by omega), h j a b]
  · exact h j a b
theorem zsy_V {N t : zR} (hs : zVs N) (hv : zVr N t) (sd : Int) : ∀ n, zVr N (zsy N sd n t)
  | 0 => hv
  | n + 1 => zyr_V hs (zyc_V hs (zsy_V hs hv sd n) _)
theorem zsy_32 {N t : zR} (hs : zVs N) (hv : zVr N t) (sd : Int) : ∀ n : Nat, zsy N sd n t 32 = t 32 + n
  | 0 => by simp [zsy]
  | n + 1 => by
    rw [zsy, zyr_32 hs (zyc_V hs (zsy_V hs hv sd n) _), zyc_hi hs _ (by omega), zsy_32 hs hv sd n]; omega
theorem zsy_hi {N t : zR} (hs : zVs N) (hv : zVr N t) (sd : Int) {j : Int} (hj : 33 ≤ j) : ∀ n : Nat, zsy N sd n t j = t j
  | 0 => rfl
  | n + 1 => by rw [zsy, zyr_hi hs (zyc_V hs (zsy_V hs hv sd n) _) (Or.inl hj), zyc_hi hs _ (by omega), zsy_hi hs hv sd hj n]
theorem zsy_ag {N t t' : zR} (hs : zVs N) (hv : zVr N t) (h : zag t t') (sd : Int) : ∀ n : Nat, zag (zsy N sd n t) (zsy N sd n t')
  | 0 => h
  | n + 1 => zyr_ag hs (zyc_V hs (zsy_V hs hv sd n) _) (zyc_ag hs (zsy_ag hs hv h sd n) _)
theorem zsy_s (N t : zR) (sd : Int) {n : Int} (h : 0 ≤ n) : zsy N sd (n + 1).toNat t = zyr N (zyc N (zyx (zxn sd n.toNat)) (zsy N sd n.toNat t)) := by
  have e : (n + 1).toNat = n.toNat + 1 := by omega
  rw [e, zsy]; rfl
theorem zxn_s (sd : Int) {n : Int} (h : 0 ≤ n) : zxn sd (n + 1).toNat = zyx (zxn sd n.toNat) := by
  have e : (n + 1).toNat = n.toNat + 1 := by omega
  rw [e, zxn]
theorem zwd_ag {t t' : zR} (h : zag t t') : ∀ n : Nat, n ≤ 5 → zwd t n = zwd t' n
  | 0, _ => rfl
  | n + 1, hn => by rw [zwd, zwd, zwd_ag h n (by omega), zdo_ag h ⟨by omega, by omega⟩]
theorem lp_X6_years {l : Launch} {d : Nat} {σ : zMem} (hd : 8 ≤ d) {seed n : Int} (hc : (0 ≤ seed ∧ seed ≤ 999999) ∧ 0 ≤ n ∧ n ≤ 60) (hV : zVN (σ 218))  : ∀ (m : Nat) (i : Int) (x : Int) (σc : zMem), i + m = n → 0 ≤ i → x = zxn seed i.toNat → σc = zwa σ 220 (zsy (σ 218) seed i.toNat (zcy (σ 218) (σ 220) 0 0 33)) → zw l d mX6_years 39 [some (.ref 217), some (.int (zI seed)), some (.int (zI n)), some (.long (zL x)), none, some (.int (zI i)), none, none] [] σc (zAn 224 ((0 ≤ seed ∧ seed ≤ 999999) ∧ 0 ≤ n ∧ n ≤ 60) (zwd (zsy (σ 218) seed n.toNat (σ 218)) (σ 218 48).toNat) 0 (-2) σ) := by
  intro m
  induction m with
  | zero =>
    intro i x σc hk hk0 hx hσ
    have hs := hV.1
    have hv := hV.2.1
    have hy0 := hV.2.2.1
    have gN := hs.1
    have gC := hs.2.1
    have g0 := zcy_ag (σ 218) (σ 220)
    have hvA : zVr (σ 218) (zcy (σ 218) (σ 220) 0 0 33) := zVr_ag g0.symm hv
    obtain ⟨a1, a2, a3, a4⟩ := zstep hσ (fun i hi => (zsy_hi hs hvA _ hi _).trans (if_neg (by omega))) hs (zsy_V hs hvA _ _)
    have ag : zag (σc 220) (zsy (σ 218) seed i.toNat (σ 218)) := by rw [a1]; exact (zsy_ag hs hv g0.symm _ _).symm
    have a6 : σc 220 32 = σ 218 32 + i := by rw [ag 32 (by omega) (by omega), zsy_32 hs hv]; omega
    have a7 : σc 218 = σ 218 := by rw [hσ, zwa_ne _ _ (by decide)]
    have a5 : σc 218 48 = σ 218 48 := by rw [a7]
    have xb := zxn_b (seed := seed) (by omega) i.toNat
    rw [← hx] at xb
    have xb2 := zyx_b xb
    obtain ⟨x', hx'⟩ : ∃ x', x' = zyx x := ⟨_, rfl⟩
    refine zw_iload 41 dX6_years_39 rfl rfl ?_
    refine zw_iload_n 42 dX6_years_41 rfl rfl ?_
    refine zw_icmp_ge 133 45 dX6_years_42 (by decide) rfl (by omega) (by omega) (fun h42 => ?_) (fun h42 => ?_)
    · refine zw_aload_n 134 dX6_years_133 rfl rfl ?_
      refine zw_aload_n 135 dX6_years_134 rfl rfl ?_
      refine zw_getr 138 (220) (o := 3) dX6_years_135 rfl fX6_16 (by decide) rfl rfl ly217 ?_
      refine zw_callV 141 _ _ dX6_years_138 rfl kX6_212 qX6_whoDo ly217 ⟨_, rfl, rfl⟩ (by decide) (sp_X6_whoDo (d := d - 1) (by omega) ly220 (by decide) (by omega) (fun j h0 h1 => a4.2.1 j h0 h1)) (by omega) rfl rfl (Nat.le_of_ble_eq_true rfl) (fun r σ' hq => ?_)
      obtain ⟨rfl, rfl⟩ := hq
      refine zw_iret dX6_years_141 rfl ?_
      have ei : i = n := by omega
      subst ei
      exact zAn_t (by omega) (by rw [a5]; exact zwd_ag ag _ (by omega)) (by rw [hσ]; exact (zNS_wa _ _ (by unfold zSk; omega) (by decide) (by decide)))
    · exfalso; omega
  | succ m ih =>
    intro i x σc hk hk0 hx hσ
    have hs := hV.1
    have hv := hV.2.1
    have hy0 := hV.2.2.1
    have gN := hs.1
    have gC := hs.2.1
    have g0 := zcy_ag (σ 218) (σ 220)
    have hvA : zVr (σ 218) (zcy (σ 218) (σ 220) 0 0 33) := zVr_ag g0.symm hv
    obtain ⟨a1, a2, a3, a4⟩ := zstep hσ (fun i hi => (zsy_hi hs hvA _ hi _).trans (if_neg (by omega))) hs (zsy_V hs hvA _ _)
    have ag : zag (σc 220) (zsy (σ 218) seed i.toNat (σ 218)) := by rw [a1]; exact (zsy_ag hs hv g0.symm _ _).symm
    have a6 : σc 220 32 = σ 218 32 + i := by rw [ag 32 (by omega) (by omega), zsy_32 hs hv]; omega
    have a7 : σc 218 = σ 218 := by rw [hσ, zwa_ne _ _ (by decide)]
    have a5 : σc 218 48 = σ 218 48 := by rw [a7]
    have xb := zxn_b (seed := seed) (by omega) i.toNat
    rw [← hx] at xb
    have xb2 := zyx_b xb
    obtain ⟨x', hx'⟩ : ∃ x', x' = zyx x := ⟨_, rfl⟩
    refine zw_iload 41 dX6_years_39 rfl rfl ?_
    refine zw_iload_n 42 dX6_years_41 rfl rfl ?_
    refine zw_icmp_ge 133 45 dX6_years_42 (by decide) rfl (by omega) (by omega) (fun h42 => ?_) (fun h42 => ?_)
    · refine zw_aload_n 134 dX6_years_133 rfl rfl ?_
      refine zw_aload_n 135 dX6_years_134 rfl rfl ?_
      refine zw_getr 138 (220) (o := 3) dX6_years_135 rfl fX6_16 (by decide) rfl rfl ly217 ?_
      refine zw_callV 141 _ _ dX6_years_138 rfl kX6_212 qX6_whoDo ly217 ⟨_, rfl, rfl⟩ (by decide) (sp_X6_whoDo (d := d - 1) (by omega) ly220 (by decide) (by omega) (fun j h0 h1 => a4.2.1 j h0 h1)) (by omega) rfl rfl (Nat.le_of_ble_eq_true rfl) (fun r σ' hq => ?_)
      obtain ⟨rfl, rfl⟩ := hq
      refine zw_iret dX6_years_141 rfl ?_
      exfalso; omega
    · refine zw_lload_n 46 dX6_years_45 rfl rfl ?_
      refine zw_ldc2 49 (1103515245) dX6_years_46 rfl cX6_289 ?_
      refine zw_lmul 50 dX6_years_49 rfl ?_
      refine zw_ldc2 53 (12345) dX6_years_50 rfl cX6_291 ?_
      refine zw_ladd 54 dX6_years_53 rfl ?_
      refine zw_ldc2 57 (2147483648) dX6_years_54 rfl cX6_293 ?_
      refine zw_lrem 58 dX6_years_57 rfl (by omega) (by decide) ?_
      refine zw_lstore_n 59 dX6_years_58 rfl (by decide) ?_
      rw [show (x * 1103515245 + 12345) % 2147483648 = x' by rw [hx']; rfl]
      rw [← hx'] at xb2
      refine zw_lload_n 60 dX6_years_59 rfl rfl ?_
      refine zw_ldc2 63 (65536) dX6_years_60 rfl cX6_295 ?_
      refine zw_ldiv 64 dX6_years_63 rfl (by omega) (by decide) ?_
      refine zw_ldc2 67 (5) dX6_years_64 rfl cX6_92 ?_
      refine zw_lrem 68 dX6_years_67 rfl (by omega) (by decide) ?_
      refine zw_l2i 69 dX6_years_68 rfl (by omega) ?_
      refine zw_istore 71 dX6_years_69 rfl (by decide) ?_
      rw [show x' / 65536 % 5 = zya x' from rfl]
      refine zw_lload_n 72 dX6_years_71 rfl rfl ?_
      refine zw_ldc2 75 (1048576) dX6_years_72 rfl cX6_297 ?_
      refine zw_ldiv 76 dX6_years_75 rfl (by omega) (by decide) ?_
      refine zw_ldc2 79 (5) dX6_years_76 rfl cX6_92 ?_
      refine zw_lrem 80 dX6_years_79 rfl (by omega) (by decide) ?_
      refine zw_l2i 81 dX6_years_80 rfl (by omega) ?_
      refine zw_istore 83 dX6_years_81 rfl (by decide) ?_
      rw [show x' / 1048576 % 5 = zyb x' from rfl]
      have ab1 : 0 ≤ zya x' ∧ zya x' < 5 := by unfold zya; omega
      have ab2 : 0 ≤ zyb x' ∧ zyb x' < 5 := by unfold zyb; omega
      refine zw_aload_n 84 dX6_years_83 rfl rfl ?_
      refine zw_iload 86 dX6_years_84 rfl rfl ?_
      refine zw_callV 89 _ _ dX6_years_86 rfl kX6_194 qX6_isCanon ly217 ⟨_, rfl, rfl⟩ (by decide) (sp_X6_isCanon (d := d - 1) (by omega) (by omega) (by omega)) (by omega) rfl rfl (Nat.le_of_ble_eq_true rfl) (fun r σ' hq => ?_)
      obtain ⟨rfl, rfl⟩ := hq
      refine zw_if_eq 119 92 dX6_years_89 (by decide) rfl (by omega) (fun h89 => ?_) (fun h89 => ?_)
      · first
          | (have hT2 : zyc (σ 218) x' (σc 220) = zsw (σc 220) (zya x') (zyb x') := if_pos ⟨by omega, by omega, by omega⟩
             have hσ2 : zwa σc 220 (zsw (σc 220) (zya x') (zyb x')) = zwa σ 220 (zyc (σ 218) x' (σc 220)) := by rw [hT2, hσ, zwa_twice]
             rw [hσ2])
          | (have hT2 : zyc (σ 218) x' (σc 220) = σc 220 := if_neg (by omega)
             have hσ2 : σc = zwa σ 220 (zyc (σ 218) x' (σc 220)) := by rw [hT2]; rw [hσ, zwa_same]
             rw [hσ2])
        have v2 := zyc_V (t := σc 220) a3 a4 x'
        have v3 : zVr (σ 218) (zyc (σ 218) x' (σc 220)) := zyc_V hs (by rw [a1]; exact zsy_V hs hvA _ _) x'
        have v4 : zyc (σ 218) x' (σc 220) 32 = σc 220 32 := zyc_hi hs _ (by omega)
        refine zw_aload_n 120 dX6_years_119 rfl rfl ?_
        refine zw_aload_n 121 dX6_years_120 rfl rfl ?_
        refine zw_getr 124 (220) (o := 3) dX6_years_121 rfl fX6_16 (by decide) rfl rfl ly217 ?_
        refine zw_callV 127 _ _ dX6_years_124 rfl kX6_168 qX6_yearGoes ly217 ⟨_, rfl, rfl⟩ (by decide) (sp_X6_yearGoes (d := d - 1) (σ := zwa σ 220 (zyc (σ 218) x' (σc 220))) (by omega) ly220 (by decide) (by rw [zwa_ne _ _ (by decide)]; exact hs) (by rw [zwa_ne _ _ (by decide), zwa_same]; exact v3) (by rw [zwa_same, v4]; omega)) (by omega) rfl rfl (Nat.le_of_ble_eq_true rfl) (fun r σ' hq => ?_)
        obtain ⟨rfl, rfl⟩ := hq
        refine zw_iinc 130 dX6_years_127 rfl (by decide) rfl ?_
        refine zw_goto 39 dX6_years_130 (by decide) ?_
        refine zw_loc [true, true, true, true, false, true, false, false] rfl ?_
        refine ih (i + 1) _ _ (by omega) (by omega) ?_ ?_
        · rw [zxn_s _ hk0, ← hx, ← hx']
        · rw [zsy_s _ _ _ hk0, ← hx, ← hx', ← a1, zwa_same, zwa_ne _ _ (show (218 : Nat) ≠ 220 by decide), zwa_twice]
      · refine zw_aload_n 93 dX6_years_92 rfl rfl ?_
        refine zw_iload 95 dX6_years_93 rfl rfl ?_
        refine zw_callV 98 _ _ dX6_years_95 rfl kX6_194 qX6_isCanon ly217 ⟨_, rfl, rfl⟩ (by decide) (sp_X6_isCanon (d := d - 1) (by omega) (by omega) (by omega)) (by omega) rfl rfl (Nat.le_of_ble_eq_true rfl) (fun r σ' hq => ?_)
        obtain ⟨rfl, rfl⟩ := hq
        refine zw_if_eq 119 101 dX6_years_98 (by decide) rfl (by omega) (fun h98 => ?_) (fun h98 => ?_)
        · first
            | (have hT2 : zyc (σ 218) x' (σc 220) = zsw (σc 220) (zya x') (zyb x') := if_pos ⟨by omega, by omega, by omega⟩
               have hσ2 : zwa σc 220 (zsw (σc 220) (zya x') (zyb x')) = zwa σ 220 (zyc (σ 218) x' (σc 220)) := by rw [hT2, hσ, zwa_twice]
               rw [hσ2])
            | (have hT2 : zyc (σ 218) x' (σc 220) = σc 220 := if_neg (by omega)
               have hσ2 : σc = zwa σ 220 (zyc (σ 218) x' (σc 220)) := by rw [hT2]; rw [hσ, zwa_same]
               rw [hσ2])
          have v2 := zyc_V (t := σc 220) a3 a4 x'
          have v3 : zVr (σ 218) (zyc (σ 218) x' (σc 220)) := zyc_V hs (by rw [a1]; exact zsy_V hs hvA _ _) x'
          have v4 : zyc (σ 218) x' (σc 220) 32 = σc 220 32 := zyc_hi hs _ (by omega)
          refine zw_aload_n 120 dX6_years_119 rfl rfl ?_
          refine zw_aload_n 121 dX6_years_120 rfl rfl ?_
          refine zw_getr 124 (220) (o := 3) dX6_years_121 rfl fX6_16 (by decide) rfl rfl ly217 ?_
          refine zw_callV 127 _ _ dX6_years_124 rfl kX6_168 qX6_yearGoes ly217 ⟨_, rfl, rfl⟩ (by decide) (sp_X6_yearGoes (d := d - 1) (σ := zwa σ 220 (zyc (σ 218) x' (σc 220))) (by omega) ly220 (by decide) (by rw [zwa_ne _ _ (by decide)]; exact hs) (by rw [zwa_ne _ _ (by decide), zwa_same]; exact v3) (by rw [zwa_same, v4]; omega)) (by omega) rfl rfl (Nat.le_of_ble_eq_true rfl) (fun r σ' hq => ?_)
          obtain ⟨rfl, rfl⟩ := hq
          refine zw_iinc 130 dX6_years_127 rfl (by decide) rfl ?_
          refine zw_goto 39 dX6_years_130 (by decide) ?_
          refine zw_loc [true, true, true, true, false, true, false, false] rfl ?_
          refine ih (i + 1) _ _ (by omega) (by omega) ?_ ?_
          · rw [zxn_s _ hk0, ← hx, ← hx']
          · rw [zsy_s _ _ _ hk0, ← hx, ← hx', ← a1, zwa_same, zwa_ne _ _ (show (218 : Nat) ≠ 220 by decide), zwa_twice]
        · refine zw_iload 103 dX6_years_101 rfl rfl ?_
          refine zw_iload 105 dX6_years_103 rfl rfl ?_
          refine zw_icmp_eq 119 108 dX6_years_105 (by decide) rfl (by omega) (by omega) (fun h105 => ?_) (fun h105 => ?_)
          · first
              | (have hT2 : zyc (σ 218) x' (σc 220) = zsw (σc 220) (zya x') (zyb x') := if_pos ⟨by omega, by omega, by omega⟩
                 have hσ2 : zwa σc 220 (zsw (σc 220) (zya x') (zyb x')) = zwa σ 220 (zyc (σ 218) x' (σc 220)) := by rw [hT2, hσ, zwa_twice]
                 rw [hσ2])
              | (have hT2 : zyc (σ 218) x' (σc 220) = σc 220 := if_neg (by omega)
                 have hσ2 : σc = zwa σ 220 (zyc (σ 218) x' (σc 220)) := by rw [hT2]; rw [hσ, zwa_same]
                 rw [hσ2])
            have v2 := zyc_V (t := σc 220) a3 a4 x'
            have v3 : zVr (σ 218) (zyc (σ 218) x' (σc 220)) := zyc_V hs (by rw [a1]; exact zsy_V hs hvA _ _) x'
            have v4 : zyc (σ 218) x' (σc 220) 32 = σc 220 32 := zyc_hi hs _ (by omega)
            refine zw_aload_n 120 dX6_years_119 rfl rfl ?_
            refine zw_aload_n 121 dX6_years_120 rfl rfl ?_
            refine zw_getr 124 (220) (o := 3) dX6_years_121 rfl fX6_16 (by decide) rfl rfl ly217 ?_
            refine zw_callV 127 _ _ dX6_years_124 rfl kX6_168 qX6_yearGoes ly217 ⟨_, rfl, rfl⟩ (by decide) (sp_X6_yearGoes (d := d - 1) (σ := zwa σ 220 (zyc (σ 218) x' (σc 220))) (by omega) ly220 (by decide) (by rw [zwa_ne _ _ (by decide)]; exact hs) (by rw [zwa_ne _ _ (by decide), zwa_same]; exact v3) (by rw [zwa_same, v4]; omega)) (by omega) rfl rfl (Nat.le_of_ble_eq_true rfl) (fun r σ' hq => ?_)
            obtain ⟨rfl, rfl⟩ := hq
            refine zw_iinc 130 dX6_years_127 rfl (by decide) rfl ?_
            refine zw_goto 39 dX6_years_130 (by decide) ?_
            refine zw_loc [true, true, true, true, false, true, false, false] rfl ?_
            refine ih (i + 1) _ _ (by omega) (by omega) ?_ ?_
            · rw [zxn_s _ hk0, ← hx, ← hx']
            · rw [zsy_s _ _ _ hk0, ← hx, ← hx', ← a1, zwa_same, zwa_ne _ _ (show (218 : Nat) ≠ 220 by decide), zwa_twice]
          · refine zw_aload_n 109 dX6_years_108 rfl rfl ?_
            refine zw_getr 112 (220) (o := 3) dX6_years_109 rfl fX6_16 (by decide) rfl rfl ly217 ?_
            refine zw_iload 114 dX6_years_112 rfl rfl ?_
            refine zw_iload 116 dX6_years_114 rfl rfl ?_
            refine zw_callS 119 _ _ dX6_years_116 rfl kX6_206 qX6_swaps (sp_X6_swaps (d := d - 1) ly220 (by decide) (by omega) (by omega) (by omega)) (by omega) rfl rfl (Nat.le_of_ble_eq_true rfl) (fun r σ' hq => ?_)
            obtain ⟨rfl, rfl⟩ := hq
            first
              | (have hT2 : zyc (σ 218) x' (σc 220) = zsw (σc 220) (zya x') (zyb x') := if_pos ⟨by omega, by omega, by omega⟩
                 have hσ2 : zwa σc 220 (zsw (σc 220) (zya x') (zyb x')) = zwa σ 220 (zyc (σ 218) x' (σc 220)) := by rw [hT2, hσ, zwa_twice]
                 rw [hσ2])
              | (have hT2 : zyc (σ 218) x' (σc 220) = σc 220 := if_neg (by omega)
                 have hσ2 : σc = zwa σ 220 (zyc (σ 218) x' (σc 220)) := by rw [hT2]; rw [hσ, zwa_same]
                 rw [hσ2])
            have v2 := zyc_V (t := σc 220) a3 a4 x'
            have v3 : zVr (σ 218) (zyc (σ 218) x' (σc 220)) := zyc_V hs (by rw [a1]; exact zsy_V hs hvA _ _) x'
            have v4 : zyc (σ 218) x' (σc 220) 32 = σc 220 32 := zyc_hi hs _ (by omega)
            refine zw_aload_n 120 dX6_years_119 rfl rfl ?_
            refine zw_aload_n 121 dX6_years_120 rfl rfl ?_
            refine zw_getr 124 (220) (o := 3) dX6_years_121 rfl fX6_16 (by decide) rfl rfl ly217 ?_
            refine zw_callV 127 _ _ dX6_years_124 rfl kX6_168 qX6_yearGoes ly217 ⟨_, rfl, rfl⟩ (by decide) (sp_X6_yearGoes (d := d - 1) (σ := zwa σ 220 (zyc (σ 218) x' (σc 220))) (by omega) ly220 (by decide) (by rw [zwa_ne _ _ (by decide)]; exact hs) (by rw [zwa_ne _ _ (by decide), zwa_same]; exact v3) (by rw [zwa_same, v4]; omega)) (by omega) rfl rfl (Nat.le_of_ble_eq_true rfl) (fun r σ' hq => ?_)
            obtain ⟨rfl, rfl⟩ := hq
            refine zw_iinc 130 dX6_years_127 rfl (by decide) rfl ?_
            refine zw_goto 39 dX6_years_130 (by decide) ?_
            refine zw_loc [true, true, true, true, false, true, false, false] rfl ?_
            refine ih (i + 1) _ _ (by omega) (by omega) ?_ ?_
            · rw [zxn_s _ hk0, ← hx, ← hx']
            · rw [zsy_s _ _ _ hk0, ← hx, ← hx', ← a1, zwa_same, zwa_ne _ _ (show (218 : Nat) ≠ 220 by decide), zwa_twice]
theorem sp_X6_years {l : Launch} {d : Nat} {σ : zMem} (hd : 8 ≤ d) {seed n : Int} (hseed : -2147483648 ≤ seed ∧ seed < 2147483648) (hn : -2147483648 ≤ n ∧ n < 2147483648) (hV : zVN (σ 218))  : zSp l d mX6_years [.ref 217, .int (zI seed), .int (zI n)] σ (zAn 224 ((0 ≤ seed ∧ seed ≤ 999999) ∧ 0 ≤ n ∧ n ≤ 60) (zwd (zsy (σ 218) seed n.toNat (σ 218)) (σ 218 48).toNat) 0 (-2) σ) := by
  refine zSp_of oX6_years (Nat.le_of_ble_eq_true rfl) ?_
  show zw l d mX6_years 0 [some (.ref 217), some (.int (zI seed)), some (.int (zI n)), none, none, none, none, none] [] σ _
  have hs := hV.1
  have hv := hV.2.1
  have hy := hV.2.2.1
  have gN := hs.1
  have gC := hs.2.1
  refine zw_iload_n 1 dX6_years_0 rfl rfl ?_
  refine zw_i2l 2 dX6_years_1 rfl (by omega) ?_
  refine zw_lconst 3 0 dX6_years_2 rfl (by decide) ?_
  refine zw_ldc2 6 (999999) dX6_years_3 rfl cX6_287 ?_
  refine zw_callS 9 _ _ dX6_years_6 rfl kX6_86 qX6_in (sp_X6_in (d := d - 1) (by omega) (by omega) (by omega)) (by omega) rfl rfl (Nat.le_of_ble_eq_true rfl) (fun r σ' hq => ?_)
  obtain ⟨rfl, rfl⟩ := hq
  refine zw_if_eq 24 12 dX6_years_9 (by decide) rfl (by omega) (fun h9 => ?_) (fun h9 => ?_)
  · refine zw_aload_n 25 dX6_years_24 rfl rfl ?_
    refine zw_callV 28 _ _ dX6_years_25 rfl kX6_100 qX6_bad ly217 ⟨_, rfl, rfl⟩ (by decide) (sp_X6_bad (d := d - 1) (by omega)) (by omega) rfl rfl (Nat.le_of_ble_eq_true rfl) (fun r σ' hq => ?_)
    obtain ⟨rfl, rfl⟩ := hq
    refine zw_iret dX6_years_28 rfl ?_
    exact zAn_f (by omega)
  · refine zw_iload_n 13 dX6_years_12 rfl rfl ?_
    refine zw_i2l 14 dX6_years_13 rfl (by omega) ?_
    refine zw_lconst 15 0 dX6_years_14 rfl (by decide) ?_
    refine zw_ldc2 18 (60) dX6_years_15 rfl cX6_219 ?_
    refine zw_callS 21 _ _ dX6_years_18 rfl kX6_86 qX6_in (sp_X6_in (d := d - 1) (by omega) (by omega) (by omega)) (by omega) rfl rfl (Nat.le_of_ble_eq_true rfl) (fun r σ' hq => ?_)
    obtain ⟨rfl, rfl⟩ := hq
    refine zw_if_ne 29 24 dX6_years_21 (by decide) rfl (by omega) (fun h21 => ?_) (fun h21 => ?_)
    · refine zw_aload_n 30 dX6_years_29 rfl rfl ?_
      refine zw_callV 33 _ _ dX6_years_30 rfl kX6_216 qX6_layAside ly217 ⟨_, rfl, rfl⟩ (by decide) (sp_X6_layAside (d := d - 1) (by omega)) (by omega) rfl rfl (Nat.le_of_ble_eq_true rfl) (fun r σ' hq => ?_)
      obtain ⟨rfl, rfl⟩ := hq
      refine zw_iload_n 34 dX6_years_33 rfl rfl ?_
      refine zw_i2l 35 dX6_years_34 rfl (by omega) ?_
      refine zw_lstore_n 36 dX6_years_35 rfl (by decide) ?_
      refine zw_iconst 37 dX6_years_36 rfl ?_
      refine zw_istore 39 dX6_years_37 rfl (by decide) ?_
      exact lp_X6_years (σ := σ) (by omega) (by omega) hV n.toNat 0 seed _ (by omega) (by omega) rfl rfl
    · refine zw_aload_n 25 dX6_years_24 rfl rfl ?_
      refine zw_callV 28 _ _ dX6_years_25 rfl kX6_100 qX6_bad ly217 ⟨_, rfl, rfl⟩ (by decide) (sp_X6_bad (d := d - 1) (by omega)) (by omega) rfl rfl (Nat.le_of_ble_eq_true rfl) (fun r σ' hq => ?_)
      obtain ⟨rfl, rfl⟩ := hq
      refine zw_iret dX6_years_28 rfl ?_
      exact zAn_f (by omega)
