/-- how many of the kinds below n, that are in b, have v -/
def zgc (f b : Int → Int) (v : Int) : Nat → Int := zct (fun j => if b j = 1 ∧ f j = v then 1 else 0)
def zmo (f b : Int → Int) : Nat → Int
  | 0 => 0
  | n + 1 => if b n = 1 then max (zmo f b n) (zgc f b (f n) (n + 1)) else zmo f b n
theorem zgc_b (f b : Int → Int) (v : Int) (n : Nat) : 0 ≤ zgc f b v n ∧ zgc f b v n ≤ n := zct_b n (fun _ _ _ => by omega)
theorem zmo_b (f b : Int → Int) : ∀ n : Nat, 0 ≤ zmo f b n ∧ zmo f b n ≤ n
  | 0 => by simp [zmo]
  | n + 1 => by
    have := zmo_b f b n
    have := zgc_b f b (f n) (n + 1)
    unfold zmo; omega
theorem zmo_s (f b : Int → Int) {k : Int} (h : 0 ≤ k) : zmo f b (k + 1).toNat = if b k = 1 then max (zmo f b k.toNat) (zgc f b (f k) (k + 1).toNat) else zmo f b k.toNat := by
  have e : (k + 1).toNat = k.toNat + 1 := by omega
  have e2 : ((k.toNat : Nat) : Int) = k := by omega
  rw [e, zmo, e2]
theorem zgc_s (f b : Int → Int) (v : Int) {k : Int} (h : 0 ≤ k) : zgc f b v (k + 1).toNat = zgc f b v k.toNat + (if b k = 1 ∧ f k = v then 1 else 0) := zct_s _ h
/-- the least of G below n, of like ones the first: its code, itself -/
def zmn (I0 : Int) (G cd : Int → Int) : Nat → Int × Int
  | 0 => (-1, I0)
  | n + 1 => if G n < (zmn I0 G cd n).2 then (cd n, G n) else zmn I0 G cd n
theorem zgc_up {f b g : Int → Int} {k : Int} (hk : 0 ≤ k) (hb : b k = 1) (hg : ∀ v, 0 ≤ v → v < 120 → g v = zgc f b v k.toNat) : ∀ v, 0 ≤ v → v < 120 → zup g (f k) (g (f k) + 1) v = zgc f b v (k + 1).toNat := by
  intro v h0 h1
  rw [zgc_s _ _ _ hk, ← hg v h0 h1]
  unfold zup
  by_cases h : v = f k
  · subst h; rw [if_pos rfl, if_pos ⟨hb, rfl⟩]
  · rw [if_neg h, if_neg (fun q => h q.2.symm)]; omega
theorem zmn_s (I0 : Int) (G cd : Int → Int) {k : Int} (h : 0 ≤ k) : zmn I0 G cd (k + 1).toNat = if G k < (zmn I0 G cd k.toNat).2 then (cd k, G k) else zmn I0 G cd k.toNat := by
  have e : (k + 1).toNat = k.toNat + 1 := by omega
  have e2 : ((k.toNat : Nat) : Int) = k := by omega
  rw [e, zmn, e2]
theorem zmn_b (I0 : Int) (hI : 0 ≤ I0 ∧ I0 ≤ 1000000) (G cd : Int → Int) (hG : ∀ k, 0 ≤ G k ∧ G k ≤ 6) : ∀ n, 0 ≤ (zmn I0 G cd n).2 ∧ (zmn I0 G cd n).2 ≤ 1000000
  | 0 => hI
  | n + 1 => by
    have := zmn_b I0 hI G cd hG n
    have := hG n
    unfold zmn; split <;> (try dsimp only) <;> omega
/-- the memory but for the counts of like ones, and the most -/
def zAl (σ σc : zMem) (g : Int → Int) (m : Int) : Prop := (∀ b, b ≠ 228 → b ≠ 217 → σc b = σ b) ∧ σc 228 = g ∧ (∀ j, j ≠ 22 → σc 217 j = σ 217 j) ∧ σc 217 22 = m
theorem zAl_id (σ : zMem) : zAl σ σ (σ 228) (σ 217 22) := ⟨fun _ _ _ => rfl, rfl, fun _ _ => rfl, rfl⟩
theorem zAl_c {σ σc : zMem} {g : Int → Int} {m : Int} (h : zAl σ σc g m) (v : Int) : zAl σ (zwr (zwr σc 228 v (σc 228 v + 1)) 217 22 (max (σc 217 22) (σc 228 v + 1))) (zup g v (g v + 1)) (max m (g v + 1)) := by
  obtain ⟨h1, h2, h3, h4⟩ := h
  refine ⟨fun b hb hb2 => ?_, ?_, fun j hj => ?_, ?_⟩
  · rw [zwr_ne _ _ _ hb2, zwr_ne _ _ _ hb, h1 b hb hb2]
  · rw [zwr_ne _ _ _ (by decide), h2]; unfold zwr; rw [zwa_same, h2]
  · rw [zwr_ni _ _ _ hj, zwr_ne _ _ _ (by decide), h3 j hj]
  · rw [zwr_same, h2, h4]
theorem zAl_0 {σ σc : zMem} {g : Int → Int} {m : Int} (h : zAl σ σc g m) : zAl σ (zwr (zwa σc 228 (zfz (σc 228) 120)) 217 22 0) (zfz g 120) 0 := by
  obtain ⟨h1, h2, h3, h4⟩ := h
  refine ⟨fun b hb hb2 => ?_, ?_, fun j hj => ?_, ?_⟩
  · rw [zwr_ne _ _ _ hb2, zwa_ne _ _ hb, h1 b hb hb2]
  · rw [zwr_ne _ _ _ (by decide), zwa_same, h2]
  · rw [zwr_ni _ _ _ hj, zwa_ne _ _ (by decide), h3 j hj]
  · rw [zwr_same]
theorem zAl_NS {σ σc : zMem} {g : Int → Int} {m : Int} (h : zAl σ σc g m) : zNS σ σc :=
  ⟨fun b hb => h.1 b (fun q => hb (by unfold zSk; omega)) (fun q => hb (by unfold zSk; omega)), by rw [h.1 106 (by decide) (by decide)], h.2.2.1 6 (by decide), h.2.2.1 7 (by decide), h.2.2.1 8 (by decide)⟩
theorem sp_X6_counts {l : Launch} {d : Nat} {σ : zMem} {b : Int} (hb : 0 ≤ b ∧ b < 120) (h1 : 0 ≤ σ 228 b ∧ σ 228 b ≤ 1000) (h2 : 0 ≤ σ 217 22 ∧ σ 217 22 ≤ 1000) : zSp l d mX6_counts [.ref 217, .int (zI b)] σ (zRv (zwr (zwr σ 228 b (σ 228 b + 1)) 217 22 (max (σ 217 22) (σ 228 b + 1)))) := by
  refine zSp_of oX6_counts (Nat.le_of_ble_eq_true rfl) ?_
  show zw l d mX6_counts 0 [some (.ref 217), some (.int (zI b))] [] σ _
  have e1 : zwr σ 228 b (σ 228 b + 1) 228 b = σ 228 b + 1 := zwr_same _ _ _ _
  have e2 : zwr σ 228 b (σ 228 b + 1) 217 22 = σ 217 22 := by rw [zwr_ne _ _ _ (by decide)]
  refine zw_aload_n 1 dX6_counts_0 rfl rfl ?_
  refine zw_getr 4 (228) (o := 11) dX6_counts_1 rfl fX6_45 (by decide) rfl rfl ly217 ?_
  refine zw_iload_n 5 dX6_counts_4 rfl rfl ?_
  refine zw_dup2_11 6 dX6_counts_5 rfl rfl rfl ?_
  refine zw_iald 7 dX6_counts_6 rfl ly228 (by omega) ?_
  refine zw_iconst 8 dX6_counts_7 rfl ?_
  refine zw_iadd 9 dX6_counts_8 rfl ?_
  refine zw_iast 10 dX6_counts_9 rfl ly228 (by omega) ?_
  refine zw_aload_n 11 dX6_counts_10 rfl rfl ?_
  refine zw_aload_n 12 dX6_counts_11 rfl rfl ?_
  refine zw_getr 15 (228) (o := 11) dX6_counts_12 rfl fX6_45 (by decide) rfl rfl ly217 ?_
  refine zw_iload_n 16 dX6_counts_15 rfl rfl ?_
  refine zw_iald 17 dX6_counts_16 rfl ly228 (by omega) ?_
  refine zw_aload_n 18 dX6_counts_17 rfl rfl ?_
  refine zw_gti 21 22 dX6_counts_18 rfl fX6_259 (by decide) rfl rfl ly217 ?_
  refine zw_icmp_le 33 24 dX6_counts_21 (by decide) rfl (by omega) (by omega) (fun h21 => ?_) (fun h21 => ?_)
  · refine zw_aload_n 34 dX6_counts_33 rfl rfl ?_
    refine zw_gti 37 22 dX6_counts_34 rfl fX6_259 (by decide) rfl rfl ly217 ?_
    refine zw_pti 40 22 dX6_counts_37 rfl pX6_259 (by decide) rfl rfl ly217 ?_
    refine zw_vret dX6_counts_40 rfl ?_
    exact ⟨rfl, by first | rw [e1, Int.max_eq_right (by omega)] | rw [e2, Int.max_eq_left (by omega)]⟩
  · refine zw_aload_n 25 dX6_counts_24 rfl rfl ?_
    refine zw_getr 28 (228) (o := 11) dX6_counts_25 rfl fX6_45 (by decide) rfl rfl ly217 ?_
    refine zw_iload_n 29 dX6_counts_28 rfl rfl ?_
    refine zw_iald 30 dX6_counts_29 rfl ly228 (by omega) ?_
    refine zw_goto 37 dX6_counts_30 (by decide) ?_
    refine zw_pti 40 22 dX6_counts_37 rfl pX6_259 (by decide) rfl rfl ly217 ?_
    refine zw_vret dX6_counts_40 rfl ?_
    exact ⟨rfl, by first | rw [e1, Int.max_eq_right (by omega)] | rw [e2, Int.max_eq_left (by omega)]⟩
theorem lp_X6_countsNone {l : Launch} {d : Nat} {σ : zMem}  : ∀ (m : Nat) (i : Int), i + m = 120 → 0 ≤ i → zw l d mX6_countsNone 7 [some (.ref 217), some (.int (zI i))] [] (zwa σ 228 (zfz (σ 228) i)) (zRv (zwa σ 228 (zfz (σ 228) 120))) := by
  intro m
  induction m with
  | zero =>
    intro i hk hk0
    refine zw_iload_n 8 dX6_countsNone_7 rfl rfl ?_
    refine zw_bipush 10 dX6_countsNone_8 rfl (by decide) ?_
    refine zw_icmp_ge 26 13 dX6_countsNone_10 (by decide) rfl (by omega) (by omega) (fun h10 => ?_) (fun h10 => ?_)
    · refine zw_vret dX6_countsNone_26 rfl ?_
      have e : i = 120 := by omega
      subst e
      exact ⟨rfl, rfl⟩
    · exfalso; omega
  | succ m ih =>
    intro i hk hk0
    refine zw_iload_n 8 dX6_countsNone_7 rfl rfl ?_
    refine zw_bipush 10 dX6_countsNone_8 rfl (by decide) ?_
    refine zw_icmp_ge 26 13 dX6_countsNone_10 (by decide) rfl (by omega) (by omega) (fun h10 => ?_) (fun h10 => ?_)
    · refine zw_vret dX6_countsNone_26 rfl ?_
      exfalso; omega
    · refine zw_aload_n 14 dX6_countsNone_13 rfl rfl ?_
      refine zw_getr 17 (228) (o := 11) dX6_countsNone_14 rfl fX6_45 (by decide) rfl rfl ly217 ?_
      refine zw_iload_n 18 dX6_countsNone_17 rfl rfl ?_
      refine zw_iconst 19 dX6_countsNone_18 rfl ?_
      refine zw_iast 20 dX6_countsNone_19 rfl ly228 (by omega) ?_
      rw [zwr_wa, zfz_s _ hk0]
      refine zw_iinc 23 dX6_countsNone_20 rfl (by decide) rfl ?_
      refine zw_goto 7 dX6_countsNone_23 (by decide) ?_
      refine zw_loc [true, true] rfl ?_
      exact ih (i + 1) (by omega) (by omega)
theorem sp_X6_countsNone {l : Launch} {d : Nat} {σ : zMem}  : zSp l d mX6_countsNone [.ref 217] σ (zRv (zwr (zwa σ 228 (zfz (σ 228) 120)) 217 22 0)) := by
  refine zSp_of oX6_countsNone (Nat.le_of_ble_eq_true rfl) ?_
  show zw l d mX6_countsNone 0 [some (.ref 217), none] [] σ _
  refine zw_aload_n 1 dX6_countsNone_0 rfl rfl ?_
  refine zw_iconst 2 dX6_countsNone_1 rfl ?_
  refine zw_pti 5 22 dX6_countsNone_2 rfl pX6_259 (by decide) rfl rfl ly217 ?_
  refine zw_iconst 6 dX6_countsNone_5 rfl ?_
  refine zw_istore_n 7 dX6_countsNone_6 rfl (by decide) ?_
  have h := lp_X6_countsNone (l := l) (d := d) (σ := zwr σ 217 22 0) 120 0 (by omega) (by omega)
  rw [show zfz (zwr σ 217 22 0 228) 0 = zwr σ 217 22 0 228 from by funext x; exact if_neg (by omega), zwa_id] at h
  rw [zwr_ne _ _ _ (by decide)] at h
  rw [show zwr (zwa σ 228 (zfz (σ 228) 120)) 217 22 0 = zwa (zwr σ 217 22 0) 228 (zfz (σ 228) 120) from by unfold zwr; rw [zwa_ne _ _ (by decide), zwa_comm _ _ _ (by decide)]]
  exact h
def zloG (N : zR) (s st : Int) : Int → Int := (fun n => zmo (fun q => zgv q (N (25 + s)) (n / 2) (n % 2)) (zbt st) 6)
def zloC : Int → Int := (fun n => 100 * (n / 2) + n % 2)
def zlo (N : zR) (s : Int) : Int := if zbi (zks N s) 6 = 0 then -1 else (zmn 1000000 (zloG N s (zbi (zks N s) 6)) zloC 42).1
theorem lp3_X6_look {l : Launch} {d : Nat} {σ : zMem} (hd : 8 ≤ d) {s st : Int} (hc : 0 ≤ s ∧ s ≤ σ 218 33 - 1) (hst : st = zbi (zks (σ 218) s) 6) (hV : zVN (σ 218)) {a1 a2 h y : Int} (hh : (0 ≤ h ∧ h < 21) ∧ 0 ≤ y ∧ y < 2) (hx : ∀ σc g, zAl σ σc g (zmo (fun q => zgv q (σ 218 (25 + s)) h y) (zbt st) 6) → zw l d mX6_look 99 [some (.ref 217), some (.int (zI s)), some (.int (zI st)), some (.int (zI a1)), some (.int (zI a2)), some (.int (zI h)), some (.int (zI y)), none] [] σc (zAn 224 (0 ≤ s ∧ s ≤ σ 218 33 - 1) (zlo (σ 218) s) 0 (-2) σ)) : ∀ (m : Nat) (kd : Int) (σc : zMem) (g : Int → Int), kd + m = 6 → 0 ≤ kd → zAl σ σc g (zmo (fun q => zgv q (σ 218 (25 + s)) h y) (zbt st) kd.toNat) → (∀ v, 0 ≤ v → v < 120 → g v = zgc (fun q => zgv q (σ 218 (25 + s)) h y) (zbt st) v kd.toNat) → zw l d mX6_look 55 [some (.ref 217), some (.int (zI s)), some (.int (zI st)), some (.int (zI a1)), some (.int (zI a2)), some (.int (zI h)), some (.int (zI y)), some (.int (zI kd))] [] σc (zAn 224 (0 ≤ s ∧ s ≤ σ 218 33 - 1) (zlo (σ 218) s) 0 (-2) σ) := by
  intro m
  induction m with
  | zero =>
    intro kd σc g hk hk0 hA hg
    have hs := hV.1
    have hv := hV.2.1
    have hy0 := hV.2.2.1
    have gN := hs.1
    have gC := hs.2.1
    have bs := zbi_b (f := zks (σ 218) s) 6 (fun q _ _ => zks_b _ _ _)
    rw [← hst] at bs
    have b25 := hv.2.2.1 s
    have hb1 : ∀ q, zbt st q = 0 ∨ zbt st q = 1 := fun q => by unfold zbt; omega
    have a7 : σc 218 = σ 218 := hA.1 218 (by decide) (by decide)
    have m1 := zmo_b (fun q => zgv q (σ 218 (25 + s)) h y) (zbt st) kd.toNat
    have v1 : ∀ q, 0 ≤ (fun q => zgv q (σ 218 (25 + s)) h y) q ∧ (fun q => zgv q (σ 218 (25 + s)) h y) q < 102 := fun q => by
      have := zgv_b (k := q) (d := σ 218 (25 + s)) (h := h) (y := y) (b25 (by omega) (by omega)) (by omega)
      dsimp only; omega
    have v2 := v1 kd
    have gc1 := zgc_b (fun q => zgv q (σ 218 (25 + s)) h y) (zbt st) ((fun q => zgv q (σ 218 (25 + s)) h y) kd) kd.toNat
    have hg1 := hg ((fun q => zgv q (σ 218 (25 + s)) h y) kd) v2.1 (by omega)
    have m2 : σc 217 22 = zmo (fun q => zgv q (σ 218 (25 + s)) h y) (zbt st) kd.toNat := hA.2.2.2
    have g2 : σc 228 ((fun q => zgv q (σ 218 (25 + s)) h y) kd) = g ((fun q => zgv q (σ 218 (25 + s)) h y) kd) := by rw [hA.2.1]
    dsimp only at v2 g2 hg1 gc1
    refine zw_iload 57 dX6_look_55 rfl rfl ?_
    refine zw_bipush 59 dX6_look_57 rfl (by decide) ?_
    refine zw_icmp_ge 99 62 dX6_look_59 (by decide) rfl (by omega) (by omega) (fun h59 => ?_) (fun h59 => ?_)
    · refine zw_loc [true, true, true, true, true, true, true, false] rfl ?_
      have ek : kd = 6 := by omega
      subst ek
      exact hx _ _ hA
    · exfalso; omega
  | succ m ih =>
    intro kd σc g hk hk0 hA hg
    have hs := hV.1
    have hv := hV.2.1
    have hy0 := hV.2.2.1
    have gN := hs.1
    have gC := hs.2.1
    have bs := zbi_b (f := zks (σ 218) s) 6 (fun q _ _ => zks_b _ _ _)
    rw [← hst] at bs
    have b25 := hv.2.2.1 s
    have hb1 : ∀ q, zbt st q = 0 ∨ zbt st q = 1 := fun q => by unfold zbt; omega
    have a7 : σc 218 = σ 218 := hA.1 218 (by decide) (by decide)
    have m1 := zmo_b (fun q => zgv q (σ 218 (25 + s)) h y) (zbt st) kd.toNat
    have v1 : ∀ q, 0 ≤ (fun q => zgv q (σ 218 (25 + s)) h y) q ∧ (fun q => zgv q (σ 218 (25 + s)) h y) q < 102 := fun q => by
      have := zgv_b (k := q) (d := σ 218 (25 + s)) (h := h) (y := y) (b25 (by omega) (by omega)) (by omega)
      dsimp only; omega
    have v2 := v1 kd
    have gc1 := zgc_b (fun q => zgv q (σ 218 (25 + s)) h y) (zbt st) ((fun q => zgv q (σ 218 (25 + s)) h y) kd) kd.toNat
    have hg1 := hg ((fun q => zgv q (σ 218 (25 + s)) h y) kd) v2.1 (by omega)
    have m2 : σc 217 22 = zmo (fun q => zgv q (σ 218 (25 + s)) h y) (zbt st) kd.toNat := hA.2.2.2
    have g2 : σc 228 ((fun q => zgv q (σ 218 (25 + s)) h y) kd) = g ((fun q => zgv q (σ 218 (25 + s)) h y) kd) := by rw [hA.2.1]
    dsimp only at v2 g2 hg1 gc1
    refine zw_iload 57 dX6_look_55 rfl rfl ?_
    refine zw_bipush 59 dX6_look_57 rfl (by decide) ?_
    refine zw_icmp_ge 99 62 dX6_look_59 (by decide) rfl (by omega) (by omega) (fun h59 => ?_) (fun h59 => ?_)
    · refine zw_loc [true, true, true, true, true, true, true, false] rfl ?_
      have ek : kd = 6 := by omega
      subst ek
      exact hx _ _ hA
    · refine zw_iload_n 63 dX6_look_62 rfl rfl ?_
      refine zw_iload 65 dX6_look_63 rfl rfl ?_
      refine zw_callS 68 _ _ dX6_look_65 rfl kX6_265 qX6_has (sp_X6_has (d := d - 1) (by omega) (by omega)) (by omega) rfl rfl (Nat.le_of_ble_eq_true rfl) (fun r σ' hq => ?_)
      obtain ⟨rfl, rfl⟩ := hq
      refine zw_if_eq 93 71 dX6_look_68 (by decide) rfl (by omega) (fun h68 => ?_) (fun h68 => ?_)
      · refine zw_iinc 96 dX6_look_93 rfl (by decide) rfl ?_
        refine zw_goto 55 dX6_look_96 (by decide) ?_
        refine zw_loc [true, true, true, true, true, true, true, true] rfl ?_
        first
          | exact ih (kd + 1) _ _ (by omega) (by omega) hA2 hg2
          | (have e7 := zmo_s (fun q => zgv q (σ 218 (25 + s)) h y) (zbt st) hk0; rw [if_neg (show ¬ zbt st kd = 1 by omega)] at e7; exact ih (kd + 1) _ g (by omega) (by omega) (by rw [e7]; exact hA) (fun v v0 v1 => by rw [zgc_s _ _ _ hk0, ← hg v v0 v1]; omega))
      · refine zw_aload_n 72 dX6_look_71 rfl rfl ?_
        refine zw_iload 74 dX6_look_72 rfl rfl ?_
        refine zw_aload_n 75 dX6_look_74 rfl rfl ?_
        refine zw_getr 78 (218) (o := 1) dX6_look_75 rfl fX6_7 (by decide) rfl rfl ly217 ?_
        refine zw_bipush 80 dX6_look_78 rfl (by decide) ?_
        refine zw_iload_n 81 dX6_look_80 rfl rfl ?_
        refine zw_iadd 82 dX6_look_81 rfl ?_
        refine zw_iald 83 dX6_look_82 rfl ly218 (by omega) ?_
        rw [a7]
        refine zw_iload 85 dX6_look_83 rfl rfl ?_
        refine zw_iload 87 dX6_look_85 rfl rfl ?_
        refine zw_callS 90 _ _ dX6_look_87 rfl kX6_56 qX6_gives (sp_X6_gives (d := d - 1) (by omega) (by omega) (by omega) (by omega) (by omega)) (by omega) rfl rfl (Nat.le_of_ble_eq_true rfl) (fun r σ' hq => ?_)
        obtain ⟨rfl, rfl⟩ := hq
        refine zw_callV 93 _ _ dX6_look_90 rfl kX6_268 qX6_counts ly217 ⟨_, rfl, rfl⟩ (by decide) (sp_X6_counts (d := d - 1) (by omega) (by omega) (by omega)) (by omega) rfl rfl (Nat.le_of_ble_eq_true rfl) (fun r σ' hq => ?_)
        obtain ⟨rfl, rfl⟩ := hq
        have hA2 := zAl_c hA ((fun q => zgv q (σ 218 (25 + s)) h y) kd)
        dsimp only at hA2
        have e7 := zmo_s (fun q => zgv q (σ 218 (25 + s)) h y) (zbt st) hk0
        rw [if_pos (show zbt st kd = 1 by omega), zgc_s _ _ _ hk0, ← hg1, if_pos ⟨show zbt st kd = 1 by omega, rfl⟩] at e7
        try dsimp only at e7
        rw [← e7] at hA2
        clear e7
        generalize zwr (zwr σc 228 _ _) 217 22 _ = σd at hA2 ⊢
        have hg2 := zgc_up (f := (fun q => zgv q (σ 218 (25 + s)) h y)) (b := zbt st) hk0 (show zbt st kd = 1 by omega) hg
        try dsimp only at hg2
        refine zw_iinc 96 dX6_look_93 rfl (by decide) rfl ?_
        refine zw_goto 55 dX6_look_96 (by decide) ?_
        refine zw_loc [true, true, true, true, true, true, true, true] rfl ?_
        first
          | exact ih (kd + 1) _ _ (by omega) (by omega) hA2 hg2
          | (have e7 := zmo_s (fun q => zgv q (σ 218 (25 + s)) h y) (zbt st) hk0; rw [if_neg (show ¬ zbt st kd = 1 by omega)] at e7; exact ih (kd + 1) _ g (by omega) (by omega) (by rw [e7]; exact hA) (fun v v0 v1 => by rw [zgc_s _ _ _ hk0, ← hg v v0 v1]; omega))
theorem lp2_X6_look {l : Launch} {d : Nat} {σ : zMem} (hd : 8 ≤ d) {s st : Int} (hc : 0 ≤ s ∧ s ≤ σ 218 33 - 1) (hst : st = zbi (zks (σ 218) s) 6) (hV : zVN (σ 218)) {h : Int} (hh : 0 ≤ h ∧ h < 21) (hx : ∀ a1 a2 σc, (∃ g m0, zAl σ σc g m0) → a1 = (zmn 1000000 (zloG (σ 218) s st) zloC (2 * (h + 1)).toNat).1 → a2 = (zmn 1000000 (zloG (σ 218) s st) zloC (2 * (h + 1)).toNat).2 → zw l d mX6_look 147 [some (.ref 217), some (.int (zI s)), some (.int (zI st)), some (.int (zI a1)), some (.int (zI a2)), some (.int (zI h)), none, none] [] σc (zAn 224 (0 ≤ s ∧ s ≤ σ 218 33 - 1) (zlo (σ 218) s) 0 (-2) σ)) : ∀ (m : Nat) (y : Int) (a1 a2 : Int) (σc : zMem), y + m = 2 → 0 ≤ y → (∃ g m0, zAl σ σc g m0) → a1 = (zmn 1000000 (zloG (σ 218) s st) zloC (2 * h + y).toNat).1 → a2 = (zmn 1000000 (zloG (σ 218) s st) zloC (2 * h + y).toNat).2 → zw l d mX6_look 42 [some (.ref 217), some (.int (zI s)), some (.int (zI st)), some (.int (zI a1)), some (.int (zI a2)), some (.int (zI h)), some (.int (zI y)), none] [] σc (zAn 224 (0 ≤ s ∧ s ≤ σ 218 33 - 1) (zlo (σ 218) s) 0 (-2) σ) := by
  intro m
  induction m with
  | zero =>
    intro y a1 a2 σc hk hk0 hex e1 e2
    have hs := hV.1
    have hv := hV.2.1
    have hy0 := hV.2.2.1
    have gN := hs.1
    have gC := hs.2.1
    have bs := zbi_b (f := zks (σ 218) s) 6 (fun q _ _ => zks_b _ _ _)
    rw [← hst] at bs
    have b25 := hv.2.2.1 s
    have hb1 : ∀ q, zbt st q = 0 ∨ zbt st q = 1 := fun q => by unfold zbt; omega
    obtain ⟨g0, m0, hA⟩ := hex
    have hb2 := zmn_b 1000000 (by omega) (zloG (σ 218) s st) zloC (fun q => by unfold zloG; have := zmo_b (fun q2 => zgv q2 (σ 218 (25 + s)) (q / 2) (q % 2)) (zbt st) 6; (try dsimp only); omega) (2 * h + y).toNat
    rw [← e2] at hb2
    refine zw_iload 44 dX6_look_42 rfl rfl ?_
    refine zw_iconst 45 dX6_look_44 rfl ?_
    refine zw_icmp_ge 147 48 dX6_look_45 (by decide) rfl (by omega) (by omega) (fun h45 => ?_) (fun h45 => ?_)
    · refine zw_loc [true, true, true, true, true, true, false, false] rfl ?_
      exact hx _ _ _ ⟨_, _, hA⟩ (by rw [e1]; congr 3; omega) (by rw [e2]; congr 3; omega)
    · exfalso; omega
  | succ m ih =>
    intro y a1 a2 σc hk hk0 hex e1 e2
    have hs := hV.1
    have hv := hV.2.1
    have hy0 := hV.2.2.1
    have gN := hs.1
    have gC := hs.2.1
    have bs := zbi_b (f := zks (σ 218) s) 6 (fun q _ _ => zks_b _ _ _)
    rw [← hst] at bs
    have b25 := hv.2.2.1 s
    have hb1 : ∀ q, zbt st q = 0 ∨ zbt st q = 1 := fun q => by unfold zbt; omega
    obtain ⟨g0, m0, hA⟩ := hex
    have hb2 := zmn_b 1000000 (by omega) (zloG (σ 218) s st) zloC (fun q => by unfold zloG; have := zmo_b (fun q2 => zgv q2 (σ 218 (25 + s)) (q / 2) (q % 2)) (zbt st) 6; (try dsimp only); omega) (2 * h + y).toNat
    rw [← e2] at hb2
    refine zw_iload 44 dX6_look_42 rfl rfl ?_
    refine zw_iconst 45 dX6_look_44 rfl ?_
    refine zw_icmp_ge 147 48 dX6_look_45 (by decide) rfl (by omega) (by omega) (fun h45 => ?_) (fun h45 => ?_)
    · refine zw_loc [true, true, true, true, true, true, false, false] rfl ?_
      exact hx _ _ _ ⟨_, _, hA⟩ (by rw [e1]; congr 3; omega) (by rw [e2]; congr 3; omega)
    · refine zw_aload_n 49 dX6_look_48 rfl rfl ?_
      refine zw_callV 52 _ _ dX6_look_49 rfl kX6_262 qX6_countsNone ly217 ⟨_, rfl, rfl⟩ (by decide) (sp_X6_countsNone (d := d - 1)) (by omega) rfl rfl (Nat.le_of_ble_eq_true rfl) (fun r σ' hq => ?_)
      obtain ⟨rfl, rfl⟩ := hq
      have hA2 := zAl_0 hA
      generalize zwr (zwa σc 228 _) 217 22 _ = σd at hA2 ⊢
      refine zw_iconst 53 dX6_look_52 rfl ?_
      refine zw_istore 55 dX6_look_53 rfl (by decide) ?_
      refine lp3_X6_look (σ := σ) (h := h) (y := y) hd hc hst hV ⟨by omega, by omega⟩ (fun σe ge hAe => ?_) 6 0 _ _ (by omega) (by omega) hA2 (fun v v0 v1 => by rw [zfz, if_pos ⟨v0, v1⟩]; rfl)
      have hM : σe 217 22 = zmo (fun q => zgv q (σ 218 (25 + s)) h y) (zbt st) 6 := hAe.2.2.2
      have mb := zmo_b (fun q => zgv q (σ 218 (25 + s)) h y) (zbt st) 6
      have e9 := zmn_s 1000000 (zloG (σ 218) s st) zloC (k := 2 * h + y) (by omega)
      have eG : zloG (σ 218) s st (2 * h + y) = σe 217 22 := by
        rw [hM]; unfold zloG; (try dsimp only)
        rw [show (2 * h + y) / 2 = h by omega, show (2 * h + y) % 2 = y by omega]
      have eC : zloC (2 * h + y) = 100 * h + y := by unfold zloC; omega
      rw [eG, eC, ← e2, show 2 * h + y + 1 = 2 * h + (y + 1) by omega] at e9
      refine zw_aload_n 100 dX6_look_99 rfl rfl ?_
      refine zw_gti 103 22 dX6_look_100 rfl fX6_259 (by decide) rfl rfl ly217 ?_
      refine zw_iload 105 dX6_look_103 rfl rfl ?_
      refine zw_icmp_ge 119 108 dX6_look_105 (by decide) rfl (by omega) (by omega) (fun h105 => ?_) (fun h105 => ?_)
      · refine zw_iload_n 120 dX6_look_119 rfl rfl ?_
        refine zw_istore_n 121 dX6_look_120 rfl (by decide) ?_
        refine zw_aload_n 122 dX6_look_121 rfl rfl ?_
        refine zw_gti 125 22 dX6_look_122 rfl fX6_259 (by decide) rfl rfl ly217 ?_
        refine zw_iload 127 dX6_look_125 rfl rfl ?_
        refine zw_icmp_ge 137 130 dX6_look_127 (by decide) rfl (by omega) (by omega) (fun h127 => ?_) (fun h127 => ?_)
        · refine zw_iload 139 dX6_look_137 rfl rfl ?_
          refine zw_istore 141 dX6_look_139 rfl (by decide) ?_
          refine zw_iinc 144 dX6_look_141 rfl (by decide) rfl ?_
          refine zw_goto 42 dX6_look_144 (by decide) ?_
          refine zw_loc [true, true, true, true, true, true, true, false] rfl ?_
          first
            | (exfalso; omega)
            | (rw [if_pos (show σe 217 22 < a2 by omega)] at e9; refine ih (y + 1) _ _ _ (by omega) (by omega) ⟨_, _, hAe⟩ ?_ ?_ <;> rw [e9])
            | (rw [if_neg (show ¬ σe 217 22 < a2 by omega)] at e9; refine ih (y + 1) _ _ _ (by omega) (by omega) ⟨_, _, hAe⟩ ?_ ?_ <;> (rw [e9]; assumption))
            | (exfalso; omega)
        · refine zw_aload_n 131 dX6_look_130 rfl rfl ?_
          refine zw_gti 134 22 dX6_look_131 rfl fX6_259 (by decide) rfl rfl ly217 ?_
          refine zw_goto 139 dX6_look_134 (by decide) ?_
          refine zw_istore 141 dX6_look_139 rfl (by decide) ?_
          refine zw_iinc 144 dX6_look_141 rfl (by decide) rfl ?_
          refine zw_goto 42 dX6_look_144 (by decide) ?_
          refine zw_loc [true, true, true, true, true, true, true, false] rfl ?_
          first
            | (exfalso; omega)
            | (rw [if_pos (show σe 217 22 < a2 by omega)] at e9; refine ih (y + 1) _ _ _ (by omega) (by omega) ⟨_, _, hAe⟩ ?_ ?_ <;> rw [e9])
            | (rw [if_neg (show ¬ σe 217 22 < a2 by omega)] at e9; refine ih (y + 1) _ _ _ (by omega) (by omega) ⟨_, _, hAe⟩ ?_ ?_ <;> (rw [e9]; assumption))
            | (exfalso; omega)
      · refine zw_bipush 110 dX6_look_108 rfl (by decide) ?_
        refine zw_iload 112 dX6_look_110 rfl rfl ?_
        refine zw_imul 113 dX6_look_112 rfl ?_
        refine zw_iload 115 dX6_look_113 rfl rfl ?_
        refine zw_iadd 116 dX6_look_115 rfl ?_
        refine zw_goto 120 dX6_look_116 (by decide) ?_
        refine zw_istore_n 121 dX6_look_120 rfl (by decide) ?_
        refine zw_aload_n 122 dX6_look_121 rfl rfl ?_
        refine zw_gti 125 22 dX6_look_122 rfl fX6_259 (by decide) rfl rfl ly217 ?_
        refine zw_iload 127 dX6_look_125 rfl rfl ?_
        refine zw_icmp_ge 137 130 dX6_look_127 (by decide) rfl (by omega) (by omega) (fun h127 => ?_) (fun h127 => ?_)
        · refine zw_iload 139 dX6_look_137 rfl rfl ?_
          refine zw_istore 141 dX6_look_139 rfl (by decide) ?_
          refine zw_iinc 144 dX6_look_141 rfl (by decide) rfl ?_
          refine zw_goto 42 dX6_look_144 (by decide) ?_
          refine zw_loc [true, true, true, true, true, true, true, false] rfl ?_
          first
            | (exfalso; omega)
            | (rw [if_pos (show σe 217 22 < a2 by omega)] at e9; refine ih (y + 1) _ _ _ (by omega) (by omega) ⟨_, _, hAe⟩ ?_ ?_ <;> rw [e9])
            | (rw [if_neg (show ¬ σe 217 22 < a2 by omega)] at e9; refine ih (y + 1) _ _ _ (by omega) (by omega) ⟨_, _, hAe⟩ ?_ ?_ <;> (rw [e9]; assumption))
            | (exfalso; omega)
        · refine zw_aload_n 131 dX6_look_130 rfl rfl ?_
          refine zw_gti 134 22 dX6_look_131 rfl fX6_259 (by decide) rfl rfl ly217 ?_
          refine zw_goto 139 dX6_look_134 (by decide) ?_
          refine zw_istore 141 dX6_look_139 rfl (by decide) ?_
          refine zw_iinc 144 dX6_look_141 rfl (by decide) rfl ?_
          refine zw_goto 42 dX6_look_144 (by decide) ?_
          refine zw_loc [true, true, true, true, true, true, true, false] rfl ?_
          first
            | (exfalso; omega)
            | (rw [if_pos (show σe 217 22 < a2 by omega)] at e9; refine ih (y + 1) _ _ _ (by omega) (by omega) ⟨_, _, hAe⟩ ?_ ?_ <;> rw [e9])
            | (rw [if_neg (show ¬ σe 217 22 < a2 by omega)] at e9; refine ih (y + 1) _ _ _ (by omega) (by omega) ⟨_, _, hAe⟩ ?_ ?_ <;> (rw [e9]; assumption))
            | (exfalso; omega)
theorem lp1_X6_look {l : Launch} {d : Nat} {σ : zMem} (hd : 8 ≤ d) {s st : Int} (hc : 0 ≤ s ∧ s ≤ σ 218 33 - 1) (hst : st = zbi (zks (σ 218) s) 6) (hV : zVN (σ 218))  : ∀ (m : Nat) (h : Int) (a1 a2 : Int) (σc : zMem), h + m = 21 → 0 ≤ h → (∃ g m0, zAl σ σc g m0) → a1 = (zmn 1000000 (zloG (σ 218) s st) zloC (2 * h).toNat).1 → a2 = (zmn 1000000 (zloG (σ 218) s st) zloC (2 * h).toNat).2 → (st = 0 → h = 0) → zw l d mX6_look 28 [some (.ref 217), some (.int (zI s)), some (.int (zI st)), some (.int (zI a1)), some (.int (zI a2)), some (.int (zI h)), none, none] [] σc (zAn 224 (0 ≤ s ∧ s ≤ σ 218 33 - 1) (zlo (σ 218) s) 0 (-2) σ) := by
  intro m
  induction m with
  | zero =>
    intro h a1 a2 σc hk hk0 hex e1 e2 hs0
    have hs := hV.1
    have hv := hV.2.1
    have hy0 := hV.2.2.1
    have gN := hs.1
    have gC := hs.2.1
    have bs := zbi_b (f := zks (σ 218) s) 6 (fun q _ _ => zks_b _ _ _)
    rw [← hst] at bs
    have b25 := hv.2.2.1 s
    have hb1 : ∀ q, zbt st q = 0 ∨ zbt st q = 1 := fun q => by unfold zbt; omega
    obtain ⟨g0, m0, hA⟩ := hex
    have h0s : st = 0 → a1 = -1 := fun q => by rw [e1, hs0 q]; rfl
    refine zw_iload 30 dX6_look_28 rfl rfl ?_
    refine zw_bipush 32 dX6_look_30 rfl (by decide) ?_
    refine zw_icmp_ge 153 35 dX6_look_32 (by decide) rfl (by omega) (by omega) (fun h32 => ?_) (fun h32 => ?_)
    · refine zw_iload_n 154 dX6_look_153 rfl rfl ?_
      refine zw_iret dX6_look_154 rfl ?_
      first
        | (exact zAn_t (by omega) (by unfold zlo; rw [← hst, if_pos (by omega)]; have := h0s (by omega); omega) (zAl_NS hA))
        | (exact zAn_t (by omega) (by unfold zlo; rw [← hst, if_neg (by omega), e1, show (2 * h).toNat = 42 by omega]) (zAl_NS hA))
    · exfalso; omega
  | succ m ih =>
    intro h a1 a2 σc hk hk0 hex e1 e2 hs0
    have hs := hV.1
    have hv := hV.2.1
    have hy0 := hV.2.2.1
    have gN := hs.1
    have gC := hs.2.1
    have bs := zbi_b (f := zks (σ 218) s) 6 (fun q _ _ => zks_b _ _ _)
    rw [← hst] at bs
    have b25 := hv.2.2.1 s
    have hb1 : ∀ q, zbt st q = 0 ∨ zbt st q = 1 := fun q => by unfold zbt; omega
    obtain ⟨g0, m0, hA⟩ := hex
    have h0s : st = 0 → a1 = -1 := fun q => by rw [e1, hs0 q]; rfl
    refine zw_iload 30 dX6_look_28 rfl rfl ?_
    refine zw_bipush 32 dX6_look_30 rfl (by decide) ?_
    refine zw_icmp_ge 153 35 dX6_look_32 (by decide) rfl (by omega) (by omega) (fun h32 => ?_) (fun h32 => ?_)
    · refine zw_iload_n 154 dX6_look_153 rfl rfl ?_
      refine zw_iret dX6_look_154 rfl ?_
      first
        | (exact zAn_t (by omega) (by unfold zlo; rw [← hst, if_pos (by omega)]; have := h0s (by omega); omega) (zAl_NS hA))
        | (exfalso; omega)
    · refine zw_iload_n 36 dX6_look_35 rfl rfl ?_
      refine zw_if_eq 153 39 dX6_look_36 (by decide) rfl (by omega) (fun h36 => ?_) (fun h36 => ?_)
      · refine zw_iload_n 154 dX6_look_153 rfl rfl ?_
        refine zw_iret dX6_look_154 rfl ?_
        first
          | (exact zAn_t (by omega) (by unfold zlo; rw [← hst, if_pos (by omega)]; have := h0s (by omega); omega) (zAl_NS hA))
          | (exfalso; omega)
      · refine zw_iconst 40 dX6_look_39 rfl ?_
        refine zw_istore 42 dX6_look_40 rfl (by decide) ?_
        refine lp2_X6_look (σ := σ) hd hc hst hV (by omega) (fun b1 b2 σe hexe f1 f2 => ?_) 2 0 _ _ _ (by omega) (by omega) ⟨_, _, hA⟩ (by rw [e1]; congr 3; omega) (by rw [e2]; congr 3; omega)
        refine zw_iinc 150 dX6_look_147 rfl (by decide) rfl ?_
        refine zw_goto 28 dX6_look_150 (by decide) ?_
        refine zw_loc [true, true, true, true, true, true, false, false] rfl ?_
        exact ih (h + 1) _ _ _ (by omega) (by omega) hexe f1 f2 (by omega)
theorem sp_X6_look {l : Launch} {d : Nat} {σ : zMem} (hd : 8 ≤ d) {s : Int} (hs : -2147483648 ≤ s ∧ s < 2147483648) (hV : zVN (σ 218))  : zSp l d mX6_look [.ref 217, .int (zI s)] σ (zAn 224 (0 ≤ s ∧ s ≤ σ 218 33 - 1) (zlo (σ 218) s) 0 (-2) σ) := by
  refine zSp_of oX6_look (Nat.le_of_ble_eq_true rfl) ?_
  show zw l d mX6_look 0 [some (.ref 217), some (.int (zI s)), none, none, none, none, none, none] [] σ _
  have hs := hV.1
  have hv := hV.2.1
  have hy := hV.2.2.1
  have gN := hs.1
  have gC := hs.2.1
  refine zw_aload_n 1 dX6_look_0 rfl rfl ?_
  refine zw_iload_n 2 dX6_look_1 rfl rfl ?_
  refine zw_callV 5 _ _ dX6_look_2 rfl kX6_197 qX6_isSeat ly217 ⟨_, rfl, rfl⟩ (by decide) (sp_X6_isSeat (d := d - 1) (by omega) (by omega) (by omega)) (by omega) rfl rfl (Nat.le_of_ble_eq_true rfl) (fun r σ' hq => ?_)
  obtain ⟨rfl, rfl⟩ := hq
  refine zw_if_ne 13 8 dX6_look_5 (by decide) rfl (by omega) (fun h5 => ?_) (fun h5 => ?_)
  · refine zw_aload_n 14 dX6_look_13 rfl rfl ?_
    refine zw_iload_n 15 dX6_look_14 rfl rfl ?_
    refine zw_callV 18 _ _ dX6_look_15 rfl kX6_256 qX6_kindsOf ly217 ⟨_, rfl, rfl⟩ (by decide) (sp_X6_kindsOf (d := d - 1) (by omega) (by omega) hV) (by omega) rfl rfl (Nat.le_of_ble_eq_true rfl) (fun r σ' hq => ?_)
    obtain ⟨rfl, rfl⟩ := hq
    refine zw_istore_n 19 dX6_look_18 rfl (by decide) ?_
    refine zw_iconst 20 dX6_look_19 rfl ?_
    refine zw_istore_n 21 dX6_look_20 rfl (by decide) ?_
    refine zw_ldc 23 (1000000) dX6_look_21 rfl cX6_230 ?_
    refine zw_istore 25 dX6_look_23 rfl (by decide) ?_
    refine zw_iconst 26 dX6_look_25 rfl ?_
    refine zw_istore 28 dX6_look_26 rfl (by decide) ?_
    exact lp1_X6_look (σ := σ) (by omega) (by omega) rfl hV 21 0 _ _ σ (by omega) (by omega) ⟨_, _, zAl_id σ⟩ rfl rfl (fun _ => rfl)
  · refine zw_aload_n 9 dX6_look_8 rfl rfl ?_
    refine zw_callV 12 _ _ dX6_look_9 rfl kX6_100 qX6_bad ly217 ⟨_, rfl, rfl⟩ (by decide) (sp_X6_bad (d := d - 1) (by omega)) (by omega) rfl rfl (Nat.le_of_ble_eq_true rfl) (fun r σ' hq => ?_)
    obtain ⟨rfl, rfl⟩ := hq
    refine zw_iret dX6_look_12 rfl ?_
    exact zAn_f (by omega)
def ztyG (N : zR) (s st : Int) : Int → Int := (fun n => zmo (fun q => zac q (n / 21) (n % 21)) (zbt st) 6)
def ztyC : Int → Int := (fun n => 100 * (n / 21) + n % 21)
def zty (N : zR) (s : Int) : Int := if zbi (zkc N s) 6 = 0 then -1 else (zmn 1000000 (ztyG N s (zbi (zkc N s) 6)) ztyC 210).1
theorem lp3_X6_tries {l : Launch} {d : Nat} {σ : zMem} (hd : 8 ≤ d) {s st : Int} (hc : 0 ≤ s ∧ s ≤ σ 218 48 - 1) (hst : st = zbi (zkc (σ 218) s) 6) (hV : zVN (σ 218)) {a1 a2 h y : Int} (hh : (0 ≤ h ∧ h < 10) ∧ 0 ≤ y ∧ y < 21) (hx : ∀ σc g, zAl σ σc g (zmo (fun q => zac q h y) (zbt st) 6) → zw l d mX6_tries 91 [some (.ref 217), some (.int (zI s)), some (.int (zI st)), some (.int (zI a1)), some (.int (zI a2)), some (.int (zI h)), some (.int (zI y)), none] [] σc (zAn 224 (0 ≤ s ∧ s ≤ σ 218 48 - 1) (zty (σ 218) s) 0 (-2) σ)) : ∀ (m : Nat) (kd : Int) (σc : zMem) (g : Int → Int), kd + m = 6 → 0 ≤ kd → zAl σ σc g (zmo (fun q => zac q h y) (zbt st) kd.toNat) → (∀ v, 0 ≤ v → v < 120 → g v = zgc (fun q => zac q h y) (zbt st) v kd.toNat) → zw l d mX6_tries 56 [some (.ref 217), some (.int (zI s)), some (.int (zI st)), some (.int (zI a1)), some (.int (zI a2)), some (.int (zI h)), some (.int (zI y)), some (.int (zI kd))] [] σc (zAn 224 (0 ≤ s ∧ s ≤ σ 218 48 - 1) (zty (σ 218) s) 0 (-2) σ) := by
  intro m
  induction m with
  | zero =>
    intro kd σc g hk hk0 hA hg
    have hs := hV.1
    have hv := hV.2.1
    have hy0 := hV.2.2.1
    have gN := hs.1
    have gC := hs.2.1
    have bs := zbi_b (f := zkc (σ 218) s) 6 (fun q _ _ => zkc_b _ _ _)
    rw [← hst] at bs
    have b25 := hv.2.2.1 s
    have hb1 : ∀ q, zbt st q = 0 ∨ zbt st q = 1 := fun q => by unfold zbt; omega
    have a7 : σc 218 = σ 218 := hA.1 218 (by decide) (by decide)
    have m1 := zmo_b (fun q => zac q h y) (zbt st) kd.toNat
    have v1 : ∀ q, 0 ≤ (fun q => zac q h y) q ∧ (fun q => zac q h y) q < 102 := fun q => by
      have := zac_b (k := q) (g := h) (h := y) (by omega)
      dsimp only; omega
    have v2 := v1 kd
    have gc1 := zgc_b (fun q => zac q h y) (zbt st) ((fun q => zac q h y) kd) kd.toNat
    have hg1 := hg ((fun q => zac q h y) kd) v2.1 (by omega)
    have m2 : σc 217 22 = zmo (fun q => zac q h y) (zbt st) kd.toNat := hA.2.2.2
    have g2 : σc 228 ((fun q => zac q h y) kd) = g ((fun q => zac q h y) kd) := by rw [hA.2.1]
    dsimp only at v2 g2 hg1 gc1
    refine zw_iload 58 dX6_tries_56 rfl rfl ?_
    refine zw_bipush 60 dX6_tries_58 rfl (by decide) ?_
    refine zw_icmp_ge 91 63 dX6_tries_60 (by decide) rfl (by omega) (by omega) (fun h60 => ?_) (fun h60 => ?_)
    · refine zw_loc [true, true, true, true, true, true, true, false] rfl ?_
      have ek : kd = 6 := by omega
      subst ek
      exact hx _ _ hA
    · exfalso; omega
  | succ m ih =>
    intro kd σc g hk hk0 hA hg
    have hs := hV.1
    have hv := hV.2.1
    have hy0 := hV.2.2.1
    have gN := hs.1
    have gC := hs.2.1
    have bs := zbi_b (f := zkc (σ 218) s) 6 (fun q _ _ => zkc_b _ _ _)
    rw [← hst] at bs
    have b25 := hv.2.2.1 s
    have hb1 : ∀ q, zbt st q = 0 ∨ zbt st q = 1 := fun q => by unfold zbt; omega
    have a7 : σc 218 = σ 218 := hA.1 218 (by decide) (by decide)
    have m1 := zmo_b (fun q => zac q h y) (zbt st) kd.toNat
    have v1 : ∀ q, 0 ≤ (fun q => zac q h y) q ∧ (fun q => zac q h y) q < 102 := fun q => by
      have := zac_b (k := q) (g := h) (h := y) (by omega)
      dsimp only; omega
    have v2 := v1 kd
    have gc1 := zgc_b (fun q => zac q h y) (zbt st) ((fun q => zac q h y) kd) kd.toNat
    have hg1 := hg ((fun q => zac q h y) kd) v2.1 (by omega)
    have m2 : σc 217 22 = zmo (fun q => zac q h y) (zbt st) kd.toNat := hA.2.2.2
    have g2 : σc 228 ((fun q => zac q h y) kd) = g ((fun q => zac q h y) kd) := by rw [hA.2.1]
    dsimp only at v2 g2 hg1 gc1
    refine zw_iload 58 dX6_tries_56 rfl rfl ?_
    refine zw_bipush 60 dX6_tries_58 rfl (by decide) ?_
    refine zw_icmp_ge 91 63 dX6_tries_60 (by decide) rfl (by omega) (by omega) (fun h60 => ?_) (fun h60 => ?_)
    · refine zw_loc [true, true, true, true, true, true, true, false] rfl ?_
      have ek : kd = 6 := by omega
      subst ek
      exact hx _ _ hA
    · refine zw_iload_n 64 dX6_tries_63 rfl rfl ?_
      refine zw_iload 66 dX6_tries_64 rfl rfl ?_
      refine zw_callS 69 _ _ dX6_tries_66 rfl kX6_265 qX6_has (sp_X6_has (d := d - 1) (by omega) (by omega)) (by omega) rfl rfl (Nat.le_of_ble_eq_true rfl) (fun r σ' hq => ?_)
      obtain ⟨rfl, rfl⟩ := hq
      refine zw_if_eq 85 72 dX6_tries_69 (by decide) rfl (by omega) (fun h69 => ?_) (fun h69 => ?_)
      · refine zw_iinc 88 dX6_tries_85 rfl (by decide) rfl ?_
        refine zw_goto 56 dX6_tries_88 (by decide) ?_
        refine zw_loc [true, true, true, true, true, true, true, true] rfl ?_
        first
          | exact ih (kd + 1) _ _ (by omega) (by omega) hA2 hg2
          | (have e7 := zmo_s (fun q => zac q h y) (zbt st) hk0; rw [if_neg (show ¬ zbt st kd = 1 by omega)] at e7; exact ih (kd + 1) _ g (by omega) (by omega) (by rw [e7]; exact hA) (fun v v0 v1 => by rw [zgc_s _ _ _ hk0, ← hg v v0 v1]; omega))
      · refine zw_aload_n 73 dX6_tries_72 rfl rfl ?_
        refine zw_iload 75 dX6_tries_73 rfl rfl ?_
        refine zw_iload 77 dX6_tries_75 rfl rfl ?_
        refine zw_iload 79 dX6_tries_77 rfl rfl ?_
        refine zw_callS 82 _ _ dX6_tries_79 rfl kX6_60 qX6_takesOf (sp_X6_takesOf (d := d - 1) (by omega) (by omega) (by omega)) (by omega) rfl rfl (Nat.le_of_ble_eq_true rfl) (fun r σ' hq => ?_)
        obtain ⟨rfl, rfl⟩ := hq
        refine zw_callV 85 _ _ dX6_tries_82 rfl kX6_268 qX6_counts ly217 ⟨_, rfl, rfl⟩ (by decide) (sp_X6_counts (d := d - 1) (by omega) (by omega) (by omega)) (by omega) rfl rfl (Nat.le_of_ble_eq_true rfl) (fun r σ' hq => ?_)
        obtain ⟨rfl, rfl⟩ := hq
        have hA2 := zAl_c hA ((fun q => zac q h y) kd)
        dsimp only at hA2
        have e7 := zmo_s (fun q => zac q h y) (zbt st) hk0
        rw [if_pos (show zbt st kd = 1 by omega), zgc_s _ _ _ hk0, ← hg1, if_pos ⟨show zbt st kd = 1 by omega, rfl⟩] at e7
        try dsimp only at e7
        rw [← e7] at hA2
        clear e7
        generalize zwr (zwr σc 228 _ _) 217 22 _ = σd at hA2 ⊢
        have hg2 := zgc_up (f := (fun q => zac q h y)) (b := zbt st) hk0 (show zbt st kd = 1 by omega) hg
        try dsimp only at hg2
        refine zw_iinc 88 dX6_tries_85 rfl (by decide) rfl ?_
        refine zw_goto 56 dX6_tries_88 (by decide) ?_
        refine zw_loc [true, true, true, true, true, true, true, true] rfl ?_
        first
          | exact ih (kd + 1) _ _ (by omega) (by omega) hA2 hg2
          | (have e7 := zmo_s (fun q => zac q h y) (zbt st) hk0; rw [if_neg (show ¬ zbt st kd = 1 by omega)] at e7; exact ih (kd + 1) _ g (by omega) (by omega) (by rw [e7]; exact hA) (fun v v0 v1 => by rw [zgc_s _ _ _ hk0, ← hg v v0 v1]; omega))
theorem lp2_X6_tries {l : Launch} {d : Nat} {σ : zMem} (hd : 8 ≤ d) {s st : Int} (hc : 0 ≤ s ∧ s ≤ σ 218 48 - 1) (hst : st = zbi (zkc (σ 218) s) 6) (hV : zVN (σ 218)) {h : Int} (hh : 0 ≤ h ∧ h < 10) (hx : ∀ a1 a2 σc, (∃ g m0, zAl σ σc g m0) → a1 = (zmn 1000000 (ztyG (σ 218) s st) ztyC (21 * (h + 1)).toNat).1 → a2 = (zmn 1000000 (ztyG (σ 218) s st) ztyC (21 * (h + 1)).toNat).2 → zw l d mX6_tries 139 [some (.ref 217), some (.int (zI s)), some (.int (zI st)), some (.int (zI a1)), some (.int (zI a2)), some (.int (zI h)), none, none] [] σc (zAn 224 (0 ≤ s ∧ s ≤ σ 218 48 - 1) (zty (σ 218) s) 0 (-2) σ)) : ∀ (m : Nat) (y : Int) (a1 a2 : Int) (σc : zMem), y + m = 21 → 0 ≤ y → (∃ g m0, zAl σ σc g m0) → a1 = (zmn 1000000 (ztyG (σ 218) s st) ztyC (21 * h + y).toNat).1 → a2 = (zmn 1000000 (ztyG (σ 218) s st) ztyC (21 * h + y).toNat).2 → zw l d mX6_tries 42 [some (.ref 217), some (.int (zI s)), some (.int (zI st)), some (.int (zI a1)), some (.int (zI a2)), some (.int (zI h)), some (.int (zI y)), none] [] σc (zAn 224 (0 ≤ s ∧ s ≤ σ 218 48 - 1) (zty (σ 218) s) 0 (-2) σ) := by
  intro m
  induction m with
  | zero =>
    intro y a1 a2 σc hk hk0 hex e1 e2
    have hs := hV.1
    have hv := hV.2.1
    have hy0 := hV.2.2.1
    have gN := hs.1
    have gC := hs.2.1
    have bs := zbi_b (f := zkc (σ 218) s) 6 (fun q _ _ => zkc_b _ _ _)
    rw [← hst] at bs
    have b25 := hv.2.2.1 s
    have hb1 : ∀ q, zbt st q = 0 ∨ zbt st q = 1 := fun q => by unfold zbt; omega
    obtain ⟨g0, m0, hA⟩ := hex
    have hb2 := zmn_b 1000000 (by omega) (ztyG (σ 218) s st) ztyC (fun q => by unfold ztyG; have := zmo_b (fun q2 => zac q2 (q / 21) (q % 21)) (zbt st) 6; (try dsimp only); omega) (21 * h + y).toNat
    rw [← e2] at hb2
    refine zw_iload 44 dX6_tries_42 rfl rfl ?_
    refine zw_bipush 46 dX6_tries_44 rfl (by decide) ?_
    refine zw_icmp_ge 139 49 dX6_tries_46 (by decide) rfl (by omega) (by omega) (fun h46 => ?_) (fun h46 => ?_)
    · refine zw_loc [true, true, true, true, true, true, false, false] rfl ?_
      exact hx _ _ _ ⟨_, _, hA⟩ (by rw [e1]; congr 3; omega) (by rw [e2]; congr 3; omega)
    · exfalso; omega
  | succ m ih =>
    intro y a1 a2 σc hk hk0 hex e1 e2
    have hs := hV.1
    have hv := hV.2.1
    have hy0 := hV.2.2.1
    have gN := hs.1
    have gC := hs.2.1
    have bs := zbi_b (f := zkc (σ 218) s) 6 (fun q _ _ => zkc_b _ _ _)
    rw [← hst] at bs
    have b25 := hv.2.2.1 s
    have hb1 : ∀ q, zbt st q = 0 ∨ zbt st q = 1 := fun q => by unfold zbt; omega
    obtain ⟨g0, m0, hA⟩ := hex
    have hb2 := zmn_b 1000000 (by omega) (ztyG (σ 218) s st) ztyC (fun q => by unfold ztyG; have := zmo_b (fun q2 => zac q2 (q / 21) (q % 21)) (zbt st) 6; (try dsimp only); omega) (21 * h + y).toNat
    rw [← e2] at hb2
    refine zw_iload 44 dX6_tries_42 rfl rfl ?_
    refine zw_bipush 46 dX6_tries_44 rfl (by decide) ?_
    refine zw_icmp_ge 139 49 dX6_tries_46 (by decide) rfl (by omega) (by omega) (fun h46 => ?_) (fun h46 => ?_)
    · refine zw_loc [true, true, true, true, true, true, false, false] rfl ?_
      exact hx _ _ _ ⟨_, _, hA⟩ (by rw [e1]; congr 3; omega) (by rw [e2]; congr 3; omega)
    · refine zw_aload_n 50 dX6_tries_49 rfl rfl ?_
      refine zw_callV 53 _ _ dX6_tries_50 rfl kX6_262 qX6_countsNone ly217 ⟨_, rfl, rfl⟩ (by decide) (sp_X6_countsNone (d := d - 1)) (by omega) rfl rfl (Nat.le_of_ble_eq_true rfl) (fun r σ' hq => ?_)
      obtain ⟨rfl, rfl⟩ := hq
      have hA2 := zAl_0 hA
      generalize zwr (zwa σc 228 _) 217 22 _ = σd at hA2 ⊢
      refine zw_iconst 54 dX6_tries_53 rfl ?_
      refine zw_istore 56 dX6_tries_54 rfl (by decide) ?_
      refine lp3_X6_tries (σ := σ) (h := h) (y := y) hd hc hst hV ⟨by omega, by omega⟩ (fun σe ge hAe => ?_) 6 0 _ _ (by omega) (by omega) hA2 (fun v v0 v1 => by rw [zfz, if_pos ⟨v0, v1⟩]; rfl)
      have hM : σe 217 22 = zmo (fun q => zac q h y) (zbt st) 6 := hAe.2.2.2
      have mb := zmo_b (fun q => zac q h y) (zbt st) 6
      have e9 := zmn_s 1000000 (ztyG (σ 218) s st) ztyC (k := 21 * h + y) (by omega)
      have eG : ztyG (σ 218) s st (21 * h + y) = σe 217 22 := by
        rw [hM]; unfold ztyG; (try dsimp only)
        rw [show (21 * h + y) / 21 = h by omega, show (21 * h + y) % 21 = y by omega]
      have eC : ztyC (21 * h + y) = 100 * h + y := by unfold ztyC; omega
      rw [eG, eC, ← e2, show 21 * h + y + 1 = 21 * h + (y + 1) by omega] at e9
      refine zw_aload_n 92 dX6_tries_91 rfl rfl ?_
      refine zw_gti 95 22 dX6_tries_92 rfl fX6_259 (by decide) rfl rfl ly217 ?_
      refine zw_iload 97 dX6_tries_95 rfl rfl ?_
      refine zw_icmp_ge 111 100 dX6_tries_97 (by decide) rfl (by omega) (by omega) (fun h97 => ?_) (fun h97 => ?_)
      · refine zw_iload_n 112 dX6_tries_111 rfl rfl ?_
        refine zw_istore_n 113 dX6_tries_112 rfl (by decide) ?_
        refine zw_aload_n 114 dX6_tries_113 rfl rfl ?_
        refine zw_gti 117 22 dX6_tries_114 rfl fX6_259 (by decide) rfl rfl ly217 ?_
        refine zw_iload 119 dX6_tries_117 rfl rfl ?_
        refine zw_icmp_ge 129 122 dX6_tries_119 (by decide) rfl (by omega) (by omega) (fun h119 => ?_) (fun h119 => ?_)
        · refine zw_iload 131 dX6_tries_129 rfl rfl ?_
          refine zw_istore 133 dX6_tries_131 rfl (by decide) ?_
          refine zw_iinc 136 dX6_tries_133 rfl (by decide) rfl ?_
          refine zw_goto 42 dX6_tries_136 (by decide) ?_
          refine zw_loc [true, true, true, true, true, true, true, false] rfl ?_
          first
            | (exfalso; omega)
            | (rw [if_pos (show σe 217 22 < a2 by omega)] at e9; refine ih (y + 1) _ _ _ (by omega) (by omega) ⟨_, _, hAe⟩ ?_ ?_ <;> rw [e9])
            | (rw [if_neg (show ¬ σe 217 22 < a2 by omega)] at e9; refine ih (y + 1) _ _ _ (by omega) (by omega) ⟨_, _, hAe⟩ ?_ ?_ <;> (rw [e9]; assumption))
            | (exfalso; omega)
        · refine zw_aload_n 123 dX6_tries_122 rfl rfl ?_
          refine zw_gti 126 22 dX6_tries_123 rfl fX6_259 (by decide) rfl rfl ly217 ?_
          refine zw_goto 131 dX6_tries_126 (by decide) ?_
          refine zw_istore 133 dX6_tries_131 rfl (by decide) ?_
          refine zw_iinc 136 dX6_tries_133 rfl (by decide) rfl ?_
          refine zw_goto 42 dX6_tries_136 (by decide) ?_
          refine zw_loc [true, true, true, true, true, true, true, false] rfl ?_
          first
            | (exfalso; omega)
            | (rw [if_pos (show σe 217 22 < a2 by omega)] at e9; refine ih (y + 1) _ _ _ (by omega) (by omega) ⟨_, _, hAe⟩ ?_ ?_ <;> rw [e9])
            | (rw [if_neg (show ¬ σe 217 22 < a2 by omega)] at e9; refine ih (y + 1) _ _ _ (by omega) (by omega) ⟨_, _, hAe⟩ ?_ ?_ <;> (rw [e9]; assumption))
            | (exfalso; omega)
      · refine zw_bipush 102 dX6_tries_100 rfl (by decide) ?_
        refine zw_iload 104 dX6_tries_102 rfl rfl ?_
        refine zw_imul 105 dX6_tries_104 rfl ?_
        refine zw_iload 107 dX6_tries_105 rfl rfl ?_
        refine zw_iadd 108 dX6_tries_107 rfl ?_
        refine zw_goto 112 dX6_tries_108 (by decide) ?_
        refine zw_istore_n 113 dX6_tries_112 rfl (by decide) ?_
        refine zw_aload_n 114 dX6_tries_113 rfl rfl ?_
        refine zw_gti 117 22 dX6_tries_114 rfl fX6_259 (by decide) rfl rfl ly217 ?_
        refine zw_iload 119 dX6_tries_117 rfl rfl ?_
        refine zw_icmp_ge 129 122 dX6_tries_119 (by decide) rfl (by omega) (by omega) (fun h119 => ?_) (fun h119 => ?_)
        · refine zw_iload 131 dX6_tries_129 rfl rfl ?_
          refine zw_istore 133 dX6_tries_131 rfl (by decide) ?_
          refine zw_iinc 136 dX6_tries_133 rfl (by decide) rfl ?_
          refine zw_goto 42 dX6_tries_136 (by decide) ?_
          refine zw_loc [true, true, true, true, true, true, true, false] rfl ?_
          first
            | (exfalso; omega)
            | (rw [if_pos (show σe 217 22 < a2 by omega)] at e9; refine ih (y + 1) _ _ _ (by omega) (by omega) ⟨_, _, hAe⟩ ?_ ?_ <;> rw [e9])
            | (rw [if_neg (show ¬ σe 217 22 < a2 by omega)] at e9; refine ih (y + 1) _ _ _ (by omega) (by omega) ⟨_, _, hAe⟩ ?_ ?_ <;> (rw [e9]; assumption))
            | (exfalso; omega)
        · refine zw_aload_n 123 dX6_tries_122 rfl rfl ?_
          refine zw_gti 126 22 dX6_tries_123 rfl fX6_259 (by decide) rfl rfl ly217 ?_
          refine zw_goto 131 dX6_tries_126 (by decide) ?_
          refine zw_istore 133 dX6_tries_131 rfl (by decide) ?_
          refine zw_iinc 136 dX6_tries_133 rfl (by decide) rfl ?_
          refine zw_goto 42 dX6_tries_136 (by decide) ?_
          refine zw_loc [true, true, true, true, true, true, true, false] rfl ?_
          first
            | (exfalso; omega)
            | (rw [if_pos (show σe 217 22 < a2 by omega)] at e9; refine ih (y + 1) _ _ _ (by omega) (by omega) ⟨_, _, hAe⟩ ?_ ?_ <;> rw [e9])
            | (rw [if_neg (show ¬ σe 217 22 < a2 by omega)] at e9; refine ih (y + 1) _ _ _ (by omega) (by omega) ⟨_, _, hAe⟩ ?_ ?_ <;> (rw [e9]; assumption))
            | (exfalso; omega)
theorem lp1_X6_tries {l : Launch} {d : Nat} {σ : zMem} (hd : 8 ≤ d) {s st : Int} (hc : 0 ≤ s ∧ s ≤ σ 218 48 - 1) (hst : st = zbi (zkc (σ 218) s) 6) (hV : zVN (σ 218))  : ∀ (m : Nat) (h : Int) (a1 a2 : Int) (σc : zMem), h + m = 10 → 0 ≤ h → (∃ g m0, zAl σ σc g m0) → a1 = (zmn 1000000 (ztyG (σ 218) s st) ztyC (21 * h).toNat).1 → a2 = (zmn 1000000 (ztyG (σ 218) s st) ztyC (21 * h).toNat).2 → (st = 0 → h = 0) → zw l d mX6_tries 28 [some (.ref 217), some (.int (zI s)), some (.int (zI st)), some (.int (zI a1)), some (.int (zI a2)), some (.int (zI h)), none, none] [] σc (zAn 224 (0 ≤ s ∧ s ≤ σ 218 48 - 1) (zty (σ 218) s) 0 (-2) σ) := by
  intro m
  induction m with
  | zero =>
    intro h a1 a2 σc hk hk0 hex e1 e2 hs0
    have hs := hV.1
    have hv := hV.2.1
    have hy0 := hV.2.2.1
    have gN := hs.1
    have gC := hs.2.1
    have bs := zbi_b (f := zkc (σ 218) s) 6 (fun q _ _ => zkc_b _ _ _)
    rw [← hst] at bs
    have b25 := hv.2.2.1 s
    have hb1 : ∀ q, zbt st q = 0 ∨ zbt st q = 1 := fun q => by unfold zbt; omega
    obtain ⟨g0, m0, hA⟩ := hex
    have h0s : st = 0 → a1 = -1 := fun q => by rw [e1, hs0 q]; rfl
    refine zw_iload 30 dX6_tries_28 rfl rfl ?_
    refine zw_bipush 32 dX6_tries_30 rfl (by decide) ?_
    refine zw_icmp_ge 145 35 dX6_tries_32 (by decide) rfl (by omega) (by omega) (fun h32 => ?_) (fun h32 => ?_)
    · refine zw_iload_n 146 dX6_tries_145 rfl rfl ?_
      refine zw_iret dX6_tries_146 rfl ?_
      first
        | (exact zAn_t (by omega) (by unfold zty; rw [← hst, if_pos (by omega)]; have := h0s (by omega); omega) (zAl_NS hA))
        | (exact zAn_t (by omega) (by unfold zty; rw [← hst, if_neg (by omega), e1, show (21 * h).toNat = 210 by omega]) (zAl_NS hA))
    · exfalso; omega
  | succ m ih =>
    intro h a1 a2 σc hk hk0 hex e1 e2 hs0
    have hs := hV.1
    have hv := hV.2.1
    have hy0 := hV.2.2.1
    have gN := hs.1
    have gC := hs.2.1
    have bs := zbi_b (f := zkc (σ 218) s) 6 (fun q _ _ => zkc_b _ _ _)
    rw [← hst] at bs
    have b25 := hv.2.2.1 s
    have hb1 : ∀ q, zbt st q = 0 ∨ zbt st q = 1 := fun q => by unfold zbt; omega
    obtain ⟨g0, m0, hA⟩ := hex
    have h0s : st = 0 → a1 = -1 := fun q => by rw [e1, hs0 q]; rfl
    refine zw_iload 30 dX6_tries_28 rfl rfl ?_
    refine zw_bipush 32 dX6_tries_30 rfl (by decide) ?_
    refine zw_icmp_ge 145 35 dX6_tries_32 (by decide) rfl (by omega) (by omega) (fun h32 => ?_) (fun h32 => ?_)
    · refine zw_iload_n 146 dX6_tries_145 rfl rfl ?_
      refine zw_iret dX6_tries_146 rfl ?_
      first
        | (exact zAn_t (by omega) (by unfold zty; rw [← hst, if_pos (by omega)]; have := h0s (by omega); omega) (zAl_NS hA))
        | (exfalso; omega)
    · refine zw_iload_n 36 dX6_tries_35 rfl rfl ?_
      refine zw_if_eq 145 39 dX6_tries_36 (by decide) rfl (by omega) (fun h36 => ?_) (fun h36 => ?_)
      · refine zw_iload_n 146 dX6_tries_145 rfl rfl ?_
        refine zw_iret dX6_tries_146 rfl ?_
        first
          | (exact zAn_t (by omega) (by unfold zty; rw [← hst, if_pos (by omega)]; have := h0s (by omega); omega) (zAl_NS hA))
          | (exfalso; omega)
      · refine zw_iconst 40 dX6_tries_39 rfl ?_
        refine zw_istore 42 dX6_tries_40 rfl (by decide) ?_
        refine lp2_X6_tries (σ := σ) hd hc hst hV (by omega) (fun b1 b2 σe hexe f1 f2 => ?_) 21 0 _ _ _ (by omega) (by omega) ⟨_, _, hA⟩ (by rw [e1]; congr 3; omega) (by rw [e2]; congr 3; omega)
        refine zw_iinc 142 dX6_tries_139 rfl (by decide) rfl ?_
        refine zw_goto 28 dX6_tries_142 (by decide) ?_
        refine zw_loc [true, true, true, true, true, true, false, false] rfl ?_
        exact ih (h + 1) _ _ _ (by omega) (by omega) hexe f1 f2 (by omega)
theorem sp_X6_tries {l : Launch} {d : Nat} {σ : zMem} (hd : 8 ≤ d) {s : Int} (hs : -2147483648 ≤ s ∧ s < 2147483648) (hV : zVN (σ 218))  : zSp l d mX6_tries [.ref 217, .int (zI s)] σ (zAn 224 (0 ≤ s ∧ s ≤ σ 218 48 - 1) (zty (σ 218) s) 0 (-2) σ) := by
  refine zSp_of oX6_tries (Nat.le_of_ble_eq_true rfl) ?_
  show zw l d mX6_tries 0 [some (.ref 217), some (.int (zI s)), none, none, none, none, none, none] [] σ _
  have hs := hV.1
  have hv := hV.2.1
  have hy := hV.2.2.1
  have gN := hs.1
  have gC := hs.2.1
  refine zw_aload_n 1 dX6_tries_0 rfl rfl ?_
  refine zw_iload_n 2 dX6_tries_1 rfl rfl ?_
  refine zw_callV 5 _ _ dX6_tries_2 rfl kX6_194 qX6_isCanon ly217 ⟨_, rfl, rfl⟩ (by decide) (sp_X6_isCanon (d := d - 1) (by omega) (by omega) (by omega)) (by omega) rfl rfl (Nat.le_of_ble_eq_true rfl) (fun r σ' hq => ?_)
  obtain ⟨rfl, rfl⟩ := hq
  refine zw_if_ne 13 8 dX6_tries_5 (by decide) rfl (by omega) (fun h5 => ?_) (fun h5 => ?_)
  · refine zw_aload_n 14 dX6_tries_13 rfl rfl ?_
    refine zw_iload_n 15 dX6_tries_14 rfl rfl ?_
    refine zw_callV 18 _ _ dX6_tries_15 rfl kX6_271 qX6_kindsOfOne ly217 ⟨_, rfl, rfl⟩ (by decide) (sp_X6_kindsOfOne (d := d - 1) (by omega) (by omega) hV) (by omega) rfl rfl (Nat.le_of_ble_eq_true rfl) (fun r σ' hq => ?_)
    obtain ⟨rfl, rfl⟩ := hq
    refine zw_istore_n 19 dX6_tries_18 rfl (by decide) ?_
    refine zw_iconst 20 dX6_tries_19 rfl ?_
    refine zw_istore_n 21 dX6_tries_20 rfl (by decide) ?_
    refine zw_ldc 23 (1000000) dX6_tries_21 rfl cX6_230 ?_
    refine zw_istore 25 dX6_tries_23 rfl (by decide) ?_
    refine zw_iconst 26 dX6_tries_25 rfl ?_
    refine zw_istore 28 dX6_tries_26 rfl (by decide) ?_
    exact lp1_X6_tries (σ := σ) (by omega) (by omega) rfl hV 10 0 _ _ σ (by omega) (by omega) ⟨_, _, zAl_id σ⟩ rfl rfl (fun _ => rfl)
  · refine zw_aload_n 9 dX6_tries_8 rfl rfl ?_
    refine zw_callV 12 _ _ dX6_tries_9 rfl kX6_100 qX6_bad ly217 ⟨_, rfl, rfl⟩ (by decide) (sp_X6_bad (d := d - 1) (by omega)) (by omega) rfl rfl (Nat.le_of_ble_eq_true rfl) (fun r σ' hq => ?_)
    obtain ⟨rfl, rfl⟩ := hq
    refine zw_iret dX6_tries_12 rfl ?_
    exact zAn_f (by omega)
