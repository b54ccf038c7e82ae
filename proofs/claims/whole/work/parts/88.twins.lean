theorem zA3_F {C F F' : Prop} {σ : zMem} {r : Nat} {w1 b1 w2 b2 v : Int} {P : zMem → Prop} {a : Option Value} {σ' : zMem} (hF : C → (F' ↔ F)) (h : zA3 C F' σ r w1 b1 w2 b2 v P a σ') : zA3 C F σ r w1 b1 w2 b2 v P a σ' := ⟨h.1, fun c f => h.2.1 c ((hF c).mpr f), fun c f => h.2.2 c (fun q => f ((hF c).mp q))⟩
theorem tw_type {σ σ1 σ2 : zMem} {a b : Option Value} {c : Int} (hI : zIv σ) (hX : zA3 (0 ≤ c ∧ c ≤ 127) (σ 106 1 = 150) σ 118 0 (-2) 2 (-4) (σ 106 1 + 1) (fun σ' => zwr (zwr σ 107 (σ 106 1) c) 106 1 (σ 106 1 + 1) = σ') a σ1) (e217 : σ1 217 = σ 217) (hM : zA3 (0 ≤ c ∧ c ≤ 127) (σ1 217 6 = 150) σ1 224 0 (-2) 2 (-4) (σ1 217 6 + 1) (fun σ' => zwr (zwr σ1 223 (σ1 217 6) c) 217 6 (σ1 217 6 + 1) = σ') b σ2) : zTwo a b σ2 := by
  obtain ⟨hn, hm, ⟨t1, t2, t3⟩, hf, hc⟩ := id hI
  have e6 : σ1 217 6 = σ 106 1 := by rw [e217]; exact t3.symm
  rw [e6] at hM
  refine zIv_A3 hI hX hM (fun _ _ => rfl) (fun hcc hff p q => ?_)
  have n0 := t1.1
  rw [← t3] at t1 t2 n0
  have o : ∀ b, b ≠ 107 → b ≠ 106 → b ≠ 223 → b ≠ 217 → σ2 b = σ b := fun b b1 b2 b3 b4 => by
    rw [← q, zwr_ne _ _ _ b4, zwr_ne _ _ _ b3, ← p, zwr_ne _ _ _ b2, zwr_ne _ _ _ b1]
  have o217 : ∀ j, j ≠ 6 → σ2 217 j = σ 217 j := fun j hj => by
    rw [← q, zwr_ni _ _ _ (by omega), zwr_ne _ _ _ (by decide), e217]
  have o6 : σ2 217 6 = σ 106 1 + 1 := by rw [← q, zwr_same]
  have o1 : σ2 106 1 = σ 106 1 + 1 := by rw [← q, zwr_ne _ _ _ (by decide), zwr_ne _ _ _ (by decide), ← p, zwr_same]
  have o107 : σ2 107 = zup (σ 107) (σ 106 1) c := by
    rw [← q, zwr_ne _ _ _ (by decide), zwr_ne _ _ _ (by decide), ← p, zwr_ne _ _ _ (by decide)]
    unfold zwr; rw [zwa_same]
  have o223 : σ2 223 = zup (σ 223) (σ 106 1) c := by
    rw [← q, zwr_ne _ _ _ (by decide)]
    unfold zwr; rw [zwa_same, ← p, zwr_ne _ _ _ (by decide), zwr_ne _ _ _ (by decide)]
  refine ⟨zIn_mv (fun b hb => o b (by omega) (by omega) (by omega) (by omega)) hn, zIm_mv (fun b hb => o b (by omega) (by omega) (by omega) (by omega)) hm, ⟨?_, ?_, by rw [o6, o1]⟩, ?_, fun k k0 k1 => ?_⟩
  · rw [o6, o223]
    refine ⟨by omega, fun i i0 i1 => ?_⟩
    by_cases qi : i = σ 106 1
    · rw [qi, zup_same]; exact hcc
    · rw [zup_ne _ _ qi]; exact t1.2 i i0 (by omega)
  · rw [o6, o223]
    intro i i0 i1
    rw [o107]
    by_cases qi : i = σ 106 1
    · rw [qi, zup_same, zup_same]
    · rw [zup_ne _ _ qi, zup_ne _ _ qi]; exact t2 i i0 (by omega)
  · rw [o 1 (by omega) (by omega) (by omega) (by omega), o217 7 (by omega), o217 8 (by omega)]; exact hf
  · rw [o 118 (by omega) (by omega) (by omega) (by omega), o 224 (by omega) (by omega) (by omega) (by omega)]; exact hc k k0 k1
theorem tw_clear {σ σ1 σ2 : zMem} {a b : Option Value} (hI : zIv σ) (hX : zRi (σ 106 1) (zwr σ 106 1 0) a σ1) (hM : zRi (σ1 217 6) (zwr σ1 217 6 0) b σ2) : zTwo a b σ2 := by
  obtain ⟨hn, hm, ⟨t1, t2, t3⟩, hf, hc⟩ := id hI
  obtain ⟨x1, x2⟩ := hX
  obtain ⟨m1, m2⟩ := hM
  have e6 : σ1 217 6 = σ 106 1 := by rw [← x2, zwr_ne _ _ _ (by decide)]; exact t3.symm
  rw [e6] at m1
  refine ⟨⟨_, x1, m1⟩, ?_⟩
  have o : ∀ b, b ≠ 106 → b ≠ 217 → σ2 b = σ b := fun b b1 b2 => by
    rw [← m2, zwr_ne _ _ _ b2, ← x2, zwr_ne _ _ _ b1]
  have o217 : ∀ j, j ≠ 6 → σ2 217 j = σ 217 j := fun j hj => by
    rw [← m2, zwr_ni _ _ _ (by omega), ← x2, zwr_ne _ _ _ (by decide)]
  have o6 : σ2 217 6 = 0 := by rw [← m2, zwr_same]
  have o1 : σ2 106 1 = 0 := by rw [← m2, zwr_ne _ _ _ (by decide), ← x2, zwr_same]
  refine ⟨zIn_mv (fun b hb => o b (by omega) (by omega)) hn, zIm_mv (fun b hb => o b (by omega) (by omega)) hm, ⟨?_, ?_, by rw [o6, o1]⟩, ?_, fun k k0 k1 => ?_⟩
  · rw [o6]; exact ⟨by omega, fun i i0 i1 => by omega⟩
  · rw [o6]; intro i i0 i1; omega
  · rw [o 1 (by omega) (by omega), o217 7 (by omega), o217 8 (by omega)]; exact hf
  · rw [o 118 (by omega) (by omega), o 224 (by omega) (by omega)]; exact hc k k0 k1
theorem tw_left {σ σ1 σ2 : zMem} {a b : Option Value} {C : Prop} {x y : Int} (hI : zIv σ) (hX : zA3 C False σ 118 0 (-2) 2 (-4) 1 (fun σ' => zf5 σ x y = σ') a σ1) (hM : zA3 C False σ1 224 0 (-2) 2 (-4) 1 (fun σ' => zfr σ1 x y = σ') b σ2) : zTwo a b σ2 := by
  refine zIv_A3 hI hX hM (fun _ _ => rfl) (fun _ _ p q => ?_)
  obtain ⟨hn, hm, ⟨t1, t2, t3⟩, hf, hc⟩ := hI
  have o : ∀ b, b ≠ 1 → b ≠ 217 → σ2 b = σ b := fun b b1 b2 => by
    rw [← q]; unfold zfr; rw [zwr_ne _ _ _ b2, zwr_ne _ _ _ b2, ← p]; unfold zf5; rw [zwr_ne _ _ _ b1, zwr_ne _ _ _ b1]
  have o6 : σ2 217 6 = σ 217 6 := by
    rw [← q]; unfold zfr; rw [zwr_ni _ _ _ (by decide), zwr_ni _ _ _ (by decide), ← p]; unfold zf5; rw [zwr_ne _ _ _ (by decide), zwr_ne _ _ _ (by decide)]
  have o12 : σ2 1 12 = x / (Int.gcd x y : Int) := by
    rw [← q]; unfold zfr; rw [zwr_ne _ _ _ (by decide), zwr_ne _ _ _ (by decide), ← p]; unfold zf5; rw [zwr_ni _ _ _ (by decide), zwr_same]
  have o13 : σ2 1 13 = y / (Int.gcd x y : Int) := by
    rw [← q]; unfold zfr; rw [zwr_ne _ _ _ (by decide), zwr_ne _ _ _ (by decide), ← p]; unfold zf5; rw [zwr_same]
  have o7 : σ2 217 7 = x / (Int.gcd x y : Int) := by
    rw [← q]; unfold zfr; rw [zwr_ni _ _ _ (by decide), zwr_same]
  have o8 : σ2 217 8 = y / (Int.gcd x y : Int) := by
    rw [← q]; unfold zfr; rw [zwr_same]
  exact ⟨zIn_mv (fun b hb => o b (by omega) (by omega)) hn, zIm_mv (fun b hb => o b (by omega) (by omega)) hm, zTx_mv (o 107 (by omega) (by omega)) (o 223 (by omega) (by omega)) o6 (by rw [o 106 (by omega) (by omega)]) ⟨t1, t2, t3⟩, ⟨by rw [o12, o7], by rw [o13, o8]⟩, fun k k0 k1 => by rw [o 118 (by omega) (by omega), o 224 (by omega) (by omega)]; exact hc k k0 k1⟩
theorem tw_image {σ σ1 σ2 : zMem} {a b : Option Value} {i : Int} (hI : zIv σ) (hX : zA3 (0 ≤ i ∧ i ≤ 1) False σ 118 0 (-2) 2 (-4) 1 (fun σ' => zCh σ' (if i = 0 then 119 else 168) (σ 218) ∧ σ' 101 = zup (σ 101) i 1 ∧ ∀ b, ¬ ((if i = 0 then 119 else 168) ≤ b ∧ b ≤ (if i = 0 then 119 else 168) + 48) → b ≠ 101 → σ' b = σ b) a σ1) (hM : zA3 (0 ≤ i ∧ i ≤ 1) False σ1 224 0 (-2) 2 (-4) 1 (fun σ' => zwr (zwa σ1 221 (zcy (σ1 218) (σ1 221) 0 (399 * i) 399)) 222 i 1 = σ') b σ2) : zTwo a b σ2 := by
  refine zIv_A3 hI hX hM (fun _ _ => rfl) (fun hcc _ p q => ?_)
  obtain ⟨p1, p2, p3⟩ := p
  obtain ⟨⟨n1, n2, n3⟩, ⟨⟨m1, m2, m3⟩, ⟨k0, k1⟩, i0, i1⟩, ht, hf, hc⟩ := hI
  have hB := zVN_bd n2
  have o : ∀ b, ¬ (119 ≤ b ∧ b ≤ 216) → b ≠ 101 → b ≠ 221 → b ≠ 222 → σ2 b = σ b := fun b b1 b2 b3 b4 => by
    rw [← q, zwr_ne _ _ _ b4, zwa_ne _ _ b3]
    exact p3 b (by split <;> omega) b2
  have s1 : σ1 218 = σ 218 := p3 218 (by split <;> omega) (by decide)
  have s2 : σ1 221 = σ 221 := p3 221 (by split <;> omega) (by decide)
  have s3 : σ1 222 = σ 222 := p3 222 (by split <;> omega) (by decide)
  have o221 : σ2 221 = zcy (σ 218) (σ 221) 0 (399 * i) 399 := by rw [← q, zwr_ne _ _ _ (by decide), zwa_same, s1, s2]
  have o222 : σ2 222 = zup (σ 222) i 1 := by
    rw [← q]; unfold zwr; rw [zwa_same, zwa_ne _ _ (by decide), s3]
  have oc : ∀ b, 119 ≤ b → b ≤ 216 → σ2 b = σ1 b := fun b b1 b2 => by rw [← q, zwr_ne _ _ _ (by omega), zwa_ne _ _ (by omega)]
  have o101 : σ2 101 = zup (σ 101) i 1 := by rw [← q, zwr_ne _ _ _ (by decide), zwa_ne _ _ (by decide), p2]
  have hin : ∀ j, 0 ≤ j → j < 399 → σ2 221 (399 * i + j) = σ 218 j := fun j j0 j1 => by
    rw [o221]; unfold zcy; rw [if_pos (by omega)]; congr 1; omega
  have hot : ∀ j, (j < 399 * i ∨ 399 * i + 399 ≤ j) → σ2 221 j = σ 221 j := fun j hj => by
    rw [o221]; unfold zcy; rw [if_neg (by omega)]
  have hz : zIm σ2 := by
    refine ⟨⟨by rw [o 100 (by omega) (by omega) (by omega) (by omega)]; exact m1, ?_, ?_⟩, ?_, ?_, ?_⟩
    · by_cases qi : i = 0
      · rw [if_pos qi] at p1; exact zSF_fr (fun b b0 b1 => oc b (by omega) (by omega)) p1.st
      · refine zSF_fr (fun b b0 b1 => ?_) m2
        rw [oc b (by omega) (by omega)]; exact p3 b (by rw [if_neg qi]; omega) (by omega)
    · by_cases qi : i = 0
      · refine zSF_fr (fun b b0 b1 => ?_) m3
        rw [oc b (by omega) (by omega)]; exact p3 b (by rw [if_pos qi]; omega) (by omega)
      · rw [if_neg qi] at p1; exact zSF_fr (fun b b0 b1 => oc b (by omega) (by omega)) p1.st
    · rw [o101, o222]
      unfold zup
      refine ⟨?_, ?_⟩
      · by_cases qi : (0 : Int) = i
        · rw [if_pos qi, if_pos qi]; exact ⟨rfl, Or.inr rfl⟩
        · rw [if_neg qi, if_neg qi]; exact k0
      · by_cases qi : (1 : Int) = i
        · rw [if_pos qi, if_pos qi]; exact ⟨rfl, Or.inr rfl⟩
        · rw [if_neg qi, if_neg qi]; exact k1
    · intro h1
      by_cases qi : i = 0
      · rw [if_pos qi] at p1
        have e : ∀ j, 0 ≤ j → j < 399 → (fun j => σ2 221 j) j = σ 218 j := fun j j0 j1 => by
          have := hin j j0 j1
          rw [qi, show 399 * (0 : Int) + j = j by omega] at this; exact this
        exact ⟨zCh_fr (fun b b0 b1 => oc b (by omega) (by omega)) (zCh_ag hB e p1), zVN_ag e n2⟩
      · rw [o101, zup_ne _ _ (Ne.symm qi)] at h1
        have e : ∀ j, 0 ≤ j → j < 399 → (fun j => σ2 221 j) j = (fun j => σ 221 j) j := fun j j0 j1 => hot j (by omega)
        have h3 := i0 h1
        refine ⟨zCh_fr (fun b b0 b1 => ?_) (zCh_ag (zVN_bd h3.2) e h3.1), zVN_ag e h3.2⟩
        rw [oc b (by omega) (by omega)]; exact p3 b (by rw [if_neg qi]; omega) (by omega)
    · intro h1
      by_cases qi : i = 0
      · rw [o101, zup_ne _ _ (by omega)] at h1
        have e : ∀ j, 0 ≤ j → j < 399 → (fun j => σ2 221 (399 + j)) j = (fun j => σ 221 (399 + j)) j := fun j j0 j1 => hot (399 + j) (by omega)
        have h3 := i1 h1
        refine ⟨zCh_fr (fun b b0 b1 => ?_) (zCh_ag (zVN_bd h3.2) e h3.1), zVN_ag e h3.2⟩
        rw [oc b (by omega) (by omega)]; exact p3 b (by rw [if_pos qi]; omega) (by omega)
      · rw [if_neg qi] at p1
        have e : ∀ j, 0 ≤ j → j < 399 → (fun j => σ2 221 (399 + j)) j = σ 218 j := fun j j0 j1 => by
          have := hin j j0 j1
          rw [show 399 * i + j = 399 + j by omega] at this; exact this
        exact ⟨zCh_fr (fun b b0 b1 => oc b (by omega) (by omega)) (zCh_ag hB e p1), zVN_ag e n2⟩
  exact ⟨zIn_mv (fun b hb => o b (by omega) (by omega) (by omega) (by omega)) ⟨n1, n2, n3⟩, hz, zTx_mv (o 107 (by omega) (by omega) (by omega) (by omega)) (o 223 (by omega) (by omega) (by omega) (by omega)) (by rw [o 217 (by omega) (by omega) (by omega) (by omega)]) (by rw [o 106 (by omega) (by omega) (by omega) (by omega)]) ht, by rw [o 1 (by omega) (by omega) (by omega) (by omega), o 217 (by omega) (by omega) (by omega) (by omega)]; exact hf, fun k k0 k1 => by rw [o 118 (by omega) (by omega) (by omega) (by omega), o 224 (by omega) (by omega) (by omega) (by omega)]; exact hc k k0 k1⟩
theorem tw_from {σ σ1 σ2 : zMem} {a b : Option Value} {i : Int} (hI : zIv σ) (hX : zA3 (0 ≤ i ∧ i ≤ 1) (σ 101 i = 0) σ 118 0 (-2) 1 (-3) 1 (zCF σ (if i = 0 then (fun j => σ 221 j) else (fun j => σ 221 (399 + j)))) a σ1) (e221 : σ1 221 = σ 221) (e222 : σ1 222 = σ 222) (e218 : σ1 218 = σ 218) (hM : zA3 (0 ≤ i ∧ i ≤ 1) (σ1 222 i = 0) σ1 224 0 (-2) 1 (-3) 1 (fun σ' => zwa σ1 218 (zcy (σ1 221) (σ1 218) (399 * i) 0 399) = σ') b σ2) : zTwo a b σ2 := by
  obtain ⟨⟨n1, n2, n3⟩, ⟨⟨m1, m2, m3⟩, ⟨k0, k1⟩, i0, i1⟩, ht, hf, hc⟩ := id hI
  have hM2 := zA3_F (F := σ 101 i = 0) (fun hcc => by
    rw [e222]
    by_cases qi : i = 0
    · rw [qi, k0.1]
    · rw [show i = 1 by omega, k1.1]) hM
  refine zIv_A3 hI hX hM2 (fun _ _ => rfl) (fun hcc hff p q => ?_)
  rw [e221, e218] at q
  rw [← q]
  by_cases qi : i = 0
  · rw [if_pos qi] at p
    have h3 := i0 (by rw [qi] at hff; omega)
    have e : ∀ j, 0 ≤ j → j < 399 → zcy (σ 221) (σ 218) (399 * i) 0 399 j = (fun j => σ 221 j) j := fun j j0 j1 => by
      unfold zcy; rw [if_pos (by omega)]; dsimp only; congr 1; omega
    exact zIv_cf hI p (zVN_ag e h3.2) e (zVN_bd h3.2)
  · rw [if_neg qi] at p
    have h3 := i1 (by rw [show i = 1 by omega] at hff; omega)
    have e : ∀ j, 0 ≤ j → j < 399 → zcy (σ 221) (σ 218) (399 * i) 0 399 j = (fun j => σ 221 (399 + j)) j := fun j j0 j1 => by
      unfold zcy; rw [if_pos (by omega)]; dsimp only; congr 1; omega
    exact zIv_cf hI p (zVN_ag e h3.2) e (zVN_bd h3.2)
theorem tw_read {σ σ1 σ2 : zMem} {a b : Option Value} (hI : zIv σ) (hX : zRd σ (σ 217 6) (zrLoop (σ 223) (σ 217 6) 200 0 0 (zem (σ 219))) a σ1) (e217 : σ1 217 = σ 217) (e223 : σ1 223 = σ 223) (e219 : σ1 219 = σ 219) (hM : zrF σ1 (σ1 217) (zrLoop (σ1 223) (σ1 217 6) 200 0 0 (zem (σ1 219))) b σ2) : zTwo a b σ2 := by
  rw [e217, e223, e219] at hM
  obtain ⟨⟨n1, n2, n3⟩, hm, ht, hf, hc⟩ := hI
  obtain ⟨x1, x2, x3, x4⟩ := hX
  obtain ⟨g, r, hg, hM⟩ := hM
  have g6 : g 6 = σ 217 6 := hg 6 (by omega)
  have g7 : g 7 = σ 217 7 := hg 7 (by omega)
  have g8 : g 8 = σ 217 8 := hg 8 (by omega)
  cases hr : zrLoop (σ 223) (σ 217 6) 200 0 0 (zem (σ 219)) with
  | error e =>
    rw [hr] at x4 hM
    obtain ⟨x5, x6⟩ := x4
    obtain ⟨m5, m6⟩ := hM
    refine ⟨⟨_, x5, m5⟩, ?_⟩
    have o : ∀ b, ¬ (51 ≤ b ∧ b ≤ 99) → b ≠ 106 → b ≠ 108 → b ≠ 217 → b ≠ 219 → σ2 b = σ b := fun b b0 b1 b2 b3 b4 => by
      rw [m6, zM2_ne _ _ _ b3 b4]
      by_cases q : 2 ≤ b ∧ b ≤ 50
      · exact x6 b q.1 q.2
      · exact x2 b (by omega) b1 b2
    have o51 : zSF σ2 51 := zSF_fr (fun b b0 b1 => by rw [m6, zM2_ne _ _ _ (by omega) (by omega)]) x3
    have o218 := o 218 (by omega) (by omega) (by omega) (by omega) (by omega)
    refine ⟨⟨by rw [o218]; exact zCh_fr (fun b b0 b1 => o b (by omega) (by omega) (by omega) (by omega) (by omega)) n1, by rw [o218]; exact n2, o51⟩, zIm_mv (fun b hb => o b (by omega) (by omega) (by omega) (by omega) (by omega)) hm, zTx_mv (o 107 (by omega) (by omega) (by omega) (by omega) (by omega)) (o 223 (by omega) (by omega) (by omega) (by omega) (by omega)) (by rw [m6, zM2_217, g6]) (by rw [m6, zM2_ne _ _ _ (by decide) (by decide), x1]; exact ht.2.2.symm) ht, ?_, fun k k0 k1 => ?_⟩
    · rw [o 1 (by omega) (by omega) (by omega) (by omega) (by omega), m6, zM2_217, g7, g8]; exact hf
    · rw [o 118 (by omega) (by omega) (by omega) (by omega) (by omega), o 224 (by omega) (by omega) (by omega) (by omega) (by omega)]; exact hc k k0 k1
  | ok cr =>
    obtain ⟨c, r'⟩ := cr
    rw [hr] at x4 hM
    obtain ⟨x5, x6, x7, x8⟩ := x4
    obtain ⟨m5, m6⟩ := hM
    refine ⟨⟨_, x5, m5⟩, ?_⟩
    have o : ∀ b, ¬ (2 ≤ b ∧ b ≤ 99) → b ≠ 106 → b ≠ 108 → b ≠ 217 → b ≠ 219 → b ≠ 218 → σ2 b = σ b := fun b b0 b1 b2 b3 b4 b5 => by
      rw [m6, zwa_ne _ _ b5, zM2_ne _ _ _ b3 b4]; exact x2 b b0 b1 b2
    have oc : ∀ b, 2 ≤ b → b ≤ 106 → σ2 b = σ1 b := fun b b0 b1 => by rw [m6, zwa_ne _ _ (by omega), zM2_ne _ _ _ (by omega) (by omega)]
    have o218 : σ2 218 = r' := by rw [m6, zwa_same]
    have o217 : σ2 217 = g := by rw [m6, zwa_ne _ _ (by decide), zM2_217]
    refine ⟨⟨by rw [o218]; exact zCh_fr (fun b b0 b1 => oc b (by omega) (by omega)) x6, by rw [o218]; exact zVN_zs x7 x8, zSF_fr (fun b b0 b1 => oc b (by omega) (by omega)) x3⟩, zIm_mv (fun b hb => o b (by omega) (by omega) (by omega) (by omega) (by omega) (by omega)) hm, zTx_mv (o 107 (by omega) (by omega) (by omega) (by omega) (by omega) (by omega)) (o 223 (by omega) (by omega) (by omega) (by omega) (by omega) (by omega)) (by rw [o217, g6]) (by rw [oc 106 (by omega) (by omega), x1]; exact ht.2.2.symm) ht, ?_, fun k k0 k1 => ?_⟩
    · rw [o 1 (by omega) (by omega) (by omega) (by omega) (by omega) (by omega), o217, g7, g8]; exact hf
    · rw [o 118 (by omega) (by omega) (by omega) (by omega) (by omega) (by omega), o 224 (by omega) (by omega) (by omega) (by omega) (by omega) (by omega)]; exact hc k k0 k1
/-- the same long on both sides, and all stands -/
def zTwl (a b : Option Value) (σ2 : zMem) : Prop := (∃ y : Int, a = some (.long (zL y)) ∧ b = some (.long (zL y))) ∧ zIv σ2
theorem tw_part {σ σ1 σ2 : zMem} {a b : Option Value} {w : Int} (hI : zIv σ) (hX : (w = 0 → a = some (.long (zL (σ 1 12))) ∧ σ = σ1) ∧ (w = 1 → a = some (.long (zL (σ 1 13))) ∧ σ = σ1) ∧ (w ≠ 0 → w ≠ 1 → a = some (.long (zL (-2))) ∧ zbm σ 118 0 = σ1)) (hM : (w = 0 → b = some (.long (zL (σ1 217 7))) ∧ σ1 = σ2) ∧ (w = 1 → b = some (.long (zL (σ1 217 8))) ∧ σ1 = σ2) ∧ (w ≠ 0 → w ≠ 1 → b = some (.long (zL (-2))) ∧ zbm σ1 224 0 = σ2)) : zTwl a b σ2 := by
  have hf := hI.2.2.2.1
  by_cases q0 : w = 0
  · have h1 := hX.1 q0
    have h2 := hM.1 q0
    rw [← h1.2, ← hf.1] at h2
    exact ⟨⟨_, h1.1, h2.1⟩, by rw [← h2.2]; exact hI⟩
  · by_cases q1 : w = 1
    · have h1 := hX.2.1 q1
      have h2 := hM.2.1 q1
      rw [← h1.2, ← hf.2] at h2
      exact ⟨⟨_, h1.1, h2.1⟩, by rw [← h2.2]; exact hI⟩
    · have h1 := hX.2.2 q0 q1
      have h2 := hM.2.2 q0 q1
      exact ⟨⟨_, h1.1, h2.1⟩, zIv_bb hI (by rw [h1.2]; exact zNS_refl _) (by rw [h2.2]; exact zNS_refl _)⟩
