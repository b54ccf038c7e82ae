/-! ===== what the two constructors leave ===== -/
def zs6 : zMem := zF6 217 (zF5 1 (fun _ _ => 0))
def zok1 (r : Nat) : Bool := match zly r with
  | none => true
  | some kn => (List.range kn.2).all (fun j => (kn.1 < 100 && zft kn.1 j < 2) || (100 ≤ kn.1 && kn.1 < 103) || !(zs6 r j == 0))
set_option maxRecDepth 100000 in
theorem zok1_ok : ∀ r, r < 229 → zok1 r = true := by decide +kernel
theorem zs6_P {G : zG} {H : Heap} (hP : va_P (zGD G) vwCl (zW2 G zs6 228) H) : va_P (zGD G) vwCl (zWs G zs6) H := by
  intro i q hq
  have hi : i < 228 := by
    have := (List.getElem?_eq_some_iff.mp hq).1
    simpa [zWs, zLAY_len] using this
  have hL : i < zLAY.length := by rw [zLAY_len]; exact hi
  have hy : zly (i + 1) = some zLAY[i] := by
    unfold zly
    rw [if_neg (by omega)]
    simp [hL]
  have e1 := zW2_get (G := G) (σ := zs6) hy (show i + 1 ≤ 228 by omega)
  have e2 := zWs_get (G := G) (σ := zs6) hy
  rw [show i + 1 - 1 = i by omega] at e1 e2
  rw [e2] at hq
  cases hq
  have hat := hP i _ e1
  have hk := zok1_ok (i + 1) (by omega)
  unfold zok1 at hk
  rw [hy] at hk
  dsimp only at hk
  generalize zLAY[i] = kn at hk hat ⊢
  obtain ⟨ci, n⟩ := kn
  have hk2 : ∀ j, j < n → (ci < 100 ∧ zft ci j < 2) ∨ (100 ≤ ci ∧ ci < 103) ∨ zs6 (i + 1) j ≠ 0 := fun j hj => by
    have := List.all_eq_true.mp hk j (List.mem_range.mpr hj)
    simp at this
    omega
  by_cases c1 : ci < 100
  · rw [zE2_obj G _ _ c1] at hat
    rw [zE_obj G _ _ c1]
    have e : (List.range n).map (fun j => zfv G (zs6 (i + 1)) ci (i + 1) j) = (List.range n).map (fun j => zfv2 G (zs6 (i + 1)) ci (i + 1) j) := by
      apply List.map_congr_left
      intro j hj
      have h3 := hk2 j (List.mem_range.mp hj)
      unfold zfv2 zfv
      cases hz : zft ci j with
      | zero => rfl
      | succ m =>
        cases m with
        | zero => rfl
        | succ m =>
          have : zs6 (i + 1) j ≠ 0 := by omega
          show _ = (if zs6 (i + 1) (j : Int) = 0 then _ else _)
          rw [if_neg this]
    rw [e]; exact hat
  · by_cases c2 : ci < 103
    · rw [zE2_int G _ _ (by omega) c2] at hat
      rw [zE_int G _ _ (by omega) c2]; exact hat
    · rw [zE2_ref G _ _ (by omega)] at hat
      rw [zE_ref G _ _ (by omega)]
      refine Eq.trans hat ?_
      show some (vp_cell _ (n, .inr _)) = some (vp_cell _ (n, .inr _))
      rw [vp_cell_q, vp_cell_q]
      congr 1
      refine zarr_c (fun j hj => ?_)
      have h3 := hk2 j hj
      rw [if_neg (by omega)]
def zokc (a : Nat) : Bool := decide ((zs6 a 0 = 0 ∧ zs6 a 1 = 0 ∧ zs6 a 2 = 0) ∧ (∀ c : Nat, c < 5 → zs6 (a + 7) c = -1) ∧ (∀ i : Nat, i < 20 → zs6 (a + 8) i = 0) ∧ (∀ s : Nat, s < 7 → zs6 (a + 9) s = 0) ∧ zs6 (a + 6) 0 = 0 ∧ (zs6 (a + 11) 0 = 3 ∧ zs6 (a + 11) 1 = 0) ∧ (zs6 (a + 13) 0 = 5 ∧ zs6 (a + 13) 1 = 0) ∧ (zs6 (a + 15) 0 = 4 ∧ zs6 (a + 15) 1 = 0) ∧ ∀ i : Nat, i < 8 → zs6 (a + 10) i = ((a + 17 + 4 * i : Nat) : Int))
set_option maxRecDepth 100000 in
theorem zokc_ok : zokc 2 = true ∧ zokc 51 = true ∧ zokc 119 = true ∧ zokc 168 = true := by decide +kernel
theorem zokc_ch {a : Nat} (h : zokc a = true) (g : zR) : zCh zs6 a (zem g) := by
  obtain ⟨⟨f0, f1, f2⟩, s1, s2, s3, s4, ⟨r1, r2⟩, ⟨r3, r4⟩, ⟨r5, r6⟩, hp⟩ := of_decide_eq_true h
  have n33 : zem g 33 = 0 := zem_hi g (by omega)
  have n48 : zem g 48 = 0 := zem_hi g (by omega)
  have n134 : zem g 134 = 0 := zem_hi g (by omega)
  have n59 : zem g 59 = 0 := zem_hi g (by omega)
  have n78 : zem g 78 = 0 := zem_hi g (by omega)
  have n109 : zem g 109 = 0 := zem_hi g (by omega)
  refine ⟨⟨⟨by rw [n33]; exact f0, by rw [n48]; exact f1, fun s h0 h1 => by omega, fun c h0 h1 => by omega⟩, ⟨fun c h0 h1 => ?_, fun i h0 h1 => ?_, fun s h0 h1 => ?_, ?_⟩, ⟨r1, by rw [r2, n59], fun i j h0 h1 => by omega⟩, ⟨r3, by rw [r4, n78], fun i j h0 h1 => by omega⟩, ⟨r5, by rw [r6, n109], fun i j h0 h1 => by omega⟩⟩, by rw [n134]; exact f2, id, ⟨fun i hi => ⟨hi, hp i hi⟩, fun i j _ _ h => h⟩, fun i hi h2 => by omega⟩
  · obtain ⟨n, rfl⟩ := Int.eq_ofNat_of_zero_le h0
    rw [zem_lo g (by omega)]; exact s1 n (by omega)
  · obtain ⟨n, rfl⟩ := Int.eq_ofNat_of_zero_le h0
    rw [zem_hi g (by omega)]; exact s2 n (by omega)
  · obtain ⟨n, rfl⟩ := Int.eq_ofNat_of_zero_le h0
    rw [zem_hi g (by omega)]; exact s3 n (by omega)
  · rw [zem_hi g (by omega)]; exact s4
set_option maxRecDepth 100000 in
theorem zs6_f : ((zs6 100 0 = 119 ∧ zs6 100 1 = 168) ∧ zs6 101 0 = 0 ∧ zs6 101 1 = 0 ∧ zs6 222 0 = 0 ∧ zs6 222 1 = 0) ∧ (zs6 217 6 = 0 ∧ zs6 106 1 = 0) ∧ (zs6 1 12 = zs6 217 7 ∧ zs6 1 13 = zs6 217 8) ∧ ∀ k : Nat, k < 3 → zs6 118 k = zs6 224 k := by decide +kernel
theorem zs6_iv : zIv zs6 := by
  obtain ⟨⟨g1, g2, g3, g4, g5⟩, ⟨t1, t2⟩, hf, hc⟩ := zs6_f
  obtain ⟨c1, c2, c3, c4⟩ := zokc_ok
  obtain ⟨g, hg⟩ : ∃ g, zs6 218 = zem g := by
    unfold zs6 zF6 zFe
    exact ⟨_, zwa_same _ 218 _⟩
  refine ⟨⟨by rw [hg]; exact zokc_ch c1 g, by rw [hg]; exact zVN_em g, (zokc_ch c2 g).st⟩, ⟨⟨g1, (zokc_ch c3 g).st, (zokc_ch c4 g).st⟩, ⟨⟨by rw [g2, g4], Or.inl g2⟩, by rw [g3, g5], Or.inl g3⟩, fun h => by omega, fun h => by omega⟩, ⟨?_, ?_, by rw [t1, t2]⟩, hf, fun k h0 h1 => ?_⟩
  · rw [t1]; exact ⟨by omega, fun i i0 i1 => by omega⟩
  · rw [t1]; intro i i0 i1; omega
  · obtain ⟨n, rfl⟩ := Int.eq_ofNat_of_zero_le h0
    exact hc n (by omega)
