theorem zbp_gt {S : Nat} {pre : List Nat} : ∀ (f x w : Nat), zbp S pre f x = some w → x < w
  | 0, x, w, h => by simp [zbp] at h
  | f + 1, x, w, h => by
    unfold zbp at h
    split at h
    · cases h
    · split at h
      · have := zbp_gt f _ w h; omega
      · cases h; omega
theorem znx_le {S : Nat} : ∀ {l l' : List Nat} {k : Nat}, (∀ v, v ∈ l → v ≤ S) → znx S k l = some l' → ∀ v, v ∈ l' → v ≤ S
  | [], l', k, _, h => by simp [znx] at h
  | x :: pre, l', k, hl, h => by
    rw [znx] at h
    cases hz : zbp S pre 8 x with
    | none =>
      rw [hz] at h
      exact znx_le (fun v hv => hl v (List.mem_cons_of_mem _ hv)) h
    | some w =>
      rw [hz] at h
      cases h
      intro v hv
      simp at hv
      rcases hv with ⟨-, rfl⟩ | rfl | hv
      · omega
      · exact zbp_le _ _ _ hz
      · exact hl v (List.mem_cons_of_mem _ hv)
theorem lpB1_X6_laysSeating {l : Launch} {d : Nat} {σ : zMem} (hd : 7 ≤ d) {n : Int} (hn : 0 ≤ n ∧ n ≤ 12) (hV : zVN (σ 218)) {B : Int × List Nat} : ∀ (m : Nat) (L : List Nat) (a : Int × List Nat) (σc : zMem), (zvs (σ 218 33).toNat m L).length < m → (∀ v, v ∈ L → v ≤ (σ 218 33).toNat) → zbest (zwl (σ 218) n.toNat) (zvs (σ 218 33).toNat m L) a = B → zLB σ σc n.toNat L a → zw l d mX6_laysSeating 69 [some (.ref 217), some (.int (zI n)), some (.int (zI (a.1))), some (.int (zI 1)), none, none] [] σc (fun a σ' => a = some (.int (zI B.1)) ∧ zNS σ σ' ∧ (B.1 ≠ -1 → zrl (σ 218 48).toNat B.2 (σ' 227))) := by
  intro m
  induction m with
  | zero => intro L a σc hlen; omega
  | succ m ih =>
    intro L a σc hlen hle hB hL
    have hs := hV.1
    have hv := hV.2.1
    have hy0 := hV.2.2.1
    have gN := hs.1
    have gC := hs.2.1
    have gW := hV.2.2.2.1.1
    have a8 : σc 218 = σ 218 := hL.1.1 218 (by decide) (by decide) (by decide) (by decide)
    have a9 : σc 218 48 = σ 218 48 := by rw [a8]
    have a10 : σc 218 33 = σ 218 33 := by rw [a8]
    have wb := zwl_b gW gC n.toNat L
    have ab := hL.2.2.2
    rw [zvs_s] at hB
    change zbest _ _ (if a.1 < zwl (σ 218) n.toNat L then (zwl (σ 218) n.toNat L, L) else a) = B at hB
    refine zw_iload_n 70 dX6_laysSeating_69 rfl rfl ?_
    refine zw_if_eq 159 73 dX6_laysSeating_70 (by decide) rfl (by omega) (fun h70 => ?_) (fun h70 => ?_)
    · exact absurd h70 (by decide)
    · refine zw_iconst 74 dX6_laysSeating_73 rfl ?_
      refine zw_istore 76 dX6_laysSeating_74 rfl (by decide) ?_
      refine zw_iconst 77 dX6_laysSeating_76 rfl ?_
      refine zw_istore 79 dX6_laysSeating_77 rfl (by decide) ?_
      refine zw_loc [true, true, true, true, true, true] rfl ?_
      refine lpB2_X6_laysSeating (σ := σ) (B := B) hd hn hV hL hle ?_ (σ 218 48).toNat 0 0 (by omega) (by omega) rfl
      refine zw_iload 124 dX6_laysSeating_122 rfl rfl ?_
      refine zw_iload_n 125 dX6_laysSeating_124 rfl rfl ?_
      skip
      refine zw_icmp_le 151 128 dX6_laysSeating_125 (by decide) rfl (by omega) (by omega) (fun h125 => ?_) (fun h125 => ?_)
      · obtain ⟨σd, hσd⟩ : ∃ σd, σd = σc := ⟨_, rfl⟩
        rw [← hσd] at hL a8 a9 a10 ⊢
        have a8d := a8
        have hL2 := hL
        rw [if_neg (show ¬ a.1 < zwl (σ 218) n.toNat L by omega)] at hB
        refine zw_aload_n 152 dX6_laysSeating_151 rfl rfl ?_
        refine zw_callV 155 _ _ dX6_laysSeating_152 rfl kX6_240 qX6_nextRow ly217 ⟨_, rfl, rfl⟩ (by decide) ((by have h := sp_X6_nextRow (l := l) (d := d - 1) (σ := σd) (L := L) (f := σd 226) (by omega) (by rw [a8d]; exact hV) (by rw [a8d]; exact hL2.2.1); rw [zwa_id] at h; exact h)) (by omega) rfl rfl (Nat.le_of_ble_eq_true rfl) (fun r σ' hq => ?_)
        rw [a8d] at hq
        cases hz : znx (σ 218 33).toNat 0 L with
        | none =>
          rw [hz] at hq
          obtain ⟨rfl, f9, rfl⟩ := hq
          rw [hz] at hB
          have hB3 : a = B := hB
          refine zw_istore_n 156 dX6_laysSeating_155 rfl (by decide) ?_
          refine zw_goto 69 dX6_laysSeating_156 (by decide) ?_
          refine zw_iload_n 70 dX6_laysSeating_69 rfl rfl ?_
          refine zw_if_eq 159 73 dX6_laysSeating_70 (by decide) rfl (by omega) (fun h70 => ?_) (fun h70 => ?_)
          · refine zw_iload_n 160 dX6_laysSeating_159 rfl rfl ?_
            refine zw_iret dX6_laysSeating_160 rfl ?_
            subst hB3
            refine ⟨rfl, zLR_NS (zLR_mv hL2.1 (fun b h1 h2 h3 => zwa_ne _ _ h2)), fun hne => ?_⟩
            rw [zwa_ne _ _ (by decide)]; exact hL2.2.2.1 hne
          · exact absurd h70 (by decide)
        | some l2 =>
          rw [hz] at hq
          obtain ⟨rfl, f9, rfl, h9⟩ := hq
          rw [hz] at hB
          have hle2 := znx_le hle hz
          refine zw_istore_n 156 dX6_laysSeating_155 rfl (by decide) ?_
          refine zw_goto 69 dX6_laysSeating_156 (by decide) ?_
          refine zw_loc [true, true, true, true, false, false] rfl ?_
          have hlen2 : (zvs (σ 218 33).toNat m l2).length < m := by
            rw [zvs_s, hz] at hlen
            simpa using hlen
          exact ih l2 a _ hlen2 hle2 hB ⟨zLR_mv hL2.1 (fun b h1 h2 h3 => zwa_ne _ _ h2), by rw [zwa_same]; exact h9, fun hne => by rw [zwa_ne _ _ (by decide)]; exact hL2.2.2.1 hne, hL2.2.2.2⟩
      · refine zw_iload 130 dX6_laysSeating_128 rfl rfl ?_
        refine zw_istore_n 131 dX6_laysSeating_130 rfl (by decide) ?_
        refine zw_aload_n 132 dX6_laysSeating_131 rfl rfl ?_
        refine zw_getr 135 (226) (o := 9) dX6_laysSeating_132 rfl fX6_39 (by decide) rfl rfl ly217 ?_
        refine zw_iconst 136 dX6_laysSeating_135 rfl ?_
        refine zw_aload_n 137 dX6_laysSeating_136 rfl rfl ?_
        refine zw_getr 140 (227) (o := 10) dX6_laysSeating_137 rfl fX6_42 (by decide) rfl rfl ly217 ?_
        refine zw_iconst 141 dX6_laysSeating_140 rfl ?_
        refine zw_aload_n 142 dX6_laysSeating_141 rfl rfl ?_
        refine zw_getr 145 (218) (o := 1) dX6_laysSeating_142 rfl fX6_7 (by decide) rfl rfl ly217 ?_
        refine zw_bipush 147 dX6_laysSeating_145 rfl (by decide) ?_
        refine zw_iald 148 dX6_laysSeating_147 rfl ly218 (by omega) ?_
        refine zw_callS 151 _ _ dX6_laysSeating_148 rfl kX6_82 qX6_copies (sp_X6_copies (d := d - 1) ly226 ly227 (by omega) (by omega) (by omega) (Or.inl (by decide)) (by decide) (by decide)) (by omega) rfl rfl (Nat.le_of_ble_eq_true rfl) (fun r σ' hq => ?_)
        obtain ⟨rfl, rfl⟩ := hq
        rw [a9]
        have e7 : zrl (σ 218 48).toNat L (zwa σc 227 (zcy (σc 226) (σc 227) 0 0 (σ 218 48)) 227) := by
          rw [zwa_same]
          refine ⟨hL.2.1.1, fun i v hi => ?_, hL.2.1.2.2⟩
          have hl := (List.getElem?_eq_some_iff.mp hi).1
          rw [hL.2.1.1] at hl
          rw [← hL.2.1.2.1 i v hi]
          unfold zcy
          rw [if_pos (by omega)]; congr 1; omega
        have hL2 : zLB σ (zwa σc 227 (zcy (σc 226) (σc 227) 0 0 (σ 218 48))) n.toNat L (zwl (σ 218) n.toNat L, L) := ⟨zLR_mv hL.1 (fun b h1 h2 h3 => zwa_ne _ _ h3), by rw [zwa_ne _ _ (by decide)]; exact hL.2.1, fun _ => e7, by dsimp only; omega⟩
        have a8d : zwa σc 227 (zcy (σc 226) (σc 227) 0 0 (σ 218 48)) 218 = σ 218 := by rw [zwa_ne _ _ (by decide)]; exact a8
        generalize zwa σc 227 (zcy (σc 226) (σc 227) 0 0 (σ 218 48)) = σd at hL2 a8d ⊢
        rw [if_pos (show a.1 < zwl (σ 218) n.toNat L by omega)] at hB
        refine zw_aload_n 152 dX6_laysSeating_151 rfl rfl ?_
        refine zw_callV 155 _ _ dX6_laysSeating_152 rfl kX6_240 qX6_nextRow ly217 ⟨_, rfl, rfl⟩ (by decide) ((by have h := sp_X6_nextRow (l := l) (d := d - 1) (σ := σd) (L := L) (f := σd 226) (by omega) (by rw [a8d]; exact hV) (by rw [a8d]; exact hL2.2.1); rw [zwa_id] at h; exact h)) (by omega) rfl rfl (Nat.le_of_ble_eq_true rfl) (fun r σ' hq => ?_)
        rw [a8d] at hq
        cases hz : znx (σ 218 33).toNat 0 L with
        | none =>
          rw [hz] at hq
          obtain ⟨rfl, f9, rfl⟩ := hq
          rw [hz] at hB
          have hB3 : (zwl (σ 218) n.toNat L, L) = B := hB
          refine zw_istore_n 156 dX6_laysSeating_155 rfl (by decide) ?_
          refine zw_goto 69 dX6_laysSeating_156 (by decide) ?_
          refine zw_iload_n 70 dX6_laysSeating_69 rfl rfl ?_
          refine zw_if_eq 159 73 dX6_laysSeating_70 (by decide) rfl (by omega) (fun h70 => ?_) (fun h70 => ?_)
          · refine zw_iload_n 160 dX6_laysSeating_159 rfl rfl ?_
            refine zw_iret dX6_laysSeating_160 rfl ?_
            subst hB3
            refine ⟨rfl, zLR_NS (zLR_mv hL2.1 (fun b h1 h2 h3 => zwa_ne _ _ h2)), fun hne => ?_⟩
            rw [zwa_ne _ _ (by decide)]; exact hL2.2.2.1 hne
          · exact absurd h70 (by decide)
        | some l2 =>
          rw [hz] at hq
          obtain ⟨rfl, f9, rfl, h9⟩ := hq
          rw [hz] at hB
          have hle2 := znx_le hle hz
          refine zw_istore_n 156 dX6_laysSeating_155 rfl (by decide) ?_
          refine zw_goto 69 dX6_laysSeating_156 (by decide) ?_
          refine zw_loc [true, true, true, true, false, false] rfl ?_
          have hlen2 : (zvs (σ 218 33).toNat m l2).length < m := by
            rw [zvs_s, hz] at hlen
            simpa using hlen
          exact ih l2 (zwl (σ 218) n.toNat L, L) _ hlen2 hle2 hB ⟨zLR_mv hL2.1 (fun b h1 h2 h3 => zwa_ne _ _ h2), by rw [zwa_same]; exact h9, fun hne => by rw [zwa_ne _ _ (by decide)]; exact hL2.2.2.1 hne, hL2.2.2.2⟩
theorem zbest_1 {w : List Nat → Int} : ∀ (L : List (List Nat)) (a : Int × List Nat), a.1 ≤ (zbest w L a).1
  | [], a => Int.le_refl _
  | l :: L, a => by
    have := zbest_1 (w := w) L (if a.1 < w l then (w l, l) else a)
    unfold zbest
    split at this <;> split <;> first | (dsimp only at this ⊢; omega) | omega
theorem sp_X6_laysSeating {l : Launch} {d : Nat} {σ : zMem} (hd : 7 ≤ d) {n : Int} (hn : 0 ≤ n ∧ n ≤ 12) (hV : zVN (σ 218))  : zSp l d mX6_laysSeating [.ref 217, .int (zI n)] σ (fun a σ' => a = some (.int (zI ((zse (σ 218) n.toNat)).1)) ∧ zNS σ σ' ∧ zrl (σ 218 48).toNat ((zse (σ 218) n.toNat)).2 (σ' 227)) := by
  refine zSp_of oX6_laysSeating (Nat.le_of_ble_eq_true rfl) ?_
  show zw l d mX6_laysSeating 0 [some (.ref 217), some (.int (zI n)), none, none, none, none] [] σ _
  have gC := hV.1.2.1
  have gN := hV.1.1
  have gW := hV.2.2.2.1.1
  have hok := zvs_ok (σ 218 48).toNat (by omega) (σ 218 33).toNat (by omega)
  refine zw_iconst 1 dX6_laysSeating_0 rfl ?_
  refine zw_istore_n 2 dX6_laysSeating_1 rfl (by decide) ?_
  refine lpA1_X6_laysSeating (σ := σ) hd hn hV (fun σc hR => ?_) (σ 218 48).toNat 0 σ (by omega) (by omega) ⟨fun _ _ _ _ _ => rfl, fun c' h1 h2 => by omega, fun r h1 h2 => by omega, fun c' h1 h2 => by omega⟩
  have hrl : zrl (σ 218 48).toNat (List.replicate (σ 218 48).toNat 0) (σc 226) := by
    refine ⟨by simp, fun i v hi => ?_, fun v hv => ?_⟩
    · have hl := (List.getElem?_eq_some_iff.mp hi).1
      simp at hl
      simp [hl] at hi
      subst hi
      rw [hR.2.2.2 _ (by omega) (by omega)]; rfl
    · simp at hv; omega
  refine zw_mono (lpB1_X6_laysSeating (σ := σ) (B := zse (σ 218) n.toNat) hd hn hV 10000 (List.replicate (σ 218 48).toNat 0) (-1, []) σc (by rw [hok.1]; exact hok.2) (fun v hv => by simp at hv; omega) (by rw [hok.1]; rfl) ⟨⟨hR.1, hR.2.1, fun r h1 h2 => by omega, fun c' h1 h2 => by omega⟩, hrl, fun h => absurd rfl h, by decide, by decide⟩) ?_
  rintro a σ' ⟨h1, h2, h3⟩
  refine ⟨h1, h2, h3 ?_⟩
  have hge : 0 ≤ (zse (σ 218) n.toNat).1 := by
    unfold zse
    rw [← hok.1]
    rw [show (10000 : Nat) = 9999 + 1 from rfl, zvs_s]
    have hw := zwl_b gW gC n.toNat (List.replicate (σ 218 48).toNat 0)
    unfold zbest
    rw [if_pos (by dsimp only; omega)]
    exact Int.le_trans hw.1 (zbest_1 (w := zwl (σ 218) n.toNat) _ (zwl (σ 218) n.toNat (List.replicate (σ 218 48).toNat 0), List.replicate (σ 218 48).toNat 0))
  omega
theorem sp_X6_seating {l : Launch} {d : Nat} {σ : zMem} (hd : 8 ≤ d) {n c : Int} (hn : -2147483648 ≤ n ∧ n < 2147483648) (hc : -2147483648 ≤ c ∧ c < 2147483648) (hV : zVN (σ 218))  : zSp l d mX6_seating [.ref 217, .int (zI n), .int (zI c)] σ (zAn 224 ((0 ≤ n ∧ n ≤ 12) ∧ -1 ≤ c ∧ c ≤ σ 218 48 - 1) (zsv (σ 218) n.toNat c) 0 (-10) σ) := by
  refine zSp_of oX6_seating (Nat.le_of_ble_eq_true rfl) ?_
  show zw l d mX6_seating 0 [some (.ref 217), some (.int (zI n)), some (.int (zI c)), none] [] σ _
  have hs := hV.1
  have hv := hV.2.1
  have hy := hV.2.2.1
  have gN := hs.1
  have gC := hs.2.1
  refine zw_iload_n 1 dX6_seating_0 rfl rfl ?_
  refine zw_i2l 2 dX6_seating_1 rfl (by omega) ?_
  refine zw_lconst 3 0 dX6_seating_2 rfl (by decide) ?_
  refine zw_ldc2 6 (12) dX6_seating_3 rfl cX6_243 ?_
  refine zw_callS 9 _ _ dX6_seating_6 rfl kX6_86 qX6_in (sp_X6_in (d := d - 1) (by omega) (by omega) (by omega)) (by omega) rfl rfl (Nat.le_of_ble_eq_true rfl) (fun r σ' hq => ?_)
  obtain ⟨rfl, rfl⟩ := hq
  refine zw_if_eq 25 12 dX6_seating_9 (by decide) rfl (by omega) (fun h9 => ?_) (fun h9 => ?_)
  · refine zw_aload_n 26 dX6_seating_25 rfl rfl ?_
    refine zw_callV 29 _ _ dX6_seating_26 rfl kX6_200 qX6_badTen ly217 ⟨_, rfl, rfl⟩ (by decide) (sp_X6_badTen (d := d - 1) (by omega)) (by omega) rfl rfl (Nat.le_of_ble_eq_true rfl) (fun r σ' hq => ?_)
    obtain ⟨rfl, rfl⟩ := hq
    refine zw_iret dX6_seating_29 rfl ?_
    first
      | exact zAn_f (by omega)
      | exact zAn_t (by omega) (if_pos h38).symm h2
      | exact zAn_t (by omega) ((zat_eq h3 (by omega) (by omega)).trans (if_neg h38).symm) h2
  · refine zw_iload_n 13 dX6_seating_12 rfl rfl ?_
    refine zw_iconst 14 dX6_seating_13 rfl ?_
    refine zw_icmp_eq 30 17 dX6_seating_14 (by decide) rfl (by omega) (by omega) (fun h14 => ?_) (fun h14 => ?_)
    · refine zw_aload_n 31 dX6_seating_30 rfl rfl ?_
      refine zw_iload_n 32 dX6_seating_31 rfl rfl ?_
      refine zw_callV 35 _ _ dX6_seating_32 rfl kX6_245 qX6_laysSeating ly217 ⟨_, rfl, rfl⟩ (by decide) (sp_X6_laysSeating (d := d - 1) (by omega) (by omega) hV) (by omega) rfl rfl (Nat.le_of_ble_eq_true rfl) (fun r σ' hq => ?_)
      obtain ⟨rfl, h2, h3⟩ := hq
      have a8 : σ' 218 = σ 218 := h2.1 218 (by unfold zSk; omega)
      refine zw_istore_n 36 dX6_seating_35 rfl (by decide) ?_
      refine zw_iload_n 37 dX6_seating_36 rfl rfl ?_
      refine zw_iconst 38 dX6_seating_37 rfl ?_
      refine zw_icmp_ne 45 41 dX6_seating_38 (by decide) rfl (by omega) (by omega) (fun h38 => ?_) (fun h38 => ?_)
      · refine zw_aload_n 46 dX6_seating_45 rfl rfl ?_
        refine zw_getr 49 (227) (o := 10) dX6_seating_46 rfl fX6_42 (by decide) rfl rfl ly217 ?_
        refine zw_iload_n 50 dX6_seating_49 rfl rfl ?_
        refine zw_iald 51 dX6_seating_50 rfl ly227 (by omega) ?_
        skip
        refine zw_iret dX6_seating_51 rfl ?_
        first
          | exact zAn_f (by omega)
          | exact zAn_t (by omega) (if_pos h38).symm h2
          | exact zAn_t (by omega) ((zat_eq h3 (by omega) (by omega)).trans (if_neg h38).symm) h2
      · refine zw_iload_n 42 dX6_seating_41 rfl rfl ?_
        refine zw_goto 51 dX6_seating_42 (by decide) ?_
        refine zw_iret dX6_seating_51 rfl ?_
        first
          | exact zAn_f (by omega)
          | exact zAn_t (by omega) (if_pos h38).symm h2
          | exact zAn_t (by omega) ((zat_eq h3 (by omega) (by omega)).trans (if_neg h38).symm) h2
    · refine zw_aload_n 18 dX6_seating_17 rfl rfl ?_
      refine zw_iload_n 19 dX6_seating_18 rfl rfl ?_
      refine zw_callV 22 _ _ dX6_seating_19 rfl kX6_194 qX6_isCanon ly217 ⟨_, rfl, rfl⟩ (by decide) (sp_X6_isCanon (d := d - 1) (by omega) (by omega) (by omega)) (by omega) rfl rfl (Nat.le_of_ble_eq_true rfl) (fun r σ' hq => ?_)
      obtain ⟨rfl, rfl⟩ := hq
      refine zw_if_ne 30 25 dX6_seating_22 (by decide) rfl (by omega) (fun h22 => ?_) (fun h22 => ?_)
      · refine zw_aload_n 31 dX6_seating_30 rfl rfl ?_
        refine zw_iload_n 32 dX6_seating_31 rfl rfl ?_
        refine zw_callV 35 _ _ dX6_seating_32 rfl kX6_245 qX6_laysSeating ly217 ⟨_, rfl, rfl⟩ (by decide) (sp_X6_laysSeating (d := d - 1) (by omega) (by omega) hV) (by omega) rfl rfl (Nat.le_of_ble_eq_true rfl) (fun r σ' hq => ?_)
        obtain ⟨rfl, h2, h3⟩ := hq
        have a8 : σ' 218 = σ 218 := h2.1 218 (by unfold zSk; omega)
        refine zw_istore_n 36 dX6_seating_35 rfl (by decide) ?_
        refine zw_iload_n 37 dX6_seating_36 rfl rfl ?_
        refine zw_iconst 38 dX6_seating_37 rfl ?_
        refine zw_icmp_ne 45 41 dX6_seating_38 (by decide) rfl (by omega) (by omega) (fun h38 => ?_) (fun h38 => ?_)
        · refine zw_aload_n 46 dX6_seating_45 rfl rfl ?_
          refine zw_getr 49 (227) (o := 10) dX6_seating_46 rfl fX6_42 (by decide) rfl rfl ly217 ?_
          refine zw_iload_n 50 dX6_seating_49 rfl rfl ?_
          refine zw_iald 51 dX6_seating_50 rfl ly227 (by omega) ?_
          skip
          refine zw_iret dX6_seating_51 rfl ?_
          first
            | exact zAn_f (by omega)
            | exact zAn_t (by omega) (if_pos h38).symm h2
            | exact zAn_t (by omega) ((zat_eq h3 (by omega) (by omega)).trans (if_neg h38).symm) h2
        · refine zw_iload_n 42 dX6_seating_41 rfl rfl ?_
          refine zw_goto 51 dX6_seating_42 (by decide) ?_
          refine zw_iret dX6_seating_51 rfl ?_
          first
            | exact zAn_f (by omega)
            | exact zAn_t (by omega) (if_pos h38).symm h2
            | exact zAn_t (by omega) ((zat_eq h3 (by omega) (by omega)).trans (if_neg h38).symm) h2
      · refine zw_aload_n 26 dX6_seating_25 rfl rfl ?_
        refine zw_callV 29 _ _ dX6_seating_26 rfl kX6_200 qX6_badTen ly217 ⟨_, rfl, rfl⟩ (by decide) (sp_X6_badTen (d := d - 1) (by omega)) (by omega) rfl rfl (Nat.le_of_ble_eq_true rfl) (fun r σ' hq => ?_)
        obtain ⟨rfl, rfl⟩ := hq
        refine zw_iret dX6_seating_29 rfl ?_
        first
          | exact zAn_f (by omega)
          | exact zAn_t (by omega) (if_pos h38).symm h2
          | exact zAn_t (by omega) ((zat_eq h3 (by omega) (by omega)).trans (if_neg h38).symm) h2
