/-- the best way so far: how many wishes, the way -/
def zbest (w : List Nat → Int) : List (List Nat) → Int × List Nat → Int × List Nat
  | [], a => a
  | l :: L, a => zbest w L (if a.1 < w l then (w l, l) else a)
def zat (n : Nat) (l : List Nat) (c : Int) : Int := ((l.getD (n - 1 - c.toNat) 0 : Nat) : Int) - 1
/-- how many wishes are so by a way -/
def zwl (N : zR) (n : Nat) (l : List Nat) : Int := zct (fun c => zfu N n c (zat (N 48).toNat l c)) (N 48).toNat
def zse (N : zR) (n : Nat) : Int × List Nat := zbest (zwl N n) (zdf (N 33).toNat (N 48).toNat []) (-1, [])
def zsv (N : zR) (n : Nat) (c : Int) : Int := if c = -1 then (zse N n).1 else zat (N 48).toNat (zse N n).2 c
theorem zat_eq {n : Nat} {l : List Nat} {f : zR} (h : zrl n l f) {c : Int} (h0 : 0 ≤ c) (h1 : c < n) : f c = zat n l c := by
  have hl : n - 1 - c.toNat < l.length := by rw [h.1]; omega
  have := h.2.1 (n - 1 - c.toNat) _ (List.getElem?_eq_getElem hl)
  unfold zat
  rw [List.getD_eq_getElem?_getD, List.getElem?_eq_getElem hl, Option.getD_some, ← this]
  congr 1; omega
theorem zat_b {n : Nat} {l : List Nat} {f : zR} (h : zrl n l f) {c : Int} (h0 : 0 ≤ c) (h1 : c < n) : -1 ≤ f c ∧ f c ≤ 6 := by
  have hl : n - 1 - c.toNat < l.length := by rw [h.1]; omega
  have e1 := h.2.1 (n - 1 - c.toNat) _ (List.getElem?_eq_getElem hl)
  have e2 := h.2.2 _ (List.getElem_mem hl)
  rw [show (n : Int) - 1 - ((n - 1 - c.toNat : Nat) : Int) = c by omega] at e1
  omega
/-- what holds while all is laid: the table of wishes, rows -/
def zLR (σ σc : zMem) (n : Nat) (c q cr : Int) : Prop := (∀ b, b ≠ 220 → b ≠ 225 → b ≠ 226 → b ≠ 227 → σc b = σ b) ∧ (∀ c', 0 ≤ c' → c' < c → ∀ r, 0 ≤ r → r ≤ σ 218 33 → σc 225 (8 * c' + r) = zfu (σ 218) n c' (r - 1)) ∧ (∀ r, 0 ≤ r → r < q → σc 225 (8 * c + r) = zfu (σ 218) n c (r - 1)) ∧ (∀ c', 0 ≤ c' → c' < cr → σc 226 c' = -1)
theorem zLR_NS {σ σc : zMem} {n : Nat} {c q cr : Int} (h : zLR σ σc n c q cr) : zNS σ σc :=
  ⟨fun b hb => h.1 b (fun q => hb (by unfold zSk; omega)) (fun q => hb (by unfold zSk; omega)) (fun q => hb (by unfold zSk; omega)) (fun q => hb (by unfold zSk; omega)), by rw [h.1 106 (by decide) (by decide) (by decide) (by decide)], by rw [h.1 217 (by decide) (by decide) (by decide) (by decide)], by rw [h.1 217 (by decide) (by decide) (by decide) (by decide)], by rw [h.1 217 (by decide) (by decide) (by decide) (by decide)]⟩
theorem lpA2_X6_laysSeating {l : Launch} {d : Nat} {σ : zMem} (hd : 7 ≤ d) {n : Int} (hn : 0 ≤ n ∧ n ≤ 12) (hV : zVN (σ 218)) {Q : Option Value → zMem → Prop} {c : Int} (hc : 0 ≤ c ∧ c < σ 218 48) (hx : ∀ σc, zLR σ σc n.toNat (c + 1) 0 (c + 1) → zw l d mX6_laysSeating 59 [some (.ref 217), some (.int (zI n)), some (.int (zI c)), none, none, none] [] σc Q) : ∀ (m : Nat) (q : Int) (σc : zMem), q + m = σ 218 33 + 1 → 0 ≤ q → zLR σ σc n.toNat c q (c + 1) → zw l d mX6_laysSeating 22 [some (.ref 217), some (.int (zI n)), some (.int (zI c)), some (.int (zI (q - 1))), none, none] [] σc (Q) := by
  intro m
  induction m with
  | zero =>
    intro q σc hk hk0 hR
    have hs := hV.1
    have hv := hV.2.1
    have hy0 := hV.2.2.1
    have gN := hs.1
    have gC := hs.2.1
    have gW := hV.2.2.2.1.1
    have a8 : σc 218 = σ 218 := hR.1 218 (by decide) (by decide) (by decide) (by decide)
    have a9 : σc 218 48 = σ 218 48 := by rw [a8]
    have a10 : σc 218 33 = σ 218 33 := by rw [a8]
    have fb := zfu_b (σ 218) gW n.toNat c (q - 1)
    refine zw_iload_n 23 dX6_laysSeating_22 rfl rfl ?_
    refine zw_aload_n 24 dX6_laysSeating_23 rfl rfl ?_
    refine zw_getr 27 (218) (o := 1) dX6_laysSeating_24 rfl fX6_7 (by decide) rfl rfl ly217 ?_
    refine zw_bipush 29 dX6_laysSeating_27 rfl (by decide) ?_
    refine zw_iald 30 dX6_laysSeating_29 rfl ly218 (by omega) ?_
    refine zw_icmp_ge 59 33 dX6_laysSeating_30 (by decide) rfl (by omega) (by omega) (fun h30 => ?_) (fun h30 => ?_)
    · refine zw_loc [true, true, true, false, false, false] rfl ?_
      exact hx σc ⟨hR.1, fun c' h1 h2 r h3 h4 => by
        by_cases h9 : c' = c
        · subst h9; exact hR.2.2.1 r h3 (by omega)
        · exact hR.2.1 c' h1 (by omega) r h3 h4, fun r h1 h2 => by omega, hR.2.2.2⟩
    · exfalso; omega
  | succ m ih =>
    intro q σc hk hk0 hR
    have hs := hV.1
    have hv := hV.2.1
    have hy0 := hV.2.2.1
    have gN := hs.1
    have gC := hs.2.1
    have gW := hV.2.2.2.1.1
    have a8 : σc 218 = σ 218 := hR.1 218 (by decide) (by decide) (by decide) (by decide)
    have a9 : σc 218 48 = σ 218 48 := by rw [a8]
    have a10 : σc 218 33 = σ 218 33 := by rw [a8]
    have fb := zfu_b (σ 218) gW n.toNat c (q - 1)
    refine zw_iload_n 23 dX6_laysSeating_22 rfl rfl ?_
    refine zw_aload_n 24 dX6_laysSeating_23 rfl rfl ?_
    refine zw_getr 27 (218) (o := 1) dX6_laysSeating_24 rfl fX6_7 (by decide) rfl rfl ly217 ?_
    refine zw_bipush 29 dX6_laysSeating_27 rfl (by decide) ?_
    refine zw_iald 30 dX6_laysSeating_29 rfl ly218 (by omega) ?_
    refine zw_icmp_ge 59 33 dX6_laysSeating_30 (by decide) rfl (by omega) (by omega) (fun h30 => ?_) (fun h30 => ?_)
    · refine zw_loc [true, true, true, false, false, false] rfl ?_
      exact hx σc ⟨hR.1, fun c' h1 h2 r h3 h4 => by
        by_cases h9 : c' = c
        · subst h9; exact hR.2.2.1 r h3 (by omega)
        · exact hR.2.1 c' h1 (by omega) r h3 h4, fun r h1 h2 => by omega, hR.2.2.2⟩
    · refine zw_aload_n 34 dX6_laysSeating_33 rfl rfl ?_
      refine zw_getr 37 (225) (o := 8) dX6_laysSeating_34 rfl fX6_36 (by decide) rfl rfl ly217 ?_
      refine zw_bipush 39 dX6_laysSeating_37 rfl (by decide) ?_
      refine zw_iload_n 40 dX6_laysSeating_39 rfl rfl ?_
      refine zw_imul 41 dX6_laysSeating_40 rfl ?_
      refine zw_iload_n 42 dX6_laysSeating_41 rfl rfl ?_
      refine zw_iadd 43 dX6_laysSeating_42 rfl ?_
      refine zw_iconst 44 dX6_laysSeating_43 rfl ?_
      refine zw_iadd 45 dX6_laysSeating_44 rfl ?_
      refine zw_aload_n 46 dX6_laysSeating_45 rfl rfl ?_
      refine zw_iload_n 47 dX6_laysSeating_46 rfl rfl ?_
      refine zw_iload_n 48 dX6_laysSeating_47 rfl rfl ?_
      refine zw_iload_n 49 dX6_laysSeating_48 rfl rfl ?_
      refine zw_callV 52 _ _ dX6_laysSeating_49 rfl kX6_237 qX6_fulfilled ly217 ⟨_, rfl, rfl⟩ (by decide) (sp_X6_fulfilled (d := d - 1) (by omega) (by omega) (by omega) (by omega) (by rw [a8]; exact hV)) (by omega) rfl rfl (Nat.le_of_ble_eq_true rfl) (fun r σ' hq => ?_)
      obtain ⟨rfl, f, rfl⟩ := hq
      rw [a8]
      refine zw_iast 53 dX6_laysSeating_52 rfl ly225 (by omega) ?_
      have hR2 : zLR σ (zwr (zwa σc 220 f) 225 (8 * c + (q - 1) + 1) (zfu (σ 218) n.toNat c (q - 1))) n.toNat c (q + 1) (c + 1) := by
        have e5 : ∀ j, zwr (zwa σc 220 f) 225 (8 * c + (q - 1) + 1) (zfu (σ 218) n.toNat c (q - 1)) 225 j = if j = 8 * c + q then zfu (σ 218) n.toNat c (q - 1) else σc 225 j := fun j => by
          unfold zwr; rw [zwa_same, zwa_ne _ _ (by decide)]; unfold zup; rw [show 8 * c + (q - 1) + 1 = 8 * c + q by omega]
        refine ⟨fun b h1 h2 h3 h4 => by rw [zwr_ne _ _ _ h2, zwa_ne _ _ h1]; exact hR.1 b h1 h2 h3 h4, fun c' h1 h2 r h3 h4 => by rw [e5, if_neg (by omega)]; exact hR.2.1 c' h1 h2 r h3 h4, fun r h1 h2 => ?_, fun c' h1 h2 => by rw [zwr_ne _ _ _ (by decide), zwa_ne _ _ (by decide)]; exact hR.2.2.2 c' h1 h2⟩
        rw [e5]
        by_cases h9 : r = q
        · subst h9; rw [if_pos rfl]
        · rw [if_neg (by omega)]; exact hR.2.2.1 r h1 (by omega)
      generalize zwr (zwa σc 220 f) 225 _ _ = σd at hR2 ⊢
      refine zw_iinc 56 dX6_laysSeating_53 rfl (by decide) rfl ?_
      refine zw_goto 22 dX6_laysSeating_56 (by decide) ?_
      refine zw_loc [true, true, true, true, false, false] rfl ?_
      have ih2 := ih (q + 1) _ (by omega) (by omega) hR2
      rw [show q + 1 - 1 = q - 1 + 1 by omega] at ih2
      exact ih2
theorem lpA1_X6_laysSeating {l : Launch} {d : Nat} {σ : zMem} (hd : 7 ≤ d) {n : Int} (hn : 0 ≤ n ∧ n ≤ 12) (hV : zVN (σ 218)) {Q : Option Value → zMem → Prop} (hx : ∀ σc, zLR σ σc n.toNat (σ 218 48) 0 (σ 218 48) → zw l d mX6_laysSeating 69 [some (.ref 217), some (.int (zI n)), some (.int (zI (-1))), some (.int (zI 1)), none, none] [] σc Q) : ∀ (m : Nat) (c : Int) (σc : zMem), c + m = σ 218 48 → 0 ≤ c → zLR σ σc n.toNat c 0 c → zw l d mX6_laysSeating 2 [some (.ref 217), some (.int (zI n)), some (.int (zI c)), none, none, none] [] σc (Q) := by
  intro m
  induction m with
  | zero =>
    intro c σc hk hk0 hR
    have hs := hV.1
    have hv := hV.2.1
    have hy0 := hV.2.2.1
    have gN := hs.1
    have gC := hs.2.1
    have gW := hV.2.2.2.1.1
    have a8 : σc 218 = σ 218 := hR.1 218 (by decide) (by decide) (by decide) (by decide)
    have a9 : σc 218 48 = σ 218 48 := by rw [a8]
    have a10 : σc 218 33 = σ 218 33 := by rw [a8]
    refine zw_iload_n 3 dX6_laysSeating_2 rfl rfl ?_
    refine zw_aload_n 4 dX6_laysSeating_3 rfl rfl ?_
    refine zw_getr 7 (218) (o := 1) dX6_laysSeating_4 rfl fX6_7 (by decide) rfl rfl ly217 ?_
    refine zw_bipush 9 dX6_laysSeating_7 rfl (by decide) ?_
    refine zw_iald 10 dX6_laysSeating_9 rfl ly218 (by omega) ?_
    refine zw_icmp_ge 65 13 dX6_laysSeating_10 (by decide) rfl (by omega) (by omega) (fun h10 => ?_) (fun h10 => ?_)
    · refine zw_iconst 66 dX6_laysSeating_65 rfl ?_
      refine zw_istore_n 67 dX6_laysSeating_66 rfl (by decide) ?_
      refine zw_iconst 68 dX6_laysSeating_67 rfl ?_
      refine zw_istore_n 69 dX6_laysSeating_68 rfl (by decide) ?_
      refine zw_loc [true, true, true, true, false, false] rfl ?_
      obtain rfl : c = σ 218 48 := by omega
      exact hx σc hR
    · exfalso; omega
  | succ m ih =>
    intro c σc hk hk0 hR
    have hs := hV.1
    have hv := hV.2.1
    have hy0 := hV.2.2.1
    have gN := hs.1
    have gC := hs.2.1
    have gW := hV.2.2.2.1.1
    have a8 : σc 218 = σ 218 := hR.1 218 (by decide) (by decide) (by decide) (by decide)
    have a9 : σc 218 48 = σ 218 48 := by rw [a8]
    have a10 : σc 218 33 = σ 218 33 := by rw [a8]
    refine zw_iload_n 3 dX6_laysSeating_2 rfl rfl ?_
    refine zw_aload_n 4 dX6_laysSeating_3 rfl rfl ?_
    refine zw_getr 7 (218) (o := 1) dX6_laysSeating_4 rfl fX6_7 (by decide) rfl rfl ly217 ?_
    refine zw_bipush 9 dX6_laysSeating_7 rfl (by decide) ?_
    refine zw_iald 10 dX6_laysSeating_9 rfl ly218 (by omega) ?_
    refine zw_icmp_ge 65 13 dX6_laysSeating_10 (by decide) rfl (by omega) (by omega) (fun h10 => ?_) (fun h10 => ?_)
    · refine zw_iconst 66 dX6_laysSeating_65 rfl ?_
      refine zw_istore_n 67 dX6_laysSeating_66 rfl (by decide) ?_
      refine zw_iconst 68 dX6_laysSeating_67 rfl ?_
      refine zw_istore_n 69 dX6_laysSeating_68 rfl (by decide) ?_
      refine zw_loc [true, true, true, true, false, false] rfl ?_
      obtain rfl : c = σ 218 48 := by omega
      exact hx σc hR
    · refine zw_aload_n 14 dX6_laysSeating_13 rfl rfl ?_
      refine zw_getr 17 (226) (o := 9) dX6_laysSeating_14 rfl fX6_39 (by decide) rfl rfl ly217 ?_
      refine zw_iload_n 18 dX6_laysSeating_17 rfl rfl ?_
      refine zw_iconst 19 dX6_laysSeating_18 rfl ?_
      refine zw_iast 20 dX6_laysSeating_19 rfl ly226 (by omega) ?_
      have hR2 : zLR σ (zwr σc 226 c (-1)) n.toNat c 0 (c + 1) := by
        refine ⟨fun b h1 h2 h3 h4 => by rw [zwr_ne _ _ _ h3]; exact hR.1 b h1 h2 h3 h4, fun c' h1 h2 r h3 h4 => by rw [zwr_ne _ _ _ (by decide)]; exact hR.2.1 c' h1 h2 r h3 h4, fun r h1 h2 => by omega, fun c' h1 h2 => ?_⟩
        by_cases h9 : c' = c
        · subst h9; exact zwr_same _ _ _ _
        · rw [zwr_ni _ _ _ h9]; exact hR.2.2.2 c' h1 (by omega)
      generalize zwr σc 226 c (-1) = σd at hR2 ⊢
      refine zw_iconst 21 dX6_laysSeating_20 rfl ?_
      refine zw_istore_n 22 dX6_laysSeating_21 rfl (by decide) ?_
      exact lpA2_X6_laysSeating (σ := σ) hd hn hV ⟨hk0, by omega⟩ (fun σe hRe => by
        refine zw_iinc 62 dX6_laysSeating_59 rfl (by decide) rfl ?_
        refine zw_goto 2 dX6_laysSeating_62 (by decide) ?_
        refine zw_loc [true, true, true, false, false, false] rfl ?_
        exact ih (c + 1) σe (by omega) (by omega) hRe) (σ 218 33 + 1).toNat 0 σd (by omega) (by omega) hR2
theorem zvs_s (S f : Nat) (l : List Nat) : zvs S (f + 1) l = l :: (match znx S 0 l with
    | some l' => zvs S f l'
    | none => []) := rfl
/-- the memory while ways are tried: the table stands, l is laid, the best so far -/
def zLB (σ σc : zMem) (n : Nat) (l : List Nat) (a : Int × List Nat) : Prop := zLR σ σc n (σ 218 48) 0 0 ∧ zrl (σ 218 48).toNat l (σc 226) ∧ (a.1 ≠ -1 → zrl (σ 218 48).toNat a.2 (σc 227)) ∧ -1 ≤ a.1 ∧ a.1 ≤ 36
theorem zLR_mv {σ σc σd : zMem} {n : Nat} {c : Int} (h : zLR σ σc n c 0 0) (hd : ∀ b, b ≠ 220 → b ≠ 226 → b ≠ 227 → σd b = σc b) : zLR σ σd n c 0 0 :=
  ⟨fun b h1 h2 h3 h4 => by rw [hd b h1 h3 h4]; exact h.1 b h1 h2 h3 h4, fun c' h1 h2 r h3 h4 => by rw [hd 225 (by decide) (by decide) (by decide)]; exact h.2.1 c' h1 h2 r h3 h4, fun r h1 h2 => by omega, fun c' h1 h2 => by omega⟩
theorem zwl_b {N : zR} (hN : 0 ≤ N 59 ∧ N 59 ≤ 6) (hC : 0 ≤ N 48 ∧ N 48 ≤ 5) (n : Nat) (l : List Nat) : 0 ≤ zwl N n l ∧ zwl N n l ≤ 30 := by
  have := zct_b2 (f := fun c => zfu N n c (zat (N 48).toNat l c)) (B := 6) (N 48).toNat (fun k _ _ => zfu_b N hN n k _)
  unfold zwl; omega
theorem lpB2_X6_laysSeating {l : Launch} {d : Nat} {σ : zMem} (hd : 7 ≤ d) {n : Int} (hn : 0 ≤ n ∧ n ≤ 12) (hV : zVN (σ 218)) {B : Int × List Nat} {σc : zMem} {L : List Nat} {a : Int × List Nat} {most : Int} {Q : Option Value → zMem → Prop} (hL : zLB σ σc n.toNat L a) (hle : ∀ v, v ∈ L → v ≤ (σ 218 33).toNat) (hx : zw l d mX6_laysSeating 122 [some (.ref 217), some (.int (zI n)), some (.int (zI most)), some (.int (zI 1)), some (.int (zI (zwl (σ 218) n.toNat L))), none] [] σc Q) : ∀ (m : Nat) (c : Int) (sm : Int), c + m = σ 218 48 → 0 ≤ c → sm = zct (fun c => zfu (σ 218) n.toNat c (zat (σ 218 48).toNat L c)) c.toNat → zw l d mX6_laysSeating 79 [some (.ref 217), some (.int (zI n)), some (.int (zI most)), some (.int (zI 1)), some (.int (zI sm)), some (.int (zI c))] [] σc (Q) := by
  intro m
  induction m with
  | zero =>
    intro c sm hk hk0 hsm
    have hs := hV.1
    have hv := hV.2.1
    have hy0 := hV.2.2.1
    have gN := hs.1
    have gC := hs.2.1
    have gW := hV.2.2.2.1.1
    have a8 : σc 218 = σ 218 := hL.1.1 218 (by decide) (by decide) (by decide) (by decide)
    have a9 : σc 218 48 = σ 218 48 := by rw [a8]
    have a10 : σc 218 33 = σ 218 33 := by rw [a8]
    refine zw_iload 81 dX6_laysSeating_79 rfl rfl ?_
    refine zw_aload_n 82 dX6_laysSeating_81 rfl rfl ?_
    refine zw_getr 85 (218) (o := 1) dX6_laysSeating_82 rfl fX6_7 (by decide) rfl rfl ly217 ?_
    refine zw_bipush 87 dX6_laysSeating_85 rfl (by decide) ?_
    refine zw_iald 88 dX6_laysSeating_87 rfl ly218 (by omega) ?_
    refine zw_icmp_ge 122 91 dX6_laysSeating_88 (by decide) rfl (by omega) (by omega) (fun h88 => ?_) (fun h88 => ?_)
    · refine zw_loc [true, true, true, true, true, false] rfl ?_
      rw [hsm, show c.toNat = (σ 218 48).toNat by congr 1; omega]
      exact hx
    · exfalso; omega
  | succ m ih =>
    intro c sm hk hk0 hsm
    have hs := hV.1
    have hv := hV.2.1
    have hy0 := hV.2.2.1
    have gN := hs.1
    have gC := hs.2.1
    have gW := hV.2.2.2.1.1
    have a8 : σc 218 = σ 218 := hL.1.1 218 (by decide) (by decide) (by decide) (by decide)
    have a9 : σc 218 48 = σ 218 48 := by rw [a8]
    have a10 : σc 218 33 = σ 218 33 := by rw [a8]
    refine zw_iload 81 dX6_laysSeating_79 rfl rfl ?_
    refine zw_aload_n 82 dX6_laysSeating_81 rfl rfl ?_
    refine zw_getr 85 (218) (o := 1) dX6_laysSeating_82 rfl fX6_7 (by decide) rfl rfl ly217 ?_
    refine zw_bipush 87 dX6_laysSeating_85 rfl (by decide) ?_
    refine zw_iald 88 dX6_laysSeating_87 rfl ly218 (by omega) ?_
    refine zw_icmp_ge 122 91 dX6_laysSeating_88 (by decide) rfl (by omega) (by omega) (fun h88 => ?_) (fun h88 => ?_)
    · refine zw_loc [true, true, true, true, true, false] rfl ?_
      rw [hsm, show c.toNat = (σ 218 48).toNat by congr 1; omega]
      exact hx
    · have e2 := zat_eq hL.2.1 (c := c) hk0 (by omega)
      have e4 := zat_b hL.2.1 (c := c) hk0 (by omega)
      have e5 : σc 226 c ≤ σ 218 33 - 1 := by
        have hl : (σ 218 48).toNat - 1 - c.toNat < L.length := by rw [hL.2.1.1]; omega
        have e6 := hle _ (List.getElem_mem hl)
        have e7 := hL.2.1.2.1 ((σ 218 48).toNat - 1 - c.toNat) _ (List.getElem?_eq_getElem hl)
        rw [show (((σ 218 48).toNat : Nat) : Int) - 1 - (((σ 218 48).toNat - 1 - c.toNat : Nat) : Int) = c by omega] at e7
        omega
      have e3 := hL.1.2.1 c hk0 (by omega) (σc 226 c + 1) (by omega) (by omega)
      rw [show 8 * c + (σc 226 c + 1) = 8 * c + σc 226 c + 1 by omega, show σc 226 c + 1 - 1 = σc 226 c by omega] at e3
      refine zw_iload 93 dX6_laysSeating_91 rfl rfl ?_
      refine zw_aload_n 94 dX6_laysSeating_93 rfl rfl ?_
      refine zw_getr 97 (225) (o := 8) dX6_laysSeating_94 rfl fX6_36 (by decide) rfl rfl ly217 ?_
      refine zw_bipush 99 dX6_laysSeating_97 rfl (by decide) ?_
      refine zw_iload 101 dX6_laysSeating_99 rfl rfl ?_
      refine zw_imul 102 dX6_laysSeating_101 rfl ?_
      refine zw_aload_n 103 dX6_laysSeating_102 rfl rfl ?_
      refine zw_getr 106 (226) (o := 9) dX6_laysSeating_103 rfl fX6_39 (by decide) rfl rfl ly217 ?_
      refine zw_iload 108 dX6_laysSeating_106 rfl rfl ?_
      refine zw_iald 109 dX6_laysSeating_108 rfl ly226 (by omega) ?_
      refine zw_iadd 110 dX6_laysSeating_109 rfl ?_
      refine zw_iconst 111 dX6_laysSeating_110 rfl ?_
      refine zw_iadd 112 dX6_laysSeating_111 rfl ?_
      refine zw_iald 113 dX6_laysSeating_112 rfl ly225 (by omega) ?_
      refine zw_iadd 114 dX6_laysSeating_113 rfl ?_
      refine zw_istore 116 dX6_laysSeating_114 rfl (by decide) ?_
      refine zw_iinc 119 dX6_laysSeating_116 rfl (by decide) rfl ?_
      refine zw_goto 79 dX6_laysSeating_119 (by decide) ?_
      refine zw_loc [true, true, true, true, true, true] rfl ?_
      exact ih (c + 1) _ (by omega) (by omega) (by rw [zct_s _ hk0, ← hsm, ← e2, ← e3])
