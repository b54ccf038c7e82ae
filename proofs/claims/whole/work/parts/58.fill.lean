/-- the first k places filled with v -/
def zfq (g : zR) (v k : Int) : zR := fun x => if 0 ≤ x ∧ x < k then v else g x
theorem zfq_0 (g : zR) (v : Int) : zfq g v 0 = g := by
  funext x; exact if_neg (by omega)
theorem zfq_s (g : zR) (v : Int) {k : Int} (h : 0 ≤ k) : zup (zfq g v k) k v = zfq g v (k + 1) := by
  funext x
  unfold zup zfq
  by_cases h1 : x = k
  · rw [if_pos h1, if_pos (by omega)]
  · rw [if_neg h1]
    by_cases h2 : 0 ≤ x ∧ x < k
    · rw [if_pos h2, if_pos (by omega)]
    · rw [if_neg h2, if_neg (by omega)]
theorem zfq_in (g : zR) (v : Int) {k x : Int} (h : 0 ≤ x ∧ x < k) : zfq g v k x = v := if_pos h
theorem zSc_ag {σ : zMem} {a : Nat} {t t' : zR} (h : zag t t') (hc : zSc σ a t) : zSc σ a t' :=
  ⟨fun c h0 h1 => (hc.1 c h0 h1).trans (h c h0 (by omega)), fun i h0 h1 => (hc.2.1 i h0 h1).trans (h _ (by omega) (by omega)), fun s h0 h1 => (hc.2.2.1 s h0 h1).trans (h _ (by omega) (by omega)), hc.2.2.2.trans (h 32 (by omega) (by omega))⟩
theorem zSc_fr {σ σ' : zMem} {a : Nat} {t : zR} (h : ∀ b, a ≤ b → b ≤ a + 3 → σ' b = σ b) (hc : zSc σ a t) : zSc σ' a t :=
  ⟨fun c h0 h1 => by rw [h _ (by omega) (by omega)]; exact hc.1 c h0 h1, fun i h0 h1 => by rw [h _ (by omega) (by omega)]; exact hc.2.1 i h0 h1, fun s h0 h1 => by rw [h _ (by omega) (by omega)]; exact hc.2.2.1 s h0 h1, by rw [h _ (by omega) (by omega)]; exact hc.2.2.2⟩
/-- an empty scene -/
def zS0 : zR := fun x => if 0 ≤ x ∧ x < 5 then -1 else 0
theorem lp_J7_fill_53178 {l : Launch} {d : Nat} {σ : zMem} {r n : Nat} (hr : zly r = some (100, n)) (hn : n < 1000) {v : Int}  : ∀ (m : Nat) (i : Int), i + m = n → 0 ≤ i → zw l d mJ7_fill_53178 5 [some (.ref r), some (.int (zI v)), some (.int (zI i)), some (.int (zI ((n : Int))))] [] (zwa σ r (zfq (σ r) v i)) (zRv (zwa σ r (zfq (σ r) v n))) := by
  intro m
  induction m with
  | zero =>
    intro i hk hk0
    refine zw_iload_n 6 dJ7_fill_53178_5 rfl rfl ?_
    refine zw_iload_n 7 dJ7_fill_53178_6 rfl rfl ?_
    refine zw_icmp_ge 20 10 dJ7_fill_53178_7 (by decide) rfl (by omega) (by omega) (fun h7 => ?_) (fun h7 => ?_)
    · refine zw_vret dJ7_fill_53178_20 rfl ?_
      obtain rfl : i = (n : Int) := by omega
      exact ⟨rfl, rfl⟩
    · exfalso; omega
  | succ m ih =>
    intro i hk hk0
    refine zw_iload_n 6 dJ7_fill_53178_5 rfl rfl ?_
    refine zw_iload_n 7 dJ7_fill_53178_6 rfl rfl ?_
    refine zw_icmp_ge 20 10 dJ7_fill_53178_7 (by decide) rfl (by omega) (by omega) (fun h7 => ?_) (fun h7 => ?_)
    · refine zw_vret dJ7_fill_53178_20 rfl ?_
      exfalso; omega
    · refine zw_aload_n 11 dJ7_fill_53178_10 rfl rfl ?_
      refine zw_iload_n 12 dJ7_fill_53178_11 rfl rfl ?_
      refine zw_iload_n 13 dJ7_fill_53178_12 rfl rfl ?_
      refine zw_iast 14 dJ7_fill_53178_13 rfl hr (by omega) ?_
      rw [zwr_wa, zfq_s _ _ hk0]
      refine zw_iinc 17 dJ7_fill_53178_14 rfl (by decide) rfl ?_
      refine zw_goto 5 dJ7_fill_53178_17 (by decide) ?_
      refine zw_loc [true, true, true, true] rfl ?_
      exact ih (i + 1) (by omega) (by omega)
theorem sp_J7_fill_53178 {l : Launch} {d : Nat} {σ : zMem} {r n : Nat} (hr : zly r = some (100, n)) (hn : n < 1000) {v : Int}  : zSp l d mJ7_fill_53178 [.ref r, .int (zI v)] σ (zRv (zwa σ r (zfq (σ r) v n))) := by
  refine zSp_of oJ7_fill_53178 (Nat.le_of_ble_eq_true rfl) ?_
  show zw l d mJ7_fill_53178 0 [some (.ref r), some (.int (zI v)), none, none] [] σ _
  refine zw_iconst 1 dJ7_fill_53178_0 rfl ?_
  refine zw_istore_n 2 dJ7_fill_53178_1 rfl (by decide) ?_
  refine zw_aload_n 3 dJ7_fill_53178_2 rfl rfl ?_
  refine zw_alen 4 dJ7_fill_53178_3 rfl hr ?_
  refine zw_istore_n 5 dJ7_fill_53178_4 rfl (by decide) ?_
  have h := lp_J7_fill_53178 (l := l) (d := d) (σ := σ) hr hn (v := v) n 0 (by omega) (by omega)
  rw [zfq_0, zwa_id] at h
  exact h
theorem sp_X2_empty {l : Launch} {d : Nat} {σ : zMem} (hd : 1 ≤ d) {a : Nat} (ha : zly a = some (2, 4))  : zSp l d mX2_empty [.ref a] σ (fun v σ1 => v = none ∧ zSc σ1 a zS0 ∧ ∀ r, ¬ (a ≤ r ∧ r ≤ a + 3) → σ1 r = σ r) := by
  refine zSp_of oX2_empty (Nat.le_of_ble_eq_true rfl) ?_
  show zw l d mX2_empty 0 [some (.ref a)] [] σ _
  refine zw_aload_n 1 dX2_empty_0 rfl rfl ?_
  refine zw_iconst 2 dX2_empty_1 rfl ?_
  refine zw_pti 5 0 dX2_empty_2 rfl pX2_27 (by decide) rfl rfl ha ?_
  refine zw_aload_n 6 dX2_empty_5 rfl rfl ?_
  refine zw_getr 9 (a + 1) (o := 1) dX2_empty_6 rfl fX2_9 (by decide) rfl rfl ha ?_
  refine zw_iconst 10 dX2_empty_9 rfl ?_
  refine zw_callS 13 _ _ dX2_empty_10 rfl kX2_21 qJ7_fill_53178 (sp_J7_fill_53178 (d := d - 1) (n := 5) (zl_sub ha 2 1 rfl rfl) (by decide)) (by omega) rfl rfl (Nat.le_of_ble_eq_true rfl) (fun r σ' hq => ?_)
  obtain ⟨rfl, rfl⟩ := hq
  refine zw_aload_n 14 dX2_empty_13 rfl rfl ?_
  refine zw_getr 17 (a + 2) (o := 2) dX2_empty_14 rfl fX2_15 (by decide) rfl rfl ha ?_
  refine zw_iconst 18 dX2_empty_17 rfl ?_
  refine zw_callS 21 _ _ dX2_empty_18 rfl kX2_21 qJ7_fill_53178 (sp_J7_fill_53178 (d := d - 1) (n := 20) (zl_sub ha 2 2 rfl rfl) (by decide)) (by omega) rfl rfl (Nat.le_of_ble_eq_true rfl) (fun r σ' hq => ?_)
  obtain ⟨rfl, rfl⟩ := hq
  refine zw_aload_n 22 dX2_empty_21 rfl rfl ?_
  refine zw_getr 25 (a + 3) (o := 3) dX2_empty_22 rfl fX2_18 (by decide) rfl rfl ha ?_
  refine zw_iconst 26 dX2_empty_25 rfl ?_
  refine zw_callS 29 _ _ dX2_empty_26 rfl kX2_21 qJ7_fill_53178 (sp_J7_fill_53178 (d := d - 1) (n := 7) (zl_sub ha 2 3 rfl rfl) (by decide)) (by omega) rfl rfl (Nat.le_of_ble_eq_true rfl) (fun r σ' hq => ?_)
  obtain ⟨rfl, rfl⟩ := hq
  refine zw_vret dX2_empty_29 rfl ?_
  refine ⟨rfl, ⟨fun c h0 h1 => ?_, fun i h0 h1 => ?_, fun s h0 h1 => ?_, ?_⟩, fun r hr => ?_⟩
  · simp (disch := omega) only [zwr, zwa_same, zwa_ne]; rw [zfq_in _ _ (by omega)]; unfold zS0; rw [if_pos (by omega)]
  · simp (disch := omega) only [zwr, zwa_same, zwa_ne]; rw [zfq_in _ _ (by omega)]; unfold zS0; rw [if_neg (by omega)]
  · simp (disch := omega) only [zwr, zwa_same, zwa_ne]; rw [zfq_in _ _ (by omega)]; unfold zS0; rw [if_neg (by omega)]
  · simp (disch := omega) only [zwr, zwa_same, zwa_ne, zup_same]; rfl
  · simp (disch := omega) only [zwr, zwa_ne]
