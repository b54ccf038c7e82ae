theorem zTe_b2 (tx : zR) {n i : Int} (h : i ≤ n) : zTb tx n i ≤ zTe tx n i := by
  have b := zTb_b tx h
  have w : zTb tx n i ≤ zTw tx n i ∧ zTw tx n i ≤ n := zwe_b tx n _ _ b.2
  have g : zTb tx n i ≤ zTg tx n i ∧ zTg tx n i ≤ n := zge_b tx n _ _ b.2
  unfold zTe
  split
  · omega
  · split
    · omega
    · split <;> omega
/-- what the telling keeps, on its way -/
def zZs (r : zR) : Prop := r 59 = 0 ∧ r 78 = 0 ∧ r 109 = 0 ∧ r 134 = 0
def zLd (σ σc : zMem) (n : Int) (g r : zR) (i : Int) : Prop := (∀ b, ¬ (51 ≤ b ∧ b ≤ 99) → b ≠ 106 → b ≠ 108 → σc b = σ b) ∧ zCh σc 51 r ∧ zVT r ∧ zZs r ∧ g 1 = n ∧ g 3 = i
def zTp (σ : zMem) (n : Int) (res : Except Int (Int × zR)) : Option Value → zMem → Prop := fun a σ1 => σ1 106 1 = n ∧ (∀ b, ¬ (51 ≤ b ∧ b ≤ 99) → b ≠ 106 → b ≠ 108 → σ1 b = σ b) ∧ match res with
  | .error b => a = some (.int (zI (-1))) ∧ σ1 106 2 = b ∧ zSF σ1 51
  | .ok (c, r') => a = some (.int (zI c)) ∧ zCh σ1 51 r' ∧ zVT r' ∧ zZs r'
theorem zZs_bd {r : zR} (hT : zVT r) (h : zZs r) : zBd r := by
  obtain ⟨a, b, c, d⟩ := h
  have h1 := hT.1.1
  have h2 := hT.1.2.1
  exact ⟨by omega, by omega, by omega, by omega, by omega, by omega⟩
theorem zLd_id {σ σc : zMem} {n i : Int} {r : zR} (h : zLd σ σc n (σc 106) r i) : zM4 σc (σc 106) (σc 108) = σc := zM4_id σc
theorem zZs_up {r : zR} {i x : Int} (h : zZs r) (hi : i < 59) : zZs (zup r i x) := by
  obtain ⟨a, b, c, d⟩ := h
  exact ⟨by rw [zup_ne _ _ (by omega)]; exact a, by rw [zup_ne _ _ (by omega)]; exact b, by rw [zup_ne _ _ (by omega)]; exact c, by rw [zup_ne _ _ (by omega)]; exact d⟩
theorem zyl_hi {j : Int} (hj : 33 ≤ j) : ∀ (n : Nat) {T : zR}, zVT T → zyl n T j = T j
  | 0, T, _ => rfl
  | n + 1, T, h => by
    unfold zyl
    by_cases q : T 32 < 999
    · rw [if_pos q, zyl_hi hj n (zVT_y h q), zyr_hi h.1 h.2.1 (Or.inl hj)]
    · rw [if_neg q, zyl_hi hj n h]
theorem zZs_yl {r : zR} (n : Nat) (hT : zVT r) (h : zZs r) : zZs (zyl n r) := by
  unfold zZs; rw [zyl_hi (by omega) n hT, zyl_hi (by omega) n hT, zyl_hi (by omega) n hT, zyl_hi (by omega) n hT]; exact h
theorem te_seat {l : Launch} {d : Nat} {σ σc : zMem} {tx : zR} {n j c : Int} {m : Nat} {g f r : zR} {w v0 v1 v2 : Int} (hd : 7 ≤ d) (hL : zLd σ σc n g r j) (hc : 0 ≤ c ∧ c ≤ 150) (h33 : r 33 < 7) (hv : (0 ≤ v0 ∧ v0 ≤ 5) ∧ (0 ≤ v1 ∧ v1 ≤ 3) ∧ 0 ≤ v2 ∧ v2 ≤ 40) (e0 : f 0 = v0) (e1 : f 1 = v1) (e2 : f 2 = v2) (ih : ∀ (σq : zMem) (gq fq : zR), zLd σ σq n gq (zup (zup (zup (zup r (34 + r 33) v0) (41 + r 33) v1) (25 + r 33) v2) 33 (r 33 + 1)) j → zw l d mX4_tell 11 [some (.ref 106), some (.ref 51), some (.int (zI (c + 1)))] [] (zM4 σq gq fq) (zTp σ n (zrLoop tx n m j (c + 1) (zup (zup (zup (zup r (34 + r 33) v0) (41 + r 33) v1) (25 + r 33) v2) 33 (r 33 + 1))))) : zw l d mX4_tell 88 [some (.ref 106), some (.ref 51), some (.int (zI c))] [] (zM4 σc g f) (zTp σ n (zrLoop tx n m j (c + 1) (zup (zup (zup (zup r (34 + r 33) v0) (41 + r 33) v1) (25 + r 33) v2) 33 (r 33 + 1)))) := by
  obtain ⟨l1, l2, l3, l4, l5, l6⟩ := id hL
  have hB := zZs_bd l3 l4
  have l0 := l3.1.1
  have l00 := l3.1.2.1
  refine zw_aload_n 89 dX4_tell_88 rfl rfl ?_
  refine zw_aload_n 90 dX4_tell_89 rfl rfl ?_
  refine zw_getr 93 (108) (o := 2) dX4_tell_90 rfl fX4_15 (by decide) rfl rfl ly106 ?_
  refine zw_iconst 94 dX4_tell_93 rfl ?_
  refine zw_iald 95 dX4_tell_94 rfl ly108 (by omega) ?_
  simp (disch := decide) only [zM4_106, zM4_108]; rw [e0]
  refine zw_aload_n 96 dX4_tell_95 rfl rfl ?_
  refine zw_getr 99 (108) (o := 2) dX4_tell_96 rfl fX4_15 (by decide) rfl rfl ly106 ?_
  refine zw_iconst 100 dX4_tell_99 rfl ?_
  refine zw_iald 101 dX4_tell_100 rfl ly108 (by omega) ?_
  simp (disch := decide) only [zM4_106, zM4_108]; rw [e1]
  refine zw_aload_n 102 dX4_tell_101 rfl rfl ?_
  refine zw_getr 105 (108) (o := 2) dX4_tell_102 rfl fX4_15 (by decide) rfl rfl ly106 ?_
  refine zw_iconst 106 dX4_tell_105 rfl ?_
  refine zw_iald 107 dX4_tell_106 rfl ly108 (by omega) ?_
  simp (disch := decide) only [zM4_106, zM4_108]; rw [e2]
  refine zw_callV 110 _ _ dX4_tell_107 rfl kX4_41 qX0_addSeat ly51 ⟨_, rfl, rfl⟩ (by decide) (sp_X0_addSeat (d := d - 1) ly51 (zCh_fr (fun b b0 b1 => zM4_ne _ _ _ (by omega) (by omega)) l2) hB (by omega) (k := v0) (t := v1) (e := v2)) (by omega) rfl rfl (Nat.le_of_ble_eq_true rfl) (fun r σ' hq => ?_)
  obtain ⟨rfl, q1, q2⟩ := hq
  refine zw_pop 111 dX4_tell_110 rfl rfl ?_
  refine zw_goto 170 dX4_tell_111 (by decide) ?_
  refine zw_iinc 173 dX4_tell_170 rfl (by decide) rfl ?_
  refine zw_goto 11 dX4_tell_173 (by decide) ?_
  refine zw_loc [true, true, true] rfl ?_
  refine zw_mem (zM4_id _) ?_
  refine ih _ _ _ ⟨?_, ?_, ?_, ?_, ?_, ?_⟩
  · intro b h0 h1 h2
    rw [q2 b (by omega), zM4_ne _ _ _ h1 h2]; exact l1 b h0 h1 h2
  · refine zCh_ag (N := zsN r v0 v1 v2) ?_ (fun j j0 j1 => ?_) q1
    · obtain ⟨b1, b2, b3, b4, b5, b6⟩ := hB
      unfold zsN
      refine ⟨?_, ?_, ?_, ?_, ?_, ?_⟩ <;> simp (disch := omega) only [zup_same, zup_ne] <;> omega
    · unfold zsN
      by_cases q : j = 134
      · subst q; simp (disch := omega) only [zup_same, zup_ne]; exact l4.2.2.2
      · rw [zup_ne _ _ q]; simp (disch := omega) only [zup_ne]
  · exact zVT_seat l3 (by omega) hv.1 hv.2.1 hv.2.2
  · exact zZs_up (zZs_up (zZs_up (zZs_up l4 (by omega)) (by omega)) (by omega)) (by omega)
  · rw [q2 106 (by decide), zM4_106]; exact l5
  · rw [q2 106 (by decide), zM4_106]; exact l6
theorem te_canon {l : Launch} {d : Nat} {σ σc : zMem} {tx : zR} {n j c : Int} {m : Nat} {g f r : zR} {w v0 v1 v2 : Int} (hd : 7 ≤ d) (hL : zLd σ σc n g r j) (hc : 0 ≤ c ∧ c ≤ 150) (h48 : r 48 < 5) (hv : (0 ≤ v0 ∧ v0 ≤ 5) ∧ 1 ≤ v1 ∧ v1 ≤ 9) (e0 : f 0 = v0) (e1 : f 1 = v1) (ih : ∀ (σq : zMem) (gq fq : zR), zLd σ σq n gq (zup (zup (zup r (49 + r 48) v0) (54 + r 48) v1) 48 (r 48 + 1)) j → zw l d mX4_tell 11 [some (.ref 106), some (.ref 51), some (.int (zI (c + 1)))] [] (zM4 σq gq fq) (zTp σ n (zrLoop tx n m j (c + 1) (zup (zup (zup r (49 + r 48) v0) (54 + r 48) v1) 48 (r 48 + 1))))) : zw l d mX4_tell 114 [some (.ref 106), some (.ref 51), some (.int (zI c))] [] (zM4 σc g f) (zTp σ n (zrLoop tx n m j (c + 1) (zup (zup (zup r (49 + r 48) v0) (54 + r 48) v1) 48 (r 48 + 1)))) := by
  obtain ⟨l1, l2, l3, l4, l5, l6⟩ := id hL
  have hB := zZs_bd l3 l4
  have l0 := l3.1.1
  have l00 := l3.1.2.1
  refine zw_aload_n 115 dX4_tell_114 rfl rfl ?_
  refine zw_aload_n 116 dX4_tell_115 rfl rfl ?_
  refine zw_getr 119 (108) (o := 2) dX4_tell_116 rfl fX4_15 (by decide) rfl rfl ly106 ?_
  refine zw_iconst 120 dX4_tell_119 rfl ?_
  refine zw_iald 121 dX4_tell_120 rfl ly108 (by omega) ?_
  simp (disch := decide) only [zM4_106, zM4_108]; rw [e0]
  refine zw_aload_n 122 dX4_tell_121 rfl rfl ?_
  refine zw_getr 125 (108) (o := 2) dX4_tell_122 rfl fX4_15 (by decide) rfl rfl ly106 ?_
  refine zw_iconst 126 dX4_tell_125 rfl ?_
  refine zw_iald 127 dX4_tell_126 rfl ly108 (by omega) ?_
  simp (disch := decide) only [zM4_106, zM4_108]; rw [e1]
  refine zw_callV 130 _ _ dX4_tell_127 rfl kX4_45 qX0_addCanon ly51 ⟨_, rfl, rfl⟩ (by decide) (sp_X0_addCanon (d := d - 1) (by omega) ly51 (zCh_fr (fun b b0 b1 => zM4_ne _ _ _ (by omega) (by omega)) l2) hB (by omega) (k := v0) (w := v1) (by omega) (by omega)) (by omega) rfl rfl (Nat.le_of_ble_eq_true rfl) (fun r σ' hq => ?_)
  obtain ⟨rfl, q1, q2⟩ := hq
  refine zw_pop 131 dX4_tell_130 rfl rfl ?_
  refine zw_goto 170 dX4_tell_131 (by decide) ?_
  refine zw_iinc 173 dX4_tell_170 rfl (by decide) rfl ?_
  refine zw_goto 11 dX4_tell_173 (by decide) ?_
  refine zw_loc [true, true, true] rfl ?_
  refine zw_mem (zM4_id _) ?_
  refine ih _ _ _ ⟨?_, ?_, ?_, ?_, ?_, ?_⟩
  · intro b h0 h1 h2
    rw [q2 b (by omega), zM4_ne _ _ _ h1 h2]; exact l1 b h0 h1 h2
  · refine zCh_ag (N := zcN r v0 v1) ?_ (fun j j0 j1 => ?_) q1
    · obtain ⟨b1, b2, b3, b4, b5, b6⟩ := hB
      unfold zcN
      refine ⟨?_, ?_, ?_, ?_, ?_, ?_⟩ <;> simp (disch := omega) only [zup_same, zup_ne] <;> omega
    · unfold zcN
      by_cases q : j = 134
      · subst q; simp (disch := omega) only [zup_same, zup_ne]; exact l4.2.2.2
      · rw [zup_ne _ _ q]; simp (disch := omega) only [zup_ne]
  · exact zVT_canon l3 (by omega) hv.1 hv.2
  · exact zZs_up (zZs_up (zZs_up l4 (by omega)) (by omega)) (by omega)
  · rw [q2 106 (by decide), zM4_106]; exact l5
  · rw [q2 106 (by decide), zM4_106]; exact l6
theorem te_sits {l : Launch} {d : Nat} {σ σc : zMem} {tx : zR} {n j c : Int} {m : Nat} {g f r : zR} {w v0 v1 v2 : Int} (hd : 7 ≤ d) (hL : zLd σ σc n g r j) (hc : 0 ≤ c ∧ c ≤ 150) (hv : (0 ≤ v0 ∧ v0 < r 48) ∧ (0 ≤ v1 ∧ v1 < r 33) ∧ (zwo r v1 = -1 ∨ zwo r v1 = v0)) (e0 : f 0 = v0) (e1 : f 1 = v1) (ih : ∀ (σq : zMem) (gq fq : zR), zLd σ σq n gq (zup r v0 v1) j → zw l d mX4_tell 11 [some (.ref 106), some (.ref 51), some (.int (zI (c + 1)))] [] (zM4 σq gq fq) (zTp σ n (zrLoop tx n m j (c + 1) (zup r v0 v1)))) : zw l d mX4_tell 134 [some (.ref 106), some (.ref 51), some (.int (zI c))] [] (zM4 σc g f) (zTp σ n (zrLoop tx n m j (c + 1) (zup r v0 v1))) := by
  obtain ⟨l1, l2, l3, l4, l5, l6⟩ := id hL
  have hB := zZs_bd l3 l4
  have l0 := l3.1.1
  have l00 := l3.1.2.1
  refine zw_aload_n 135 dX4_tell_134 rfl rfl ?_
  refine zw_getr 138 (57) (o := 6) dX4_tell_135 rfl fX4_49 (by decide) rfl rfl ly51 ?_
  refine zw_getr 141 (58) (o := 1) dX4_tell_138 rfl fX4_53 (by decide) rfl rfl ly57 ?_
  refine zw_aload_n 142 dX4_tell_141 rfl rfl ?_
  refine zw_getr 145 (108) (o := 2) dX4_tell_142 rfl fX4_15 (by decide) rfl rfl ly106 ?_
  refine zw_iconst 146 dX4_tell_145 rfl ?_
  refine zw_iald 147 dX4_tell_146 rfl ly108 (by omega) ?_
  simp (disch := decide) only [zM4_106, zM4_108]; rw [e0]
  refine zw_aload_n 148 dX4_tell_147 rfl rfl ?_
  refine zw_getr 151 (108) (o := 2) dX4_tell_148 rfl fX4_15 (by decide) rfl rfl ly106 ?_
  refine zw_iconst 152 dX4_tell_151 rfl ?_
  refine zw_iald 153 dX4_tell_152 rfl ly108 (by omega) ?_
  simp (disch := decide) only [zM4_106, zM4_108]; rw [e1]
  refine zw_iast 154 dX4_tell_153 rfl ly58 (by omega) ?_
  refine zw_goto 170 dX4_tell_154 (by decide) ?_
  refine zw_iinc 173 dX4_tell_170 rfl (by decide) rfl ?_
  refine zw_goto 11 dX4_tell_173 (by decide) ?_
  have q2 : ∀ b, b ≠ 58 → zwr (zM4 σc g f) 58 v0 v1 b = zM4 σc g f b := fun b hb => zwr_ne _ _ _ hb
  refine zw_loc [true, true, true] rfl ?_
  refine zw_mem (zM4_id _) ?_
  refine ih _ _ _ ⟨?_, ?_, ?_, ?_, ?_, ?_⟩
  · intro b h0 h1 h2
    rw [q2 b (by omega), zM4_ne _ _ _ h1 h2]; exact l1 b h0 h1 h2
  · have hC4 := zCh_fr (σ' := zM4 σc g f) (fun b b0 b1 => zM4_ne _ _ _ (by omega) (by omega)) l2
    refine zCh_sc (N := r) hB (fun j j0 j1 => zup_ne _ _ (by omega)) (fun b h0 h1 h2 => q2 b (by omega)) ?_ hC4
    obtain ⟨s1, s2, s3, s4⟩ := hC4.1.2.1
    refine ⟨fun x x0 x1 => ?_, fun x x0 x1 => ?_, fun x x0 x1 => ?_, ?_⟩
    · show zwr (zM4 σc g f) 58 v0 v1 58 x = _
      unfold zwr
      rw [zwa_same]; unfold zup
      by_cases q : x = v0
      · rw [if_pos q, if_pos q]
      · rw [if_neg q, if_neg q]; exact s1 x x0 x1
    · rw [q2 _ (by decide), zup_ne _ _ (by omega)]; exact s2 x x0 x1
    · rw [q2 _ (by decide), zup_ne _ _ (by omega)]; exact s3 x x0 x1
    · rw [q2 _ (by decide), zup_ne _ _ (by omega)]; exact s4
  · exact zVT_sit l3 hv.1 hv.2.1 hv.2.2
  · exact zZs_up l4 (by omega)
  · rw [q2 106 (by decide), zM4_106]; exact l5
  · rw [q2 106 (by decide), zM4_106]; exact l6
theorem te_years {l : Launch} {d : Nat} {σ σc : zMem} {tx : zR} {n j c : Int} {m : Nat} {g f r : zR} {w v0 v1 v2 : Int} (hd : 7 ≤ d) (hL : zLd σ σc n g r j) (hc : 0 ≤ c ∧ c ≤ 150) (hv : 1 ≤ v0 ∧ v0 ≤ 30) (e0 : f 0 = v0) (ih : ∀ (σq : zMem) (gq fq : zR), zLd σ σq n gq (zyl v0.toNat r) j → zw l d mX4_tell 11 [some (.ref 106), some (.ref 51), some (.int (zI (c + 1)))] [] (zM4 σq gq fq) (zTp σ n (zrLoop tx n m j (c + 1) (zyl v0.toNat r)))) : zw l d mX4_tell 157 [some (.ref 106), some (.ref 51), some (.int (zI c))] [] (zM4 σc g f) (zTp σ n (zrLoop tx n m j (c + 1) (zyl v0.toNat r))) := by
  obtain ⟨l1, l2, l3, l4, l5, l6⟩ := id hL
  have hB := zZs_bd l3 l4
  have l0 := l3.1.1
  have l00 := l3.1.2.1
  refine zw_aload_n 158 dX4_tell_157 rfl rfl ?_
  refine zw_aload_n 159 dX4_tell_158 rfl rfl ?_
  refine zw_getr 162 (108) (o := 2) dX4_tell_159 rfl fX4_15 (by decide) rfl rfl ly106 ?_
  refine zw_iconst 163 dX4_tell_162 rfl ?_
  refine zw_iald 164 dX4_tell_163 rfl ly108 (by omega) ?_
  simp (disch := decide) only [zM4_106, zM4_108]; rw [e0]
  refine zw_callV 167 _ _ dX4_tell_164 rfl kX4_58 qX0_passUpToLast ly51 ⟨_, rfl, rfl⟩ (by decide) (sp_X0_passUpToLast (d := d - 1) (by omega) ly51 (n := v0) (by omega) (zCh_fr (fun b b0 b1 => zM4_ne _ _ _ (by omega) (by omega)) l2) l3 hB) (by omega) rfl rfl (Nat.le_of_ble_eq_true rfl) (fun r σ' hq => ?_)
  obtain ⟨rfl, q1, q2⟩ := hq
  refine zw_goto 170 dX4_tell_167 (by decide) ?_
  refine zw_iinc 173 dX4_tell_170 rfl (by decide) rfl ?_
  refine zw_goto 11 dX4_tell_173 (by decide) ?_
  refine zw_loc [true, true, true] rfl ?_
  refine zw_mem (zM4_id _) ?_
  refine ih _ _ _ ⟨?_, ?_, ?_, ?_, ?_, ?_⟩
  · intro b h0 h1 h2
    rw [q2 b (by omega), zM4_ne _ _ _ h1 h2]; exact l1 b h0 h1 h2
  · exact q1
  · exact zVT_years _ l3
  · exact zZs_yl _ l3 l4
  · rw [q2 106 (by decide), zM4_106]; exact l5
  · rw [q2 106 (by decide), zM4_106]; exact l6
theorem te_49 {l : Launch} {d : Nat} {σ σc : zMem} {tx : zR} {n i c : Int} {m : Nat} {g f r : zR} (hd : 7 ≤ d) (hL : zLd σ σc n g r i) (hin : 0 ≤ i ∧ i ≤ n) (hc : 0 ≤ c ∧ c ≤ 150) (hq0 : ¬ (zTk tx n i = 0 ∧ c ≠ 0)) (ih : ∀ (j : Int) (σq : zMem) (gq fq rq : zR), i < j → j ≤ n → zLd σ σq n gq rq j → zw l d mX4_tell 11 [some (.ref 106), some (.ref 51), some (.int (zI (c + 1)))] [] (zM4 σq gq fq) (zTp σ n (zrLoop tx n m j (c + 1) rq))) {a : Option Value} {g2 f2 : zR} (n1 : g2 1 = n) (nb : 0 ≤ g2 3 ∧ g2 3 ≤ n) (hP : zcP (zcItem tx n i c r) a g2 f2) : zw l d mX4_tell 49 [some (.ref 106), some (.ref 51), some (.int (zI c))] (a.toList ++ []) (zM4 σc g2 f2) (zTp σ n (zrLoop tx n (m + 1) i c r)) := by
  obtain ⟨l1, l2, l3, l4, l5, l6⟩ := id hL
  rw [zrLoop_s tx n m i c r l3.1, if_neg hq0]
  rcases hres : zcItem tx n i c r with b | ⟨j, w, v0, v1, v2⟩
  · rw [hres] at hP
    obtain ⟨rfl, hb⟩ := hP
    refine zw_if_ne 54 52 dX4_tell_49 (by decide) rfl (by omega) (fun h49 => ?_) (fun h49 => ?_)
    · exact absurd h49 (by decide)
    · refine zw_iconst 53 dX4_tell_52 rfl ?_
      refine zw_iret dX4_tell_53 rfl ?_
      refine ⟨by rw [zM4_106]; exact n1, fun b h0 h1 h2 => by rw [zM4_ne _ _ _ h1 h2]; exact l1 b h0 h1 h2, rfl, by rw [zM4_106]; exact hb, ?_⟩
      exact zSF_fr (fun b b0 b1 => zM4_ne _ _ _ (by omega) (by omega)) l2.st
  · rw [hres] at hP
    obtain ⟨rfl, h3, h6, e0, e1, e2⟩ := hP
    obtain ⟨⟨b1, b2⟩, hok⟩ := zcItem_ok hin.2 hres
    have hL2 : zLd σ σc n g2 r j := ⟨l1, l2, l3, l4, n1, h3⟩
    show zw l d mX4_tell 49 [some (.ref 106), some (.ref 51), some (.int (zI c))] _ _ (zTp σ n (zrLoop tx n m j (c + 1) (zcRow r w v0 v1 v2)))
    have hwb : 0 ≤ w ∧ w ≤ 4 := by
      rcases hok with h | h | h | h | h <;> omega
    refine zw_if_ne 54 52 dX4_tell_49 (by decide) rfl (by omega) (fun h49 => ?_) (fun h49 => ?_)
    · refine zw_aload_n 55 dX4_tell_54 rfl rfl ?_
      refine zw_gti 58 6 dX4_tell_55 rfl fX4_38 (by decide) rfl rfl ly106 ?_
      rw [zM4_106, h6]
      refine zw_sw 170 dX4_tell_58 (by decide) (by omega) (fun h58 => ?_) (fun vh58 lh58 uh58 h58 => ?_)
      · refine zw_iinc 173 dX4_tell_170 rfl (by decide) rfl ?_
        refine zw_goto 11 dX4_tell_173 (by decide) ?_
        rw [show zcRow r w v0 v1 v2 = r by unfold zcRow; rw [if_pos (by omega)]]
        refine zw_loc [true, true, true] rfl ?_
        exact ih j σc g2 f2 r b1 b2 hL2
      · obtain rfl | rfl | rfl | rfl : vh58 = 1 ∨ vh58 = 2 ∨ vh58 = 3 ∨ vh58 = 4 := by omega
        · refine ⟨88, _, rfl, by decide, ?_⟩
          obtain ⟨-, y1, y2⟩ : w = 1 ∧ r 33 < 7 ∧ (0 ≤ v0 ∧ v0 ≤ 5) ∧ (0 ≤ v1 ∧ v1 ≤ 3) ∧ 0 ≤ v2 ∧ v2 ≤ 40 := by
            rcases hok with h | h | h | h | h <;> first | exact h | (exfalso; omega)
          rw [show zcRow r w v0 v1 v2 = zup (zup (zup (zup r (34 + r 33) v0) (41 + r 33) v1) (25 + r 33) v2) 33 (r 33 + 1) by unfold zcRow; rw [if_neg (by omega), if_pos (by omega)]]
          exact te_seat (w := 0) hd hL2 hc y1 y2 (e0 (by omega)) (e1 (by omega)) (e2 (by omega)) (fun σq gq fq hq => ih j σq gq fq _ b1 b2 hq)
        · refine ⟨114, _, rfl, by decide, ?_⟩
          obtain ⟨-, y1, y2⟩ : w = 2 ∧ r 48 < 5 ∧ (0 ≤ v0 ∧ v0 ≤ 5) ∧ 1 ≤ v1 ∧ v1 ≤ 9 := by
            rcases hok with h | h | h | h | h <;> first | exact h | (exfalso; omega)
          rw [show zcRow r w v0 v1 v2 = zup (zup (zup r (49 + r 48) v0) (54 + r 48) v1) 48 (r 48 + 1) by unfold zcRow; rw [if_neg (by omega), if_neg (by omega), if_pos (by omega)]]
          exact te_canon (v2 := 0) (w := 0) hd hL2 hc y1 y2 (e0 (by omega)) (e1 (by omega)) (fun σq gq fq hq => ih j σq gq fq _ b1 b2 hq)
        · refine ⟨134, _, rfl, by decide, ?_⟩
          obtain ⟨-, y2⟩ : w = 3 ∧ (0 ≤ v0 ∧ v0 < r 48) ∧ (0 ≤ v1 ∧ v1 < r 33) ∧ (zwo r v1 = -1 ∨ zwo r v1 = v0) := by
            rcases hok with h | h | h | h | h <;> first | exact h | (exfalso; omega)
          rw [show zcRow r w v0 v1 v2 = zup r v0 v1 by unfold zcRow; rw [if_neg (by omega), if_neg (by omega), if_neg (by omega), if_pos (by omega)]]
          exact te_sits (v2 := 0) (w := 0) hd hL2 hc y2 (e0 (by omega)) (e1 (by omega)) (fun σq gq fq hq => ih j σq gq fq _ b1 b2 hq)
        · refine ⟨157, _, rfl, by decide, ?_⟩
          obtain ⟨-, y2⟩ : w = 4 ∧ 1 ≤ v0 ∧ v0 ≤ 30 := by
            rcases hok with h | h | h | h | h <;> first | exact h | (exfalso; omega)
          rw [show zcRow r w v0 v1 v2 = zyl v0.toNat r by unfold zcRow; rw [if_neg (by omega), if_neg (by omega), if_neg (by omega), if_neg (by omega)]]
          exact te_years (v1 := 0) (v2 := 0) (w := 0) hd hL2 hc y2 (e0 (by omega)) (fun σq gq fq hq => ih j σq gq fq _ b1 b2 hq)
    · exact absurd h49 (by decide)
theorem lp_X4_tell {l : Launch} {d : Nat} {σ : zMem} {tx : zR} {n : Int} (hd : 7 ≤ d) (hx : ztx tx n) (h7 : zt7 σ tx n) : ∀ (m : Nat) (i c : Int) (σc : zMem) (g f r : zR), n - i < m → 0 ≤ c → c ≤ i → i ≤ n → zLd σ σc n g r i → zw l d mX4_tell 11 [some (.ref 106), some (.ref 51), some (.int (zI c))] [] (zM4 σc g f) (zTp σ n (zrLoop tx n m i c r)) := by
  intro m
  have hn := hx.1
  induction m with
  | zero =>
    intro i c σc g f r h1 h2 h3 h4 hL
    exfalso; omega
  | succ m ih =>
    intro i c σc g f r h1 h2 h3 h4 hL
    obtain ⟨l1, l2, l3, l4, l5, l6⟩ := id hL
    have h7c : zt7 σc tx n := fun x x0 x1 => by rw [l1 107 (by decide) (by decide) (by decide)]; exact h7 x x0 x1
    have hkb := zTk_b tx n i
    have hbb := zTb_b tx h4
    have hee := zTe_b tx h4
    have ih2 : ∀ (j : Int) (σq : zMem) (gq fq rq : zR), i < j → j ≤ n → zLd σ σq n gq rq j → zw l d mX4_tell 11 [some (.ref 106), some (.ref 51), some (.int (zI (c + 1)))] [] (zM4 σq gq fq) (zTp σ n (zrLoop tx n m j (c + 1) rq)) := fun j σq gq fq rq a1 a2 a3 => ih j (c + 1) σq gq fq rq (by omega) (by omega) (by omega) a2 a3
    refine zw_iload_n 12 dX4_tell_11 rfl rfl ?_
    refine zw_sipush 15 dX4_tell_12 rfl (by decide) ?_
    refine zw_icmp_gt 176 18 dX4_tell_15 (by decide) rfl (by omega) (by omega) (fun h15 => ?_) (fun h15 => ?_)
    · exfalso; omega
    · refine zw_aload_n 19 dX4_tell_18 rfl rfl ?_
      refine zw_callV 22 _ _ dX4_tell_19 rfl kX4_28 qX4_step ly106 ⟨_, rfl, rfl⟩ (by decide) (sq_X4_step (d := d - 1) (by omega) hx h7c (g := g) (f := f) (i := i) (by omega) l6 l5) (by omega) rfl rfl (Nat.le_of_ble_eq_true rfl) (fun r σ' hq => ?_)
      obtain ⟨g1, rfl, rfl, ho⟩ := hq
      obtain ⟨o1, o2, o3, o4, o5⟩ := id ho
      have hg1 : g1 1 = n := (o1 1 (by omega)).trans l5
      have hgb : g1 2 ≤ g1 3 := by have := zTe_b2 tx (n := n) (i := i) h4; omega
      refine zw_aload_n 23 dX4_tell_22 rfl rfl ?_
      refine zw_gti 26 4 dX4_tell_23 rfl fX4_31 (by decide) rfl rfl ly106 ?_
      rw [zM4_106, o4]
      refine zw_if_ne 35 29 dX4_tell_26 (by decide) rfl (by omega) (fun h26 => ?_) (fun h26 => ?_)
      · refine zw_aload_n 36 dX4_tell_35 rfl rfl ?_
        refine zw_aload_n 37 dX4_tell_36 rfl rfl ?_
        refine zw_iload_n 38 dX4_tell_37 rfl rfl ?_
        refine zw_if_ne 45 41 dX4_tell_38 (by decide) rfl (by omega) (fun h38 => ?_) (fun h38 => ?_)
        · refine zw_iconst 46 dX4_tell_45 rfl ?_
          refine zw_callV 49 _ _ dX4_tell_46 rfl kX4_34 qX4_takeItem ly106 ⟨_, rfl, rfl⟩ (by decide) (sp_X4_takeItem (d := d - 1) (by omega) hx h7c l2.1 l3.1 (fun x x0 x1 => by have := l3.2.1.1 x x0 x1; have := l3.1.1; omega) (g := g1) (f := f) hg1 (by omega) (c := c) (o := _) (by omega) (i := i) (by omega) ho) (by omega) rfl rfl (Nat.le_of_ble_eq_true rfl) (fun r σ' hq => ?_)
          obtain ⟨g2, f2, rfl, n1, nb, hP⟩ := hq
          exact te_49 (f := f) hd ⟨l1, l2, l3, l4, l5, l6⟩ (by omega) (by omega) (by omega) ih2 n1 nb hP
        · refine zw_iconst 42 dX4_tell_41 rfl ?_
          refine zw_goto 46 dX4_tell_42 (by decide) ?_
          refine zw_callV 49 _ _ dX4_tell_46 rfl kX4_34 qX4_takeItem ly106 ⟨_, rfl, rfl⟩ (by decide) (sp_X4_takeItem (d := d - 1) (by omega) hx h7c l2.1 l3.1 (fun x x0 x1 => by have := l3.2.1.1 x x0 x1; have := l3.1.1; omega) (g := g1) (f := f) hg1 (by omega) (c := c) (o := _) (by omega) (i := i) (by omega) ho) (by omega) rfl rfl (Nat.le_of_ble_eq_true rfl) (fun r σ' hq => ?_)
          obtain ⟨g2, f2, rfl, n1, nb, hP⟩ := hq
          exact te_49 (f := f) hd ⟨l1, l2, l3, l4, l5, l6⟩ (by omega) (by omega) (by omega) ih2 n1 nb hP
      · refine zw_iload_n 30 dX4_tell_29 rfl rfl ?_
        refine zw_if_le 35 33 dX4_tell_30 (by decide) rfl (by omega) (fun h30 => ?_) (fun h30 => ?_)
        · refine zw_aload_n 36 dX4_tell_35 rfl rfl ?_
          refine zw_aload_n 37 dX4_tell_36 rfl rfl ?_
          refine zw_iload_n 38 dX4_tell_37 rfl rfl ?_
          refine zw_if_ne 45 41 dX4_tell_38 (by decide) rfl (by omega) (fun h38 => ?_) (fun h38 => ?_)
          · refine zw_iconst 46 dX4_tell_45 rfl ?_
            refine zw_callV 49 _ _ dX4_tell_46 rfl kX4_34 qX4_takeItem ly106 ⟨_, rfl, rfl⟩ (by decide) (sp_X4_takeItem (d := d - 1) (by omega) hx h7c l2.1 l3.1 (fun x x0 x1 => by have := l3.2.1.1 x x0 x1; have := l3.1.1; omega) (g := g1) (f := f) hg1 (by omega) (c := c) (o := _) (by omega) (i := i) (by omega) ho) (by omega) rfl rfl (Nat.le_of_ble_eq_true rfl) (fun r σ' hq => ?_)
            obtain ⟨g2, f2, rfl, n1, nb, hP⟩ := hq
            exact te_49 (f := f) hd ⟨l1, l2, l3, l4, l5, l6⟩ (by omega) (by omega) (by omega) ih2 n1 nb hP
          · refine zw_iconst 42 dX4_tell_41 rfl ?_
            refine zw_goto 46 dX4_tell_42 (by decide) ?_
            refine zw_callV 49 _ _ dX4_tell_46 rfl kX4_34 qX4_takeItem ly106 ⟨_, rfl, rfl⟩ (by decide) (sp_X4_takeItem (d := d - 1) (by omega) hx h7c l2.1 l3.1 (fun x x0 x1 => by have := l3.2.1.1 x x0 x1; have := l3.1.1; omega) (g := g1) (f := f) hg1 (by omega) (c := c) (o := _) (by omega) (i := i) (by omega) ho) (by omega) rfl rfl (Nat.le_of_ble_eq_true rfl) (fun r σ' hq => ?_)
            obtain ⟨g2, f2, rfl, n1, nb, hP⟩ := hq
            exact te_49 (f := f) hd ⟨l1, l2, l3, l4, l5, l6⟩ (by omega) (by omega) (by omega) ih2 n1 nb hP
        · refine zw_iload_n 34 dX4_tell_33 rfl rfl ?_
          refine zw_iret dX4_tell_34 rfl ?_
          rw [zrLoop_s tx n m i c r l3.1, if_pos (show zTk tx n i = 0 ∧ c ≠ 0 by omega)]
          exact ⟨by rw [zM4_106]; exact hg1, fun b h0 h1 h2 => by rw [zM4_ne _ _ _ h1 h2]; exact l1 b h0 h1 h2, rfl, zCh_fr (fun b b0 b1 => zM4_ne _ _ _ (by omega) (by omega)) l2, l3, l4⟩
theorem sp_X4_tell {l : Launch} {d : Nat} {σ : zMem} {tx : zR} {n : Int} (hd : 7 ≤ d) (hx : ztx tx n) (h7 : zt7 σ tx n) (h1 : σ 106 1 = n) (hst : zSF σ 51) (gz : zR)  : zSp l d mX4_tell [.ref 106, .ref 51] σ (zTp σ n (zrLoop tx n 200 0 0 (zem gz))) := by
  refine zSp_of oX4_tell (Nat.le_of_ble_eq_true rfl) ?_
  show zw l d mX4_tell 0 [some (.ref 106), some (.ref 51), none] [] σ _
  have hn := hx.1
  refine zw_aload_n 1 dX4_tell_0 rfl rfl ?_
  refine zw_callV 4 _ _ dX4_tell_1 rfl kX4_19 qX0_empty ly51 ⟨_, rfl, rfl⟩ (by decide) (sp_X0_empty (d := d - 1) (by omega) ly51 hst gz) (by omega) rfl rfl (Nat.le_of_ble_eq_true rfl) (fun r σ' hq => ?_)
  obtain ⟨rfl, q1, q2⟩ := hq
  refine zw_aload_n 5 dX4_tell_4 rfl rfl ?_
  refine zw_iconst 6 dX4_tell_5 rfl ?_
  refine zw_pti 9 3 dX4_tell_6 rfl pX4_24 (by decide) rfl rfl ly106 ?_
  refine zw_iconst 10 dX4_tell_9 rfl ?_
  refine zw_istore_n 11 dX4_tell_10 rfl (by decide) ?_
  refine zw_mem (zM4_id _) ?_
  have e0 : ∀ x, 5 ≤ x ∧ x < 399 → zem gz x = 0 := fun x h => zem_hi gz h
  refine lp_X4_tell hd hx h7 200 0 0 _ _ _ (zem gz) (by omega) (by omega) (by omega) (by omega) ⟨fun b b0 b1 b2 => ?_, zCh_fr (fun b b0 b1 => zwr_ne _ _ _ (by omega)) q1, zVT_em gz, ⟨e0 _ (by omega), e0 _ (by omega), e0 _ (by omega), e0 _ (by omega)⟩, ?_, ?_⟩
  · rw [zwr_ne _ _ _ b1]; exact q2 b (by omega)
  · rw [zwr_ni _ _ _ (by decide), q2 106 (by decide)]; exact h1
  · rw [zwr_same]
