/-- the item whose word is the token at i: c items are read -/
def zrItem (tx : zR) (n i c : Int) (r : zR) : Except Int (Int × zR) :=
  if zTq tx n i 109101701 7 = 1 ∧ zTs tx n i = 114 then (if c = 0 then .ok (zTe tx n i, r) else .error (zTb tx n i))
  else if c = 0 then .error (zTb tx n i)
  else if zTq tx n i 627764 4 = 1 then zrSeat tx n (zTe tx n i) (zTb tx n i) r
  else if zTq tx n i 3193326 5 = 1 then zrCanon tx n (zTe tx n i) (zTb tx n i) r
  else if zTq tx n i 632467 4 = 1 then zrSit tx n (zTe tx n i) r
  else if zTq tx n i 26379859 5 = 1 then zrYears tx n (zTe tx n i) r
  else .error (zTb tx n i)
theorem zrD_v {σ : zMem} {g0 : zR} {n : Int} {res : Except Int (Int × zR)} {a : Option Value} {σ1 : zMem} (h : zrD σ g0 n res a σ1) : ∃ v, a = some (.int (zI v)) ∧ (v = 0 ∨ v = 1) ∧ zrD σ g0 n res (some (.int (zI v))) σ1 := by
  obtain ⟨g, r, h1, h2, h3, h4, h5⟩ := id h
  cases res with
  | error b => exact ⟨0, h5.1, Or.inl rfl, by rw [← h5.1]; exact h⟩
  | ok q => exact ⟨1, h5.1, Or.inr rfl, by rw [← h5.1]; exact h⟩
theorem zTq_b (tx : zR) (n i w m : Int) : zTq tx n i w m = 0 ∨ zTq tx n i w m = 1 := by unfold zTq; split <;> simp
theorem zTq_1 {tx : zR} {n i w m : Int} (h : zTq tx n i w m = 1) : zTk tx n i = 1 ∧ zTm tx n i = m := by
  unfold zTq at h
  by_cases q : zTk tx n i = 1 ∧ zTl tx n i = w ∧ zTm tx n i = m
  · exact ⟨q.1, q.2.2⟩
  · rw [if_neg q] at h; omega
theorem sp_X6_readsItem {l : Launch} {d : Nat} {σ : zMem} {g0 g r : zR} {n i c : Int} (hd : 8 ≤ d) (hc : 0 ≤ c ∧ c ≤ 200) (hx : ztx (σ 223) n) (h6 : g 6 = n) (ho : zTo (σ 223) n i g0 g) (hT : zVT r) (hoo : zoo (σ 218) r) : zSp l d mX6_readsItem [.ref 217, .int (zI c)] (zM2 σ g r) (zrD σ g n (zrItem (σ 223) n i c r)) := by
  refine zSp_of oX6_readsItem (Nat.le_of_ble_eq_true rfl) ?_
  show zw l d mX6_readsItem 0 [some (.ref 217), some (.int (zI c))] [] (zM2 σ g r) _
  unfold zrItem
  have hn := hx.1
  have e2 : zM2 σ g r 223 = σ 223 := zM2_ne σ g r (by decide) (by decide)
  obtain ⟨o1, o2, o3, o4, o5, o6, o7⟩ := id ho
  have hr33 := hT.1.1
  have hr48 := hT.1.2.1
  have hr0 := hT.2.1.1
  refine zw_aload_n 1 dX6_readsItem_0 rfl rfl ?_
  refine zw_ldc 3 (109101701) dX6_readsItem_1 rfl cX6_171 ?_
  refine zw_bipush 5 dX6_readsItem_3 rfl (by decide) ?_
  refine zw_callV 8 _ _ dX6_readsItem_5 rfl kX6_172 qX6_isWord ly217 ⟨_, rfl, rfl⟩ (by decide) (sp_X6_isWord (d := d - 1) (σ := zM2 σ g r) (i := i) (g0 := g0) (n := n) (w := 109101701) (mm := 7) (by omega) (by omega) (by omega) (by rw [zM2_217, e2]; exact ho)) (by omega) rfl rfl (Nat.le_of_ble_eq_true rfl) (fun r σ' hq => ?_)
  obtain ⟨rfl, rfl⟩ := hq
  rw [e2]
  have q171 := zTq_b (σ 223) n i 109101701 7
  refine zw_if_eq 30 11 dX6_readsItem_8 (by decide) rfl (by omega) (fun h8 => ?_) (fun h8 => ?_)
  · refine zw_iload_n 31 dX6_readsItem_30 rfl rfl ?_
    refine zw_if_ne 36 34 dX6_readsItem_31 (by decide) rfl (by omega) (fun h31 => ?_) (fun h31 => ?_)
    · first
        | (rw [if_neg (show ¬ (zTq (σ 223) n i 109101701 7 = 1 ∧ zTs (σ 223) n i = 114) by omega), if_neg (show ¬ c = 0 by omega)]; skip)
      refine zw_aload_n 37 dX6_readsItem_36 rfl rfl ?_
      refine zw_ldc 39 (627764) dX6_readsItem_37 rfl cX6_175 ?_
      refine zw_iconst 40 dX6_readsItem_39 rfl ?_
      refine zw_callV 43 _ _ dX6_readsItem_40 rfl kX6_172 qX6_isWord ly217 ⟨_, rfl, rfl⟩ (by decide) (sp_X6_isWord (d := d - 1) (σ := zM2 σ g r) (i := i) (g0 := g0) (n := n) (w := 627764) (mm := 4) (by omega) (by omega) (by omega) (by rw [zM2_217, e2]; exact ho)) (by omega) rfl rfl (Nat.le_of_ble_eq_true rfl) (fun r σ' hq => ?_)
      obtain ⟨rfl, rfl⟩ := hq
      rw [e2]
      have q175 := zTq_b (σ 223) n i 627764 4
      refine zw_if_eq 51 46 dX6_readsItem_43 (by decide) rfl (by omega) (fun h43 => ?_) (fun h43 => ?_)
      · rw [if_neg (show ¬ zTq (σ 223) n i 627764 4 = 1 by omega)]
        refine zw_aload_n 52 dX6_readsItem_51 rfl rfl ?_
        refine zw_ldc 54 (3193326) dX6_readsItem_52 rfl cX6_179 ?_
        refine zw_iconst 55 dX6_readsItem_54 rfl ?_
        refine zw_callV 58 _ _ dX6_readsItem_55 rfl kX6_172 qX6_isWord ly217 ⟨_, rfl, rfl⟩ (by decide) (sp_X6_isWord (d := d - 1) (σ := zM2 σ g r) (i := i) (g0 := g0) (n := n) (w := 3193326) (mm := 5) (by omega) (by omega) (by omega) (by rw [zM2_217, e2]; exact ho)) (by omega) rfl rfl (Nat.le_of_ble_eq_true rfl) (fun r σ' hq => ?_)
        obtain ⟨rfl, rfl⟩ := hq
        rw [e2]
        have q179 := zTq_b (σ 223) n i 3193326 5
        refine zw_if_eq 66 61 dX6_readsItem_58 (by decide) rfl (by omega) (fun h58 => ?_) (fun h58 => ?_)
        · rw [if_neg (show ¬ zTq (σ 223) n i 3193326 5 = 1 by omega)]
          refine zw_aload_n 67 dX6_readsItem_66 rfl rfl ?_
          refine zw_ldc 69 (632467) dX6_readsItem_67 rfl cX6_183 ?_
          refine zw_iconst 70 dX6_readsItem_69 rfl ?_
          refine zw_callV 73 _ _ dX6_readsItem_70 rfl kX6_172 qX6_isWord ly217 ⟨_, rfl, rfl⟩ (by decide) (sp_X6_isWord (d := d - 1) (σ := zM2 σ g r) (i := i) (g0 := g0) (n := n) (w := 632467) (mm := 4) (by omega) (by omega) (by omega) (by rw [zM2_217, e2]; exact ho)) (by omega) rfl rfl (Nat.le_of_ble_eq_true rfl) (fun r σ' hq => ?_)
          obtain ⟨rfl, rfl⟩ := hq
          rw [e2]
          have q183 := zTq_b (σ 223) n i 632467 4
          refine zw_if_eq 81 76 dX6_readsItem_73 (by decide) rfl (by omega) (fun h73 => ?_) (fun h73 => ?_)
          · rw [if_neg (show ¬ zTq (σ 223) n i 632467 4 = 1 by omega)]
            refine zw_aload_n 82 dX6_readsItem_81 rfl rfl ?_
            refine zw_ldc 84 (26379859) dX6_readsItem_82 rfl cX6_187 ?_
            refine zw_iconst 85 dX6_readsItem_84 rfl ?_
            refine zw_callV 88 _ _ dX6_readsItem_85 rfl kX6_172 qX6_isWord ly217 ⟨_, rfl, rfl⟩ (by decide) (sp_X6_isWord (d := d - 1) (σ := zM2 σ g r) (i := i) (g0 := g0) (n := n) (w := 26379859) (mm := 5) (by omega) (by omega) (by omega) (by rw [zM2_217, e2]; exact ho)) (by omega) rfl rfl (Nat.le_of_ble_eq_true rfl) (fun r σ' hq => ?_)
            obtain ⟨rfl, rfl⟩ := hq
            rw [e2]
            have q187 := zTq_b (σ 223) n i 26379859 5
            refine zw_if_eq 102 91 dX6_readsItem_88 (by decide) rfl (by omega) (fun h88 => ?_) (fun h88 => ?_)
            · refine zw_iconst 103 dX6_readsItem_102 rfl ?_
              refine zw_zret dX6_readsItem_103 rfl (by omega) ?_
              first
                | exact hD
                | (obtain rfl : v = 1 := (by omega); exact hD)
                | (obtain rfl : v = 0 := (by omega); exact hD)
                | (rw [if_neg (show ¬ zTq (σ 223) n i 26379859 5 = 1 by omega)]; exact ⟨g, r, rfl, fun _ _ => rfl, by omega, by omega, rfl, o3⟩)
            · rw [if_pos (show zTq (σ 223) n i 26379859 5 = 1 by omega)]
              refine zw_aload_n 92 dX6_readsItem_91 rfl rfl ?_
              refine zw_callV 95 _ _ dX6_readsItem_92 rfl kX6_188 qX6_readsYears ly217 ⟨_, rfl, rfl⟩ (by decide) (sp_X6_readsYears (d := d - 1) (σ := σ) (g := g) (r := r) (n := n) (by omega) hx h6 (by omega) hT hoo) (by omega) rfl rfl (Nat.le_of_ble_eq_true rfl) (fun r σ' hq => ?_)
              obtain ⟨v, rfl, hv, hD⟩ := zrD_v hq
              rw [o2] at hD
              refine zw_if_eq 102 98 dX6_readsItem_95 (by decide) rfl (by omega) (fun h95 => ?_) (fun h95 => ?_)
              · refine zw_iconst 103 dX6_readsItem_102 rfl ?_
                refine zw_zret dX6_readsItem_103 rfl (by omega) ?_
                first
                  | exact hD
                  | (obtain rfl : v = 1 := (by omega); exact hD)
                  | (obtain rfl : v = 0 := (by omega); exact hD)
                  | (rw [if_neg (show ¬ zTq (σ 223) n i 26379859 5 = 1 by omega)]; exact ⟨g, r, rfl, fun _ _ => rfl, by omega, by omega, rfl, o3⟩)
              · refine zw_iconst 99 dX6_readsItem_98 rfl ?_
                refine zw_goto 103 dX6_readsItem_99 (by decide) ?_
                refine zw_zret dX6_readsItem_103 rfl (by omega) ?_
                first
                  | exact hD
                  | (obtain rfl : v = 1 := (by omega); exact hD)
                  | (obtain rfl : v = 0 := (by omega); exact hD)
                  | (rw [if_neg (show ¬ zTq (σ 223) n i 26379859 5 = 1 by omega)]; exact ⟨g, r, rfl, fun _ _ => rfl, by omega, by omega, rfl, o3⟩)
          · rw [if_pos (show zTq (σ 223) n i 632467 4 = 1 by omega)]
            refine zw_aload_n 77 dX6_readsItem_76 rfl rfl ?_
            refine zw_callV 80 _ _ dX6_readsItem_77 rfl kX6_184 qX6_readsSitting ly217 ⟨_, rfl, rfl⟩ (by decide) (sp_X6_readsSitting (d := d - 1) (σ := σ) (g := g) (r := r) (n := n) (by omega) hx h6 (by omega) (by omega) (by omega) (fun c0 q0 q1 => by have := hr0 c0 q0 q1; omega)) (by omega) rfl rfl (Nat.le_of_ble_eq_true rfl) (fun r σ' hq => ?_)
            obtain ⟨v, rfl, hv, hD⟩ := zrD_v hq
            rw [o2] at hD
            refine zw_zret dX6_readsItem_80 rfl (by omega) ?_
            first
              | exact hD
              | (obtain rfl : v = 1 := (by omega); exact hD)
              | (obtain rfl : v = 0 := (by omega); exact hD)
              | (rw [if_neg (show ¬ zTq (σ 223) n i 26379859 5 = 1 by omega)]; exact ⟨g, r, rfl, fun _ _ => rfl, by omega, by omega, rfl, o3⟩)
        · rw [if_pos (show zTq (σ 223) n i 3193326 5 = 1 by omega)]
          refine zw_aload_n 62 dX6_readsItem_61 rfl rfl ?_
          refine zw_callV 65 _ _ dX6_readsItem_62 rfl kX6_180 qX6_readsCanon ly217 ⟨_, rfl, rfl⟩ (by decide) (sp_X6_readsCanon (d := d - 1) (σ := σ) (g := g) (r := r) (n := n) (by omega) hx h6 (by omega) (by omega) (by omega)) (by omega) rfl rfl (Nat.le_of_ble_eq_true rfl) (fun r σ' hq => ?_)
          obtain ⟨v, rfl, hv, hD⟩ := zrD_v hq
          rw [o2, o3] at hD
          refine zw_zret dX6_readsItem_65 rfl (by omega) ?_
          first
            | exact hD
            | (obtain rfl : v = 1 := (by omega); exact hD)
            | (obtain rfl : v = 0 := (by omega); exact hD)
            | (rw [if_neg (show ¬ zTq (σ 223) n i 26379859 5 = 1 by omega)]; exact ⟨g, r, rfl, fun _ _ => rfl, by omega, by omega, rfl, o3⟩)
      · rw [if_pos (show zTq (σ 223) n i 627764 4 = 1 by omega)]
        refine zw_aload_n 47 dX6_readsItem_46 rfl rfl ?_
        refine zw_callV 50 _ _ dX6_readsItem_47 rfl kX6_176 qX6_readsSeat ly217 ⟨_, rfl, rfl⟩ (by decide) (sp_X6_readsSeat (d := d - 1) (σ := σ) (g := g) (r := r) (n := n) (by omega) hx h6 (by omega) (by omega) (by omega)) (by omega) rfl rfl (Nat.le_of_ble_eq_true rfl) (fun r σ' hq => ?_)
        obtain ⟨v, rfl, hv, hD⟩ := zrD_v hq
        rw [o2, o3] at hD
        refine zw_zret dX6_readsItem_50 rfl (by omega) ?_
        first
          | exact hD
          | (obtain rfl : v = 1 := (by omega); exact hD)
          | (obtain rfl : v = 0 := (by omega); exact hD)
          | (rw [if_neg (show ¬ zTq (σ 223) n i 26379859 5 = 1 by omega)]; exact ⟨g, r, rfl, fun _ _ => rfl, by omega, by omega, rfl, o3⟩)
    · rw [if_neg (show ¬ (zTq (σ 223) n i 109101701 7 = 1 ∧ zTs (σ 223) n i = 114) by omega)]
      rw [if_pos (show c = 0 by omega)]
      refine zw_iconst 35 dX6_readsItem_34 rfl ?_
      refine zw_zret dX6_readsItem_35 rfl (by omega) ?_
      exact ⟨g, r, rfl, fun _ _ => rfl, by omega, by omega, rfl, o3⟩
      
  · have w1 := zTq_1 (tx := σ 223) (n := n) (i := i) (w := 109101701) (m := 7) (by omega)
    have o8 := (o6 w1.1).2.2.1 (by omega)
    have t8 : g 16 ≤ 127 ∧ 0 ≤ g 16 := by
      have m8 := zTk_1 w1.1
      have := hx.2 (zTb (σ 223) n i + 6) (by omega) (by omega)
      rw [o8]; unfold zTs; omega
    refine zw_aload_n 12 dX6_readsItem_11 rfl rfl ?_
    refine zw_gti 15 16 dX6_readsItem_12 rfl fX6_149 (by decide) rfl rfl ly217 ?_
    try simp (disch := decide) only [zM2_r, zM2_g, zM2_217, zM2_219, zM2_ne]
    refine zw_bipush 17 dX6_readsItem_15 rfl (by decide) ?_
    refine zw_icmp_ne 30 20 dX6_readsItem_17 (by decide) rfl (by omega) (by omega) (fun h17 => ?_) (fun h17 => ?_)
    · refine zw_iload_n 31 dX6_readsItem_30 rfl rfl ?_
      refine zw_if_ne 36 34 dX6_readsItem_31 (by decide) rfl (by omega) (fun h31 => ?_) (fun h31 => ?_)
      · first
          | (rw [if_neg (show ¬ (zTq (σ 223) n i 109101701 7 = 1 ∧ zTs (σ 223) n i = 114) by omega), if_neg (show ¬ c = 0 by omega)]; skip)
        refine zw_aload_n 37 dX6_readsItem_36 rfl rfl ?_
        refine zw_ldc 39 (627764) dX6_readsItem_37 rfl cX6_175 ?_
        refine zw_iconst 40 dX6_readsItem_39 rfl ?_
        refine zw_callV 43 _ _ dX6_readsItem_40 rfl kX6_172 qX6_isWord ly217 ⟨_, rfl, rfl⟩ (by decide) (sp_X6_isWord (d := d - 1) (σ := zM2 σ g r) (i := i) (g0 := g0) (n := n) (w := 627764) (mm := 4) (by omega) (by omega) (by omega) (by rw [zM2_217, e2]; exact ho)) (by omega) rfl rfl (Nat.le_of_ble_eq_true rfl) (fun r σ' hq => ?_)
        obtain ⟨rfl, rfl⟩ := hq
        rw [e2]
        have q175 := zTq_b (σ 223) n i 627764 4
        refine zw_if_eq 51 46 dX6_readsItem_43 (by decide) rfl (by omega) (fun h43 => ?_) (fun h43 => ?_)
        · rw [if_neg (show ¬ zTq (σ 223) n i 627764 4 = 1 by omega)]
          refine zw_aload_n 52 dX6_readsItem_51 rfl rfl ?_
          refine zw_ldc 54 (3193326) dX6_readsItem_52 rfl cX6_179 ?_
          refine zw_iconst 55 dX6_readsItem_54 rfl ?_
          refine zw_callV 58 _ _ dX6_readsItem_55 rfl kX6_172 qX6_isWord ly217 ⟨_, rfl, rfl⟩ (by decide) (sp_X6_isWord (d := d - 1) (σ := zM2 σ g r) (i := i) (g0 := g0) (n := n) (w := 3193326) (mm := 5) (by omega) (by omega) (by omega) (by rw [zM2_217, e2]; exact ho)) (by omega) rfl rfl (Nat.le_of_ble_eq_true rfl) (fun r σ' hq => ?_)
          obtain ⟨rfl, rfl⟩ := hq
          rw [e2]
          have q179 := zTq_b (σ 223) n i 3193326 5
          refine zw_if_eq 66 61 dX6_readsItem_58 (by decide) rfl (by omega) (fun h58 => ?_) (fun h58 => ?_)
          · rw [if_neg (show ¬ zTq (σ 223) n i 3193326 5 = 1 by omega)]
            refine zw_aload_n 67 dX6_readsItem_66 rfl rfl ?_
            refine zw_ldc 69 (632467) dX6_readsItem_67 rfl cX6_183 ?_
            refine zw_iconst 70 dX6_readsItem_69 rfl ?_
            refine zw_callV 73 _ _ dX6_readsItem_70 rfl kX6_172 qX6_isWord ly217 ⟨_, rfl, rfl⟩ (by decide) (sp_X6_isWord (d := d - 1) (σ := zM2 σ g r) (i := i) (g0 := g0) (n := n) (w := 632467) (mm := 4) (by omega) (by omega) (by omega) (by rw [zM2_217, e2]; exact ho)) (by omega) rfl rfl (Nat.le_of_ble_eq_true rfl) (fun r σ' hq => ?_)
            obtain ⟨rfl, rfl⟩ := hq
            rw [e2]
            have q183 := zTq_b (σ 223) n i 632467 4
            refine zw_if_eq 81 76 dX6_readsItem_73 (by decide) rfl (by omega) (fun h73 => ?_) (fun h73 => ?_)
            · rw [if_neg (show ¬ zTq (σ 223) n i 632467 4 = 1 by omega)]
              refine zw_aload_n 82 dX6_readsItem_81 rfl rfl ?_
              refine zw_ldc 84 (26379859) dX6_readsItem_82 rfl cX6_187 ?_
              refine zw_iconst 85 dX6_readsItem_84 rfl ?_
              refine zw_callV 88 _ _ dX6_readsItem_85 rfl kX6_172 qX6_isWord ly217 ⟨_, rfl, rfl⟩ (by decide) (sp_X6_isWord (d := d - 1) (σ := zM2 σ g r) (i := i) (g0 := g0) (n := n) (w := 26379859) (mm := 5) (by omega) (by omega) (by omega) (by rw [zM2_217, e2]; exact ho)) (by omega) rfl rfl (Nat.le_of_ble_eq_true rfl) (fun r σ' hq => ?_)
              obtain ⟨rfl, rfl⟩ := hq
              rw [e2]
              have q187 := zTq_b (σ 223) n i 26379859 5
              refine zw_if_eq 102 91 dX6_readsItem_88 (by decide) rfl (by omega) (fun h88 => ?_) (fun h88 => ?_)
              · refine zw_iconst 103 dX6_readsItem_102 rfl ?_
                refine zw_zret dX6_readsItem_103 rfl (by omega) ?_
                first
                  | exact hD
                  | (obtain rfl : v = 1 := (by omega); exact hD)
                  | (obtain rfl : v = 0 := (by omega); exact hD)
                  | (rw [if_neg (show ¬ zTq (σ 223) n i 26379859 5 = 1 by omega)]; exact ⟨g, r, rfl, fun _ _ => rfl, by omega, by omega, rfl, o3⟩)
              · rw [if_pos (show zTq (σ 223) n i 26379859 5 = 1 by omega)]
                refine zw_aload_n 92 dX6_readsItem_91 rfl rfl ?_
                refine zw_callV 95 _ _ dX6_readsItem_92 rfl kX6_188 qX6_readsYears ly217 ⟨_, rfl, rfl⟩ (by decide) (sp_X6_readsYears (d := d - 1) (σ := σ) (g := g) (r := r) (n := n) (by omega) hx h6 (by omega) hT hoo) (by omega) rfl rfl (Nat.le_of_ble_eq_true rfl) (fun r σ' hq => ?_)
                obtain ⟨v, rfl, hv, hD⟩ := zrD_v hq
                rw [o2] at hD
                refine zw_if_eq 102 98 dX6_readsItem_95 (by decide) rfl (by omega) (fun h95 => ?_) (fun h95 => ?_)
                · refine zw_iconst 103 dX6_readsItem_102 rfl ?_
                  refine zw_zret dX6_readsItem_103 rfl (by omega) ?_
                  first
                    | exact hD
                    | (obtain rfl : v = 1 := (by omega); exact hD)
                    | (obtain rfl : v = 0 := (by omega); exact hD)
                    | (rw [if_neg (show ¬ zTq (σ 223) n i 26379859 5 = 1 by omega)]; exact ⟨g, r, rfl, fun _ _ => rfl, by omega, by omega, rfl, o3⟩)
                · refine zw_iconst 99 dX6_readsItem_98 rfl ?_
                  refine zw_goto 103 dX6_readsItem_99 (by decide) ?_
                  refine zw_zret dX6_readsItem_103 rfl (by omega) ?_
                  first
                    | exact hD
                    | (obtain rfl : v = 1 := (by omega); exact hD)
                    | (obtain rfl : v = 0 := (by omega); exact hD)
                    | (rw [if_neg (show ¬ zTq (σ 223) n i 26379859 5 = 1 by omega)]; exact ⟨g, r, rfl, fun _ _ => rfl, by omega, by omega, rfl, o3⟩)
            · rw [if_pos (show zTq (σ 223) n i 632467 4 = 1 by omega)]
              refine zw_aload_n 77 dX6_readsItem_76 rfl rfl ?_
              refine zw_callV 80 _ _ dX6_readsItem_77 rfl kX6_184 qX6_readsSitting ly217 ⟨_, rfl, rfl⟩ (by decide) (sp_X6_readsSitting (d := d - 1) (σ := σ) (g := g) (r := r) (n := n) (by omega) hx h6 (by omega) (by omega) (by omega) (fun c0 q0 q1 => by have := hr0 c0 q0 q1; omega)) (by omega) rfl rfl (Nat.le_of_ble_eq_true rfl) (fun r σ' hq => ?_)
              obtain ⟨v, rfl, hv, hD⟩ := zrD_v hq
              rw [o2] at hD
              refine zw_zret dX6_readsItem_80 rfl (by omega) ?_
              first
                | exact hD
                | (obtain rfl : v = 1 := (by omega); exact hD)
                | (obtain rfl : v = 0 := (by omega); exact hD)
                | (rw [if_neg (show ¬ zTq (σ 223) n i 26379859 5 = 1 by omega)]; exact ⟨g, r, rfl, fun _ _ => rfl, by omega, by omega, rfl, o3⟩)
          · rw [if_pos (show zTq (σ 223) n i 3193326 5 = 1 by omega)]
            refine zw_aload_n 62 dX6_readsItem_61 rfl rfl ?_
            refine zw_callV 65 _ _ dX6_readsItem_62 rfl kX6_180 qX6_readsCanon ly217 ⟨_, rfl, rfl⟩ (by decide) (sp_X6_readsCanon (d := d - 1) (σ := σ) (g := g) (r := r) (n := n) (by omega) hx h6 (by omega) (by omega) (by omega)) (by omega) rfl rfl (Nat.le_of_ble_eq_true rfl) (fun r σ' hq => ?_)
            obtain ⟨v, rfl, hv, hD⟩ := zrD_v hq
            rw [o2, o3] at hD
            refine zw_zret dX6_readsItem_65 rfl (by omega) ?_
            first
              | exact hD
              | (obtain rfl : v = 1 := (by omega); exact hD)
              | (obtain rfl : v = 0 := (by omega); exact hD)
              | (rw [if_neg (show ¬ zTq (σ 223) n i 26379859 5 = 1 by omega)]; exact ⟨g, r, rfl, fun _ _ => rfl, by omega, by omega, rfl, o3⟩)
        · rw [if_pos (show zTq (σ 223) n i 627764 4 = 1 by omega)]
          refine zw_aload_n 47 dX6_readsItem_46 rfl rfl ?_
          refine zw_callV 50 _ _ dX6_readsItem_47 rfl kX6_176 qX6_readsSeat ly217 ⟨_, rfl, rfl⟩ (by decide) (sp_X6_readsSeat (d := d - 1) (σ := σ) (g := g) (r := r) (n := n) (by omega) hx h6 (by omega) (by omega) (by omega)) (by omega) rfl rfl (Nat.le_of_ble_eq_true rfl) (fun r σ' hq => ?_)
          obtain ⟨v, rfl, hv, hD⟩ := zrD_v hq
          rw [o2, o3] at hD
          refine zw_zret dX6_readsItem_50 rfl (by omega) ?_
          first
            | exact hD
            | (obtain rfl : v = 1 := (by omega); exact hD)
            | (obtain rfl : v = 0 := (by omega); exact hD)
            | (rw [if_neg (show ¬ zTq (σ 223) n i 26379859 5 = 1 by omega)]; exact ⟨g, r, rfl, fun _ _ => rfl, by omega, by omega, rfl, o3⟩)
      · rw [if_neg (show ¬ (zTq (σ 223) n i 109101701 7 = 1 ∧ zTs (σ 223) n i = 114) by omega)]
        rw [if_pos (show c = 0 by omega)]
        refine zw_iconst 35 dX6_readsItem_34 rfl ?_
        refine zw_zret dX6_readsItem_35 rfl (by omega) ?_
        exact ⟨g, r, rfl, fun _ _ => rfl, by omega, by omega, rfl, o3⟩
        
    · rw [if_pos (show zTq (σ 223) n i 109101701 7 = 1 ∧ zTs (σ 223) n i = 114 from ⟨by omega, by omega⟩)]
      refine zw_iload_n 21 dX6_readsItem_20 rfl rfl ?_
      refine zw_if_ne 28 24 dX6_readsItem_21 (by decide) rfl (by omega) (fun h21 => ?_) (fun h21 => ?_)
      · refine zw_iconst 29 dX6_readsItem_28 rfl ?_
        refine zw_zret dX6_readsItem_29 rfl (by omega) ?_
        first
          | (rw [if_pos (show c = 0 by omega)]; exact ⟨g, r, rfl, fun _ _ => rfl, by omega, by omega, rfl, o2, rfl⟩)
          | (rw [if_neg (show ¬ c = 0 by omega)]; exact ⟨g, r, rfl, fun _ _ => rfl, by omega, by omega, rfl, o3⟩)
      · refine zw_iconst 25 dX6_readsItem_24 rfl ?_
        refine zw_goto 29 dX6_readsItem_25 (by decide) ?_
        refine zw_zret dX6_readsItem_29 rfl (by omega) ?_
        first
          | (rw [if_pos (show c = 0 by omega)]; exact ⟨g, r, rfl, fun _ _ => rfl, by omega, by omega, rfl, o2, rfl⟩)
          | (rw [if_neg (show ¬ c = 0 by omega)]; exact ⟨g, r, rfl, fun _ _ => rfl, by omega, by omega, rfl, o3⟩)
      
