abbrev mJ0_length_8abf5 : zMth := (RJ0, yJ0_length_8abf5, cJ0_length_8abf5, 1, (Option.some ClassFile.FieldType.int))
theorem oJ0_length_8abf5 : zMok mJ0_length_8abf5 := ⟨(by decide +kernel), rfl, zw_in 351 (by decide +kernel) rfl, by decide⟩
theorem qJ0_length_8abf5 : zcm mJ0_length_8abf5 0 := ⟨zw_in 9 (by decide +kernel) rfl, zw_in 351 (by decide +kernel) rfl, by decide, by decide, (by decide +kernel), by decide⟩
abbrev mJ0_charAt_5068e : zMth := (RJ0, yJ0_charAt_5068e, cJ0_charAt_5068e, 2, (Option.some ClassFile.FieldType.char))
theorem oJ0_charAt_5068e : zMok mJ0_charAt_5068e := ⟨(by decide +kernel), rfl, zw_in 361 (by decide +kernel) rfl, by decide⟩
theorem qJ0_charAt_5068e : zcm mJ0_charAt_5068e 1 := ⟨zw_in 9 (by decide +kernel) rfl, zw_in 361 (by decide +kernel) rfl, by decide, by decide, (by decide +kernel), by decide⟩
abbrev mJ0_coder_7d493 : zMth := (RJ0, yJ0_coder_7d493, cJ0_coder_7d493, 1, (Option.some ClassFile.FieldType.byte))
theorem oJ0_coder_7d493 : zMok mJ0_coder_7d493 := ⟨(by decide +kernel), rfl, zw_in 355 (by decide +kernel) rfl, by decide⟩
theorem qJ0_coder_7d493 : zcm mJ0_coder_7d493 0 := ⟨zw_in 9 (by decide +kernel) rfl, zw_in 355 (by decide +kernel) rfl, by decide, by decide, (by decide +kernel), by decide⟩
abbrev mJ0_isLatin1_aae02 : zMth := (RJ0, yJ0_isLatin1_aae02, cJ0_isLatin1_aae02, 1, (Option.some ClassFile.FieldType.boolean))
theorem oJ0_isLatin1_aae02 : zMok mJ0_isLatin1_aae02 := ⟨(by decide +kernel), rfl, zw_in 365 (by decide +kernel) rfl, by decide⟩
theorem qJ0_isLatin1_aae02 : zcm mJ0_isLatin1_aae02 0 := ⟨zw_in 9 (by decide +kernel) rfl, zw_in 365 (by decide +kernel) rfl, by decide, by decide, (by decide +kernel), by decide⟩
abbrev mJ0_checkIndex_df160 : zMth := (RJ0, yJ0_checkIndex_df160, cJ0_checkIndex_df160, 2, (Option.none : Option ClassFile.FieldType))
theorem oJ0_checkIndex_df160 : zMok mJ0_checkIndex_df160 := ⟨(by decide +kernel), rfl, zw_in 371 (by decide +kernel) rfl, by decide⟩
theorem qJ0_checkIndex_df160 : zcm mJ0_checkIndex_df160 2 := ⟨zw_in 9 (by decide +kernel) rfl, zw_in 371 (by decide +kernel) rfl, by decide, by decide, (by decide +kernel), by decide⟩
abbrev mJ1_charAt_3b067 : zMth := (RJ1, yJ1_charAt_3b067, cJ1_charAt_3b067, 2, (Option.some ClassFile.FieldType.char))
theorem oJ1_charAt_3b067 : zMok mJ1_charAt_3b067 := ⟨(by decide +kernel), rfl, zw_in 368 (by decide +kernel) rfl, by decide⟩
theorem qJ1_charAt_3b067 : zcm mJ1_charAt_3b067 2 := ⟨zw_in 10 (by decide +kernel) rfl, zw_in 368 (by decide +kernel) rfl, by decide, by decide, (by decide +kernel), by decide⟩
abbrev mJ3_checkIndex_8e157 : zMth := (RJ3, yJ3_checkIndex_8e157, cJ3_checkIndex_8e157, 3, (Option.some ClassFile.FieldType.int))
theorem oJ3_checkIndex_8e157 : zMok mJ3_checkIndex_8e157 := ⟨(by decide +kernel), rfl, zw_in 376 (by decide +kernel) rfl, by decide⟩
theorem qJ3_checkIndex_8e157 : zcm mJ3_checkIndex_8e157 3 := ⟨zw_in 11 (by decide +kernel) rfl, zw_in 376 (by decide +kernel) rfl, by decide, by decide, (by decide +kernel), by decide⟩
theorem kX4_123 : zcv RX4 123 mJ0_length_8abf5 := ⟨zw_in 348 (by decide +kernel) rfl, zw_in 349 (by decide +kernel) rfl, zw_in 350 (by decide +kernel) rfl⟩
theorem kJ0_335 : zcv RJ0 335 mJ0_coder_7d493 := ⟨zw_in 352 (by decide +kernel) rfl, zw_in 353 (by decide +kernel) rfl, zw_in 354 (by decide +kernel) rfl⟩
theorem kX4_127 : zcv RX4 127 mJ0_charAt_5068e := ⟨zw_in 358 (by decide +kernel) rfl, zw_in 359 (by decide +kernel) rfl, zw_in 360 (by decide +kernel) rfl⟩
theorem kJ0_492 : zcv RJ0 492 mJ0_isLatin1_aae02 := ⟨zw_in 362 (by decide +kernel) rfl, zw_in 363 (by decide +kernel) rfl, zw_in 364 (by decide +kernel) rfl⟩
theorem kJ0_495 : zcs RJ0 495 mJ1_charAt_3b067 := ⟨zw_in 366 (by decide +kernel) rfl, zw_in 367 (by decide +kernel) rfl⟩
theorem kJ1_9 : zcs RJ1 9 mJ0_checkIndex_df160 := ⟨zw_in 369 (by decide +kernel) rfl, zw_in 370 (by decide +kernel) rfl⟩
theorem kJ0_1059 : zcs RJ0 1059 mJ3_checkIndex_8e157 := ⟨zw_in 374 (by decide +kernel) rfl, zw_in 375 (by decide +kernel) rfl⟩
theorem kJ2_414 : zcs RJ2 414 mJ0_checkIndex_df160 := ⟨zw_in 386 (by decide +kernel) rfl, zw_in 370 (by decide +kernel) rfl⟩
theorem sJ0_38 : Cond.fieldLink RJ0 38 "java/lang/String" "COMPACT_STRINGS" "Z" ∈ ztbl := zw_in 356 (by decide +kernel) rfl
theorem sJ0_1053 : Cond.fieldLink RJ0 1053 "jdk/internal/util/Preconditions" "SIOOBE_FORMATTER" "Ljava/util/function/BiFunction;" ∈ ztbl := zw_in 372 (by decide +kernel) rfl
theorem sJ0_9 : Cond.fieldLink RJ0 9 "java/lang/String" "value" "[B" ∈ ztbl := zw_in 1246 (by decide +kernel) rfl
theorem sJ0_15 : Cond.fieldLink RJ0 15 "java/lang/String" "coder" "B" ∈ ztbl := zw_in 1247 (by decide +kernel) rfl
theorem zad_k (G : zG) (i : Nat) : zad G (10000 + i) = zGK G i := by
  unfold zad; rw [if_neg (by omega), if_neg (by omega), Nat.add_sub_cancel_left]
theorem zold_k {G : zG} {s : State} (h : zOld G s) : ∀ a : Nat, a < (zGH G).size → ¬ zA G a → s.heap[a]? = (zGH G)[a]? := fun a _ h2 => h.2.1 a (Nat.lt_of_not_le h2)
section ZS
variable {l : Launch} {d : Nat} {M : zMth} {pc : Nat} {L : List (Option Value)} {st : List Value} {σ : zMem} {Q : Option Value → zMem → Prop}
theorem zw_ldcS (pc' : Nat) {idx : Nat} (i : Nat) (hd : decode M.2.2.1 pc = .ok (.ldc idx, 2)) (hp : pc + 2 = pc') (hM : M.1 = RX4) (hi : i < 5) (hx : zSi i = idx) (kk : zw l d M pc' L (.ref (10000 + i) :: st) σ Q) : zw l d M pc L st σ Q := by
  subst hp; subst hx; intro G p e R s m args below meth c cells slots Z hC H locs ls hP hS hl
  exact va_ldcS (own := RX4) (q := zad G (10000 + i)) hC.1 hC.2.1 (by rw [← hM]; exact hC.2.2.2.1) (by rw [zad_k]; exact hC.2.2.2.2.2.2.1.1.1 i hi) hd (kk G p e R s m args below meth c cells slots Z hC H locs ls hP hS hl)
theorem zw_sval (pc' : Nat) {i : Nat} (hd : decode M.2.2.1 pc = .ok (.getfield 9, 3)) (hp : pc + 3 = pc') (hM : M.1 = RJ0) (hi : i < 5) (kk : zw l d M pc' L (.ref (10010 + i) :: st) σ Q) : zw l d M pc L (.ref (10000 + i) :: st) σ Q := by
  subst hp; intro G p e R s m args below meth c cells slots Z hC H locs ls hP hS hl
  have hss := hC.2.2.2.2.2.2.1.2
  have e1 : zad G (10010 + i) = zGV G i := by
    rw [show 10010 + i = 10000 + (10 + i) by omega, zad_k]; exact (hss.2.1 i hi).symm
  have hE := ((hss.1.1 i hi).2.2.1).kept (zold_k hC.2.2.2.2.2.2.2.2.1)
  rw [← zad_k, ← e1] at hE
  exact vk_getf hC.1 hC.2.1 hE hS hC.2.2.2.1 (by rw [hM]; exact hC.2.2.2.2.1 _ sJ0_9) (fun _ h => h) hd (kk G p e R s m args below meth c cells slots Z hC H locs ls hP hS hl)
theorem zw_scod (pc' : Nat) {i : Nat} (hd : decode M.2.2.1 pc = .ok (.getfield 15, 3)) (hp : pc + 3 = pc') (hM : M.1 = RJ0) (hi : i < 5) (kk : zw l d M pc' L (.int (zI 0) :: st) σ Q) : zw l d M pc L (.ref (10000 + i) :: st) σ Q := by
  subst hp; intro G p e R s m args below meth c cells slots Z hC H locs ls hP hS hl
  have hss := hC.2.2.2.2.2.2.1.2
  have hE := ((hss.1.1 i hi).2.1).kept (zold_k hC.2.2.2.2.2.2.2.2.1)
  rw [← zad_k] at hE
  exact vk_getf hC.1 hC.2.1 hE hS hC.2.2.2.1 (by rw [hM]; exact hC.2.2.2.2.1 _ sJ0_15) (fun _ h => h) hd (kk G p e R s m args below meth c cells slots Z hC H locs ls hP hS hl)
theorem zw_gst (pc' : Nat) (hd : decode M.2.2.1 pc = .ok (.getstatic 38, 3)) (hp : pc + 3 = pc') (hM : M.1 = RJ0) (kk : zw l d M pc' L (.int (zI 1) :: st) σ Q) : zw l d M pc L st σ Q := by
  subst hp; intro G p e R s m args below meth c cells slots Z hC H locs ls hP hS hl
  have hss := hC.2.2.2.2.2.2.1.2
  exact va_gets hC.1 hC.2.1 (hss.2.2.1.kept (zold_k hC.2.2.2.2.2.2.2.2.1)) hS hC.2.2.2.1 (by rw [hM]; exact hC.2.2.2.2.1 _ sJ0_38) (fun _ h => h) hd (kk G p e R s m args below meth c cells slots Z hC H locs ls hP hS hl)
theorem zw_fmt (pc' : Nat) (hd : decode M.2.2.1 pc = .ok (.getstatic 1053, 3)) (hp : pc + 3 = pc') (hM : M.1 = RJ0) (k1 : zw l d M pc' L (.null :: st) σ Q) (k2 : zw l d M pc' L (.ref 10005 :: st) σ Q) : zw l d M pc L st σ Q := by
  subst hp; intro G p e R s m args below meth c cells slots Z hC H locs ls hP hS hl
  obtain ⟨v, hv, hz⟩ := hC.2.2.2.2.2.2.1.2.2.2.2
  have hz2 := hz.kept (zold_k hC.2.2.2.2.2.2.2.2.1)
  rcases hv with rfl | rfl
  · exact va_gets hC.1 hC.2.1 hz2 hS hC.2.2.2.1 (by rw [hM]; exact hC.2.2.2.2.1 _ sJ0_1053) (fun _ h => h) hd (k1 G p e R s m args below meth c cells slots Z hC H locs ls hP hS hl)
  · rw [← zad_k] at hz2
    exact va_gets hC.1 hC.2.1 hz2 hS hC.2.2.2.1 (by rw [hM]; exact hC.2.2.2.2.1 _ sJ0_1053) (fun _ h => h) hd (k2 G p e R s m args below meth c cells slots Z hC H locs ls hP hS hl)
theorem zw_slen (pc' : Nat) {i : Nat} (hd : decode M.2.2.1 pc = .ok (.arraylength, 1)) (hp : pc + 1 = pc') (hi : i < 5) (kk : zw l d M pc' L (.int (zI ((zSn.getD i 0 : Nat) : Int)) :: st) σ Q) : zw l d M pc L (.ref (10010 + i) :: st) σ Q := by
  subst hp; intro G p e R s m args below meth c cells slots Z hC H locs ls hP hS hl
  have hss := hC.2.2.2.2.2.2.1.2
  have e1 : zad G (10010 + i) = zGV G i := by
    rw [show 10010 + i = 10000 + (10 + i) by omega, zad_k]; exact (hss.2.1 i hi).symm
  have hE := ((hss.1.1 i hi).2.2.2).kept (zold_k hC.2.2.2.2.2.2.2.2.1)
  rw [← e1] at hE
  exact va_tlen hC.1 hC.2.1 hE hS (zI_nat _).symm hd (kk G p e R s m args below meth c cells slots Z hC H locs ls hP hS hl)
theorem zw_sbld (pc' : Nat) {i : Nat} {k : Int} (x : Int) (hd : decode M.2.2.1 pc = .ok (.baload, 1)) (hp : pc + 1 = pc') (hi : i < 5) (hk : 0 ≤ k ∧ k < ((zSn.getD i 0 : Nat) : Int)) (hx : (zSb.getD i []).getD k.toNat 0 = zI x) (kk : zw l d M pc' L (.int (zI x) :: st) σ Q) : zw l d M pc L (.int (zI k) :: .ref (10010 + i) :: st) σ Q := by
  subst hp; intro G p e R s m args below meth c cells slots Z hC H locs ls hP hS hl
  have hss := hC.2.2.2.2.2.2.1.2
  have e1 : zad G (10010 + i) = zGV G i := by
    rw [show 10010 + i = 10000 + (10 + i) by omega, zad_k]; exact (hss.2.1 i hi).symm
  have hE := ((hss.1.1 i hi).2.2.2).kept (zold_k hC.2.2.2.2.2.2.2.2.1)
  rw [← e1] at hE
  have h7 : ∀ i, i < 5 → zSn.getD i 0 < 10 := by decide
  have := h7 i hi
  exact va_tb hC.1 hC.2.1 hE hS (zI_in hk.1 hk.2 (by omega)) (v := .int (zI x)) (by rw [zI_clamp hk.1 (by omega), hx]) hd (kk G p e R s m args below meth c cells slots Z hC H locs ls hP hS hl)
theorem zw_callT (pc' : Nat) (As : List Value) (rest : List Value) {idx i n d' : Nat} {M' : zMth} {Q' : Option Value → zMem → Prop} (hd : decode M.2.2.1 pc = .ok (.invokevirtual idx, 3)) (hp : pc + 3 = pc') (hc : zcv M.1 idx M') (hm : zcm M' n) (hi : i < 5) (hcls : M'.2.1.cls = "java/lang/String") (hsp : zSp l d' M' (.ref (10000 + i) :: As) σ Q') (hdd : d' < d) (hn : As.length = n) (hst : st = As.reverse ++ .ref (10000 + i) :: rest) (hcat : (rest.map (fun v => v.category)).sum ≤ 8) (kk : ∀ r σ', Q' r σ' → zw l d M pc' L (r.toList ++ rest) σ' Q) : zw l d M pc L st σ Q := by
  subst hp; subst hst; intro G p e R s m args below meth c cells slots Z hC H locs ls hP hS hl
  obtain ⟨hx, hb, hml, hown, hts, hK, hStr, hScr, hOld, hR, hret⟩ := id hC
  obtain ⟨m1, m2, m3, m4, m5, m6⟩ := id hm
  have hrec : ∃ cell : Cell, H[zad G (10000 + i)]? = some cell ∧ cell.vm.isStatics = false ∧ s.vm.findClass M'.2.1.cls = some cell.cls := by
    obtain ⟨cell, h1, h2, h3, -⟩ := (((hStr.2.1.1 i hi).1).kept (zold_k hOld)).kept hS.2.1
    rw [zad_k, hcls]
    exact ⟨cell, h1, h2, h3⟩
  refine zgo hC hS hl (rest := rest) (va_runV (C := M'.2.1.cls) (b := zad G (10000 + i)) (As := As.map (ztr G)) (rest := rest.map (ztr G)) (n := n) (rm := zrm d') ⟨hx, hb, hml, hown, hts⟩ (hsp G) (cwV n hts (zgood (fun w hw => ?_)) rfl rfl rfl ⟨rfl, m3, m4, m5⟩ (zroom hR.1 hR.2.1 hdd m6)) ⟨zPc_blind, hrec, fun U hU hW => zpre hP hK hStr hScr hOld hS hU hW⟩ rfl (by simpa using hn) hl.1 (by simp [ztr]) (lv_room (by simpa [Function.comp_def, ztr_cat] using hcat)) hd ⟨by simpa using hR.2.2.1, by simpa using hR.2.2.2⟩) kk
  rcases List.mem_append.mp hw with hw | hw
  · simp only [List.mem_cons, List.not_mem_nil, or_false] at hw
    rcases hw with rfl | rfl | rfl | rfl
    · exact hc.1
    · exact hc.2.1
    · exact hc.2.2
    · exact m1
  · exact zws_ok hm w hw
end ZS
/-- the strings' bytes -/
def zsB : List (List Int) := [[99, 104, 97, 112, 116, 101, 114], [115, 101, 97, 116], [99, 97, 110, 111, 110], [115, 105, 116, 115], [121, 101, 97, 114, 115]]
def zsb (i : Nat) (k : Int) : Int := (zsB.getD i []).getD k.toNat 0
theorem zsb_ok : ∀ i, i < 5 → ∀ k : Nat, k < 7 → (zSb.getD i []).getD k 0 = zI ((zsB.getD i []).getD k 0) ∧ zI ((zsB.getD i []).getD k 0) &&& zI 255 = zI ((zsB.getD i []).getD k 0) ∧ ((zI ((zsB.getD i []).getD k 0)).toUInt32 % 65536).toInt32 = zI ((zsB.getD i []).getD k 0) ∧ narrow .char (.int (zI ((zsB.getD i []).getD k 0))) = .int (zI ((zsB.getD i []).getD k 0)) ∧ 0 ≤ (zsB.getD i []).getD k 0 ∧ (zsB.getD i []).getD k 0 ≤ 127 := by decide +kernel
theorem zsn_ok : ∀ i, i < 5 → 0 ≤ ((zSn.getD i 0 : Nat) : Int) ∧ ((zSn.getD i 0 : Nat) : Int) ≤ 7 := by decide +kernel
theorem sp_J0_coder {l : Launch} {d : Nat} {σ : zMem} {i : Nat} (hi : i < 5) : zSp l d mJ0_coder_7d493 [.ref (10000 + i)] σ (zRi 0 σ) := by
  refine zSp_of oJ0_coder_7d493 (Nat.le_of_ble_eq_true rfl) ?_
  show zw l d mJ0_coder_7d493 0 [some (.ref (10000 + i))] [] σ _
  refine zw_gst 3 dJ0_coder_7d493_0 rfl rfl ?_
  refine zw_if_eq 13 6 dJ0_coder_7d493_3 (by decide) rfl (by omega) (fun h => absurd h (by decide)) (fun _ => ?_)
  refine zw_aload_n 7 dJ0_coder_7d493_6 rfl rfl ?_
  refine zw_scod 10 dJ0_coder_7d493_7 rfl rfl hi ?_
  refine zw_goto 14 dJ0_coder_7d493_10 (by decide) ?_
  exact zw_ret (v := some (.int (zI 0))) ⟨.byte, rfl, rfl, dJ0_coder_7d493_14⟩ rfl ⟨rfl, rfl⟩
theorem sp_J0_isLatin1 {l : Launch} {d : Nat} {σ : zMem} {i : Nat} (hi : i < 5) : zSp l d mJ0_isLatin1_aae02 [.ref (10000 + i)] σ (zRi 1 σ) := by
  refine zSp_of oJ0_isLatin1_aae02 (Nat.le_of_ble_eq_true rfl) ?_
  show zw l d mJ0_isLatin1_aae02 0 [some (.ref (10000 + i))] [] σ _
  refine zw_gst 3 dJ0_isLatin1_aae02_0 rfl rfl ?_
  refine zw_if_eq 17 6 dJ0_isLatin1_aae02_3 (by decide) rfl (by omega) (fun h => absurd h (by decide)) (fun _ => ?_)
  refine zw_aload_n 7 dJ0_isLatin1_aae02_6 rfl rfl ?_
  refine zw_scod 10 dJ0_isLatin1_aae02_7 rfl rfl hi ?_
  refine zw_if_ne 17 13 dJ0_isLatin1_aae02_10 (by decide) rfl (by omega) (fun h => absurd rfl h) (fun _ => ?_)
  refine zw_iconst 14 dJ0_isLatin1_aae02_13 rfl ?_
  refine zw_goto 18 dJ0_isLatin1_aae02_14 (by decide) ?_
  refine zw_zret dJ0_isLatin1_aae02_18 rfl (by omega) ?_
  exact ⟨rfl, rfl⟩
theorem sp_J0_length {l : Launch} {d : Nat} {σ : zMem} (hd : 1 ≤ d) {i : Nat} (hi : i < 5) : zSp l d mJ0_length_8abf5 [.ref (10000 + i)] σ (zRi ((zSn.getD i 0 : Nat) : Int) σ) := by
  refine zSp_of oJ0_length_8abf5 (Nat.le_of_ble_eq_true rfl) ?_
  show zw l d mJ0_length_8abf5 0 [some (.ref (10000 + i))] [] σ _
  refine zw_aload_n 1 dJ0_length_8abf5_0 rfl rfl ?_
  refine zw_sval 4 dJ0_length_8abf5_1 rfl rfl hi ?_
  refine zw_slen 5 dJ0_length_8abf5_4 rfl hi ?_
  refine zw_aload_n 6 dJ0_length_8abf5_5 rfl rfl ?_
  refine zw_callT 9 [] [_] dJ0_length_8abf5_6 rfl kJ0_335 qJ0_coder_7d493 hi rfl (sp_J0_coder (d := d - 1) hi) (by omega) rfl rfl (Nat.le_of_ble_eq_true rfl) (fun r σ' hq => ?_)
  obtain ⟨rfl, rfl⟩ := hq
  have key : ∀ i, i < 5 → zI ((zSn.getD i 0 : Nat) : Int) >>> (zI 0 &&& 31) = zI ((zSn.getD i 0 : Nat) : Int) := by decide +kernel
  refine zw_ishr 10 _ dJ0_length_8abf5_9 rfl (key i hi) ?_
  refine zw_iret dJ0_length_8abf5_10 rfl ?_
  exact ⟨rfl, rfl⟩
theorem sp_J3_checkIndex {l : Launch} {d : Nat} {σ : zMem} {k n : Int} (v : Value) (hv : v = .null ∨ v = .ref 10005) (hk : 0 ≤ k ∧ k < n ∧ n < 1000) : zSp l d mJ3_checkIndex_8e157 [.int (zI k), .int (zI n), v] σ (zRi k σ) := by
  refine zSp_of oJ3_checkIndex_8e157 (by rcases hv with rfl | rfl <;> exact Nat.le_of_ble_eq_true rfl) ?_
  have e : zen mJ3_checkIndex_8e157.2.2.2.1 [.int (zI k), .int (zI n), v] = [some (.int (zI k)), some (.int (zI n)), some v] := by rcases hv with rfl | rfl <;> rfl
  rw [e]
  refine zw_iload_n 1 dJ3_checkIndex_8e157_0 rfl rfl ?_
  refine zw_if_lt 9 4 dJ3_checkIndex_8e157_1 (by decide) rfl (by omega) (fun h => by exfalso; omega) (fun _ => ?_)
  refine zw_iload_n 5 dJ3_checkIndex_8e157_4 rfl rfl ?_
  refine zw_iload_n 6 dJ3_checkIndex_8e157_5 rfl rfl ?_
  refine zw_icmp_lt 16 9 dJ3_checkIndex_8e157_6 (by decide) rfl (by omega) (by omega) (fun _ => ?_) (fun h => by exfalso; omega)
  refine zw_iload_n 17 dJ3_checkIndex_8e157_16 rfl rfl ?_
  refine zw_iret dJ3_checkIndex_8e157_17 rfl ?_
  exact ⟨rfl, rfl⟩
theorem sp_J0_checkIndex {l : Launch} {d : Nat} {σ : zMem} (hd : 1 ≤ d) {k n : Int} (hk : 0 ≤ k ∧ k < n ∧ n < 1000) : zSp l d mJ0_checkIndex_df160 [.int (zI k), .int (zI n)] σ (zRv σ) := by
  refine zSp_of oJ0_checkIndex_df160 (Nat.le_of_ble_eq_true rfl) ?_
  show zw l d mJ0_checkIndex_df160 0 [some (.int (zI k)), some (.int (zI n))] [] σ _
  refine zw_iload_n 1 dJ0_checkIndex_df160_0 rfl rfl ?_
  refine zw_iload_n 2 dJ0_checkIndex_df160_1 rfl rfl ?_
  refine zw_fmt 5 dJ0_checkIndex_df160_2 rfl rfl ?_ ?_
  · refine zw_callS 8 [_, _, _] [] dJ0_checkIndex_df160_5 rfl kJ0_1059 qJ3_checkIndex_8e157 (sp_J3_checkIndex (d := d - 1) .null (Or.inl rfl) hk) (by omega) rfl rfl (Nat.le_of_ble_eq_true rfl) (fun r σ' hq => ?_)
    obtain ⟨rfl, rfl⟩ := hq
    refine zw_pop 9 dJ0_checkIndex_df160_8 rfl rfl ?_
    refine zw_vret dJ0_checkIndex_df160_9 rfl ?_
    exact ⟨rfl, rfl⟩
  · refine zw_callS 8 [_, _, _] [] dJ0_checkIndex_df160_5 rfl kJ0_1059 qJ3_checkIndex_8e157 (sp_J3_checkIndex (d := d - 1) (.ref 10005) (Or.inr rfl) hk) (by omega) rfl rfl (Nat.le_of_ble_eq_true rfl) (fun r σ' hq => ?_)
    obtain ⟨rfl, rfl⟩ := hq
    refine zw_pop 9 dJ0_checkIndex_df160_8 rfl rfl ?_
    refine zw_vret dJ0_checkIndex_df160_9 rfl ?_
    exact ⟨rfl, rfl⟩
theorem sp_J1_charAt {l : Launch} {d : Nat} {σ : zMem} (hd : 2 ≤ d) {i : Nat} (hi : i < 5) {k : Int} (hk : 0 ≤ k ∧ k < ((zSn.getD i 0 : Nat) : Int)) : zSp l d mJ1_charAt_3b067 [.ref (10010 + i), .int (zI k)] σ (zRi (zsb i k) σ) := by
  refine zSp_of oJ1_charAt_3b067 (Nat.le_of_ble_eq_true rfl) ?_
  show zw l d mJ1_charAt_3b067 0 [some (.ref (10010 + i)), some (.int (zI k))] [] σ _
  have h7 := zsn_ok i hi
  have hb := zsb_ok i hi k.toNat (by omega)
  refine zw_iload_n 1 dJ1_charAt_3b067_0 rfl rfl ?_
  refine zw_aload_n 2 dJ1_charAt_3b067_1 rfl rfl ?_
  refine zw_slen 3 dJ1_charAt_3b067_2 rfl hi ?_
  refine zw_callS 6 [_, _] [] dJ1_charAt_3b067_3 rfl kJ1_9 qJ0_checkIndex_df160 (sp_J0_checkIndex (d := d - 1) (k := k) (n := ((zSn.getD i 0 : Nat) : Int)) (by omega) (by omega)) (by omega) rfl rfl (Nat.le_of_ble_eq_true rfl) (fun r σ' hq => ?_)
  obtain ⟨rfl, rfl⟩ := hq
  refine zw_aload_n 7 dJ1_charAt_3b067_6 rfl rfl ?_
  refine zw_iload_n 8 dJ1_charAt_3b067_7 rfl rfl ?_
  refine zw_sbld 9 (zsb i k) dJ1_charAt_3b067_8 rfl hi hk hb.1 ?_
  refine zw_sipush 12 dJ1_charAt_3b067_9 rfl (by decide) ?_
  refine zw_iand 13 (zsb i k) dJ1_charAt_3b067_12 rfl hb.2.1 ?_
  refine zw_i2c 14 dJ1_charAt_3b067_13 rfl hb.2.2.1 ?_
  exact zw_ret (v := some (.int (zI (zsb i k)))) ⟨.char, rfl, hb.2.2.2.1, dJ1_charAt_3b067_14⟩ rfl ⟨rfl, rfl⟩
theorem sp_J0_charAt {l : Launch} {d : Nat} {σ : zMem} (hd : 3 ≤ d) {i : Nat} (hi : i < 5) {k : Int} (hk : 0 ≤ k ∧ k < ((zSn.getD i 0 : Nat) : Int)) : zSp l d mJ0_charAt_5068e [.ref (10000 + i), .int (zI k)] σ (zRi (zsb i k) σ) := by
  refine zSp_of oJ0_charAt_5068e (Nat.le_of_ble_eq_true rfl) ?_
  show zw l d mJ0_charAt_5068e 0 [some (.ref (10000 + i)), some (.int (zI k))] [] σ _
  have h7 := zsn_ok i hi
  have hb := zsb_ok i hi k.toNat (by omega)
  refine zw_aload_n 1 dJ0_charAt_5068e_0 rfl rfl ?_
  refine zw_callT 4 [] [] dJ0_charAt_5068e_1 rfl kJ0_492 qJ0_isLatin1_aae02 hi rfl (sp_J0_isLatin1 (d := d - 1) hi) (by omega) rfl rfl (Nat.le_of_ble_eq_true rfl) (fun r σ' hq => ?_)
  obtain ⟨rfl, rfl⟩ := hq
  refine zw_if_eq 16 7 dJ0_charAt_5068e_4 (by decide) rfl (by omega) (fun h => absurd h (by decide)) (fun _ => ?_)
  refine zw_aload_n 8 dJ0_charAt_5068e_7 rfl rfl ?_
  refine zw_sval 11 dJ0_charAt_5068e_8 rfl rfl hi ?_
  refine zw_iload_n 12 dJ0_charAt_5068e_11 rfl rfl ?_
  refine zw_callS 15 [_, _] [] dJ0_charAt_5068e_12 rfl kJ0_495 qJ1_charAt_3b067 (sp_J1_charAt (d := d - 1) (i := i) (k := k) (by omega) hi hk) (by omega) rfl rfl (Nat.le_of_ble_eq_true rfl) (fun r σ' hq => ?_)
  obtain ⟨rfl, rfl⟩ := hq
  exact zw_ret (v := some (.int (zI (zsb i k)))) ⟨.char, rfl, hb.2.2.2.1, dJ0_charAt_5068e_15⟩ rfl ⟨rfl, rfl⟩
