theorem zB2.calling {G : zG} {σ : zMem} {k : Nat} {U : State} {g : JFrame} {mk : MethodId} {a : Array Value} (h : zB2 G σ k U) : zB2 G σ k (U.calling g mk a) := by
  obtain ⟨hP, hK, hStr, hScr, hOld, hAo⟩ := h
  exact ⟨hP, va_K.moved (u := U) (U := U.calling g mk a) (Vm.Alike.refl U.vm) hK, ⟨⟨fun i hi => vk_R.same (u := U) rfl (hStr.1.1 i hi), hStr.1.2.same (s := U) rfl⟩, hStr.2.moved (u := U) (U := U.calling g mk a) (Vm.Alike.refl U.vm)⟩, hScr.moved (s := U) (U := U.calling g mk a) (Vm.Alike.refl U.vm), hOld, zAo.moved (u := U) (U := U.calling g mk a) (Vm.Alike.refl U.vm) hAo⟩
theorem zPc2_blind {G : zG} {σ : zMem} {k : Nat} {av : List Value} : FrameBlind (va_Pc av (zB2 G σ k)) := fun _ _ _ _ h => ⟨h.1, h.2.calling⟩
section ZN4
variable {l : Launch} {d : Nat} {M : zMth} {pc : Nat} {L : List (Option Value)} {st : List Value} {σ : zMem} {k bc bs : Nat} {Q : zQn}
theorem zpre2 {G : zG} {s U : State} {H : Heap} {locs : List Loc} {av : List Value} (hP : zPg G σ k H) (hK : va_K (zGD G) vwCl (zT G) s) (hStr : zStr G s) (hScr : zScr G s) (hOld : zOld G s) (hAo : zAo s) (hS : va_S (zA G) s.heap H locs) (hU : U.heap = H) (hW : s.WarmedH U.vm) : va_Pc av (zB2 G σ k) av.toArray U := by
  refine ⟨rfl, by rw [hU]; exact hP, hK.moved hW.alike, hStr.warm hW, hScr.moved hW.alike, ⟨?_, ?_, hOld.2.2⟩, hAo.moved hW.alike⟩
  · rw [hU]; exact Nat.le_trans hOld.1 hS.1
  · intro q hq
    rw [hU, hS.2.1 q (Nat.lt_of_lt_of_le hq hOld.1) (fun h => absurd hq (Nat.not_lt.mpr h))]
    exact hOld.2.1 q hq
theorem zngo {G : zG} {p : Program} {e : Env} {R : Room} {s : State} {m : MethodId} {args : Array Value} {below : List Frame} {meth : Method} {c : Code} {mc ms cells slots bc1 bs1 : Nat} {Z : State → Prop} {H : Heap} {locs : List Loc} {ls : Array Slot} {st0 rest : List Value} {Q' : zQn} {av : Array Value} (hC : zCn l d M Q G p e R s m args below meth c mc ms Z) (hcb : cells + (bc + bc1) ≤ mc) (hsb : slots + (bs + bs1) ≤ ms) (hS : va_S (zA G) s.heap H locs) (hl : zlv G ls M.2.2.2.1 L)
    (hr : va_Run p l e R s m args below meth c H locs cells slots bc1 bs1 (F0 m pc ls st0) (rest.map (ztr G)) (zQ2 G Q' av) (zA G)) (kk : ∀ σ' k', Q' σ' k' → zn l d M (pc + 3) L rest σ' k' bc bs Q) : W p l e R s m args below meth c H locs cells slots Z (F0 m pc ls st0) := by
  intro T hT X
  obtain ⟨v, st₀, t, T', Lc, h0, X', hL, e1, e2, ⟨⟨σ', k', hv, hq, hP'⟩, hz, hk⟩, stp⟩ := hr T hT X
  cases hv
  rw [h0] at hz hk
  have hS' : va_S (zA G) s.heap T'.heap (locs ++ Lc) := ⟨Nat.le_trans hS.1 (by rw [e1]; exact hz), fun q h1 h2 => by rw [e1, hk q (Nat.lt_of_lt_of_le h1 hS.1) h2]; exact hS.2.1 q h1 h2, fun q hq => (List.mem_append.mp hq).elim (hS.2.2 q) (hL q)⟩
  have hP'' : zPg G σ' k' T'.heap := by rw [e1]; exact hP'
  obtain ⟨t2, a1, b1⟩ := kk σ' k' hq G p e R s m args below meth c mc ms Z hC (cells + bc1) (slots + bs1) (by omega) (by omega) T'.heap (locs ++ Lc) ls hP'' hS' hl T' rfl X'
  exact ⟨t2, stp t2 a1, b1⟩
/-- the facts of a constructor that is called: by its link, or by a nest mate's -/
def zci (own : String) (idx : Nat) (M' : zMth) : Prop := Cond.methodLink own idx M'.2.1 ∈ ztbl ∧ Cond.instanceMethod M'.2.1 ∈ ztbl
def zcx (own : String) (idx : Nat) (M' : zMth) : Prop := (own, idx, M'.2.1) ∈ zNl ∧ Cond.instanceMethod M'.2.1 ∈ ztbl
theorem zn_callI (pc' : Nat) (As : List Value) (rest : List Value) {idx a n d' bc1 bs1 : Nat} {M' : zMth} {Q' : zQn} (hd : decode M.2.2.1 pc = .ok (.invokespecial idx, 3)) (hp : pc + 3 = pc') (hc : zci M.1 idx M') (hm : zcm M' n) (hi : M'.2.1.name = "<init>") (hr0 : M'.2.2.2.2 = none) (hsp : zKp l d' M' (.ref a :: As) σ k bc1 bs1 Q') (hdd : d' < d) (hn : As.length = n) (hst : st = As.reverse ++ .ref a :: rest) (hcat : (rest.map (fun v => v.category)).sum ≤ 8) (kk : ∀ σ' k', Q' σ' k' → zn l d M pc' L rest σ' k' bc bs Q) : zn l d M pc L st σ k (bc + bc1) (bs + bs1) Q := by
  subst hp; subst hst; intro G p e R s m args below meth c mc ms Z hC cells slots hcb hsb H locs ls hP hS hl
  obtain ⟨hx, hb, hml, hown, hts, hK, hStr, hScr, hOld, hR, hnm, hret⟩ := id hC
  obtain ⟨m1, m2, m3, m4, m5, m6⟩ := id hm
  exact zngo hC hcb hsb hS hl (rest := rest) (va_runI (b := zad G a) (As := As.map (ztr G)) (rest := rest.map (ztr G)) (n := n) (rm := zrn d' bc1 bs1) ⟨hx, hb, hml, hown, hts⟩ (hsp G) (cwI n hts (zgood (zws_ok hm)) (by rw [hr0]) rfl rfl (hts _ m1) (hts _ hc.1) (hts _ hc.2) hi ⟨m3, m4, m5⟩ (zroom hR.1 hR.2.1 hdd m6)) ⟨zPc2_blind, fun U hU hW => zpre2 hP hK hStr hScr hOld hnm.2.1 hS hU hW⟩ rfl (by simpa using hn) hl.1 (by simp [ztr]) (lv_room (by simpa [Function.comp_def, ztr_cat] using hcat)) hd ⟨by omega, by omega⟩) kk
theorem zn_callIN (pc' : Nat) (As : List Value) (rest : List Value) {idx a n d' bc1 bs1 : Nat} {M' : zMth} {Q' : zQn} (hd : decode M.2.2.1 pc = .ok (.invokespecial idx, 3)) (hp : pc + 3 = pc') (hc : zcx M.1 idx M') (hm : zcm M' n) (hi : M'.2.1.name = "<init>") (hr0 : M'.2.2.2.2 = none) (hsp : zKp l d' M' (.ref a :: As) σ k bc1 bs1 Q') (hdd : d' < d) (hn : As.length = n) (hst : st = As.reverse ++ .ref a :: rest) (hcat : (rest.map (fun v => v.category)).sum ≤ 8) (kk : ∀ σ' k', Q' σ' k' → zn l d M pc' L rest σ' k' bc bs Q) : zn l d M pc L st σ k (bc + bc1) (bs + bs1) Q := by
  subst hp; subst hst; intro G p e R s m args below meth c mc ms Z hC cells slots hcb hsb H locs ls hP hS hl
  obtain ⟨hx, hb, hml, hown, hts, hK, hStr, hScr, hOld, hR, hnm, hret⟩ := id hC
  obtain ⟨m1, m2, m3, m4, m5, m6⟩ := id hm
  exact zngo hC hcb hsb hS hl (rest := rest) (va_runIN (host := RX5) (b := zad G a) (As := As.map (ztr G)) (rest := rest.map (ztr G)) (n := n) (rm := zrn d' bc1 bs1) ⟨hx, hb, hml, hown, hts⟩ (hsp G) ⟨va_cnB n hts (zgood (zws_ok hm)) (by rw [hr0]) rfl rfl (hStr.1.2 _ hc.1) (hts _ m1) ⟨m3, m4, m5⟩ (zroom hR.1 hR.2.1 hdd m6), hi, hts _ hc.2⟩ ⟨zPc2_blind, fun U hU hW => zpre2 hP hK hStr hScr hOld hnm.2.1 hS hU hW⟩ rfl (by simpa using hn) hl.1 (by simp [ztr]) (lv_room (by simpa [Function.comp_def, ztr_cat] using hcat)) hd ⟨by omega, by omega⟩) kk
theorem zn_callS (pc' : Nat) (As : List Value) (rest : List Value) {idx n d' bc1 bs1 : Nat} {M' : zMth} {Q' : zQn} (hd : decode M.2.2.1 pc = .ok (.invokestatic idx, 3)) (hp : pc + 3 = pc') (hc : zcs M.1 idx M') (hm : zcm M' n) (hsp : zKp l d' M' As σ k bc1 bs1 Q') (hdd : d' < d) (hn : As.length = n) (hst : st = As.reverse ++ rest) (hcat : (rest.map (fun v => v.category)).sum ≤ 8) (kk : ∀ σ' k', Q' σ' k' → zn l d M pc' L rest σ' k' bc bs Q) : zn l d M pc L st σ k (bc + bc1) (bs + bs1) Q := by
  subst hp; subst hst; intro G p e R s m args below meth c mc ms Z hC cells slots hcb hsb H locs ls hP hS hl
  obtain ⟨hx, hb, hml, hown, hts, hK, hStr, hScr, hOld, hR, hnm, hret⟩ := id hC
  obtain ⟨m1, m2, m3, m4, m5, m6⟩ := id hm
  refine zngo hC hcb hsb hS hl (rest := rest) (va_runS (As := As.map (ztr G)) (rest := rest.map (ztr G)) (n := n) (rm := zrn d' bc1 bs1) ⟨hx, hb, hml, hown, hts⟩ (hsp G) (va_cwS n hts (zgood (fun w hw => ?_)) rfl rfl rfl ⟨m3, m4, m5⟩ (zroom hR.1 hR.2.1 hdd m6)) ⟨zPc2_blind, fun U hU hW => zpre2 hP hK hStr hScr hOld hnm.2.1 hS hU hW⟩ rfl (by simpa using hn) hl.1 (by simp) (lv_room (by simpa [Function.comp_def, ztr_cat] using hcat)) hd ⟨by omega, by omega⟩) kk
  rcases List.mem_append.mp hw with hw | hw
  · simp only [List.mem_cons, List.not_mem_nil, or_false] at hw
    rcases hw with rfl | rfl | rfl
    · exact hc.1
    · exact hc.2
    · exact m1
  · exact zws_ok hm w hw
end ZN4
/-! ===== words of the constructors ===== -/
theorem aw_int : Cond.arrayClass .int ∈ ztbl := zw_in 62 (by decide +kernel) rfl
theorem aw_bool : Cond.arrayClass .boolean ∈ ztbl := zw_in 179 (by decide +kernel) rfl
theorem aw_byte : Cond.arrayClass .byte ∈ ztbl := zw_in 180 (by decide +kernel) rfl
theorem oi_2 : Cond.instanceMethod Lib.objectInit ∈ ztbl := zw_in 21 (by decide +kernel) rfl
theorem oi_3 : Cond.code Lib.objectInit ⟨#[0xb1]⟩ 1 none ∈ ztbl := zw_in 22 (by decide +kernel) rfl
theorem oi_RX5 : Cond.methodLink RX5 1 Lib.objectInit ∈ ztbl ∧ Cond.instanceMethod Lib.objectInit ∈ ztbl ∧ Cond.code Lib.objectInit ⟨#[0xb1]⟩ 1 none ∈ ztbl := ⟨zw_in 20 (by decide +kernel) rfl, oi_2, oi_3⟩
theorem oi_RX0 : Cond.methodLink RX0 3 Lib.objectInit ∈ ztbl ∧ Cond.instanceMethod Lib.objectInit ∈ ztbl ∧ Cond.code Lib.objectInit ⟨#[0xb1]⟩ 1 none ∈ ztbl := ⟨zw_in 28 (by decide +kernel) rfl, oi_2, oi_3⟩
theorem oi_RX2 : Cond.methodLink RX2 3 Lib.objectInit ∈ ztbl ∧ Cond.instanceMethod Lib.objectInit ∈ ztbl ∧ Cond.code Lib.objectInit ⟨#[0xb1]⟩ 1 none ∈ ztbl := ⟨zw_in 34 (by decide +kernel) rfl, oi_2, oi_3⟩
theorem oi_RX1 : Cond.methodLink RX1 3 Lib.objectInit ∈ ztbl ∧ Cond.instanceMethod Lib.objectInit ∈ ztbl ∧ Cond.code Lib.objectInit ⟨#[0xb1]⟩ 1 none ∈ ztbl := ⟨zw_in 69 (by decide +kernel) rfl, oi_2, oi_3⟩
theorem oi_RX4 : Cond.methodLink RX4 3 Lib.objectInit ∈ ztbl ∧ Cond.instanceMethod Lib.objectInit ∈ ztbl ∧ Cond.code Lib.objectInit ⟨#[0xb1]⟩ 1 none ∈ ztbl := ⟨zw_in 150 (by decide +kernel) rfl, oi_2, oi_3⟩
theorem oi_RX3 : Cond.methodLink RX3 3 Lib.objectInit ∈ ztbl ∧ Cond.instanceMethod Lib.objectInit ∈ ztbl ∧ Cond.code Lib.objectInit ⟨#[0xb1]⟩ 1 none ∈ ztbl := ⟨zw_in 186 (by decide +kernel) rfl, oi_2, oi_3⟩
theorem oi_RX6 : Cond.methodLink RX6 1 Lib.objectInit ∈ ztbl ∧ Cond.instanceMethod Lib.objectInit ∈ ztbl ∧ Cond.code Lib.objectInit ⟨#[0xb1]⟩ 1 none ∈ ztbl := ⟨zw_in 774 (by decide +kernel) rfl, oi_2, oi_3⟩
theorem nw_RL_7 : zfw RL 7 5 14 := ⟨_, rfl, rfl, zw_in 15 (by decide +kernel) rfl, zw_in 16 (by decide +kernel) rfl, zw_in 1 (by decide +kernel) rfl⟩
theorem nw_RX5_7 : zfw RX5 7 0 13 := ⟨_, rfl, rfl, zw_in 23 (by decide +kernel) rfl, zw_in 24 (by decide +kernel) rfl, zw_in 2 (by decide +kernel) rfl⟩
theorem nw_RX0_27 : zfw RX0 27 2 4 := ⟨_, rfl, rfl, zw_in 29 (by decide +kernel) rfl, zw_in 30 (by decide +kernel) rfl, zw_in 3 (by decide +kernel) rfl⟩
theorem nw_RX0_38 : zfw RX0 38 1 3 := ⟨_, rfl, rfl, zw_in 64 (by decide +kernel) rfl, zw_in 65 (by decide +kernel) rfl, zw_in 5 (by decide +kernel) rfl⟩
theorem nw_RX5_27 : zfw RX5 27 2 4 := ⟨_, rfl, rfl, zw_in 143 (by decide +kernel) rfl, zw_in 30 (by decide +kernel) rfl, zw_in 3 (by decide +kernel) rfl⟩
theorem nw_RX5_34 : zfw RX5 34 4 8 := ⟨_, rfl, rfl, zw_in 145 (by decide +kernel) rfl, zw_in 146 (by decide +kernel) rfl, zw_in 6 (by decide +kernel) rfl⟩
theorem nw_RX5_41 : zfw RX5 41 3 7 := ⟨_, rfl, rfl, zw_in 181 (by decide +kernel) rfl, zw_in 182 (by decide +kernel) rfl, zw_in 7 (by decide +kernel) rfl⟩
theorem nw_RL_10 : zfw RL 10 6 24 := ⟨_, rfl, rfl, zw_in 769 (by decide +kernel) rfl, zw_in 770 (by decide +kernel) rfl, zw_in 8 (by decide +kernel) rfl⟩
theorem ci_RL_9 : zci RL 9 mX5_init := ⟨zw_in 17 (by decide +kernel) rfl, zw_in 18 (by decide +kernel) rfl⟩
theorem ci_RX5_9 : zci RX5 9 mX0_init := ⟨zw_in 25 (by decide +kernel) rfl, zw_in 26 (by decide +kernel) rfl⟩
theorem ci_RX0_29 : zci RX0 29 mX2_init := ⟨zw_in 31 (by decide +kernel) rfl, zw_in 32 (by decide +kernel) rfl⟩
theorem ci_RX0_40 : zci RX0 40 mX1_init := ⟨zw_in 66 (by decide +kernel) rfl, zw_in 67 (by decide +kernel) rfl⟩
theorem ci_RX5_29 : zci RX5 29 mX2_init := ⟨zw_in 144 (by decide +kernel) rfl, zw_in 32 (by decide +kernel) rfl⟩
theorem ci_RL_12 : zci RL 12 mX6_init := ⟨zw_in 771 (by decide +kernel) rfl, zw_in 772 (by decide +kernel) rfl⟩
theorem cx_36 : zcx RX5 36 mX4_init := ⟨by simp [zNl], zw_in 148 (by decide +kernel) rfl⟩
theorem cx_43 : zcx RX5 43 mX3_init := ⟨by simp [zNl], zw_in 184 (by decide +kernel) rfl⟩
