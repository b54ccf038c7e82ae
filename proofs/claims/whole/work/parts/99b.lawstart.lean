section ZN9
variable {l : Launch} {d : Nat} {M : zMth} {pc : Nat} {L : List (Option Value)} {st : List Value} {σ : zMem} {k bc bs : Nat} {Q : zQn}
theorem zn_astore_n (pc' : Nat) {i : Fin 4} {a : Nat} (hd : decode M.2.2.1 pc = .ok (.astore_n i, 1)) (hp : pc + 1 = pc') (hn : (i : Nat) < M.2.2.2.1) (kk : zn l d M pc' (zs1 i (.ref a) L) st σ k bc bs Q) : zn l d M pc L (.ref a :: st) σ k bc bs Q := by
  subst hp; intro G p e R s m args below meth c mc ms Z hC cells slots hcb hsb H locs ls hP hS hl
  exact lv_astore_n hC.1 hC.2.1 hd rfl hl.has hn rfl (fun ls' h => kk G p e R s m args below meth c mc ms Z hC cells slots hcb hsb H locs ls' hP hS (zlv.st1 (v := .ref a) h))
end ZN9
theorem ly_5 : ∀ i, i < 216 → zly (1 + i) = zLAY[i]? := fun i hi => by
  unfold zly
  rw [if_neg (by omega), show 1 + i - 1 = i by omega]
theorem ly_6 : ∀ i, i < 12 → zly (217 + i) = (zLAY.drop 216)[i]? := fun i hi => by
  unfold zly
  rw [if_neg (by omega), List.getElem?_drop, show 217 + i - 1 = 216 + i by omega]
/-- the law's loop, out of the picture that the constructors leave -/
theorem law_18 {l : Launch} {Q : zQn} : zn l 20 mL_law 18 [some (.ref 0), some (.ref 1), some (.ref 217), some (.int (zI 0))] [] zs6 228 0 0 Q := by
  intro G p e R s m args below meth c mc ms Z hC cells slots hcb hsb H locs ls hP hS hl
  obtain ⟨hx, hb, hml, hown, hts, hK, hStr, hScr, hOld, ⟨r1, r2, r3, r4⟩, ⟨hn, hAo, hL, hret⟩, _⟩ := hC
  have h := lp_law (xs := zGx G) (xl := zGL G) (l := l) (d := 20) (Q := fun r _ => r = some (.int (zI 1))) (by omega) (hL rfl) (fun _ => rfl) (zGL G + 1) 0 zs6 (by omega) (by omega) (by omega) zs6_iv
  refine h G rfl rfl p e R s m args below meth c cells slots Z ⟨hx, hb, hml, hown, hts, hK, hStr, hScr, hOld, ⟨r1, r2, by omega, by omega⟩, ?_⟩ H locs ls (zs6_P hP.1) hS hl
  intro r σ' H locs ls pc hr hq hP' hS'
  subst hq
  obtain ⟨ty, h1, h2, h3⟩ := hr
  exact W.widen (by omega) (by omega) (hret H locs ls pc rfl h3 hS')
/-- both objects made, then the loop -/
theorem law_0 {l : Launch} {Q : zQn} : zn l 20 mL_law 0 [some (.ref 0), none, none, none] [] (fun _ _ => 0) 0 228 4182 Q := by
  refine zn_new (N := 14) (bc := 227) (bs := 4168) 3 dL_law_0 rfl rfl (by decide) nw_RL_7 rfl ?_
  show zn l 20 mL_law 3 [some (.ref 0), none, none, none] [.ref 1] (fun _ _ => 0) 1 227 4168 _
  refine zn_dup 4 dL_law_3 rfl rfl ?_
  refine zn_callI (bc1 := 215) (bs1 := 2186) (bc := 12) (bs := 1982) 7 [] [.ref 1] dL_law_4 rfl ci_RL_9 qX5_init rfl rfl (kp_X5_init (a := 1) (d := 19) (by omega) ly_5 (fun r hr => rfl)) (by omega) rfl rfl (Nat.le_of_ble_eq_true rfl) (fun σ1 k1 hq => ?_)
  obtain ⟨rfl, rfl⟩ := hq
  show zn l 20 mL_law 7 [some (.ref 0), none, none, none] [.ref 1] (zF5 1 (fun _ _ => 0)) 216 12 1982 _
  refine zn_astore_n 8 dL_law_7 rfl (by decide) ?_
  show zn l 20 mL_law 8 [some (.ref 0), some (.ref 1), none, none] [] (zF5 1 (fun _ _ => 0)) 216 12 1982 _
  refine zn_new (N := 24) (bc := 11) (bs := 1958) 11 dL_law_8 rfl rfl (by decide) nw_RL_10 (by rw [zF5_ne _ (by omega)]) ?_
  show zn l 20 mL_law 11 [some (.ref 0), some (.ref 1), none, none] [.ref 217] (zF5 1 (fun _ _ => 0)) 217 11 1958 _
  refine zn_dup 12 dL_law_11 rfl rfl ?_
  refine zn_callI (bc1 := 11) (bs1 := 1958) (bc := 0) (bs := 0) 15 [] [.ref 217] dL_law_12 rfl ci_RL_12 qX6_init rfl rfl (kp_X6_init (a := 217) (d := 19) (by omega) ly_6 (fun r hr => by rw [zF5_ne _ (by omega)])) (by omega) rfl rfl (Nat.le_of_ble_eq_true rfl) (fun σ1 k1 hq => ?_)
  obtain ⟨rfl, rfl⟩ := hq
  show zn l 20 mL_law 15 [some (.ref 0), some (.ref 1), none, none] [.ref 217] zs6 228 0 0 _
  refine zn_astore_n 16 dL_law_15 rfl (by decide) ?_
  show zn l 20 mL_law 16 [some (.ref 0), some (.ref 1), some (.ref 217), none] [] zs6 228 0 0 _
  refine zn_iconst 17 dL_law_16 rfl ?_
  refine zn_istore_n 18 dL_law_17 rfl (by decide) ?_
  exact law_18
