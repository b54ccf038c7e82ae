section ZX2
variable {xs : Nat → Int32} {xl : Nat} {l : Launch} {d : Nat} {M : zMth} {pc : Nat} {L : List (Option Value)} {st : List Value} {σ : zMem} {Q : Option Value → zMem → Prop}
/-- a place of the script, i + j -/
theorem zx_arg (pc' : Nat) (j : Int) {i : Int} (hd0 : decode M.2.2.1 pc = .ok (.aload_n 0, 1)) (hd1 : decode M.2.2.1 (pc + 1) = .ok (.iload_n 3, 1)) (hd2 : decode M.2.2.1 (pc + 1 + 1) = .ok (.iconst j, 1)) (hd3 : decode M.2.2.1 (pc + 1 + 1 + 1) = .ok (.iadd, 1)) (hd4 : decode M.2.2.1 (pc + 1 + 1 + 1 + 1) = .ok (.iaload, 1)) (hp : pc + 1 + 1 + 1 + 1 + 1 = pc') (hL0 : L[0]? = some (some (.ref 0))) (hL3 : L[3]? = some (some (.int (zI i)))) (hi : 0 ≤ i + j ∧ i + j < xl) (hn : xl ≤ 3072) (kk : zx xs xl l d M pc' L (.int (zI (zxv xs (i + j))) :: st) σ Q) : zx xs xl l d M pc L st σ Q := by
  refine zx_aload_n _ hd0 rfl hL0 ?_
  refine zx_iload_n _ hd1 rfl hL3 ?_
  refine zx_iconst _ hd2 rfl ?_
  refine zx_iadd _ hd3 rfl ?_
  exact zx_sld _ hd4 hp hi hn kk
end ZX2
theorem zcat_opt (r : Option Value) : (r.toList.map (fun v => v.category)).sum ≤ 8 := by
  cases r with
  | none => simp
  | some v =>
    simp
    cases v <;> simp [Value.category]
theorem zwo_lo {N N' : zR} (e : ∀ j, 0 ≤ j → j < 5 → N' j = N j) (s : Int) : zwo N' s = zwo N s := by
  rcases zwo_spec N s with h | h
  · rw [h.1]; exact zwo_none (fun j j0 j1 => by rw [e j j0 j1]; exact h.2 j j0 j1)
  · exact zwo_first h.1 h.2.1 (by rw [e _ h.1 h.2.1]; exact h.2.2.1) (fun j j0 j1 => by rw [e j j0 (by omega)]; exact h.2.2.2 j j0 j1)
theorem zVN_sits {N : zR} (h : zVN N) {c s : Int} (hc : (0 ≤ c ∧ c ≤ N 48 - 1) ∧ -1 ≤ s ∧ s ≤ N 33 - 1) (hf : ¬ (s ≠ -1 ∧ zwo N s ≠ -1 ∧ zwo N s ≠ c)) : zVN (zup (zrem N) c s) := by
  have lo : ∀ j, j < 134 → zrem N j = N j := fun j hj => zrem_lo N (zVN_i.mp h).2.2.2.2.1 hj
  have e33 := lo 33 (by omega)
  have e48 := lo 48 (by omega)
  refine zVN_sit (zVN_rem h) (by omega) (by omega) (fun q => ?_)
  rw [zwo_lo (fun j j0 j1 => lo j (by omega)) s]
  omega
theorem zVN_swap {N : zR} (h : zVN N) {a b : Int} (hc : (0 ≤ a ∧ a ≤ N 48 - 1) ∧ (0 ≤ b ∧ b ≤ N 48 - 1) ∧ a ≠ b) : zVN (zsw (zrem N) a b) := by
  have e48 : zrem N 48 = N 48 := zrem_lo N (zVN_i.mp h).2.2.2.2.1 (by omega)
  exact zVN_sw (zVN_rem h) (by omega) (by omega)
theorem case_0 {xs : Nat → Int32} {xl : Nat} {l : Launch} {d : Nat} {σ : zMem} {Q : Option Value → zMem → Prop} {i : Int} (hd : 12 ≤ d) (hxl : xl ≤ 3072) (hi : 0 ≤ i ∧ i + 6 ≤ xl) (hI : zIv σ) (hO : zoo (σ 218) (σ 219)) (kk : ∀ σ2, zIv σ2 → zx xs xl l d mL_law 1504 [some (.ref 0), some (.ref 1), some (.ref 217), some (.int (zI i))] [] σ2 Q) : zx xs xl l d mL_law 216 [some (.ref 0), some (.ref 1), some (.ref 217), some (.int (zI i))] [] σ Q := by
  have hC := hI.1.1
  have hV := hI.1.2.1
  have hm := hI.2.1
  have ht := hI.2.2.1
  have hT5 : 0 ≤ σ 106 1 ∧ σ 106 1 ≤ 150 := by rw [ht.2.2]; exact ht.1.1
  refine zx_aload_n 217 dL_law_216 rfl rfl ?_
  refine zx_callV 220 _ _ dL_law_217 rfl kL_13 qX5_chapter ly1 ⟨_, rfl, rfl⟩ (by decide) (sp_X5_chapter (d := d - 1) (by omega) hC hV (σ 218)) (by omega) rfl rfl (Nat.le_of_ble_eq_true rfl) (fun a σ1 hX => ?_)
  rw [List.append_nil]
  have e : σ1 218 = σ 218 := hX.2.2 218 (by omega) (by omega) (by omega)
  have hV1 : zVN (σ1 218) := by rw [e]; exact hV
  refine zx_aload_n 221 dL_law_220 rfl rfl ?_
  refine zx_callV 224 _ a.toList dL_law_221 rfl kL_17 qX6_chapter ly217 ⟨_, rfl, rfl⟩ (by decide) (sp_X6_chapter (d := d - 1) (by omega) hV1) (by omega) rfl rfl (zcat_opt a) (fun b σ2 hM => ?_)
  rw [e] at hM
  obtain ⟨⟨y, rfl, rfl⟩, hI2⟩ := (⟨⟨_, hX.1, hM.1⟩, zIv_cf2 hI hX.2 (zVN_em _) hM.2⟩ : zTwo a b σ2)
  exact zx_eqi (a := y) (st := []) 1504 dL_law_224 (by decide) (kk _ hI2)
theorem case_1 {xs : Nat → Int32} {xl : Nat} {l : Launch} {d : Nat} {σ : zMem} {Q : Option Value → zMem → Prop} {i : Int} (hd : 12 ≤ d) (hxl : xl ≤ 3072) (hi : 0 ≤ i ∧ i + 6 ≤ xl) (hI : zIv σ) (hO : zoo (σ 218) (σ 219)) (kk : ∀ σ2, zIv σ2 → zx xs xl l d mL_law 1504 [some (.ref 0), some (.ref 1), some (.ref 217), some (.int (zI i))] [] σ2 Q) : zx xs xl l d mL_law 229 [some (.ref 0), some (.ref 1), some (.ref 217), some (.int (zI i))] [] σ Q := by
  have hC := hI.1.1
  have hV := hI.1.2.1
  have hm := hI.2.1
  have ht := hI.2.2.1
  have hT5 : 0 ≤ σ 106 1 ∧ σ 106 1 ≤ 150 := by rw [ht.2.2]; exact ht.1.1
  refine zx_aload_n 230 dL_law_229 rfl rfl ?_
  refine zx_arg 235 1 dL_law_230 dL_law_231 dL_law_232 dL_law_233 dL_law_234 rfl rfl rfl (by omega) hxl ?_
  refine zx_arg 240 2 dL_law_235 dL_law_236 dL_law_237 dL_law_238 dL_law_239 rfl rfl rfl (by omega) hxl ?_
  refine zx_arg 245 3 dL_law_240 dL_law_241 dL_law_242 dL_law_243 dL_law_244 rfl rfl rfl (by omega) hxl ?_
  refine zx_callV 248 _ _ dL_law_245 rfl kL_18 qX5_seat ly1 ⟨_, rfl, rfl⟩ (by decide) (sp_X5_seat (d := d - 1) (by omega) hC hV (zxv_b xs (i + 1)) (zxv_b xs (i + 2)) (zxv_b xs (i + 3))) (by omega) rfl rfl (Nat.le_of_ble_eq_true rfl) (fun a σ1 hX => ?_)
  rw [List.append_nil]
  have e := zA3_kp hX (bb := 218) (by decide) (fun h => h.2 218 (by omega) (by omega) (by omega))
  have hV1 : zVN (σ1 218) := by rw [e]; exact hV
  refine zx_aload_n 249 dL_law_248 rfl rfl ?_
  refine zx_arg 254 1 dL_law_249 dL_law_250 dL_law_251 dL_law_252 dL_law_253 rfl rfl rfl (by omega) hxl ?_
  refine zx_arg 259 2 dL_law_254 dL_law_255 dL_law_256 dL_law_257 dL_law_258 rfl rfl rfl (by omega) hxl ?_
  refine zx_arg 264 3 dL_law_259 dL_law_260 dL_law_261 dL_law_262 dL_law_263 rfl rfl rfl (by omega) hxl ?_
  refine zx_callV 267 _ a.toList dL_law_264 rfl kL_22 qX6_seat ly217 ⟨_, rfl, rfl⟩ (by decide) (sp_X6_seat (d := d - 1) (by omega) (zxv_b xs (i + 1)) (zxv_b xs (i + 2)) (zxv_b xs (i + 3)) hV1) (by omega) rfl rfl (zcat_opt a) (fun b σ2 hM => ?_)
  rw [e] at hM
  obtain ⟨⟨y, rfl, rfl⟩, hI2⟩ := zIv_A3 hI hX hM (fun _ _ => rfl) (fun c f p q => zIv_cf2 hI p (zVN_s hV f c.1 c.2.1 c.2.2) q)
  exact zx_eqi (a := y) (st := []) 1504 dL_law_267 (by decide) (kk _ hI2)
theorem case_2 {xs : Nat → Int32} {xl : Nat} {l : Launch} {d : Nat} {σ : zMem} {Q : Option Value → zMem → Prop} {i : Int} (hd : 12 ≤ d) (hxl : xl ≤ 3072) (hi : 0 ≤ i ∧ i + 6 ≤ xl) (hI : zIv σ) (hO : zoo (σ 218) (σ 219)) (kk : ∀ σ2, zIv σ2 → zx xs xl l d mL_law 1504 [some (.ref 0), some (.ref 1), some (.ref 217), some (.int (zI i))] [] σ2 Q) : zx xs xl l d mL_law 272 [some (.ref 0), some (.ref 1), some (.ref 217), some (.int (zI i))] [] σ Q := by
  have hC := hI.1.1
  have hV := hI.1.2.1
  have hm := hI.2.1
  have ht := hI.2.2.1
  have hT5 : 0 ≤ σ 106 1 ∧ σ 106 1 ≤ 150 := by rw [ht.2.2]; exact ht.1.1
  refine zx_aload_n 273 dL_law_272 rfl rfl ?_
  refine zx_arg 278 1 dL_law_273 dL_law_274 dL_law_275 dL_law_276 dL_law_277 rfl rfl rfl (by omega) hxl ?_
  refine zx_arg 283 2 dL_law_278 dL_law_279 dL_law_280 dL_law_281 dL_law_282 rfl rfl rfl (by omega) hxl ?_
  refine zx_callV 286 _ _ dL_law_283 rfl kL_23 qX5_canon ly1 ⟨_, rfl, rfl⟩ (by decide) (sp_X5_canon (d := d - 1) (by omega) hC hV (zxv_b xs (i + 1)) (zxv_b xs (i + 2))) (by omega) rfl rfl (Nat.le_of_ble_eq_true rfl) (fun a σ1 hX => ?_)
  rw [List.append_nil]
  have e := zA3_kp hX (bb := 218) (by decide) (fun h => h.2 218 (by omega) (by omega) (by omega))
  have hV1 : zVN (σ1 218) := by rw [e]; exact hV
  refine zx_aload_n 287 dL_law_286 rfl rfl ?_
  refine zx_arg 292 1 dL_law_287 dL_law_288 dL_law_289 dL_law_290 dL_law_291 rfl rfl rfl (by omega) hxl ?_
  refine zx_arg 297 2 dL_law_292 dL_law_293 dL_law_294 dL_law_295 dL_law_296 rfl rfl rfl (by omega) hxl ?_
  refine zx_callV 300 _ a.toList dL_law_297 rfl kL_27 qX6_canon ly217 ⟨_, rfl, rfl⟩ (by decide) (sp_X6_canon (d := d - 1) (by omega) (zxv_b xs (i + 1)) (zxv_b xs (i + 2)) hV1) (by omega) rfl rfl (zcat_opt a) (fun b σ2 hM => ?_)
  rw [e] at hM
  obtain ⟨⟨y, rfl, rfl⟩, hI2⟩ := zIv_A3 hI hX hM (fun _ _ => rfl) (fun c f p q => zIv_cf2 hI p (zVN_c hV f c.1 c.2) q)
  exact zx_eqi (a := y) (st := []) 1504 dL_law_300 (by decide) (kk _ hI2)
theorem case_3 {xs : Nat → Int32} {xl : Nat} {l : Launch} {d : Nat} {σ : zMem} {Q : Option Value → zMem → Prop} {i : Int} (hd : 12 ≤ d) (hxl : xl ≤ 3072) (hi : 0 ≤ i ∧ i + 6 ≤ xl) (hI : zIv σ) (hO : zoo (σ 218) (σ 219)) (kk : ∀ σ2, zIv σ2 → zx xs xl l d mL_law 1504 [some (.ref 0), some (.ref 1), some (.ref 217), some (.int (zI i))] [] σ2 Q) : zx xs xl l d mL_law 305 [some (.ref 0), some (.ref 1), some (.ref 217), some (.int (zI i))] [] σ Q := by
  have hC := hI.1.1
  have hV := hI.1.2.1
  have hm := hI.2.1
  have ht := hI.2.2.1
  have hT5 : 0 ≤ σ 106 1 ∧ σ 106 1 ≤ 150 := by rw [ht.2.2]; exact ht.1.1
  refine zx_aload_n 306 dL_law_305 rfl rfl ?_
  refine zx_arg 311 1 dL_law_306 dL_law_307 dL_law_308 dL_law_309 dL_law_310 rfl rfl rfl (by omega) hxl ?_
  refine zx_callV 314 _ _ dL_law_311 rfl kL_28 qX5_type ly1 ⟨_, rfl, rfl⟩ (by decide) (sp_X5_type (d := d - 1) (by omega) hC hV (zxv_b xs (i + 1)) hT5) (by omega) rfl rfl (Nat.le_of_ble_eq_true rfl) (fun a σ1 hX => ?_)
  rw [List.append_nil]
  have e : σ1 218 = σ 218 := zA3_kp hX (bb := 218) (by decide) (fun h => by rw [← h, zwr_ne _ _ _ (by decide), zwr_ne _ _ _ (by decide)])
  have e217 : σ1 217 = σ 217 := zA3_kp hX (bb := 217) (by decide) (fun h => by rw [← h, zwr_ne _ _ _ (by decide), zwr_ne _ _ _ (by decide)])
  have hT6 : 0 ≤ σ1 217 6 ∧ σ1 217 6 ≤ 150 := by rw [e217]; exact ht.1.1
  have hV1 : zVN (σ1 218) := by rw [e]; exact hV
  refine zx_aload_n 315 dL_law_314 rfl rfl ?_
  refine zx_arg 320 1 dL_law_315 dL_law_316 dL_law_317 dL_law_318 dL_law_319 rfl rfl rfl (by omega) hxl ?_
  refine zx_callV 323 _ a.toList dL_law_320 rfl kL_32 qX6_type ly217 ⟨_, rfl, rfl⟩ (by decide) (sp_X6_type (d := d - 1) (by omega) (zxv_b xs (i + 1)) hV1 hT6) (by omega) rfl rfl (zcat_opt a) (fun b σ2 hM => ?_)
  obtain ⟨⟨y, rfl, rfl⟩, hI2⟩ := tw_type hI hX e217 hM
  exact zx_eqi (a := y) (st := []) 1504 dL_law_323 (by decide) (kk _ hI2)
theorem case_4 {xs : Nat → Int32} {xl : Nat} {l : Launch} {d : Nat} {σ : zMem} {Q : Option Value → zMem → Prop} {i : Int} (hd : 12 ≤ d) (hxl : xl ≤ 3072) (hi : 0 ≤ i ∧ i + 6 ≤ xl) (hI : zIv σ) (hO : zoo (σ 218) (σ 219)) (kk : ∀ σ2, zIv σ2 → zx xs xl l d mL_law 1504 [some (.ref 0), some (.ref 1), some (.ref 217), some (.int (zI i))] [] σ2 Q) : zx xs xl l d mL_law 328 [some (.ref 0), some (.ref 1), some (.ref 217), some (.int (zI i))] [] σ Q := by
  have hC := hI.1.1
  have hV := hI.1.2.1
  have hm := hI.2.1
  have ht := hI.2.2.1
  have hT5 : 0 ≤ σ 106 1 ∧ σ 106 1 ≤ 150 := by rw [ht.2.2]; exact ht.1.1
  refine zx_aload_n 329 dL_law_328 rfl rfl ?_
  refine zx_callV 332 _ _ dL_law_329 rfl kL_33 qX5_clear ly1 ⟨_, rfl, rfl⟩ (by decide) (sp_X5_clear (d := d - 1) (by omega) hC hV) (by omega) rfl rfl (Nat.le_of_ble_eq_true rfl) (fun a σ1 hX => ?_)
  rw [List.append_nil]
  have e : σ1 218 = σ 218 := by rw [← hX.2, zwr_ne _ _ _ (by decide)]
  have hT6 : 0 ≤ σ1 217 6 ∧ σ1 217 6 ≤ 150 := by rw [← hX.2, zwr_ne _ _ _ (by decide)]; exact ht.1.1
  have hV1 : zVN (σ1 218) := by rw [e]; exact hV
  refine zx_aload_n 333 dL_law_332 rfl rfl ?_
  refine zx_callV 336 _ a.toList dL_law_333 rfl kL_36 qX6_clear ly217 ⟨_, rfl, rfl⟩ (by decide) (sp_X6_clear (d := d - 1) (by omega) hV1 hT6) (by omega) rfl rfl (zcat_opt a) (fun b σ2 hM => ?_)
  obtain ⟨⟨y, rfl, rfl⟩, hI2⟩ := tw_clear hI hX hM
  exact zx_eqi (a := y) (st := []) 1504 dL_law_336 (by decide) (kk _ hI2)
theorem case_5 {xs : Nat → Int32} {xl : Nat} {l : Launch} {d : Nat} {σ : zMem} {Q : Option Value → zMem → Prop} {i : Int} (hd : 12 ≤ d) (hxl : xl ≤ 3072) (hi : 0 ≤ i ∧ i + 6 ≤ xl) (hI : zIv σ) (hO : zoo (σ 218) (σ 219)) (kk : ∀ σ2, zIv σ2 → zx xs xl l d mL_law 1504 [some (.ref 0), some (.ref 1), some (.ref 217), some (.int (zI i))] [] σ2 Q) : zx xs xl l d mL_law 341 [some (.ref 0), some (.ref 1), some (.ref 217), some (.int (zI i))] [] σ Q := by
  have hC := hI.1.1
  have hV := hI.1.2.1
  have hm := hI.2.1
  have ht := hI.2.2.1
  have hT5 : 0 ≤ σ 106 1 ∧ σ 106 1 ≤ 150 := by rw [ht.2.2]; exact ht.1.1
  refine zx_aload_n 342 dL_law_341 rfl rfl ?_
  refine zx_callV 345 _ _ dL_law_342 rfl kL_37 qX5_read ly1 ⟨_, rfl, rfl⟩ (by decide) (sp_X5_read (d := d - 1) (by omega) ht.1 ht.2.1 ht.2.2 hI.1.2.2 hC.st (σ 219)) (by omega) rfl rfl (Nat.le_of_ble_eq_true rfl) (fun a σ1 hX => ?_)
  rw [List.append_nil]
  have e : σ1 218 = σ 218 := hX.2.1 218 (by omega) (by omega) (by omega)
  have e217 : σ1 217 = σ 217 := hX.2.1 217 (by omega) (by omega) (by omega)
  have e223 : σ1 223 = σ 223 := hX.2.1 223 (by omega) (by omega) (by omega)
  have e219 : σ1 219 = σ 219 := hX.2.1 219 (by omega) (by omega) (by omega)
  have hV1 : zVN (σ1 218) := by rw [e]; exact hV
  refine zx_aload_n 346 dL_law_345 rfl rfl ?_
  refine zx_callV 349 _ a.toList dL_law_346 rfl kL_40 qX6_read ly217 ⟨_, rfl, rfl⟩ (by decide) (sp_X6_read (d := d - 1) (by omega) (by rw [e223, e217]; exact ht.1) (by rw [e, e219]; exact hO)) (by omega) rfl rfl (zcat_opt a) (fun b σ2 hM => ?_)
  obtain ⟨⟨y, rfl, rfl⟩, hI2⟩ := tw_read hI hX e217 e223 e219 hM
  exact zx_eqi (a := y) (st := []) 1504 dL_law_349 (by decide) (kk _ hI2)
theorem case_6 {xs : Nat → Int32} {xl : Nat} {l : Launch} {d : Nat} {σ : zMem} {Q : Option Value → zMem → Prop} {i : Int} (hd : 12 ≤ d) (hxl : xl ≤ 3072) (hi : 0 ≤ i ∧ i + 6 ≤ xl) (hI : zIv σ) (hO : zoo (σ 218) (σ 219)) (kk : ∀ σ2, zIv σ2 → zx xs xl l d mL_law 1504 [some (.ref 0), some (.ref 1), some (.ref 217), some (.int (zI i))] [] σ2 Q) : zx xs xl l d mL_law 354 [some (.ref 0), some (.ref 1), some (.ref 217), some (.int (zI i))] [] σ Q := by
  have hC := hI.1.1
  have hV := hI.1.2.1
  have hm := hI.2.1
  have ht := hI.2.2.1
  have hT5 : 0 ≤ σ 106 1 ∧ σ 106 1 ≤ 150 := by rw [ht.2.2]; exact ht.1.1
  refine zx_aload_n 355 dL_law_354 rfl rfl ?_
  refine zx_arg 360 1 dL_law_355 dL_law_356 dL_law_357 dL_law_358 dL_law_359 rfl rfl rfl (by omega) hxl ?_
  refine zx_arg 365 2 dL_law_360 dL_law_361 dL_law_362 dL_law_363 dL_law_364 rfl rfl rfl (by omega) hxl ?_
  refine zx_callV 368 _ _ dL_law_365 rfl kL_41 qX5_sits ly1 ⟨_, rfl, rfl⟩ (by decide) (sp_X5_sits (d := d - 1) (by omega) hC hV (zxv_b xs (i + 1)) (zxv_b xs (i + 2))) (by omega) rfl rfl (Nat.le_of_ble_eq_true rfl) (fun a σ1 hX => ?_)
  rw [List.append_nil]
  have e := zA3_kp hX (bb := 218) (by decide) (fun h => h.2 218 (by omega) (by omega) (by omega))
  have hV1 : zVN (σ1 218) := by rw [e]; exact hV
  refine zx_aload_n 369 dL_law_368 rfl rfl ?_
  refine zx_arg 374 1 dL_law_369 dL_law_370 dL_law_371 dL_law_372 dL_law_373 rfl rfl rfl (by omega) hxl ?_
  refine zx_arg 379 2 dL_law_374 dL_law_375 dL_law_376 dL_law_377 dL_law_378 rfl rfl rfl (by omega) hxl ?_
  refine zx_callV 382 _ a.toList dL_law_379 rfl kL_44 qX6_sits ly217 ⟨_, rfl, rfl⟩ (by decide) (sp_X6_sits (d := d - 1) (by omega) (zxv_b xs (i + 1)) (zxv_b xs (i + 2)) hV1) (by omega) rfl rfl (zcat_opt a) (fun b σ2 hM => ?_)
  rw [e] at hM
  obtain ⟨⟨y, rfl, rfl⟩, hI2⟩ := zIv_A3 hI hX hM (fun _ _ => rfl) (fun c f p q => zIv_cf2 hI p (zVN_sits hV c f) q)
  exact zx_eqi (a := y) (st := []) 1504 dL_law_382 (by decide) (kk _ hI2)
theorem case_7 {xs : Nat → Int32} {xl : Nat} {l : Launch} {d : Nat} {σ : zMem} {Q : Option Value → zMem → Prop} {i : Int} (hd : 12 ≤ d) (hxl : xl ≤ 3072) (hi : 0 ≤ i ∧ i + 6 ≤ xl) (hI : zIv σ) (hO : zoo (σ 218) (σ 219)) (kk : ∀ σ2, zIv σ2 → zx xs xl l d mL_law 1504 [some (.ref 0), some (.ref 1), some (.ref 217), some (.int (zI i))] [] σ2 Q) : zx xs xl l d mL_law 387 [some (.ref 0), some (.ref 1), some (.ref 217), some (.int (zI i))] [] σ Q := by
  have hC := hI.1.1
  have hV := hI.1.2.1
  have hm := hI.2.1
  have ht := hI.2.2.1
  have hT5 : 0 ≤ σ 106 1 ∧ σ 106 1 ≤ 150 := by rw [ht.2.2]; exact ht.1.1
  refine zx_aload_n 388 dL_law_387 rfl rfl ?_
  refine zx_arg 393 1 dL_law_388 dL_law_389 dL_law_390 dL_law_391 dL_law_392 rfl rfl rfl (by omega) hxl ?_
  refine zx_arg 398 2 dL_law_393 dL_law_394 dL_law_395 dL_law_396 dL_law_397 rfl rfl rfl (by omega) hxl ?_
  refine zx_callV 401 _ _ dL_law_398 rfl kL_45 qX5_swap ly1 ⟨_, rfl, rfl⟩ (by decide) (sp_X5_swap (d := d - 1) (by omega) hC hV (zxv_b xs (i + 1)) (zxv_b xs (i + 2))) (by omega) rfl rfl (Nat.le_of_ble_eq_true rfl) (fun a σ1 hX => ?_)
  rw [List.append_nil]
  have e := zA3_kp hX (bb := 218) (by decide) (fun h => h.2 218 (by omega) (by omega) (by omega))
  have hV1 : zVN (σ1 218) := by rw [e]; exact hV
  refine zx_aload_n 402 dL_law_401 rfl rfl ?_
  refine zx_arg 407 1 dL_law_402 dL_law_403 dL_law_404 dL_law_405 dL_law_406 rfl rfl rfl (by omega) hxl ?_
  refine zx_arg 412 2 dL_law_407 dL_law_408 dL_law_409 dL_law_410 dL_law_411 rfl rfl rfl (by omega) hxl ?_
  refine zx_callV 415 _ a.toList dL_law_412 rfl kL_48 qX6_swap ly217 ⟨_, rfl, rfl⟩ (by decide) (sp_X6_swap (d := d - 1) (by omega) (zxv_b xs (i + 1)) (zxv_b xs (i + 2)) hV1) (by omega) rfl rfl (zcat_opt a) (fun b σ2 hM => ?_)
  rw [e] at hM
  obtain ⟨⟨y, rfl, rfl⟩, hI2⟩ := zIv_A3 hI hX hM (fun _ _ => rfl) (fun c f p q => zIv_cf2 hI p (zVN_swap hV c) q)
  exact zx_eqi (a := y) (st := []) 1504 dL_law_415 (by decide) (kk _ hI2)
theorem case_8 {xs : Nat → Int32} {xl : Nat} {l : Launch} {d : Nat} {σ : zMem} {Q : Option Value → zMem → Prop} {i : Int} (hd : 12 ≤ d) (hxl : xl ≤ 3072) (hi : 0 ≤ i ∧ i + 6 ≤ xl) (hI : zIv σ) (hO : zoo (σ 218) (σ 219)) (kk : ∀ σ2, zIv σ2 → zx xs xl l d mL_law 1504 [some (.ref 0), some (.ref 1), some (.ref 217), some (.int (zI i))] [] σ2 Q) : zx xs xl l d mL_law 420 [some (.ref 0), some (.ref 1), some (.ref 217), some (.int (zI i))] [] σ Q := by
  have hC := hI.1.1
  have hV := hI.1.2.1
  have hm := hI.2.1
  have ht := hI.2.2.1
  have hT5 : 0 ≤ σ 106 1 ∧ σ 106 1 ≤ 150 := by rw [ht.2.2]; exact ht.1.1
  refine zx_aload_n 421 dL_law_420 rfl rfl ?_
  refine zx_arg 426 1 dL_law_421 dL_law_422 dL_law_423 dL_law_424 dL_law_425 rfl rfl rfl (by omega) hxl ?_
  refine zx_callV 429 _ _ dL_law_426 rfl kL_49 qX5_year ly1 ⟨_, rfl, rfl⟩ (by decide) (sp_X5_year (d := d - 1) (by omega) hC hV (zxv_b xs (i + 1))) (by omega) rfl rfl (Nat.le_of_ble_eq_true rfl) (fun a σ1 hX => ?_)
  rw [List.append_nil]
  have e := zA3_kp hX (bb := 218) (by decide) (fun h => h.2 218 (by omega) (by omega) (by omega))
  have hV1 : zVN (σ1 218) := by rw [e]; exact hV
  refine zx_aload_n 430 dL_law_429 rfl rfl ?_
  refine zx_arg 435 1 dL_law_430 dL_law_431 dL_law_432 dL_law_433 dL_law_434 rfl rfl rfl (by omega) hxl ?_
  refine zx_callV 438 _ a.toList dL_law_435 rfl kL_52 qX6_year ly217 ⟨_, rfl, rfl⟩ (by decide) (sp_X6_year (d := d - 1) (by omega) (zxv_b xs (i + 1)) hV1) (by omega) rfl rfl (zcat_opt a) (fun b σ2 hM => ?_)
  rw [e] at hM
  obtain ⟨⟨y, rfl, rfl⟩, hI2⟩ := zIv_A3 hI hX hM (fun _ _ => rfl) (fun c f p q => zIv_cf2 hI p (zVN_yl (zVN_rem hV) _) q)
  exact zx_eqi (a := y) (st := []) 1504 dL_law_438 (by decide) (kk _ hI2)
theorem case_9 {xs : Nat → Int32} {xl : Nat} {l : Launch} {d : Nat} {σ : zMem} {Q : Option Value → zMem → Prop} {i : Int} (hd : 12 ≤ d) (hxl : xl ≤ 3072) (hi : 0 ≤ i ∧ i + 6 ≤ xl) (hI : zIv σ) (hO : zoo (σ 218) (σ 219)) (kk : ∀ σ2, zIv σ2 → zx xs xl l d mL_law 1504 [some (.ref 0), some (.ref 1), some (.ref 217), some (.int (zI i))] [] σ2 Q) : zx xs xl l d mL_law 443 [some (.ref 0), some (.ref 1), some (.ref 217), some (.int (zI i))] [] σ Q := by
  have hC := hI.1.1
  have hV := hI.1.2.1
  have hm := hI.2.1
  have ht := hI.2.2.1
  have hT5 : 0 ≤ σ 106 1 ∧ σ 106 1 ≤ 150 := by rw [ht.2.2]; exact ht.1.1
  refine zx_aload_n 444 dL_law_443 rfl rfl ?_
  refine zx_callV 447 _ _ dL_law_444 rfl kL_53 qX5_undo ly1 ⟨_, rfl, rfl⟩ (by decide) (sp_X5_undo (d := d - 1) (by omega) hC hV) (by omega) rfl rfl (Nat.le_of_ble_eq_true rfl) (fun a σ1 hX => ?_)
  rw [List.append_nil]
  have e := zA3_kp hX (bb := 218) (by decide) (fun h => h.2 218 (by omega) (by omega) (by omega))
  have hV1 : zVN (σ1 218) := by rw [e]; exact hV
  refine zx_aload_n 448 dL_law_447 rfl rfl ?_
  refine zx_callV 451 _ a.toList dL_law_448 rfl kL_56 qX6_undo ly217 ⟨_, rfl, rfl⟩ (by decide) (sp_X6_undo (d := d - 1) (by omega) hV1) (by omega) rfl rfl (zcat_opt a) (fun b σ2 hM => ?_)
  rw [e] at hM
  obtain ⟨⟨y, rfl, rfl⟩, hI2⟩ := zIv_A3 hI hX hM (fun _ _ => rfl) (fun c f p q => zIv_cf2 hI p (zVN_un hV c) q)
  exact zx_eqi (a := y) (st := []) 1504 dL_law_451 (by decide) (kk _ hI2)
theorem case_10 {xs : Nat → Int32} {xl : Nat} {l : Launch} {d : Nat} {σ : zMem} {Q : Option Value → zMem → Prop} {i : Int} (hd : 12 ≤ d) (hxl : xl ≤ 3072) (hi : 0 ≤ i ∧ i + 6 ≤ xl) (hI : zIv σ) (hO : zoo (σ 218) (σ 219)) (kk : ∀ σ2, zIv σ2 → zx xs xl l d mL_law 1504 [some (.ref 0), some (.ref 1), some (.ref 217), some (.int (zI i))] [] σ2 Q) : zx xs xl l d mL_law 456 [some (.ref 0), some (.ref 1), some (.ref 217), some (.int (zI i))] [] σ Q := by
  have hC := hI.1.1
  have hV := hI.1.2.1
  have hm := hI.2.1
  have ht := hI.2.2.1
  have hT5 : 0 ≤ σ 106 1 ∧ σ 106 1 ≤ 150 := by rw [ht.2.2]; exact ht.1.1
  refine zx_aload_n 457 dL_law_456 rfl rfl ?_
  refine zx_arg 462 1 dL_law_457 dL_law_458 dL_law_459 dL_law_460 dL_law_461 rfl rfl rfl (by omega) hxl ?_
  refine zx_arg 467 2 dL_law_462 dL_law_463 dL_law_464 dL_law_465 dL_law_466 rfl rfl rfl (by omega) hxl ?_
  refine zx_callV 470 _ _ dL_law_467 rfl kL_57 qX5_of ly1 ⟨_, rfl, rfl⟩ (by decide) (sp_X5_of (d := d - 1) (by omega) hC hV (zxv_b xs (i + 1)) (zxv_b xs (i + 2))) (by omega) rfl rfl (Nat.le_of_ble_eq_true rfl) (fun a σ1 hX => ?_)
  rw [List.append_nil]
  have e := zAn_218 hX
  have hV1 : zVN (σ1 218) := by rw [e]; exact hV
  refine zx_aload_n 471 dL_law_470 rfl rfl ?_
  refine zx_arg 476 1 dL_law_471 dL_law_472 dL_law_473 dL_law_474 dL_law_475 rfl rfl rfl (by omega) hxl ?_
  refine zx_arg 481 2 dL_law_476 dL_law_477 dL_law_478 dL_law_479 dL_law_480 rfl rfl rfl (by omega) hxl ?_
  refine zx_callV 484 _ a.toList dL_law_481 rfl kL_60 qX6_of ly217 ⟨_, rfl, rfl⟩ (by decide) (sp_X6_of (d := d - 1) (by omega) (zxv_b xs (i + 1)) (zxv_b xs (i + 2)) hV1) (by omega) rfl rfl (zcat_opt a) (fun b σ2 hM => ?_)
  rw [e] at hM
  obtain ⟨⟨y, rfl, rfl⟩, hI2⟩ := zIv_An hI hX hM (fun _ => rfl)
  exact zx_eqi (a := y) (st := []) 1504 dL_law_484 (by decide) (kk _ hI2)
theorem case_11 {xs : Nat → Int32} {xl : Nat} {l : Launch} {d : Nat} {σ : zMem} {Q : Option Value → zMem → Prop} {i : Int} (hd : 12 ≤ d) (hxl : xl ≤ 3072) (hi : 0 ≤ i ∧ i + 6 ≤ xl) (hI : zIv σ) (hO : zoo (σ 218) (σ 219)) (kk : ∀ σ2, zIv σ2 → zx xs xl l d mL_law 1504 [some (.ref 0), some (.ref 1), some (.ref 217), some (.int (zI i))] [] σ2 Q) : zx xs xl l d mL_law 489 [some (.ref 0), some (.ref 1), some (.ref 217), some (.int (zI i))] [] σ Q := by
  have hC := hI.1.1
  have hV := hI.1.2.1
  have hm := hI.2.1
  have ht := hI.2.2.1
  have hT5 : 0 ≤ σ 106 1 ∧ σ 106 1 ≤ 150 := by rw [ht.2.2]; exact ht.1.1
  refine zx_aload_n 490 dL_law_489 rfl rfl ?_
  refine zx_arg 495 1 dL_law_490 dL_law_491 dL_law_492 dL_law_493 dL_law_494 rfl rfl rfl (by omega) hxl ?_
  refine zx_arg 500 2 dL_law_495 dL_law_496 dL_law_497 dL_law_498 dL_law_499 rfl rfl rfl (by omega) hxl ?_
  refine zx_callV 503 _ _ dL_law_500 rfl kL_61 qX5_about ly1 ⟨_, rfl, rfl⟩ (by decide) (sp_X5_about (d := d - 1) (by omega) hC hV (zxv_b xs (i + 1)) (zxv_b xs (i + 2))) (by omega) rfl rfl (Nat.le_of_ble_eq_true rfl) (fun a σ1 hX => ?_)
  rw [List.append_nil]
  have e := zAn_218 hX
  have hV1 : zVN (σ1 218) := by rw [e]; exact hV
  refine zx_aload_n 504 dL_law_503 rfl rfl ?_
  refine zx_arg 509 1 dL_law_504 dL_law_505 dL_law_506 dL_law_507 dL_law_508 rfl rfl rfl (by omega) hxl ?_
  refine zx_arg 514 2 dL_law_509 dL_law_510 dL_law_511 dL_law_512 dL_law_513 rfl rfl rfl (by omega) hxl ?_
  refine zx_callV 517 _ a.toList dL_law_514 rfl kL_64 qX6_about ly217 ⟨_, rfl, rfl⟩ (by decide) (sp_X6_about (d := d - 1) (by omega) (zxv_b xs (i + 1)) (zxv_b xs (i + 2)) hV1) (by omega) rfl rfl (zcat_opt a) (fun b σ2 hM => ?_)
  rw [e] at hM
  obtain ⟨⟨y, rfl, rfl⟩, hI2⟩ := zIv_An hI hX hM (fun _ => rfl)
  exact zx_eqi (a := y) (st := []) 1504 dL_law_517 (by decide) (kk _ hI2)
theorem case_12 {xs : Nat → Int32} {xl : Nat} {l : Launch} {d : Nat} {σ : zMem} {Q : Option Value → zMem → Prop} {i : Int} (hd : 12 ≤ d) (hxl : xl ≤ 3072) (hi : 0 ≤ i ∧ i + 6 ≤ xl) (hI : zIv σ) (hO : zoo (σ 218) (σ 219)) (kk : ∀ σ2, zIv σ2 → zx xs xl l d mL_law 1504 [some (.ref 0), some (.ref 1), some (.ref 217), some (.int (zI i))] [] σ2 Q) : zx xs xl l d mL_law 522 [some (.ref 0), some (.ref 1), some (.ref 217), some (.int (zI i))] [] σ Q := by
  have hC := hI.1.1
  have hV := hI.1.2.1
  have hm := hI.2.1
  have ht := hI.2.2.1
  have hT5 : 0 ≤ σ 106 1 ∧ σ 106 1 ≤ 150 := by rw [ht.2.2]; exact ht.1.1
  refine zx_aload_n 523 dL_law_522 rfl rfl ?_
  refine zx_arg 528 1 dL_law_523 dL_law_524 dL_law_525 dL_law_526 dL_law_527 rfl rfl rfl (by omega) hxl ?_
  refine zx_arg 533 2 dL_law_528 dL_law_529 dL_law_530 dL_law_531 dL_law_532 rfl rfl rfl (by omega) hxl ?_
  refine zx_callV 536 _ _ dL_law_533 rfl kL_65 qX5_taken ly1 ⟨_, rfl, rfl⟩ (by decide) (sp_X5_taken (d := d - 1) (by omega) hC hV (zxv_b xs (i + 1)) (zxv_b xs (i + 2))) (by omega) rfl rfl (Nat.le_of_ble_eq_true rfl) (fun a σ1 hX => ?_)
  rw [List.append_nil]
  have e := zAn_218 hX
  have hV1 : zVN (σ1 218) := by rw [e]; exact hV
  refine zx_aload_n 537 dL_law_536 rfl rfl ?_
  refine zx_arg 542 1 dL_law_537 dL_law_538 dL_law_539 dL_law_540 dL_law_541 rfl rfl rfl (by omega) hxl ?_
  refine zx_arg 547 2 dL_law_542 dL_law_543 dL_law_544 dL_law_545 dL_law_546 rfl rfl rfl (by omega) hxl ?_
  refine zx_callV 550 _ a.toList dL_law_547 rfl kL_68 qX6_taken ly217 ⟨_, rfl, rfl⟩ (by decide) (sp_X6_taken (d := d - 1) (by omega) (zxv_b xs (i + 1)) (zxv_b xs (i + 2)) hV1) (by omega) rfl rfl (zcat_opt a) (fun b σ2 hM => ?_)
  rw [e] at hM
  obtain ⟨⟨y, rfl, rfl⟩, hI2⟩ := zIv_An hI hX hM (fun _ => rfl)
  exact zx_eqi (a := y) (st := []) 1504 dL_law_550 (by decide) (kk _ hI2)
theorem case_13 {xs : Nat → Int32} {xl : Nat} {l : Launch} {d : Nat} {σ : zMem} {Q : Option Value → zMem → Prop} {i : Int} (hd : 12 ≤ d) (hxl : xl ≤ 3072) (hi : 0 ≤ i ∧ i + 6 ≤ xl) (hI : zIv σ) (hO : zoo (σ 218) (σ 219)) (kk : ∀ σ2, zIv σ2 → zx xs xl l d mL_law 1504 [some (.ref 0), some (.ref 1), some (.ref 217), some (.int (zI i))] [] σ2 Q) : zx xs xl l d mL_law 555 [some (.ref 0), some (.ref 1), some (.ref 217), some (.int (zI i))] [] σ Q := by
  have hC := hI.1.1
  have hV := hI.1.2.1
  have hm := hI.2.1
  have ht := hI.2.2.1
  have hT5 : 0 ≤ σ 106 1 ∧ σ 106 1 ≤ 150 := by rw [ht.2.2]; exact ht.1.1
  refine zx_aload_n 556 dL_law_555 rfl rfl ?_
  refine zx_arg 561 1 dL_law_556 dL_law_557 dL_law_558 dL_law_559 dL_law_560 rfl rfl rfl (by omega) hxl ?_
  refine zx_arg 566 2 dL_law_561 dL_law_562 dL_law_563 dL_law_564 dL_law_565 rfl rfl rfl (by omega) hxl ?_
  refine zx_callV 569 _ _ dL_law_566 rfl kL_69 qX5_takes ly1 ⟨_, rfl, rfl⟩ (by decide) (sp_X5_takes (d := d - 1) (by omega) hC hV (zxv_b xs (i + 1)) (zxv_b xs (i + 2))) (by omega) rfl rfl (Nat.le_of_ble_eq_true rfl) (fun a σ1 hX => ?_)
  rw [List.append_nil]
  have e := zAn_218 hX
  have hV1 : zVN (σ1 218) := by rw [e]; exact hV
  refine zx_aload_n 570 dL_law_569 rfl rfl ?_
  refine zx_arg 575 1 dL_law_570 dL_law_571 dL_law_572 dL_law_573 dL_law_574 rfl rfl rfl (by omega) hxl ?_
  refine zx_arg 580 2 dL_law_575 dL_law_576 dL_law_577 dL_law_578 dL_law_579 rfl rfl rfl (by omega) hxl ?_
  refine zx_callV 583 _ a.toList dL_law_580 rfl kL_72 qX6_takes ly217 ⟨_, rfl, rfl⟩ (by decide) (sp_X6_takes (d := d - 1) (by omega) (zxv_b xs (i + 1)) (zxv_b xs (i + 2)) hV1) (by omega) rfl rfl (zcat_opt a) (fun b σ2 hM => ?_)
  rw [e] at hM
  obtain ⟨⟨y, rfl, rfl⟩, hI2⟩ := zIv_An hI hX hM (fun _ => rfl)
  exact zx_eqi (a := y) (st := []) 1504 dL_law_583 (by decide) (kk _ hI2)
theorem case_14 {xs : Nat → Int32} {xl : Nat} {l : Launch} {d : Nat} {σ : zMem} {Q : Option Value → zMem → Prop} {i : Int} (hd : 12 ≤ d) (hxl : xl ≤ 3072) (hi : 0 ≤ i ∧ i + 6 ≤ xl) (hI : zIv σ) (hO : zoo (σ 218) (σ 219)) (kk : ∀ σ2, zIv σ2 → zx xs xl l d mL_law 1504 [some (.ref 0), some (.ref 1), some (.ref 217), some (.int (zI i))] [] σ2 Q) : zx xs xl l d mL_law 588 [some (.ref 0), some (.ref 1), some (.ref 217), some (.int (zI i))] [] σ Q := by
  have hC := hI.1.1
  have hV := hI.1.2.1
  have hm := hI.2.1
  have ht := hI.2.2.1
  have hT5 : 0 ≤ σ 106 1 ∧ σ 106 1 ≤ 150 := by rw [ht.2.2]; exact ht.1.1
  refine zx_aload_n 589 dL_law_588 rfl rfl ?_
  refine zx_arg 594 1 dL_law_589 dL_law_590 dL_law_591 dL_law_592 dL_law_593 rfl rfl rfl (by omega) hxl ?_
  refine zx_arg 599 2 dL_law_594 dL_law_595 dL_law_596 dL_law_597 dL_law_598 rfl rfl rfl (by omega) hxl ?_
  refine zx_arg 604 3 dL_law_599 dL_law_600 dL_law_601 dL_law_602 dL_law_603 rfl rfl rfl (by omega) hxl ?_
  refine zx_callV 607 _ _ dL_law_604 rfl kL_73 qX5_then ly1 ⟨_, rfl, rfl⟩ (by decide) (sp_X5_then (d := d - 1) (by omega) hC hV (zxv_b xs (i + 1)) (zxv_b xs (i + 2)) (zxv_b xs (i + 3))) (by omega) rfl rfl (Nat.le_of_ble_eq_true rfl) (fun a σ1 hX => ?_)
  rw [List.append_nil]
  have e := zAn_218 hX
  have hV1 : zVN (σ1 218) := by rw [e]; exact hV
  refine zx_aload_n 608 dL_law_607 rfl rfl ?_
  refine zx_arg 613 1 dL_law_608 dL_law_609 dL_law_610 dL_law_611 dL_law_612 rfl rfl rfl (by omega) hxl ?_
  refine zx_arg 618 2 dL_law_613 dL_law_614 dL_law_615 dL_law_616 dL_law_617 rfl rfl rfl (by omega) hxl ?_
  refine zx_arg 623 3 dL_law_618 dL_law_619 dL_law_620 dL_law_621 dL_law_622 rfl rfl rfl (by omega) hxl ?_
  refine zx_callV 626 _ a.toList dL_law_623 rfl kL_76 qX6_then ly217 ⟨_, rfl, rfl⟩ (by decide) (sp_X6_then (d := d - 1) (by omega) (zxv_b xs (i + 1)) (zxv_b xs (i + 2)) (zxv_b xs (i + 3)) hV1) (by omega) rfl rfl (zcat_opt a) (fun b σ2 hM => ?_)
  rw [e] at hM
  obtain ⟨⟨y, rfl, rfl⟩, hI2⟩ := zIv_An hI hX hM (fun _ => rfl)
  exact zx_eqi (a := y) (st := []) 1504 dL_law_626 (by decide) (kk _ hI2)
theorem case_15 {xs : Nat → Int32} {xl : Nat} {l : Launch} {d : Nat} {σ : zMem} {Q : Option Value → zMem → Prop} {i : Int} (hd : 12 ≤ d) (hxl : xl ≤ 3072) (hi : 0 ≤ i ∧ i + 6 ≤ xl) (hI : zIv σ) (hO : zoo (σ 218) (σ 219)) (kk : ∀ σ2, zIv σ2 → zx xs xl l d mL_law 1504 [some (.ref 0), some (.ref 1), some (.ref 217), some (.int (zI i))] [] σ2 Q) : zx xs xl l d mL_law 631 [some (.ref 0), some (.ref 1), some (.ref 217), some (.int (zI i))] [] σ Q := by
  have hC := hI.1.1
  have hV := hI.1.2.1
  have hm := hI.2.1
  have ht := hI.2.2.1
  have hT5 : 0 ≤ σ 106 1 ∧ σ 106 1 ≤ 150 := by rw [ht.2.2]; exact ht.1.1
  refine zx_aload_n 632 dL_law_631 rfl rfl ?_
  refine zx_arg 637 1 dL_law_632 dL_law_633 dL_law_634 dL_law_635 dL_law_636 rfl rfl rfl (by omega) hxl ?_
  refine zx_arg 642 2 dL_law_637 dL_law_638 dL_law_639 dL_law_640 dL_law_641 rfl rfl rfl (by omega) hxl ?_
  refine zx_callV 645 _ _ dL_law_642 rfl kL_77 qX5_depth ly1 ⟨_, rfl, rfl⟩ (by decide) (sp_X5_depth (d := d - 1) (by omega) hC hV (zxv_b xs (i + 1)) (zxv_b xs (i + 2))) (by omega) rfl rfl (Nat.le_of_ble_eq_true rfl) (fun a σ1 hX => ?_)
  rw [List.append_nil]
  have e := zAn_218 hX
  have hV1 : zVN (σ1 218) := by rw [e]; exact hV
  refine zx_aload_n 646 dL_law_645 rfl rfl ?_
  refine zx_arg 651 1 dL_law_646 dL_law_647 dL_law_648 dL_law_649 dL_law_650 rfl rfl rfl (by omega) hxl ?_
  refine zx_arg 656 2 dL_law_651 dL_law_652 dL_law_653 dL_law_654 dL_law_655 rfl rfl rfl (by omega) hxl ?_
  refine zx_callV 659 _ a.toList dL_law_656 rfl kL_80 qX6_depth ly217 ⟨_, rfl, rfl⟩ (by decide) (sp_X6_depth (d := d - 1) (by omega) (zxv_b xs (i + 1)) (zxv_b xs (i + 2)) hV1) (by omega) rfl rfl (zcat_opt a) (fun b σ2 hM => ?_)
  rw [e] at hM
  obtain ⟨⟨y, rfl, rfl⟩, hI2⟩ := zIv_An hI hX hM (fun _ => rfl)
  exact zx_eqi (a := y) (st := []) 1504 dL_law_659 (by decide) (kk _ hI2)
theorem case_16 {xs : Nat → Int32} {xl : Nat} {l : Launch} {d : Nat} {σ : zMem} {Q : Option Value → zMem → Prop} {i : Int} (hd : 12 ≤ d) (hxl : xl ≤ 3072) (hi : 0 ≤ i ∧ i + 6 ≤ xl) (hI : zIv σ) (hO : zoo (σ 218) (σ 219)) (kk : ∀ σ2, zIv σ2 → zx xs xl l d mL_law 1504 [some (.ref 0), some (.ref 1), some (.ref 217), some (.int (zI i))] [] σ2 Q) : zx xs xl l d mL_law 664 [some (.ref 0), some (.ref 1), some (.ref 217), some (.int (zI i))] [] σ Q := by
  have hC := hI.1.1
  have hV := hI.1.2.1
  have hm := hI.2.1
  have ht := hI.2.2.1
  have hT5 : 0 ≤ σ 106 1 ∧ σ 106 1 ≤ 150 := by rw [ht.2.2]; exact ht.1.1
  refine zx_aload_n 665 dL_law_664 rfl rfl ?_
  refine zx_arg 670 1 dL_law_665 dL_law_666 dL_law_667 dL_law_668 dL_law_669 rfl rfl rfl (by omega) hxl ?_
  refine zx_arg 675 2 dL_law_670 dL_law_671 dL_law_672 dL_law_673 dL_law_674 rfl rfl rfl (by omega) hxl ?_
  refine zx_arg 680 3 dL_law_675 dL_law_676 dL_law_677 dL_law_678 dL_law_679 rfl rfl rfl (by omega) hxl ?_
  refine zx_callV 683 _ _ dL_law_680 rfl kL_81 qX5_when ly1 ⟨_, rfl, rfl⟩ (by decide) (sp_X5_when (d := d - 1) (by omega) hC hV (zxv_b xs (i + 1)) (zxv_b xs (i + 2)) (zxv_b xs (i + 3))) (by omega) rfl rfl (Nat.le_of_ble_eq_true rfl) (fun a σ1 hX => ?_)
  rw [List.append_nil]
  have e := zAn_218 hX
  have hV1 : zVN (σ1 218) := by rw [e]; exact hV
  refine zx_aload_n 684 dL_law_683 rfl rfl ?_
  refine zx_arg 689 1 dL_law_684 dL_law_685 dL_law_686 dL_law_687 dL_law_688 rfl rfl rfl (by omega) hxl ?_
  refine zx_arg 694 2 dL_law_689 dL_law_690 dL_law_691 dL_law_692 dL_law_693 rfl rfl rfl (by omega) hxl ?_
  refine zx_arg 699 3 dL_law_694 dL_law_695 dL_law_696 dL_law_697 dL_law_698 rfl rfl rfl (by omega) hxl ?_
  refine zx_callV 702 _ a.toList dL_law_699 rfl kL_84 qX6_when ly217 ⟨_, rfl, rfl⟩ (by decide) (sp_X6_when (d := d - 1) (by omega) (zxv_b xs (i + 1)) (zxv_b xs (i + 2)) (zxv_b xs (i + 3)) hV1) (by omega) rfl rfl (zcat_opt a) (fun b σ2 hM => ?_)
  rw [e] at hM
  obtain ⟨⟨y, rfl, rfl⟩, hI2⟩ := zIv_An hI hX hM (fun _ => rfl)
  exact zx_eqi (a := y) (st := []) 1504 dL_law_702 (by decide) (kk _ hI2)
theorem case_17 {xs : Nat → Int32} {xl : Nat} {l : Launch} {d : Nat} {σ : zMem} {Q : Option Value → zMem → Prop} {i : Int} (hd : 12 ≤ d) (hxl : xl ≤ 3072) (hi : 0 ≤ i ∧ i + 6 ≤ xl) (hI : zIv σ) (hO : zoo (σ 218) (σ 219)) (kk : ∀ σ2, zIv σ2 → zx xs xl l d mL_law 1504 [some (.ref 0), some (.ref 1), some (.ref 217), some (.int (zI i))] [] σ2 Q) : zx xs xl l d mL_law 707 [some (.ref 0), some (.ref 1), some (.ref 217), some (.int (zI i))] [] σ Q := by
  have hC := hI.1.1
  have hV := hI.1.2.1
  have hm := hI.2.1
  have ht := hI.2.2.1
  have hT5 : 0 ≤ σ 106 1 ∧ σ 106 1 ≤ 150 := by rw [ht.2.2]; exact ht.1.1
  refine zx_aload_n 708 dL_law_707 rfl rfl ?_
  refine zx_arg 713 1 dL_law_708 dL_law_709 dL_law_710 dL_law_711 dL_law_712 rfl rfl rfl (by omega) hxl ?_
  refine zx_arg 718 2 dL_law_713 dL_law_714 dL_law_715 dL_law_716 dL_law_717 rfl rfl rfl (by omega) hxl ?_
  refine zx_callV 721 _ _ dL_law_718 rfl kL_85 qX5_first ly1 ⟨_, rfl, rfl⟩ (by decide) (sp_X5_first (d := d - 1) (by omega) hC hV (zxv_b xs (i + 1)) (zxv_b xs (i + 2))) (by omega) rfl rfl (Nat.le_of_ble_eq_true rfl) (fun a σ1 hX => ?_)
  rw [List.append_nil]
  have e := zAn_218 hX
  have hV1 : zVN (σ1 218) := by rw [e]; exact hV
  refine zx_aload_n 722 dL_law_721 rfl rfl ?_
  refine zx_arg 727 1 dL_law_722 dL_law_723 dL_law_724 dL_law_725 dL_law_726 rfl rfl rfl (by omega) hxl ?_
  refine zx_arg 732 2 dL_law_727 dL_law_728 dL_law_729 dL_law_730 dL_law_731 rfl rfl rfl (by omega) hxl ?_
  refine zx_callV 735 _ a.toList dL_law_732 rfl kL_88 qX6_first ly217 ⟨_, rfl, rfl⟩ (by decide) (sp_X6_first (d := d - 1) (by omega) (zxv_b xs (i + 1)) (zxv_b xs (i + 2)) hV1) (by omega) rfl rfl (zcat_opt a) (fun b σ2 hM => ?_)
  rw [e] at hM
  obtain ⟨⟨y, rfl, rfl⟩, hI2⟩ := zIv_An hI hX hM (fun _ => rfl)
  exact zx_eqi (a := y) (st := []) 1504 dL_law_735 (by decide) (kk _ hI2)
theorem case_18 {xs : Nat → Int32} {xl : Nat} {l : Launch} {d : Nat} {σ : zMem} {Q : Option Value → zMem → Prop} {i : Int} (hd : 12 ≤ d) (hxl : xl ≤ 3072) (hi : 0 ≤ i ∧ i + 6 ≤ xl) (hI : zIv σ) (hO : zoo (σ 218) (σ 219)) (kk : ∀ σ2, zIv σ2 → zx xs xl l d mL_law 1504 [some (.ref 0), some (.ref 1), some (.ref 217), some (.int (zI i))] [] σ2 Q) : zx xs xl l d mL_law 740 [some (.ref 0), some (.ref 1), some (.ref 217), some (.int (zI i))] [] σ Q := by
  have hC := hI.1.1
  have hV := hI.1.2.1
  have hm := hI.2.1
  have ht := hI.2.2.1
  have hT5 : 0 ≤ σ 106 1 ∧ σ 106 1 ≤ 150 := by rw [ht.2.2]; exact ht.1.1
  refine zx_aload_n 741 dL_law_740 rfl rfl ?_
  refine zx_arg 746 1 dL_law_741 dL_law_742 dL_law_743 dL_law_744 dL_law_745 rfl rfl rfl (by omega) hxl ?_
  refine zx_callV 749 _ _ dL_law_746 rfl kL_89 qX5_blank ly1 ⟨_, rfl, rfl⟩ (by decide) (sp_X5_blank (d := d - 1) (by omega) hC hV (zxv_b xs (i + 1))) (by omega) rfl rfl (Nat.le_of_ble_eq_true rfl) (fun a σ1 hX => ?_)
  rw [List.append_nil]
  have e := zAn_218 hX
  have hV1 : zVN (σ1 218) := by rw [e]; exact hV
  refine zx_aload_n 750 dL_law_749 rfl rfl ?_
  refine zx_arg 755 1 dL_law_750 dL_law_751 dL_law_752 dL_law_753 dL_law_754 rfl rfl rfl (by omega) hxl ?_
  refine zx_callV 758 _ a.toList dL_law_755 rfl kL_92 qX6_blank ly217 ⟨_, rfl, rfl⟩ (by decide) (sp_X6_blank (d := d - 1) (by omega) (zxv_b xs (i + 1)) hV1) (by omega) rfl rfl (zcat_opt a) (fun b σ2 hM => ?_)
  rw [e] at hM
  obtain ⟨⟨y, rfl, rfl⟩, hI2⟩ := zIv_An hI hX hM (fun _ => rfl)
  exact zx_eqi (a := y) (st := []) 1504 dL_law_758 (by decide) (kk _ hI2)
theorem case_19 {xs : Nat → Int32} {xl : Nat} {l : Launch} {d : Nat} {σ : zMem} {Q : Option Value → zMem → Prop} {i : Int} (hd : 12 ≤ d) (hxl : xl ≤ 3072) (hi : 0 ≤ i ∧ i + 6 ≤ xl) (hI : zIv σ) (hO : zoo (σ 218) (σ 219)) (kk : ∀ σ2, zIv σ2 → zx xs xl l d mL_law 1504 [some (.ref 0), some (.ref 1), some (.ref 217), some (.int (zI i))] [] σ2 Q) : zx xs xl l d mL_law 763 [some (.ref 0), some (.ref 1), some (.ref 217), some (.int (zI i))] [] σ Q := by
  have hC := hI.1.1
  have hV := hI.1.2.1
  have hm := hI.2.1
  have ht := hI.2.2.1
  have hT5 : 0 ≤ σ 106 1 ∧ σ 106 1 ≤ 150 := by rw [ht.2.2]; exact ht.1.1
  refine zx_aload_n 764 dL_law_763 rfl rfl ?_
  refine zx_arg 769 1 dL_law_764 dL_law_765 dL_law_766 dL_law_767 dL_law_768 rfl rfl rfl (by omega) hxl ?_
  refine zx_arg 774 2 dL_law_769 dL_law_770 dL_law_771 dL_law_772 dL_law_773 rfl rfl rfl (by omega) hxl ?_
  refine zx_arg 779 3 dL_law_774 dL_law_775 dL_law_776 dL_law_777 dL_law_778 rfl rfl rfl (by omega) hxl ?_
  refine zx_arg 784 4 dL_law_779 dL_law_780 dL_law_781 dL_law_782 dL_law_783 rfl rfl rfl (by omega) hxl ?_
  refine zx_callV 787 _ _ dL_law_784 rfl kL_93 qX5_place ly1 ⟨_, rfl, rfl⟩ (by decide) (sp_X5_place (d := d - 1) (by omega) hC hV (zxv_b xs (i + 1)) (zxv_b xs (i + 2)) (zxv_b xs (i + 3)) (zxv_b xs (i + 4))) (by omega) rfl rfl (Nat.le_of_ble_eq_true rfl) (fun a σ1 hX => ?_)
  rw [List.append_nil]
  have e := zAn_218 hX
  have hV1 : zVN (σ1 218) := by rw [e]; exact hV
  refine zx_aload_n 788 dL_law_787 rfl rfl ?_
  refine zx_arg 793 1 dL_law_788 dL_law_789 dL_law_790 dL_law_791 dL_law_792 rfl rfl rfl (by omega) hxl ?_
  refine zx_arg 798 2 dL_law_793 dL_law_794 dL_law_795 dL_law_796 dL_law_797 rfl rfl rfl (by omega) hxl ?_
  refine zx_arg 803 3 dL_law_798 dL_law_799 dL_law_800 dL_law_801 dL_law_802 rfl rfl rfl (by omega) hxl ?_
  refine zx_arg 808 4 dL_law_803 dL_law_804 dL_law_805 dL_law_806 dL_law_807 rfl rfl rfl (by omega) hxl ?_
  refine zx_callV 811 _ a.toList dL_law_808 rfl kL_97 qX6_place ly217 ⟨_, rfl, rfl⟩ (by decide) (sp_X6_place (d := d - 1) (by omega) (zxv_b xs (i + 1)) (zxv_b xs (i + 2)) (zxv_b xs (i + 3)) (zxv_b xs (i + 4)) hV1) (by omega) rfl rfl (zcat_opt a) (fun b σ2 hM => ?_)
  rw [e] at hM
  obtain ⟨⟨y, rfl, rfl⟩, hI2⟩ := zIv_An hI hX hM (fun _ => rfl)
  exact zx_eqi (a := y) (st := []) 1504 dL_law_811 (by decide) (kk _ hI2)
theorem case_20 {xs : Nat → Int32} {xl : Nat} {l : Launch} {d : Nat} {σ : zMem} {Q : Option Value → zMem → Prop} {i : Int} (hd : 12 ≤ d) (hxl : xl ≤ 3072) (hi : 0 ≤ i ∧ i + 6 ≤ xl) (hI : zIv σ) (hO : zoo (σ 218) (σ 219)) (kk : ∀ σ2, zIv σ2 → zx xs xl l d mL_law 1504 [some (.ref 0), some (.ref 1), some (.ref 217), some (.int (zI i))] [] σ2 Q) : zx xs xl l d mL_law 816 [some (.ref 0), some (.ref 1), some (.ref 217), some (.int (zI i))] [] σ Q := by
  have hC := hI.1.1
  have hV := hI.1.2.1
  have hm := hI.2.1
  have ht := hI.2.2.1
  have hT5 : 0 ≤ σ 106 1 ∧ σ 106 1 ≤ 150 := by rw [ht.2.2]; exact ht.1.1
  refine zx_aload_n 817 dL_law_816 rfl rfl ?_
  refine zx_arg 822 1 dL_law_817 dL_law_818 dL_law_819 dL_law_820 dL_law_821 rfl rfl rfl (by omega) hxl ?_
  refine zx_arg 827 2 dL_law_822 dL_law_823 dL_law_824 dL_law_825 dL_law_826 rfl rfl rfl (by omega) hxl ?_
  refine zx_arg 832 3 dL_law_827 dL_law_828 dL_law_829 dL_law_830 dL_law_831 rfl rfl rfl (by omega) hxl ?_
  refine zx_callV 835 _ _ dL_law_832 rfl kL_98 qX5_wish ly1 ⟨_, rfl, rfl⟩ (by decide) (sp_X5_wish (d := d - 1) (by omega) hC hV (zxv_b xs (i + 1)) (zxv_b xs (i + 2)) (zxv_b xs (i + 3))) (by omega) rfl rfl (Nat.le_of_ble_eq_true rfl) (fun a σ1 hX => ?_)
  rw [List.append_nil]
  have e := zA3_kp hX (bb := 218) (by decide) (fun h => h.2 218 (by omega) (by omega) (by omega))
  have hV1 : zVN (σ1 218) := by rw [e]; exact hV
  refine zx_aload_n 836 dL_law_835 rfl rfl ?_
  refine zx_arg 841 1 dL_law_836 dL_law_837 dL_law_838 dL_law_839 dL_law_840 rfl rfl rfl (by omega) hxl ?_
  refine zx_arg 846 2 dL_law_841 dL_law_842 dL_law_843 dL_law_844 dL_law_845 rfl rfl rfl (by omega) hxl ?_
  refine zx_arg 851 3 dL_law_846 dL_law_847 dL_law_848 dL_law_849 dL_law_850 rfl rfl rfl (by omega) hxl ?_
  refine zx_callV 854 _ a.toList dL_law_851 rfl kL_101 qX6_wish ly217 ⟨_, rfl, rfl⟩ (by decide) (sp_X6_wish (d := d - 1) (by omega) (zxv_b xs (i + 1)) (zxv_b xs (i + 2)) (zxv_b xs (i + 3)) hV1) (by omega) rfl rfl (zcat_opt a) (fun b σ2 hM => ?_)
  rw [e] at hM
  obtain ⟨⟨y, rfl, rfl⟩, hI2⟩ := zIv_A3 hI hX hM (fun _ _ => rfl) (fun c f p q => zIv_cf2 hI p (zVN_w2 hV f (by omega) c.2.1 c.2.2) q)
  exact zx_eqi (a := y) (st := []) 1504 dL_law_854 (by decide) (kk _ hI2)
theorem case_21 {xs : Nat → Int32} {xl : Nat} {l : Launch} {d : Nat} {σ : zMem} {Q : Option Value → zMem → Prop} {i : Int} (hd : 12 ≤ d) (hxl : xl ≤ 3072) (hi : 0 ≤ i ∧ i + 6 ≤ xl) (hI : zIv σ) (hO : zoo (σ 218) (σ 219)) (kk : ∀ σ2, zIv σ2 → zx xs xl l d mL_law 1504 [some (.ref 0), some (.ref 1), some (.ref 217), some (.int (zI i))] [] σ2 Q) : zx xs xl l d mL_law 859 [some (.ref 0), some (.ref 1), some (.ref 217), some (.int (zI i))] [] σ Q := by
  have hC := hI.1.1
  have hV := hI.1.2.1
  have hm := hI.2.1
  have ht := hI.2.2.1
  have hT5 : 0 ≤ σ 106 1 ∧ σ 106 1 ≤ 150 := by rw [ht.2.2]; exact ht.1.1
  refine zx_aload_n 860 dL_law_859 rfl rfl ?_
  refine zx_arg 865 1 dL_law_860 dL_law_861 dL_law_862 dL_law_863 dL_law_864 rfl rfl rfl (by omega) hxl ?_
  refine zx_arg 870 2 dL_law_865 dL_law_866 dL_law_867 dL_law_868 dL_law_869 rfl rfl rfl (by omega) hxl ?_
  refine zx_callV 873 _ _ dL_law_870 rfl kL_102 qX5_seating ly1 ⟨_, rfl, rfl⟩ (by decide) (sp_X5_seating (d := d - 1) (by omega) hC hV (zxv_b xs (i + 1)) (zxv_b xs (i + 2))) (by omega) rfl rfl (Nat.le_of_ble_eq_true rfl) (fun a σ1 hX => ?_)
  rw [List.append_nil]
  have e := zAn_218 hX
  have hV1 : zVN (σ1 218) := by rw [e]; exact hV
  refine zx_aload_n 874 dL_law_873 rfl rfl ?_
  refine zx_arg 879 1 dL_law_874 dL_law_875 dL_law_876 dL_law_877 dL_law_878 rfl rfl rfl (by omega) hxl ?_
  refine zx_arg 884 2 dL_law_879 dL_law_880 dL_law_881 dL_law_882 dL_law_883 rfl rfl rfl (by omega) hxl ?_
  refine zx_callV 887 _ a.toList dL_law_884 rfl kL_105 qX6_seating ly217 ⟨_, rfl, rfl⟩ (by decide) (sp_X6_seating (d := d - 1) (by omega) (zxv_b xs (i + 1)) (zxv_b xs (i + 2)) hV1) (by omega) rfl rfl (zcat_opt a) (fun b σ2 hM => ?_)
  rw [e] at hM
  obtain ⟨⟨y, rfl, rfl⟩, hI2⟩ := zIv_An hI hX hM (fun _ => rfl)
  exact zx_eqi (a := y) (st := []) 1504 dL_law_887 (by decide) (kk _ hI2)
theorem case_22 {xs : Nat → Int32} {xl : Nat} {l : Launch} {d : Nat} {σ : zMem} {Q : Option Value → zMem → Prop} {i : Int} (hd : 12 ≤ d) (hxl : xl ≤ 3072) (hi : 0 ≤ i ∧ i + 6 ≤ xl) (hI : zIv σ) (hO : zoo (σ 218) (σ 219)) (kk : ∀ σ2, zIv σ2 → zx xs xl l d mL_law 1504 [some (.ref 0), some (.ref 1), some (.ref 217), some (.int (zI i))] [] σ2 Q) : zx xs xl l d mL_law 892 [some (.ref 0), some (.ref 1), some (.ref 217), some (.int (zI i))] [] σ Q := by
  have hC := hI.1.1
  have hV := hI.1.2.1
  have hm := hI.2.1
  have ht := hI.2.2.1
  have hT5 : 0 ≤ σ 106 1 ∧ σ 106 1 ≤ 150 := by rw [ht.2.2]; exact ht.1.1
  refine zx_aload_n 893 dL_law_892 rfl rfl ?_
  refine zx_callV 896 _ _ dL_law_893 rfl kL_106 qX5_quarrels ly1 ⟨_, rfl, rfl⟩ (by decide) (sp_X5_quarrels (d := d - 1) hC hV) (by omega) rfl rfl (Nat.le_of_ble_eq_true rfl) (fun a σ1 hX => ?_)
  rw [List.append_nil]
  have e : σ1 218 = σ 218 := by rw [← hX.2]
  have hV1 : zVN (σ1 218) := by rw [e]; exact hV
  refine zx_aload_n 897 dL_law_896 rfl rfl ?_
  refine zx_callV 900 _ a.toList dL_law_897 rfl kL_109 qX6_quarrels ly217 ⟨_, rfl, rfl⟩ (by decide) (sp_X6_quarrels (d := d - 1) hV1) (by omega) rfl rfl (zcat_opt a) (fun b σ2 hM => ?_)
  rw [e] at hM
  obtain ⟨⟨y, rfl, rfl⟩, hI2⟩ := (⟨⟨_, hX.1, hM.1⟩, by rw [← hM.2, ← hX.2]; exact hI⟩ : zTwo a b σ2)
  exact zx_eqi (a := y) (st := []) 1504 dL_law_900 (by decide) (kk _ hI2)
theorem case_23 {xs : Nat → Int32} {xl : Nat} {l : Launch} {d : Nat} {σ : zMem} {Q : Option Value → zMem → Prop} {i : Int} (hd : 12 ≤ d) (hxl : xl ≤ 3072) (hi : 0 ≤ i ∧ i + 6 ≤ xl) (hI : zIv σ) (hO : zoo (σ 218) (σ 219)) (kk : ∀ σ2, zIv σ2 → zx xs xl l d mL_law 1504 [some (.ref 0), some (.ref 1), some (.ref 217), some (.int (zI i))] [] σ2 Q) : zx xs xl l d mL_law 905 [some (.ref 0), some (.ref 1), some (.ref 217), some (.int (zI i))] [] σ Q := by
  have hC := hI.1.1
  have hV := hI.1.2.1
  have hm := hI.2.1
  have ht := hI.2.2.1
  have hT5 : 0 ≤ σ 106 1 ∧ σ 106 1 ≤ 150 := by rw [ht.2.2]; exact ht.1.1
  refine zx_aload_n 906 dL_law_905 rfl rfl ?_
  refine zx_arg 911 1 dL_law_906 dL_law_907 dL_law_908 dL_law_909 dL_law_910 rfl rfl rfl (by omega) hxl ?_
  refine zx_callV 914 _ _ dL_law_911 rfl kL_110 qX5_row ly1 ⟨_, rfl, rfl⟩ (by decide) (sp_X5_row (d := d - 1) (by omega) hC hV (zxv_b xs (i + 1))) (by omega) rfl rfl (Nat.le_of_ble_eq_true rfl) (fun a σ1 hX => ?_)
  rw [List.append_nil]
  have e := zAn_218 hX
  have hV1 : zVN (σ1 218) := by rw [e]; exact hV
  refine zx_aload_n 915 dL_law_914 rfl rfl ?_
  refine zx_arg 920 1 dL_law_915 dL_law_916 dL_law_917 dL_law_918 dL_law_919 rfl rfl rfl (by omega) hxl ?_
  refine zx_callV 923 _ a.toList dL_law_920 rfl kL_113 qX6_row ly217 ⟨_, rfl, rfl⟩ (by decide) (sp_X6_row (d := d - 1) (by omega) (zxv_b xs (i + 1)) hV1) (by omega) rfl rfl (zcat_opt a) (fun b σ2 hM => ?_)
  rw [e] at hM
  obtain ⟨⟨y, rfl, rfl⟩, hI2⟩ := zIv_An hI hX hM (fun _ => rfl)
  exact zx_eqi (a := y) (st := []) 1504 dL_law_923 (by decide) (kk _ hI2)
theorem case_24 {xs : Nat → Int32} {xl : Nat} {l : Launch} {d : Nat} {σ : zMem} {Q : Option Value → zMem → Prop} {i : Int} (hd : 12 ≤ d) (hxl : xl ≤ 3072) (hi : 0 ≤ i ∧ i + 6 ≤ xl) (hI : zIv σ) (hO : zoo (σ 218) (σ 219)) (kk : ∀ σ2, zIv σ2 → zx xs xl l d mL_law 1504 [some (.ref 0), some (.ref 1), some (.ref 217), some (.int (zI i))] [] σ2 Q) : zx xs xl l d mL_law 928 [some (.ref 0), some (.ref 1), some (.ref 217), some (.int (zI i))] [] σ Q := by
  have hC := hI.1.1
  have hV := hI.1.2.1
  have hm := hI.2.1
  have ht := hI.2.2.1
  have hT5 : 0 ≤ σ 106 1 ∧ σ 106 1 ≤ 150 := by rw [ht.2.2]; exact ht.1.1
  refine zx_aload_n 929 dL_law_928 rfl rfl ?_
  refine zx_arg 934 1 dL_law_929 dL_law_930 dL_law_931 dL_law_932 dL_law_933 rfl rfl rfl (by omega) hxl ?_
  refine zx_arg 939 2 dL_law_934 dL_law_935 dL_law_936 dL_law_937 dL_law_938 rfl rfl rfl (by omega) hxl ?_
  refine zx_arg 944 3 dL_law_939 dL_law_940 dL_law_941 dL_law_942 dL_law_943 rfl rfl rfl (by omega) hxl ?_
  refine zx_arg 949 4 dL_law_944 dL_law_945 dL_law_946 dL_law_947 dL_law_948 rfl rfl rfl (by omega) hxl ?_
  refine zx_callV 952 _ _ dL_law_949 rfl kL_114 qX5_blur ly1 ⟨_, rfl, rfl⟩ (by decide) (sp_X5_blur (d := d - 1) (by omega) hC hV (zxv_b xs (i + 1)) (zxv_b xs (i + 2)) (zxv_b xs (i + 3)) (zxv_b xs (i + 4))) (by omega) rfl rfl (Nat.le_of_ble_eq_true rfl) (fun a σ1 hX => ?_)
  rw [List.append_nil]
  have e := zAn_218 hX
  have hV1 : zVN (σ1 218) := by rw [e]; exact hV
  refine zx_aload_n 953 dL_law_952 rfl rfl ?_
  refine zx_arg 958 1 dL_law_953 dL_law_954 dL_law_955 dL_law_956 dL_law_957 rfl rfl rfl (by omega) hxl ?_
  refine zx_arg 963 2 dL_law_958 dL_law_959 dL_law_960 dL_law_961 dL_law_962 rfl rfl rfl (by omega) hxl ?_
  refine zx_arg 968 3 dL_law_963 dL_law_964 dL_law_965 dL_law_966 dL_law_967 rfl rfl rfl (by omega) hxl ?_
  refine zx_arg 973 4 dL_law_968 dL_law_969 dL_law_970 dL_law_971 dL_law_972 rfl rfl rfl (by omega) hxl ?_
  refine zx_callV 976 _ a.toList dL_law_973 rfl kL_117 qX6_blur ly217 ⟨_, rfl, rfl⟩ (by decide) (sp_X6_blur (d := d - 1) (by omega) (zxv_b xs (i + 1)) (zxv_b xs (i + 2)) (zxv_b xs (i + 3)) (zxv_b xs (i + 4)) hV1) (by omega) rfl rfl (zcat_opt a) (fun b σ2 hM => ?_)
  rw [e] at hM
  obtain ⟨⟨y, rfl, rfl⟩, hI2⟩ := zIv_An hI hX hM (fun _ => rfl)
  exact zx_eqi (a := y) (st := []) 1504 dL_law_976 (by decide) (kk _ hI2)
theorem case_25 {xs : Nat → Int32} {xl : Nat} {l : Launch} {d : Nat} {σ : zMem} {Q : Option Value → zMem → Prop} {i : Int} (hd : 12 ≤ d) (hxl : xl ≤ 3072) (hi : 0 ≤ i ∧ i + 6 ≤ xl) (hI : zIv σ) (hO : zoo (σ 218) (σ 219)) (kk : ∀ σ2, zIv σ2 → zx xs xl l d mL_law 1504 [some (.ref 0), some (.ref 1), some (.ref 217), some (.int (zI i))] [] σ2 Q) : zx xs xl l d mL_law 981 [some (.ref 0), some (.ref 1), some (.ref 217), some (.int (zI i))] [] σ Q := by
  have hC := hI.1.1
  have hV := hI.1.2.1
  have hm := hI.2.1
  have ht := hI.2.2.1
  have hT5 : 0 ≤ σ 106 1 ∧ σ 106 1 ≤ 150 := by rw [ht.2.2]; exact ht.1.1
  refine zx_aload_n 982 dL_law_981 rfl rfl ?_
  refine zx_arg 987 1 dL_law_982 dL_law_983 dL_law_984 dL_law_985 dL_law_986 rfl rfl rfl (by omega) hxl ?_
  refine zx_arg 992 2 dL_law_987 dL_law_988 dL_law_989 dL_law_990 dL_law_991 rfl rfl rfl (by omega) hxl ?_
  refine zx_arg 997 3 dL_law_992 dL_law_993 dL_law_994 dL_law_995 dL_law_996 rfl rfl rfl (by omega) hxl ?_
  refine zx_callV 1000 _ _ dL_law_997 rfl kL_118 qX5_where ly1 ⟨_, rfl, rfl⟩ (by decide) (sp_X5_where (d := d - 1) (by omega) hC hV (zxv_b xs (i + 1)) (zxv_b xs (i + 2)) (zxv_b xs (i + 3))) (by omega) rfl rfl (Nat.le_of_ble_eq_true rfl) (fun a σ1 hX => ?_)
  rw [List.append_nil]
  have e := zAn_218 hX
  have hV1 : zVN (σ1 218) := by rw [e]; exact hV
  refine zx_aload_n 1001 dL_law_1000 rfl rfl ?_
  refine zx_arg 1006 1 dL_law_1001 dL_law_1002 dL_law_1003 dL_law_1004 dL_law_1005 rfl rfl rfl (by omega) hxl ?_
  refine zx_arg 1011 2 dL_law_1006 dL_law_1007 dL_law_1008 dL_law_1009 dL_law_1010 rfl rfl rfl (by omega) hxl ?_
  refine zx_arg 1016 3 dL_law_1011 dL_law_1012 dL_law_1013 dL_law_1014 dL_law_1015 rfl rfl rfl (by omega) hxl ?_
  refine zx_callV 1019 _ a.toList dL_law_1016 rfl kL_121 qX6_where ly217 ⟨_, rfl, rfl⟩ (by decide) (sp_X6_where (d := d - 1) (by omega) (zxv_b xs (i + 1)) (zxv_b xs (i + 2)) (zxv_b xs (i + 3)) hV1) (by omega) rfl rfl (zcat_opt a) (fun b σ2 hM => ?_)
  rw [e] at hM
  obtain ⟨⟨y, rfl, rfl⟩, hI2⟩ := zIv_An hI hX hM (fun _ => rfl)
  exact zx_eqi (a := y) (st := []) 1504 dL_law_1019 (by decide) (kk _ hI2)
theorem case_26 {xs : Nat → Int32} {xl : Nat} {l : Launch} {d : Nat} {σ : zMem} {Q : Option Value → zMem → Prop} {i : Int} (hd : 12 ≤ d) (hxl : xl ≤ 3072) (hi : 0 ≤ i ∧ i + 6 ≤ xl) (hI : zIv σ) (hO : zoo (σ 218) (σ 219)) (kk : ∀ σ2, zIv σ2 → zx xs xl l d mL_law 1504 [some (.ref 0), some (.ref 1), some (.ref 217), some (.int (zI i))] [] σ2 Q) : zx xs xl l d mL_law 1024 [some (.ref 0), some (.ref 1), some (.ref 217), some (.int (zI i))] [] σ Q := by
  have hC := hI.1.1
  have hV := hI.1.2.1
  have hm := hI.2.1
  have ht := hI.2.2.1
  have hT5 : 0 ≤ σ 106 1 ∧ σ 106 1 ≤ 150 := by rw [ht.2.2]; exact ht.1.1
  refine zx_aload_n 1025 dL_law_1024 rfl rfl ?_
  refine zx_arg 1030 1 dL_law_1025 dL_law_1026 dL_law_1027 dL_law_1028 dL_law_1029 rfl rfl rfl (by omega) hxl ?_
  refine zx_arg 1035 2 dL_law_1030 dL_law_1031 dL_law_1032 dL_law_1033 dL_law_1034 rfl rfl rfl (by omega) hxl ?_
  refine zx_arg 1040 3 dL_law_1035 dL_law_1036 dL_law_1037 dL_law_1038 dL_law_1039 rfl rfl rfl (by omega) hxl ?_
  refine zx_arg 1045 4 dL_law_1040 dL_law_1041 dL_law_1042 dL_law_1043 dL_law_1044 rfl rfl rfl (by omega) hxl ?_
  refine zx_arg 1050 5 dL_law_1045 dL_law_1046 dL_law_1047 dL_law_1048 dL_law_1049 rfl rfl rfl (by omega) hxl ?_
  refine zx_callV 1053 _ _ dL_law_1050 rfl kL_122 qX5_note ly1 ⟨_, rfl, rfl⟩ (by decide) (sp_X5_note (d := d - 1) (by omega) hC hV (zxv_b xs (i + 1)) (zxv_b xs (i + 2)) (zxv_b xs (i + 3)) (zxv_b xs (i + 4)) (zxv_b xs (i + 5))) (by omega) rfl rfl (Nat.le_of_ble_eq_true rfl) (fun a σ1 hX => ?_)
  rw [List.append_nil]
  have e := zA3_kp hX (bb := 218) (by decide) (fun h => h.2 218 (by omega) (by omega) (by omega))
  have hV1 : zVN (σ1 218) := by rw [e]; exact hV
  refine zx_aload_n 1054 dL_law_1053 rfl rfl ?_
  refine zx_arg 1059 1 dL_law_1054 dL_law_1055 dL_law_1056 dL_law_1057 dL_law_1058 rfl rfl rfl (by omega) hxl ?_
  refine zx_arg 1064 2 dL_law_1059 dL_law_1060 dL_law_1061 dL_law_1062 dL_law_1063 rfl rfl rfl (by omega) hxl ?_
  refine zx_arg 1069 3 dL_law_1064 dL_law_1065 dL_law_1066 dL_law_1067 dL_law_1068 rfl rfl rfl (by omega) hxl ?_
  refine zx_arg 1074 4 dL_law_1069 dL_law_1070 dL_law_1071 dL_law_1072 dL_law_1073 rfl rfl rfl (by omega) hxl ?_
  refine zx_arg 1079 5 dL_law_1074 dL_law_1075 dL_law_1076 dL_law_1077 dL_law_1078 rfl rfl rfl (by omega) hxl ?_
  refine zx_callV 1082 _ a.toList dL_law_1079 rfl kL_126 qX6_note ly217 ⟨_, rfl, rfl⟩ (by decide) (sp_X6_note (d := d - 1) (by omega) (zxv_b xs (i + 1)) (zxv_b xs (i + 2)) (zxv_b xs (i + 3)) (zxv_b xs (i + 4)) (zxv_b xs (i + 5)) hV1) (by omega) rfl rfl (zcat_opt a) (fun b σ2 hM => ?_)
  rw [e] at hM
  obtain ⟨⟨y, rfl, rfl⟩, hI2⟩ := zIv_A3 hI hX hM (fun _ _ => rfl) (fun c f p q => zIv_cf2 hI p (zVN_n2 hV f (by omega) c.2.1 c.2.2.1 c.2.2.2.1 c.2.2.2.2) q)
  exact zx_eqi (a := y) (st := []) 1504 dL_law_1082 (by decide) (kk _ hI2)
theorem case_27 {xs : Nat → Int32} {xl : Nat} {l : Launch} {d : Nat} {σ : zMem} {Q : Option Value → zMem → Prop} {i : Int} (hd : 12 ≤ d) (hxl : xl ≤ 3072) (hi : 0 ≤ i ∧ i + 6 ≤ xl) (hI : zIv σ) (hO : zoo (σ 218) (σ 219)) (kk : ∀ σ2, zIv σ2 → zx xs xl l d mL_law 1504 [some (.ref 0), some (.ref 1), some (.ref 217), some (.int (zI i))] [] σ2 Q) : zx xs xl l d mL_law 1087 [some (.ref 0), some (.ref 1), some (.ref 217), some (.int (zI i))] [] σ Q := by
  have hC := hI.1.1
  have hV := hI.1.2.1
  have hm := hI.2.1
  have ht := hI.2.2.1
  have hT5 : 0 ≤ σ 106 1 ∧ σ 106 1 ≤ 150 := by rw [ht.2.2]; exact ht.1.1
  refine zx_aload_n 1088 dL_law_1087 rfl rfl ?_
  refine zx_arg 1093 1 dL_law_1088 dL_law_1089 dL_law_1090 dL_law_1091 dL_law_1092 rfl rfl rfl (by omega) hxl ?_
  refine zx_arg 1098 2 dL_law_1093 dL_law_1094 dL_law_1095 dL_law_1096 dL_law_1097 rfl rfl rfl (by omega) hxl ?_
  refine zx_arg 1103 3 dL_law_1098 dL_law_1099 dL_law_1100 dL_law_1101 dL_law_1102 rfl rfl rfl (by omega) hxl ?_
  refine zx_arg 1108 4 dL_law_1103 dL_law_1104 dL_law_1105 dL_law_1106 dL_law_1107 rfl rfl rfl (by omega) hxl ?_
  refine zx_callV 1111 _ _ dL_law_1108 rfl kL_127 qX5_mark ly1 ⟨_, rfl, rfl⟩ (by decide) (sp_X5_mark (d := d - 1) (by omega) hC hV (zxv_b xs (i + 1)) (zxv_b xs (i + 2)) (zxv_b xs (i + 3)) (zxv_b xs (i + 4))) (by omega) rfl rfl (Nat.le_of_ble_eq_true rfl) (fun a σ1 hX => ?_)
  rw [List.append_nil]
  have e := zA3_kp hX (bb := 218) (by decide) (fun h => h.2 218 (by omega) (by omega) (by omega))
  have hV1 : zVN (σ1 218) := by rw [e]; exact hV
  refine zx_aload_n 1112 dL_law_1111 rfl rfl ?_
  refine zx_arg 1117 1 dL_law_1112 dL_law_1113 dL_law_1114 dL_law_1115 dL_law_1116 rfl rfl rfl (by omega) hxl ?_
  refine zx_arg 1122 2 dL_law_1117 dL_law_1118 dL_law_1119 dL_law_1120 dL_law_1121 rfl rfl rfl (by omega) hxl ?_
  refine zx_arg 1127 3 dL_law_1122 dL_law_1123 dL_law_1124 dL_law_1125 dL_law_1126 rfl rfl rfl (by omega) hxl ?_
  refine zx_arg 1132 4 dL_law_1127 dL_law_1128 dL_law_1129 dL_law_1130 dL_law_1131 rfl rfl rfl (by omega) hxl ?_
  refine zx_callV 1135 _ a.toList dL_law_1132 rfl kL_130 qX6_mark ly217 ⟨_, rfl, rfl⟩ (by decide) (sp_X6_mark (d := d - 1) (by omega) (zxv_b xs (i + 1)) (zxv_b xs (i + 2)) (zxv_b xs (i + 3)) (zxv_b xs (i + 4)) hV1) (by omega) rfl rfl (zcat_opt a) (fun b σ2 hM => ?_)
  rw [e] at hM
  obtain ⟨⟨y, rfl, rfl⟩, hI2⟩ := zIv_A3 hI hX hM (fun _ _ => rfl) (fun c f p q => zIv_cf2 hI p (zVN_m2 hV f (by omega) c.2.1 c.2.2.1 c.2.2.2) q)
  exact zx_eqi (a := y) (st := []) 1504 dL_law_1135 (by decide) (kk _ hI2)
theorem case_28 {xs : Nat → Int32} {xl : Nat} {l : Launch} {d : Nat} {σ : zMem} {Q : Option Value → zMem → Prop} {i : Int} (hd : 12 ≤ d) (hxl : xl ≤ 3072) (hi : 0 ≤ i ∧ i + 6 ≤ xl) (hI : zIv σ) (hO : zoo (σ 218) (σ 219)) (kk : ∀ σ2, zIv σ2 → zx xs xl l d mL_law 1504 [some (.ref 0), some (.ref 1), some (.ref 217), some (.int (zI i))] [] σ2 Q) : zx xs xl l d mL_law 1140 [some (.ref 0), some (.ref 1), some (.ref 217), some (.int (zI i))] [] σ Q := by
  have hC := hI.1.1
  have hV := hI.1.2.1
  have hm := hI.2.1
  have ht := hI.2.2.1
  have hT5 : 0 ≤ σ 106 1 ∧ σ 106 1 ≤ 150 := by rw [ht.2.2]; exact ht.1.1
  refine zx_aload_n 1141 dL_law_1140 rfl rfl ?_
  refine zx_arg 1146 1 dL_law_1141 dL_law_1142 dL_law_1143 dL_law_1144 dL_law_1145 rfl rfl rfl (by omega) hxl ?_
  refine zx_callV 1149 _ _ dL_law_1146 rfl kL_131 qX5_forget ly1 ⟨_, rfl, rfl⟩ (by decide) (sp_X5_forget (d := d - 1) (by omega) hC hV (zxv_b xs (i + 1))) (by omega) rfl rfl (Nat.le_of_ble_eq_true rfl) (fun a σ1 hX => ?_)
  rw [List.append_nil]
  have e := zA3_kp hX (bb := 218) (by decide) (fun h => h.2 218 (by omega) (by omega) (by omega))
  have hV1 : zVN (σ1 218) := by rw [e]; exact hV
  refine zx_aload_n 1150 dL_law_1149 rfl rfl ?_
  refine zx_arg 1155 1 dL_law_1150 dL_law_1151 dL_law_1152 dL_law_1153 dL_law_1154 rfl rfl rfl (by omega) hxl ?_
  refine zx_callV 1158 _ a.toList dL_law_1155 rfl kL_134 qX6_forget ly217 ⟨_, rfl, rfl⟩ (by decide) (sp_X6_forget (d := d - 1) (by omega) (zxv_b xs (i + 1)) hV1) (by omega) rfl rfl (zcat_opt a) (fun b σ2 hM => ?_)
  rw [e] at hM
  obtain ⟨⟨y, rfl, rfl⟩, hI2⟩ := zIv_A3 hI hX hM (fun _ _ => rfl) (fun c f p q => zIv_cf2 hI p (zVN_f hV (by (repeat' split) <;> omega)) q)
  exact zx_eqi (a := y) (st := []) 1504 dL_law_1158 (by decide) (kk _ hI2)
theorem case_29 {xs : Nat → Int32} {xl : Nat} {l : Launch} {d : Nat} {σ : zMem} {Q : Option Value → zMem → Prop} {i : Int} (hd : 12 ≤ d) (hxl : xl ≤ 3072) (hi : 0 ≤ i ∧ i + 6 ≤ xl) (hI : zIv σ) (hO : zoo (σ 218) (σ 219)) (kk : ∀ σ2, zIv σ2 → zx xs xl l d mL_law 1504 [some (.ref 0), some (.ref 1), some (.ref 217), some (.int (zI i))] [] σ2 Q) : zx xs xl l d mL_law 1163 [some (.ref 0), some (.ref 1), some (.ref 217), some (.int (zI i))] [] σ Q := by
  have hC := hI.1.1
  have hV := hI.1.2.1
  have hm := hI.2.1
  have ht := hI.2.2.1
  have hT5 : 0 ≤ σ 106 1 ∧ σ 106 1 ≤ 150 := by rw [ht.2.2]; exact ht.1.1
  refine zx_aload_n 1164 dL_law_1163 rfl rfl ?_
  refine zx_arg 1169 1 dL_law_1164 dL_law_1165 dL_law_1166 dL_law_1167 dL_law_1168 rfl rfl rfl (by omega) hxl ?_
  refine zx_callV 1172 _ _ dL_law_1169 rfl kL_135 qX5_is ly1 ⟨_, rfl, rfl⟩ (by decide) (sp_X5_is (d := d - 1) (by omega) hC hV (zxv_b xs (i + 1))) (by omega) rfl rfl (Nat.le_of_ble_eq_true rfl) (fun a σ1 hX => ?_)
  rw [List.append_nil]
  have e := zAn_218 hX
  have hV1 : zVN (σ1 218) := by rw [e]; exact hV
  refine zx_aload_n 1173 dL_law_1172 rfl rfl ?_
  refine zx_arg 1178 1 dL_law_1173 dL_law_1174 dL_law_1175 dL_law_1176 dL_law_1177 rfl rfl rfl (by omega) hxl ?_
  refine zx_callV 1181 _ a.toList dL_law_1178 rfl kL_138 qX6_is ly217 ⟨_, rfl, rfl⟩ (by decide) (sp_X6_is (d := d - 1) (by omega) (zxv_b xs (i + 1)) hV1) (by omega) rfl rfl (zcat_opt a) (fun b σ2 hM => ?_)
  rw [e] at hM
  obtain ⟨⟨y, rfl, rfl⟩, hI2⟩ := zIv_An hI hX hM (fun _ => rfl)
  exact zx_eqi (a := y) (st := []) 1504 dL_law_1181 (by decide) (kk _ hI2)
theorem case_30 {xs : Nat → Int32} {xl : Nat} {l : Launch} {d : Nat} {σ : zMem} {Q : Option Value → zMem → Prop} {i : Int} (hd : 12 ≤ d) (hxl : xl ≤ 3072) (hi : 0 ≤ i ∧ i + 6 ≤ xl) (hI : zIv σ) (hO : zoo (σ 218) (σ 219)) (kk : ∀ σ2, zIv σ2 → zx xs xl l d mL_law 1504 [some (.ref 0), some (.ref 1), some (.ref 217), some (.int (zI i))] [] σ2 Q) : zx xs xl l d mL_law 1186 [some (.ref 0), some (.ref 1), some (.ref 217), some (.int (zI i))] [] σ Q := by
  have hC := hI.1.1
  have hV := hI.1.2.1
  have hm := hI.2.1
  have ht := hI.2.2.1
  have hT5 : 0 ≤ σ 106 1 ∧ σ 106 1 ≤ 150 := by rw [ht.2.2]; exact ht.1.1
  refine zx_aload_n 1187 dL_law_1186 rfl rfl ?_
  refine zx_arg 1192 1 dL_law_1187 dL_law_1188 dL_law_1189 dL_law_1190 dL_law_1191 rfl rfl rfl (by omega) hxl ?_
  refine zx_callV 1195 _ _ dL_law_1192 rfl kL_139 qX5_look ly1 ⟨_, rfl, rfl⟩ (by decide) (sp_X5_look (d := d - 1) (by omega) hC hV (zxv_b xs (i + 1))) (by omega) rfl rfl (Nat.le_of_ble_eq_true rfl) (fun a σ1 hX => ?_)
  rw [List.append_nil]
  have e := zAn_218 hX
  have hV1 : zVN (σ1 218) := by rw [e]; exact hV
  refine zx_aload_n 1196 dL_law_1195 rfl rfl ?_
  refine zx_arg 1201 1 dL_law_1196 dL_law_1197 dL_law_1198 dL_law_1199 dL_law_1200 rfl rfl rfl (by omega) hxl ?_
  refine zx_callV 1204 _ a.toList dL_law_1201 rfl kL_142 qX6_look ly217 ⟨_, rfl, rfl⟩ (by decide) (sp_X6_look (d := d - 1) (by omega) (zxv_b xs (i + 1)) hV1) (by omega) rfl rfl (zcat_opt a) (fun b σ2 hM => ?_)
  rw [e] at hM
  obtain ⟨⟨y, rfl, rfl⟩, hI2⟩ := zIv_An hI hX hM (fun _ => rfl)
  exact zx_eqi (a := y) (st := []) 1504 dL_law_1204 (by decide) (kk _ hI2)
theorem case_31 {xs : Nat → Int32} {xl : Nat} {l : Launch} {d : Nat} {σ : zMem} {Q : Option Value → zMem → Prop} {i : Int} (hd : 12 ≤ d) (hxl : xl ≤ 3072) (hi : 0 ≤ i ∧ i + 6 ≤ xl) (hI : zIv σ) (hO : zoo (σ 218) (σ 219)) (kk : ∀ σ2, zIv σ2 → zx xs xl l d mL_law 1504 [some (.ref 0), some (.ref 1), some (.ref 217), some (.int (zI i))] [] σ2 Q) : zx xs xl l d mL_law 1209 [some (.ref 0), some (.ref 1), some (.ref 217), some (.int (zI i))] [] σ Q := by
  have hC := hI.1.1
  have hV := hI.1.2.1
  have hm := hI.2.1
  have ht := hI.2.2.1
  have hT5 : 0 ≤ σ 106 1 ∧ σ 106 1 ≤ 150 := by rw [ht.2.2]; exact ht.1.1
  refine zx_aload_n 1210 dL_law_1209 rfl rfl ?_
  refine zx_arg 1215 1 dL_law_1210 dL_law_1211 dL_law_1212 dL_law_1213 dL_law_1214 rfl rfl rfl (by omega) hxl ?_
  refine zx_callV 1218 _ _ dL_law_1215 rfl kL_143 qX5_what ly1 ⟨_, rfl, rfl⟩ (by decide) (sp_X5_what (d := d - 1) (by omega) hC hV (zxv_b xs (i + 1))) (by omega) rfl rfl (Nat.le_of_ble_eq_true rfl) (fun a σ1 hX => ?_)
  rw [List.append_nil]
  have e := zAn_218 hX
  have hV1 : zVN (σ1 218) := by rw [e]; exact hV
  refine zx_aload_n 1219 dL_law_1218 rfl rfl ?_
  refine zx_arg 1224 1 dL_law_1219 dL_law_1220 dL_law_1221 dL_law_1222 dL_law_1223 rfl rfl rfl (by omega) hxl ?_
  refine zx_callV 1227 _ a.toList dL_law_1224 rfl kL_146 qX6_what ly217 ⟨_, rfl, rfl⟩ (by decide) (sp_X6_what (d := d - 1) (by omega) (zxv_b xs (i + 1)) hV1) (by omega) rfl rfl (zcat_opt a) (fun b σ2 hM => ?_)
  rw [e] at hM
  obtain ⟨⟨y, rfl, rfl⟩, hI2⟩ := zIv_An hI hX hM (fun _ => rfl)
  exact zx_eqi (a := y) (st := []) 1504 dL_law_1227 (by decide) (kk _ hI2)
theorem case_32 {xs : Nat → Int32} {xl : Nat} {l : Launch} {d : Nat} {σ : zMem} {Q : Option Value → zMem → Prop} {i : Int} (hd : 12 ≤ d) (hxl : xl ≤ 3072) (hi : 0 ≤ i ∧ i + 6 ≤ xl) (hI : zIv σ) (hO : zoo (σ 218) (σ 219)) (kk : ∀ σ2, zIv σ2 → zx xs xl l d mL_law 1504 [some (.ref 0), some (.ref 1), some (.ref 217), some (.int (zI i))] [] σ2 Q) : zx xs xl l d mL_law 1232 [some (.ref 0), some (.ref 1), some (.ref 217), some (.int (zI i))] [] σ Q := by
  have hC := hI.1.1
  have hV := hI.1.2.1
  have hm := hI.2.1
  have ht := hI.2.2.1
  have hT5 : 0 ≤ σ 106 1 ∧ σ 106 1 ≤ 150 := by rw [ht.2.2]; exact ht.1.1
  refine zx_aload_n 1233 dL_law_1232 rfl rfl ?_
  refine zx_arg 1238 1 dL_law_1233 dL_law_1234 dL_law_1235 dL_law_1236 dL_law_1237 rfl rfl rfl (by omega) hxl ?_
  refine zx_callV 1241 _ _ dL_law_1238 rfl kL_147 qX5_tries ly1 ⟨_, rfl, rfl⟩ (by decide) (sp_X5_tries (d := d - 1) (by omega) hC hV (zxv_b xs (i + 1))) (by omega) rfl rfl (Nat.le_of_ble_eq_true rfl) (fun a σ1 hX => ?_)
  rw [List.append_nil]
  have e := zAn_218 hX
  have hV1 : zVN (σ1 218) := by rw [e]; exact hV
  refine zx_aload_n 1242 dL_law_1241 rfl rfl ?_
  refine zx_arg 1247 1 dL_law_1242 dL_law_1243 dL_law_1244 dL_law_1245 dL_law_1246 rfl rfl rfl (by omega) hxl ?_
  refine zx_callV 1250 _ a.toList dL_law_1247 rfl kL_150 qX6_tries ly217 ⟨_, rfl, rfl⟩ (by decide) (sp_X6_tries (d := d - 1) (by omega) (zxv_b xs (i + 1)) hV1) (by omega) rfl rfl (zcat_opt a) (fun b σ2 hM => ?_)
  rw [e] at hM
  obtain ⟨⟨y, rfl, rfl⟩, hI2⟩ := zIv_An hI hX hM (fun _ => rfl)
  exact zx_eqi (a := y) (st := []) 1504 dL_law_1250 (by decide) (kk _ hI2)
theorem case_33 {xs : Nat → Int32} {xl : Nat} {l : Launch} {d : Nat} {σ : zMem} {Q : Option Value → zMem → Prop} {i : Int} (hd : 12 ≤ d) (hxl : xl ≤ 3072) (hi : 0 ≤ i ∧ i + 6 ≤ xl) (hI : zIv σ) (hO : zoo (σ 218) (σ 219)) (kk : ∀ σ2, zIv σ2 → zx xs xl l d mL_law 1504 [some (.ref 0), some (.ref 1), some (.ref 217), some (.int (zI i))] [] σ2 Q) : zx xs xl l d mL_law 1255 [some (.ref 0), some (.ref 1), some (.ref 217), some (.int (zI i))] [] σ Q := by
  have hC := hI.1.1
  have hV := hI.1.2.1
  have hm := hI.2.1
  have ht := hI.2.2.1
  have hT5 : 0 ≤ σ 106 1 ∧ σ 106 1 ≤ 150 := by rw [ht.2.2]; exact ht.1.1
  refine zx_aload_n 1256 dL_law_1255 rfl rfl ?_
  refine zx_arg 1261 1 dL_law_1256 dL_law_1257 dL_law_1258 dL_law_1259 dL_law_1260 rfl rfl rfl (by omega) hxl ?_
  refine zx_arg 1266 2 dL_law_1261 dL_law_1262 dL_law_1263 dL_law_1264 dL_law_1265 rfl rfl rfl (by omega) hxl ?_
  refine zx_arg 1271 3 dL_law_1266 dL_law_1267 dL_law_1268 dL_law_1269 dL_law_1270 rfl rfl rfl (by omega) hxl ?_
  refine zx_callV 1274 _ _ dL_law_1271 rfl kL_151 qX5_two ly1 ⟨_, rfl, rfl⟩ (by decide) (sp_X5_two (d := d - 1) (by omega) hC hV (zxv_b xs (i + 1)) (zxv_b xs (i + 2)) (zxv_b xs (i + 3))) (by omega) rfl rfl (Nat.le_of_ble_eq_true rfl) (fun a σ1 hX => ?_)
  rw [List.append_nil]
  have e := zAn_218 hX
  have hV1 : zVN (σ1 218) := by rw [e]; exact hV
  refine zx_aload_n 1275 dL_law_1274 rfl rfl ?_
  refine zx_arg 1280 1 dL_law_1275 dL_law_1276 dL_law_1277 dL_law_1278 dL_law_1279 rfl rfl rfl (by omega) hxl ?_
  refine zx_arg 1285 2 dL_law_1280 dL_law_1281 dL_law_1282 dL_law_1283 dL_law_1284 rfl rfl rfl (by omega) hxl ?_
  refine zx_arg 1290 3 dL_law_1285 dL_law_1286 dL_law_1287 dL_law_1288 dL_law_1289 rfl rfl rfl (by omega) hxl ?_
  refine zx_callV 1293 _ a.toList dL_law_1290 rfl kL_154 qX6_two ly217 ⟨_, rfl, rfl⟩ (by decide) (sp_X6_two (d := d - 1) (by omega) (zxv_b xs (i + 1)) (zxv_b xs (i + 2)) (zxv_b xs (i + 3)) hV1) (by omega) rfl rfl (zcat_opt a) (fun b σ2 hM => ?_)
  rw [e] at hM
  obtain ⟨⟨y, rfl, rfl⟩, hI2⟩ := zIv_An hI hX hM (fun _ => rfl)
  exact zx_eqi (a := y) (st := []) 1504 dL_law_1293 (by decide) (kk _ hI2)
theorem case_34 {xs : Nat → Int32} {xl : Nat} {l : Launch} {d : Nat} {σ : zMem} {Q : Option Value → zMem → Prop} {i : Int} (hd : 12 ≤ d) (hxl : xl ≤ 3072) (hi : 0 ≤ i ∧ i + 6 ≤ xl) (hI : zIv σ) (hO : zoo (σ 218) (σ 219)) (kk : ∀ σ2, zIv σ2 → zx xs xl l d mL_law 1504 [some (.ref 0), some (.ref 1), some (.ref 217), some (.int (zI i))] [] σ2 Q) : zx xs xl l d mL_law 1298 [some (.ref 0), some (.ref 1), some (.ref 217), some (.int (zI i))] [] σ Q := by
  have hC := hI.1.1
  have hV := hI.1.2.1
  have hm := hI.2.1
  have ht := hI.2.2.1
  have hT5 : 0 ≤ σ 106 1 ∧ σ 106 1 ≤ 150 := by rw [ht.2.2]; exact ht.1.1
  refine zx_aload_n 1299 dL_law_1298 rfl rfl ?_
  refine zx_arg 1304 1 dL_law_1299 dL_law_1300 dL_law_1301 dL_law_1302 dL_law_1303 rfl rfl rfl (by omega) hxl ?_
  refine zx_arg 1309 2 dL_law_1304 dL_law_1305 dL_law_1306 dL_law_1307 dL_law_1308 rfl rfl rfl (by omega) hxl ?_
  refine zx_arg 1314 3 dL_law_1309 dL_law_1310 dL_law_1311 dL_law_1312 dL_law_1313 rfl rfl rfl (by omega) hxl ?_
  refine zx_callV 1317 _ _ dL_law_1314 rfl kL_155 qX5_left ly1 ⟨_, rfl, rfl⟩ (by decide) (sp_X5_left (d := d - 1) (by omega) hC hV (zxv_b xs (i + 1)) (zxv_b xs (i + 2)) (zxv_b xs (i + 3))) (by omega) rfl rfl (Nat.le_of_ble_eq_true rfl) (fun a σ1 hX => ?_)
  rw [List.append_nil]
  have e : σ1 218 = σ 218 := zA3_kp hX (bb := 218) (by decide) (fun h => by rw [← h]; unfold zf5; rw [zwr_ne _ _ _ (by decide), zwr_ne _ _ _ (by decide)])
  have hV1 : zVN (σ1 218) := by rw [e]; exact hV
  refine zx_aload_n 1318 dL_law_1317 rfl rfl ?_
  refine zx_arg 1323 1 dL_law_1318 dL_law_1319 dL_law_1320 dL_law_1321 dL_law_1322 rfl rfl rfl (by omega) hxl ?_
  refine zx_arg 1328 2 dL_law_1323 dL_law_1324 dL_law_1325 dL_law_1326 dL_law_1327 rfl rfl rfl (by omega) hxl ?_
  refine zx_arg 1333 3 dL_law_1328 dL_law_1329 dL_law_1330 dL_law_1331 dL_law_1332 rfl rfl rfl (by omega) hxl ?_
  refine zx_callV 1336 _ a.toList dL_law_1333 rfl kL_158 qX6_left ly217 ⟨_, rfl, rfl⟩ (by decide) (sp_X6_left (d := d - 1) (by omega) (zxv_b xs (i + 1)) (zxv_b xs (i + 2)) (zxv_b xs (i + 3)) hV1) (by omega) rfl rfl (zcat_opt a) (fun b σ2 hM => ?_)
  rw [e] at hM
  obtain ⟨⟨y, rfl, rfl⟩, hI2⟩ := tw_left hI hX hM
  exact zx_eqi (a := y) (st := []) 1504 dL_law_1336 (by decide) (kk _ hI2)
theorem case_35 {xs : Nat → Int32} {xl : Nat} {l : Launch} {d : Nat} {σ : zMem} {Q : Option Value → zMem → Prop} {i : Int} (hd : 12 ≤ d) (hxl : xl ≤ 3072) (hi : 0 ≤ i ∧ i + 6 ≤ xl) (hI : zIv σ) (hO : zoo (σ 218) (σ 219)) (kk : ∀ σ2, zIv σ2 → zx xs xl l d mL_law 1504 [some (.ref 0), some (.ref 1), some (.ref 217), some (.int (zI i))] [] σ2 Q) : zx xs xl l d mL_law 1341 [some (.ref 0), some (.ref 1), some (.ref 217), some (.int (zI i))] [] σ Q := by
  have hC := hI.1.1
  have hV := hI.1.2.1
  have hm := hI.2.1
  have ht := hI.2.2.1
  have hT5 : 0 ≤ σ 106 1 ∧ σ 106 1 ≤ 150 := by rw [ht.2.2]; exact ht.1.1
  refine zx_aload_n 1342 dL_law_1341 rfl rfl ?_
  refine zx_arg 1347 1 dL_law_1342 dL_law_1343 dL_law_1344 dL_law_1345 dL_law_1346 rfl rfl rfl (by omega) hxl ?_
  refine zx_arg 1352 2 dL_law_1347 dL_law_1348 dL_law_1349 dL_law_1350 dL_law_1351 rfl rfl rfl (by omega) hxl ?_
  refine zx_callV 1355 _ _ dL_law_1352 rfl kL_159 qX5_years ly1 ⟨_, rfl, rfl⟩ (by decide) (sp_X5_years (d := d - 1) (by omega) hC hV (zxv_b xs (i + 1)) (zxv_b xs (i + 2))) (by omega) rfl rfl (Nat.le_of_ble_eq_true rfl) (fun a σ1 hX => ?_)
  rw [List.append_nil]
  have e := zAn_218 hX
  have hV1 : zVN (σ1 218) := by rw [e]; exact hV
  refine zx_aload_n 1356 dL_law_1355 rfl rfl ?_
  refine zx_arg 1361 1 dL_law_1356 dL_law_1357 dL_law_1358 dL_law_1359 dL_law_1360 rfl rfl rfl (by omega) hxl ?_
  refine zx_arg 1366 2 dL_law_1361 dL_law_1362 dL_law_1363 dL_law_1364 dL_law_1365 rfl rfl rfl (by omega) hxl ?_
  refine zx_callV 1369 _ a.toList dL_law_1366 rfl kL_162 qX6_years ly217 ⟨_, rfl, rfl⟩ (by decide) (sp_X6_years (d := d - 1) (by omega) (zxv_b xs (i + 1)) (zxv_b xs (i + 2)) hV1) (by omega) rfl rfl (zcat_opt a) (fun b σ2 hM => ?_)
  rw [e] at hM
  obtain ⟨⟨y, rfl, rfl⟩, hI2⟩ := zIv_An hI hX hM (fun _ => rfl)
  exact zx_eqi (a := y) (st := []) 1504 dL_law_1369 (by decide) (kk _ hI2)
theorem case_36 {xs : Nat → Int32} {xl : Nat} {l : Launch} {d : Nat} {σ : zMem} {Q : Option Value → zMem → Prop} {i : Int} (hd : 12 ≤ d) (hxl : xl ≤ 3072) (hi : 0 ≤ i ∧ i + 6 ≤ xl) (hI : zIv σ) (hO : zoo (σ 218) (σ 219)) (kk : ∀ σ2, zIv σ2 → zx xs xl l d mL_law 1504 [some (.ref 0), some (.ref 1), some (.ref 217), some (.int (zI i))] [] σ2 Q) : zx xs xl l d mL_law 1374 [some (.ref 0), some (.ref 1), some (.ref 217), some (.int (zI i))] [] σ Q := by
  have hC := hI.1.1
  have hV := hI.1.2.1
  have hm := hI.2.1
  have ht := hI.2.2.1
  have hT5 : 0 ≤ σ 106 1 ∧ σ 106 1 ≤ 150 := by rw [ht.2.2]; exact ht.1.1
  refine zx_aload_n 1375 dL_law_1374 rfl rfl ?_
  refine zx_arg 1380 1 dL_law_1375 dL_law_1376 dL_law_1377 dL_law_1378 dL_law_1379 rfl rfl rfl (by omega) hxl ?_
  refine zx_callV 1383 _ _ dL_law_1380 rfl kL_163 qX5_part ly1 ⟨_, rfl, rfl⟩ (by decide) (sp_X5_part (d := d - 1) (by omega) hC hV (zxv_b xs (i + 1))) (by omega) rfl rfl (Nat.le_of_ble_eq_true rfl) (fun a σ1 hX => ?_)
  rw [List.append_nil]
  refine zx_aload_n 1384 dL_law_1383 rfl rfl ?_
  refine zx_arg 1389 1 dL_law_1384 dL_law_1385 dL_law_1386 dL_law_1387 dL_law_1388 rfl rfl rfl (by omega) hxl ?_
  refine zx_callV 1392 _ a.toList dL_law_1389 rfl kL_167 qX6_part ly217 ⟨_, rfl, rfl⟩ (by decide) (sp_X6_part (d := d - 1) (by omega) (zxv_b xs (i + 1))) (by omega) rfl rfl (zcat_opt a) (fun b σ2 hM => ?_)
  obtain ⟨⟨y, rfl, rfl⟩, hI2⟩ := tw_part hI hX hM
  exact zx_eql (a := y) (st := []) 1504 dL_law_1392 dL_law_1393 (by decide) (kk _ hI2)
theorem case_37 {xs : Nat → Int32} {xl : Nat} {l : Launch} {d : Nat} {σ : zMem} {Q : Option Value → zMem → Prop} {i : Int} (hd : 12 ≤ d) (hxl : xl ≤ 3072) (hi : 0 ≤ i ∧ i + 6 ≤ xl) (hI : zIv σ) (hO : zoo (σ 218) (σ 219)) (kk : ∀ σ2, zIv σ2 → zx xs xl l d mL_law 1504 [some (.ref 0), some (.ref 1), some (.ref 217), some (.int (zI i))] [] σ2 Q) : zx xs xl l d mL_law 1398 [some (.ref 0), some (.ref 1), some (.ref 217), some (.int (zI i))] [] σ Q := by
  have hC := hI.1.1
  have hV := hI.1.2.1
  have hm := hI.2.1
  have ht := hI.2.2.1
  have hT5 : 0 ≤ σ 106 1 ∧ σ 106 1 ≤ 150 := by rw [ht.2.2]; exact ht.1.1
  refine zx_aload_n 1399 dL_law_1398 rfl rfl ?_
  refine zx_arg 1404 1 dL_law_1399 dL_law_1400 dL_law_1401 dL_law_1402 dL_law_1403 rfl rfl rfl (by omega) hxl ?_
  refine zx_callV 1407 _ _ dL_law_1404 rfl kL_168 qX5_image ly1 ⟨_, rfl, rfl⟩ (by decide) (sp_X5_image (d := d - 1) (by omega) hC hV (zxv_b xs (i + 1)) hm.1.1 hm.1.2.1 hm.1.2.2) (by omega) rfl rfl (Nat.le_of_ble_eq_true rfl) (fun a σ1 hX => ?_)
  rw [List.append_nil]
  have e : σ1 218 = σ 218 := zA3_kp hX (bb := 218) (by decide) (fun h => h.2.2 218 (by split <;> omega) (by decide))
  have hV1 : zVN (σ1 218) := by rw [e]; exact hV
  refine zx_aload_n 1408 dL_law_1407 rfl rfl ?_
  refine zx_arg 1413 1 dL_law_1408 dL_law_1409 dL_law_1410 dL_law_1411 dL_law_1412 rfl rfl rfl (by omega) hxl ?_
  refine zx_callV 1416 _ a.toList dL_law_1413 rfl kL_171 qX6_image ly217 ⟨_, rfl, rfl⟩ (by decide) (sp_X6_image (d := d - 1) (by omega) (zxv_b xs (i + 1)) hV1) (by omega) rfl rfl (zcat_opt a) (fun b σ2 hM => ?_)
  obtain ⟨⟨y, rfl, rfl⟩, hI2⟩ := tw_image hI hX hM
  exact zx_eqi (a := y) (st := []) 1504 dL_law_1416 (by decide) (kk _ hI2)
theorem case_38 {xs : Nat → Int32} {xl : Nat} {l : Launch} {d : Nat} {σ : zMem} {Q : Option Value → zMem → Prop} {i : Int} (hd : 12 ≤ d) (hxl : xl ≤ 3072) (hi : 0 ≤ i ∧ i + 6 ≤ xl) (hI : zIv σ) (hO : zoo (σ 218) (σ 219)) (kk : ∀ σ2, zIv σ2 → zx xs xl l d mL_law 1504 [some (.ref 0), some (.ref 1), some (.ref 217), some (.int (zI i))] [] σ2 Q) : zx xs xl l d mL_law 1421 [some (.ref 0), some (.ref 1), some (.ref 217), some (.int (zI i))] [] σ Q := by
  have hC := hI.1.1
  have hV := hI.1.2.1
  have hm := hI.2.1
  have ht := hI.2.2.1
  have hT5 : 0 ≤ σ 106 1 ∧ σ 106 1 ≤ 150 := by rw [ht.2.2]; exact ht.1.1
  refine zx_aload_n 1422 dL_law_1421 rfl rfl ?_
  refine zx_arg 1427 1 dL_law_1422 dL_law_1423 dL_law_1424 dL_law_1425 dL_law_1426 rfl rfl rfl (by omega) hxl ?_
  refine zx_callV 1430 _ _ dL_law_1427 rfl kL_172 qX5_from ly1 ⟨_, rfl, rfl⟩ (by decide) (sp_X5_from (d := d - 1) (by omega) hC hV (zxv_b xs (i + 1)) hm.1.1 (R0 := fun j => σ 221 j) (R1 := fun j => σ 221 (399 + j)) hm.2.1.1.2 hm.2.1.2.2 (fun q => ⟨(hm.2.2.1 q).1, zVN_bd (hm.2.2.1 q).2, (zVN_i.mp (hm.2.2.1 q).2).2.2.2.2.1.1⟩) (fun q => ⟨(hm.2.2.2 q).1, zVN_bd (hm.2.2.2 q).2, (zVN_i.mp (hm.2.2.2 q).2).2.2.2.2.1.1⟩)) (by omega) rfl rfl (Nat.le_of_ble_eq_true rfl) (fun a σ1 hX => ?_)
  rw [List.append_nil]
  have e := zA3_kp hX (bb := 218) (by decide) (fun h => h.2 218 (by omega) (by omega) (by omega))
  have hV1 : zVN (σ1 218) := by rw [e]; exact hV
  have e221 := zA3_kp hX (bb := 221) (by decide) (fun h => h.2 221 (by omega) (by omega) (by omega))
  have e222 := zA3_kp hX (bb := 222) (by decide) (fun h => h.2 222 (by omega) (by omega) (by omega))
  have hk1 : ∀ j, 0 ≤ j → j ≤ 1 → σ1 222 j = 0 ∨ σ1 222 j = 1 := fun j j0 j1 => by
    rw [e222]
    have k0 := hm.2.1.1
    have k1 := hm.2.1.2
    rcases (show j = 0 ∨ j = 1 by omega) with q | q <;> rw [q] <;> omega
  refine zx_aload_n 1431 dL_law_1430 rfl rfl ?_
  refine zx_arg 1436 1 dL_law_1431 dL_law_1432 dL_law_1433 dL_law_1434 dL_law_1435 rfl rfl rfl (by omega) hxl ?_
  refine zx_callV 1439 _ a.toList dL_law_1436 rfl kL_175 qX6_from ly217 ⟨_, rfl, rfl⟩ (by decide) (sp_X6_from (d := d - 1) (by omega) (zxv_b xs (i + 1)) hV1 hk1) (by omega) rfl rfl (zcat_opt a) (fun b σ2 hM => ?_)
  obtain ⟨⟨y, rfl, rfl⟩, hI2⟩ := tw_from hI hX e221 e222 e hM
  exact zx_eqi (a := y) (st := []) 1504 dL_law_1439 (by decide) (kk _ hI2)
theorem case_39 {xs : Nat → Int32} {xl : Nat} {l : Launch} {d : Nat} {σ : zMem} {Q : Option Value → zMem → Prop} {i : Int} (hd : 12 ≤ d) (hxl : xl ≤ 3072) (hi : 0 ≤ i ∧ i + 6 ≤ xl) (hI : zIv σ) (hO : zoo (σ 218) (σ 219)) (kk : ∀ σ2, zIv σ2 → zx xs xl l d mL_law 1504 [some (.ref 0), some (.ref 1), some (.ref 217), some (.int (zI i))] [] σ2 Q) : zx xs xl l d mL_law 1444 [some (.ref 0), some (.ref 1), some (.ref 217), some (.int (zI i))] [] σ Q := by
  have hC := hI.1.1
  have hV := hI.1.2.1
  have hm := hI.2.1
  have ht := hI.2.2.1
  have hT5 : 0 ≤ σ 106 1 ∧ σ 106 1 ≤ 150 := by rw [ht.2.2]; exact ht.1.1
  refine zx_aload_n 1445 dL_law_1444 rfl rfl ?_
  refine zx_arg 1450 1 dL_law_1445 dL_law_1446 dL_law_1447 dL_law_1448 dL_law_1449 rfl rfl rfl (by omega) hxl ?_
  refine zx_callV 1453 _ _ dL_law_1450 rfl kL_176 qX5_status ly1 ⟨_, rfl, rfl⟩ (by decide) (sp_X5_status (d := d - 1) (by omega) hC hV (zxv_b xs (i + 1))) (by omega) rfl rfl (Nat.le_of_ble_eq_true rfl) (fun a σ1 hX => ?_)
  rw [List.append_nil]
  have e := zAn_218 hX
  have hV1 : zVN (σ1 218) := by rw [e]; exact hV
  have e224 : σ1 224 = σ 224 := (zAn_kp hX).1 224 (by unfold zSk; omega) (by decide)
  refine zx_aload_n 1454 dL_law_1453 rfl rfl ?_
  refine zx_arg 1459 1 dL_law_1454 dL_law_1455 dL_law_1456 dL_law_1457 dL_law_1458 rfl rfl rfl (by omega) hxl ?_
  refine zx_callV 1462 _ a.toList dL_law_1459 rfl kL_179 qX6_status ly217 ⟨_, rfl, rfl⟩ (by decide) (sp_X6_status (d := d - 1) (by omega) (zxv_b xs (i + 1)) hV1) (by omega) rfl rfl (zcat_opt a) (fun b σ2 hM => ?_)
  obtain ⟨⟨y, rfl, rfl⟩, hI2⟩ := zIv_An hI hX hM (fun c => by rw [e224]; exact (hI.2.2.2.2 _ c.1 c.2).symm)
  exact zx_eqi (a := y) (st := []) 1504 dL_law_1462 (by decide) (kk _ hI2)
theorem case_40 {xs : Nat → Int32} {xl : Nat} {l : Launch} {d : Nat} {σ : zMem} {Q : Option Value → zMem → Prop} {i : Int} (hd : 12 ≤ d) (hxl : xl ≤ 3072) (hi : 0 ≤ i ∧ i + 6 ≤ xl) (hI : zIv σ) (hO : zoo (σ 218) (σ 219)) (kk : ∀ σ2, zIv σ2 → zx xs xl l d mL_law 1504 [some (.ref 0), some (.ref 1), some (.ref 217), some (.int (zI i))] [] σ2 Q) : zx xs xl l d mL_law 1467 [some (.ref 0), some (.ref 1), some (.ref 217), some (.int (zI i))] [] σ Q := by
  have hC := hI.1.1
  have hV := hI.1.2.1
  have hm := hI.2.1
  have ht := hI.2.2.1
  have hT5 : 0 ≤ σ 106 1 ∧ σ 106 1 ≤ 150 := by rw [ht.2.2]; exact ht.1.1
  refine zx_aload_n 1468 dL_law_1467 rfl rfl ?_
  refine zx_arg 1473 1 dL_law_1468 dL_law_1469 dL_law_1470 dL_law_1471 dL_law_1472 rfl rfl rfl (by omega) hxl ?_
  refine zx_callV 1476 _ _ dL_law_1473 rfl kL_180 qX5_count ly1 ⟨_, rfl, rfl⟩ (by decide) (sp_X5_count (d := d - 1) (by omega) hC hV (zxv_b xs (i + 1))) (by omega) rfl rfl (Nat.le_of_ble_eq_true rfl) (fun a σ1 hX => ?_)
  rw [List.append_nil]
  have e := zAn_218 hX
  have hV1 : zVN (σ1 218) := by rw [e]; exact hV
  have e6 : σ1 217 6 = σ 217 6 := (zAn_kp hX).2.2.1
  have hT6 : 0 ≤ σ1 217 6 ∧ σ1 217 6 ≤ 150 := by rw [e6]; exact ht.1.1
  refine zx_aload_n 1477 dL_law_1476 rfl rfl ?_
  refine zx_arg 1482 1 dL_law_1477 dL_law_1478 dL_law_1479 dL_law_1480 dL_law_1481 rfl rfl rfl (by omega) hxl ?_
  refine zx_callV 1485 _ a.toList dL_law_1482 rfl kL_183 qX6_count ly217 ⟨_, rfl, rfl⟩ (by decide) (sp_X6_count (d := d - 1) (by omega) (zxv_b xs (i + 1)) hV1 hT6) (by omega) rfl rfl (zcat_opt a) (fun b σ2 hM => ?_)
  rw [e, e6, ← ht.2.2] at hM
  obtain ⟨⟨y, rfl, rfl⟩, hI2⟩ := zIv_An hI hX hM (fun _ => rfl)
  exact zx_eqi (a := y) (st := []) 1504 dL_law_1485 (by decide) (kk _ hI2)
theorem case_41 {xs : Nat → Int32} {xl : Nat} {l : Launch} {d : Nat} {σ : zMem} {Q : Option Value → zMem → Prop} {i : Int} (hd : 12 ≤ d) (hxl : xl ≤ 3072) (hi : 0 ≤ i ∧ i + 6 ≤ xl) (hI : zIv σ) (hO : zoo (σ 218) (σ 219)) (kk : ∀ σ2, zIv σ2 → zx xs xl l d mL_law 1504 [some (.ref 0), some (.ref 1), some (.ref 217), some (.int (zI i))] [] σ2 Q) : zx xs xl l d mL_law 1490 [some (.ref 0), some (.ref 1), some (.ref 217), some (.int (zI i))] [] σ Q := by
  have hC := hI.1.1
  have hV := hI.1.2.1
  have hm := hI.2.1
  have ht := hI.2.2.1
  have hT5 : 0 ≤ σ 106 1 ∧ σ 106 1 ≤ 150 := by rw [ht.2.2]; exact ht.1.1
  refine zx_aload_n 1491 dL_law_1490 rfl rfl ?_
  refine zx_callV 1494 _ _ dL_law_1491 rfl kL_184 qX5_digest ly1 ⟨_, rfl, rfl⟩ (by decide) (sp_X5_digest (d := d - 1) (by omega) hC hV hT5) (by omega) rfl rfl (Nat.le_of_ble_eq_true rfl) (fun a σ1 hX => ?_)
  rw [List.append_nil]
  have e : σ1 218 = σ 218 := by rw [← hX.2]
  have hV1 : zVN (σ1 218) := by rw [e]; exact hV
  have e6 : σ1 217 = σ 217 := by rw [← hX.2]
  have hT6 : 0 ≤ σ1 217 6 ∧ σ1 217 6 ≤ 150 := by rw [e6]; exact ht.1.1
  refine zx_aload_n 1495 dL_law_1494 rfl rfl ?_
  refine zx_callV 1498 _ a.toList dL_law_1495 rfl kL_188 qX6_digest ly217 ⟨_, rfl, rfl⟩ (by decide) (sp_X6_digest (d := d - 1) (by omega) hV1 hT6) (by omega) rfl rfl (zcat_opt a) (fun b σ2 hM => ?_)
  rw [e, e6, ← ht.2.2, ← hI.2.2.2.1.1, ← hI.2.2.2.1.2] at hM
  obtain ⟨⟨y, rfl, rfl⟩, hI2⟩ := (⟨⟨_, hX.1, hM.1⟩, zIv_nn hI (by rw [← hX.2]; exact zNS_refl _) hM.2⟩ : zTwl a b σ2)
  exact zx_eql (a := y) (st := []) 1504 dL_law_1498 dL_law_1499 (by decide) (kk _ hI2)
