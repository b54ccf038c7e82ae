def zRn (k : Nat) (σ1 : zMem) : zQn := fun σ' k' => σ' = σ1 ∧ k' = k
section ZN5
variable {l : Launch} {d : Nat} {M : zMth} {pc : Nat} {L : List (Option Value)} {st : List Value} {σ : zMem} {k bc bs : Nat} {Q : zQn}
theorem zn_loc {L' : List (Option Value)} (m : List Bool) (hm : zmask m L = L') (kk : zn l d M pc L' st σ k bc bs Q) : zn l d M pc L st σ k bc bs Q := by
  subst hm
  intro G p e R s mm args below meth c mc ms Z hC cells slots hcb hsb H locs ls hP hS hl
  exact kk G p e R s mm args below meth c mc ms Z hC cells slots hcb hsb H locs ls hP hS ⟨hl.1, hl.2.1, fun i v h => hl.2.2 i v (zmask_spec m L i v h)⟩
theorem zn_iadd (pc' : Nat) {a b : Int} (hd : decode M.2.2.1 pc = .ok (.iadd, 1)) (hp : pc + 1 = pc') (kk : zn l d M pc' L (.int (zI (a + b)) :: st) σ k bc bs Q) : zn l d M pc L (.int (zI b) :: .int (zI a) :: st) σ k bc bs Q := by
  subst hp; intro G p e R s m args below meth c mc ms Z hC cells slots hcb hsb H locs ls hP hS hl
  exact lv_iadd hC.1 hC.2.1 hd (by rw [zI_add]; exact kk G p e R s m args below meth c mc ms Z hC cells slots hcb hsb H locs ls hP hS hl)
theorem zn_iadd0 (pc' : Nat) {b : Int} (hd : decode M.2.2.1 pc = .ok (.iadd, 1)) (hp : pc + 1 = pc') (kk : zn l d M pc' L (.int (zI b) :: st) σ k bc bs Q) : zn l d M pc L (.int (zI b) :: .int (zI 0) :: st) σ k bc bs Q :=
  zn_iadd pc' hd hp (by rw [Int.zero_add]; exact kk)
end ZN5
theorem ln_J7_fill_53178 {l : Launch} {d : Nat} {σ : zMem} {r n : Nat} {k : Nat} (hr : zly r = some (100, n)) (hrk : r ≤ k) (hn : n < 1000) {v : Int}  : ∀ (m : Nat) (i : Int), i + m = n → 0 ≤ i → zn l d mJ7_fill_53178 5 [some (.ref r), some (.int (zI v)), some (.int (zI i)), some (.int (zI ((n : Int))))] [] (zwa σ r (zfq (σ r) v i)) k 0 0 (zRn k (zwa σ r (zfq (σ r) v n))) := by
  intro m
  induction m with
  | zero =>
    intro i hk hk0
    refine zn_iload_n 6 dJ7_fill_53178_5 rfl rfl ?_
    refine zn_iload_n 7 dJ7_fill_53178_6 rfl rfl ?_
    refine zn_icmp_ge 20 10 dJ7_fill_53178_7 (by decide) rfl (by omega) (by omega) (fun h7 => ?_) (fun h7 => ?_)
    · refine zn_vret dJ7_fill_53178_20 rfl ?_
      obtain rfl : i = (n : Int) := by omega
      exact ⟨rfl, rfl⟩
    · exfalso; omega
  | succ m ih =>
    intro i hk hk0
    refine zn_iload_n 6 dJ7_fill_53178_5 rfl rfl ?_
    refine zn_iload_n 7 dJ7_fill_53178_6 rfl rfl ?_
    refine zn_icmp_ge 20 10 dJ7_fill_53178_7 (by decide) rfl (by omega) (by omega) (fun h7 => ?_) (fun h7 => ?_)
    · refine zn_vret dJ7_fill_53178_20 rfl ?_
      exfalso; omega
    · refine zn_aload_n 11 dJ7_fill_53178_10 rfl rfl ?_
      refine zn_iload_n 12 dJ7_fill_53178_11 rfl rfl ?_
      refine zn_iload_n 13 dJ7_fill_53178_12 rfl rfl ?_
      refine zn_iast 14 dJ7_fill_53178_13 rfl hr hrk (by omega) ?_
      rw [zwr_wa, zfq_s _ _ hk0]
      refine zn_iinc 17 dJ7_fill_53178_14 rfl (by decide) rfl ?_
      refine zn_goto 5 dJ7_fill_53178_17 (by decide) ?_
      refine zn_loc [true, true, true, true] rfl ?_
      exact ih (i + 1) (by omega) (by omega)
theorem kp_J7_fill_53178 {l : Launch} {d : Nat} {σ : zMem} {r n : Nat} {k : Nat} (hr : zly r = some (100, n)) (hrk : r ≤ k) (hn : n < 1000) {v : Int}  : zKp l d mJ7_fill_53178 [.ref r, .int (zI v)] σ k 0 0 (zRn k (zwa σ r (zfq (σ r) v n))) := by
  refine zKp_of oJ7_fill_53178 rfl (Nat.le_of_ble_eq_true rfl) ?_
  show zn l d mJ7_fill_53178 0 [some (.ref r), some (.int (zI v)), none, none] [] σ k 0 0 _
  refine zn_iconst 1 dJ7_fill_53178_0 rfl ?_
  refine zn_istore_n 2 dJ7_fill_53178_1 rfl (by decide) ?_
  refine zn_aload_n 3 dJ7_fill_53178_2 rfl rfl ?_
  refine zn_alen 4 dJ7_fill_53178_3 rfl hr hrk ?_
  refine zn_istore_n 5 dJ7_fill_53178_4 rfl (by decide) ?_
  have h := ln_J7_fill_53178 (l := l) (d := d) (σ := σ) hr hrk hn (v := v) n 0 (by omega) (by omega)
  rw [zfq_0, zwa_id] at h
  exact h
theorem ln2_X6_empties {l : Launch} {d : Nat} {σ : zMem} {r n : Nat} {k : Nat} (hr : zly r = some (100, n)) (hrk : r ≤ k) (hn : 399 ≤ n) {g : zR} : ∀ (m : Nat) (c : Int), c + m = 5 → 0 ≤ c → zn l d mX6_empties 21 [some (.ref r), some (.int (zI c))] [] (zwa σ r (zfn g c)) k 0 0 (zRn k (zwa σ r (zfn g 5))) := by
  intro m
  induction m with
  | zero =>
    intro c hk hk0
    refine zn_iload_n 22 dX6_empties_21 rfl rfl ?_
    refine zn_iconst 23 dX6_empties_22 rfl ?_
    refine zn_icmp_ge 38 26 dX6_empties_23 (by decide) rfl (by omega) (by omega) (fun h23 => ?_) (fun h23 => ?_)
    · refine zn_vret dX6_empties_38 rfl ?_
      obtain rfl : c = 5 := by omega
      exact ⟨rfl, rfl⟩
    · exfalso; omega
  | succ m ih =>
    intro c hk hk0
    refine zn_iload_n 22 dX6_empties_21 rfl rfl ?_
    refine zn_iconst 23 dX6_empties_22 rfl ?_
    refine zn_icmp_ge 38 26 dX6_empties_23 (by decide) rfl (by omega) (by omega) (fun h23 => ?_) (fun h23 => ?_)
    · refine zn_vret dX6_empties_38 rfl ?_
      exfalso; omega
    · refine zn_aload_n 27 dX6_empties_26 rfl rfl ?_
      refine zn_iconst 28 dX6_empties_27 rfl ?_
      refine zn_iload_n 29 dX6_empties_28 rfl rfl ?_
      refine zn_iadd0 30 dX6_empties_29 rfl ?_
      refine zn_iconst 31 dX6_empties_30 rfl ?_
      refine zn_iast 32 dX6_empties_31 rfl hr hrk (by omega) ?_
      rw [zwr_wa, zfn_s _ hk0]
      refine zn_iinc 35 dX6_empties_32 rfl (by decide) rfl ?_
      refine zn_goto 21 dX6_empties_35 (by decide) ?_
      refine zn_loc [true, true] rfl ?_
      exact ih (c + 1) (by omega) (by omega)
theorem ln1_X6_empties {l : Launch} {d : Nat} {σ : zMem} {r n : Nat} {k : Nat} (hr : zly r = some (100, n)) (hrk : r ≤ k) (hn : 399 ≤ n) : ∀ (m : Nat) (c : Int), c + m = 399 → 0 ≤ c → zn l d mX6_empties 2 [some (.ref r), some (.int (zI c))] [] (zwa σ r (zfz (σ r) c)) k 0 0 (zRn k (zwa σ r (zem (σ r)))) := by
  intro m
  induction m with
  | zero =>
    intro c hk hk0
    refine zn_iload_n 3 dX6_empties_2 rfl rfl ?_
    refine zn_sipush 6 dX6_empties_3 rfl (by decide) ?_
    refine zn_icmp_ge 19 9 dX6_empties_6 (by decide) rfl (by omega) (by omega) (fun h6 => ?_) (fun h6 => ?_)
    · refine zn_iconst 20 dX6_empties_19 rfl ?_
      refine zn_istore_n 21 dX6_empties_20 rfl (by decide) ?_
      obtain rfl : c = 399 := by omega
      have h := ln2_X6_empties (l := l) (d := d) (σ := σ) hr hrk hn (g := zfz (σ r) 399) 5 0 (by omega) (by omega)
      rw [zem_eq, show zfn (zfz (σ r) 399) 0 = zfz (σ r) 399 from by funext x; exact if_neg (by omega)] at h
      exact h
    · exfalso; omega
  | succ m ih =>
    intro c hk hk0
    refine zn_iload_n 3 dX6_empties_2 rfl rfl ?_
    refine zn_sipush 6 dX6_empties_3 rfl (by decide) ?_
    refine zn_icmp_ge 19 9 dX6_empties_6 (by decide) rfl (by omega) (by omega) (fun h6 => ?_) (fun h6 => ?_)
    · refine zn_iconst 20 dX6_empties_19 rfl ?_
      refine zn_istore_n 21 dX6_empties_20 rfl (by decide) ?_
      obtain rfl : c = 399 := by omega
      have h := ln2_X6_empties (l := l) (d := d) (σ := σ) hr hrk hn (g := zfz (σ r) 399) 5 0 (by omega) (by omega)
      rw [zem_eq, show zfn (zfz (σ r) 399) 0 = zfz (σ r) 399 from by funext x; exact if_neg (by omega)] at h
      exact h
    · refine zn_aload_n 10 dX6_empties_9 rfl rfl ?_
      refine zn_iload_n 11 dX6_empties_10 rfl rfl ?_
      refine zn_iconst 12 dX6_empties_11 rfl ?_
      refine zn_iast 13 dX6_empties_12 rfl hr hrk (by omega) ?_
      rw [zwr_wa, zfz_s _ hk0]
      refine zn_iinc 16 dX6_empties_13 rfl (by decide) rfl ?_
      refine zn_goto 2 dX6_empties_16 (by decide) ?_
      refine zn_loc [true, true] rfl ?_
      exact ih (c + 1) (by omega) (by omega)
theorem kp_X6_empties {l : Launch} {d : Nat} {σ : zMem} {r n : Nat} {k : Nat} (hr : zly r = some (100, n)) (hrk : r ≤ k) (hn : 399 ≤ n) : zKp l d mX6_empties [.ref r] σ k 0 0 (zRn k (zwa σ r (zem (σ r)))) := by
  refine zKp_of oX6_empties rfl (Nat.le_of_ble_eq_true rfl) ?_
  show zn l d mX6_empties 0 [some (.ref r), none] [] σ k 0 0 _
  refine zn_iconst 1 dX6_empties_0 rfl ?_
  refine zn_istore_n 2 dX6_empties_1 rfl (by decide) ?_
  have h := ln1_X6_empties (l := l) (d := d) (σ := σ) hr hrk hn 399 0 (by omega) (by omega)
  rw [show zfz (σ r) 0 = σ r from by funext x; exact if_neg (by omega), zwa_id] at h
  exact h
