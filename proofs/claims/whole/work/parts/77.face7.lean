def zmx (g : Int → Int) : Nat → Int
  | 0 => 0
  | n + 1 => max (zmx g n) (g n)
theorem zmx_le {g : Int → Int} {M : Int} (h0 : 0 ≤ M) : ∀ n : Nat, (∀ k : Int, 0 ≤ k → k < n → g k ≤ M) → zmx g n ≤ M
  | 0, _ => h0
  | n + 1, h => by
    have h1 := zmx_le h0 n (fun k a b => h k a (by omega))
    have h2 := h n (by omega) (by omega)
    unfold zmx; omega
theorem zmx_ge {g : Int → Int} : ∀ (n : Nat) (k : Int), 0 ≤ k → k < n → g k ≤ zmx g n
  | 0, k, h0, h1 => by omega
  | n + 1, k, h0, h1 => by
    unfold zmx
    by_cases q : k = n
    · rw [q]; omega
    · have := zmx_ge (g := g) n k h0 (by omega); omega
theorem zmx_0 (g : Int → Int) : ∀ n : Nat, 0 ≤ zmx g n
  | 0 => Int.le_refl _
  | n + 1 => by
    have := zmx_0 g n
    unfold zmx; omega
theorem zmx_s (g : Int → Int) {k : Int} (h : 0 ≤ k) : zmx g (k + 1).toNat = max (zmx g k.toNat) (g k) := by
  have e : (k + 1).toNat = k.toNat + 1 := by omega
  have e2 : ((k.toNat : Nat) : Int) = k := by omega
  rw [e, zmx, e2]
/-- the group of kind k among the first n -/
def zgr (f b : Int → Int) (n : Nat) (k : Int) : Int := if b k = 1 then zgc f b (f k) n else 0
theorem zmo_ge (f b : Int → Int) (n : Nat) : zmo f b n ≤ zmo f b (n + 1) := by
  show zmo f b n ≤ (if b n = 1 then max (zmo f b n) (zgc f b (f n) (n + 1)) else zmo f b n)
  split <;> omega
theorem zmo_mx (f b : Int → Int) : ∀ n : Nat, zmx (zgr f b n) n = zmo f b n
  | 0 => rfl
  | n + 1 => by
    have ih := zmo_mx f b n
    have hup : ∀ v, zgc f b v (n + 1) = zgc f b v n + (if b n = 1 ∧ f n = v then 1 else 0) := fun v => rfl
    have hg0 := fun v => (zgc_b f b v n).1
    have hm := zmo_ge f b n
    have hmb := (zmo_b f b (n + 1)).1
    apply Int.le_antisymm
    · refine zmx_le hmb (n + 1) (fun k k0 k1 => ?_)
      unfold zgr
      by_cases hb : b k = 1
      · rw [if_pos hb]
        by_cases hq : b n = 1 ∧ f n = f k
        · have : zgc f b (f n) (n + 1) ≤ zmo f b (n + 1) := by
            show _ ≤ (if b n = 1 then max (zmo f b n) (zgc f b (f n) (n + 1)) else zmo f b n)
            rw [if_pos hq.1]; omega
          rw [← hq.2]; exact this
        · have hkn : k ≠ n := fun e => hq (by rw [← e]; exact ⟨hb, rfl⟩)
          have h2 := zmx_ge (g := zgr f b n) n k k0 (by omega)
          rw [ih] at h2
          unfold zgr at h2
          rw [if_pos hb] at h2
          rw [hup, if_neg hq]; omega
      · rw [if_neg hb]; exact hmb
    · have hle : zmo f b n ≤ zmx (zgr f b (n + 1)) (n + 1) := by
        rw [← ih]
        refine zmx_le (zmx_0 _ _) n (fun k k0 k1 => ?_)
        have h2 := zmx_ge (g := zgr f b (n + 1)) (n + 1) k k0 (by omega)
        refine Int.le_trans ?_ h2
        unfold zgr
        by_cases hb : b k = 1
        · rw [if_pos hb, if_pos hb, hup]; split <;> omega
        · rw [if_neg hb, if_neg hb]; omega
      show (if b n = 1 then max (zmo f b n) (zgc f b (f n) (n + 1)) else zmo f b n) ≤ _
      split
      · rename_i hb
        have h2 := zmx_ge (g := zgr f b (n + 1)) (n + 1) n (by omega) (by omega)
        unfold zgr at h2
        rw [if_pos hb] at h2
        unfold zgr at hle ⊢
        omega
      · exact hle
theorem zmo_congr {f g b : Int → Int} : ∀ n : Nat, (∀ k : Int, 0 ≤ k → k < n → f k = g k) → zmo f b n = zmo g b n
  | 0, _ => rfl
  | n + 1, h => by
    have e := h n (by omega) (by omega)
    have e2 : zgc f b (f n) (n + 1) = zgc g b (g n) (n + 1) := by
      unfold zgc
      exact zct_congr (n + 1) (fun k a c => by rw [h k a c, e])
    show (if b n = 1 then max (zmo f b n) (zgc f b (f n) (n + 1)) else zmo f b n) = (if b n = 1 then max (zmo g b n) (zgc g b (g n) (n + 1)) else zmo g b n)
    rw [e2, zmo_congr n (fun k a c => h k a (by omega))]
/-- what the search for the fewest starts from doesn't matter -/
theorem zmn_7 {G cd : Int → Int} (hG : ∀ k, 0 ≤ G k ∧ G k ≤ 6) : ∀ n : Nat, zmn 7 G cd (n + 1) = zmn 1000000 G cd (n + 1)
  | 0 => by
    have := hG 0
    show (if G ((0 : Nat) : Int) < 7 then (cd ((0 : Nat) : Int), G ((0 : Nat) : Int)) else (-1, 7)) = (if G ((0 : Nat) : Int) < 1000000 then (cd ((0 : Nat) : Int), G ((0 : Nat) : Int)) else (-1, 1000000))
    rw [show ((0 : Nat) : Int) = 0 from rfl, if_pos (by omega), if_pos (by omega)]
  | n + 1 => by
    show (if G ((n + 1 : Nat) : Int) < (zmn 7 G cd (n + 1)).2 then (cd ((n + 1 : Nat) : Int), G ((n + 1 : Nat) : Int)) else zmn 7 G cd (n + 1)) = (if G ((n + 1 : Nat) : Int) < (zmn 1000000 G cd (n + 1)).2 then (cd ((n + 1 : Nat) : Int), G ((n + 1 : Nat) : Int)) else zmn 1000000 G cd (n + 1))
    rw [zmn_7 hG n]
theorem zmn_b7 {G cd : Int → Int} (hG : ∀ k, 0 ≤ G k ∧ G k ≤ 6) : ∀ n : Nat, 0 ≤ (zmn 7 G cd n).2 ∧ (zmn 7 G cd n).2 ≤ 7
  | 0 => by show (0 : Int) ≤ 7 ∧ (7 : Int) ≤ 7; omega
  | n + 1 => by
    have := zmn_b7 (cd := cd) hG n
    have := hG n
    unfold zmn; split <;> (try dsimp only) <;> omega
theorem zgr_eq (f b : Int → Int) (k : Int) (n : Nat) : zct (fun j => if b k = 1 ∧ b j = 1 ∧ f j = f k then 1 else 0) n = zgr f b n k := by
  unfold zgr zgc
  by_cases h : b k = 1
  · rw [if_pos h]
    exact zct_congr n (fun j _ _ => by
      by_cases q : b j = 1 ∧ f j = f k
      · rw [if_pos q, if_pos ⟨h, q⟩]
      · rw [if_neg q, if_neg (fun z => q z.2)])
  · rw [if_neg h]
    have : ∀ n : Nat, zct (fun j => if b k = 1 ∧ b j = 1 ∧ f j = f k then 1 else 0) n = 0 := fun n => by
      induction n with
      | zero => rfl
      | succ n ih =>
        show zct (fun j => if b k = 1 ∧ b j = 1 ∧ f j = f k then 1 else 0) n + (if b k = 1 ∧ b (n : Int) = 1 ∧ f (n : Int) = f k then 1 else 0) = 0
        rw [ih, if_neg (fun z => h z.1)]; rfl
    exact this n
theorem li_X5_mostAlike {l : Launch} {d : Nat} {σ : zMem} {f : zR} (hf : σ 115 = f) (hfb : ∀ j, 0 ≤ j → j < 6 → -2147483648 ≤ f j ∧ f j < 2147483648) {st : Int} (hst : 0 ≤ st ∧ st < 64) {k m : Int} (hk6 : 0 ≤ k ∧ k < 6) {Q : Option Value → zMem → Prop} (kk : zw l d mX5_mostAlike 67 [some (.ref 1), some (.int (zI st)), some (.int (zI m)), some (.int (zI k)), some (.int (zI ((zct (fun j => if zbt st k = 1 ∧ zbt st j = 1 ∧ f j = f k then 1 else 0) 6)))), none] [] σ Q) : ∀ (mm j : Nat), j + mm = 6 → zw l d mX5_mostAlike 16 [some (.ref 1), some (.int (zI st)), some (.int (zI m)), some (.int (zI k)), some (.int (zI ((zct (fun j => if zbt st k = 1 ∧ zbt st j = 1 ∧ f j = f k then 1 else 0) j)))), some (.int (zI ((j : Int))))] [] σ Q := by
  have z1 := zsh_b (a := st) (i := k) hst
  intro mm
  induction mm with
  | zero =>
    intro j hj
    obtain rfl : j = 6 := by omega
    refine zw_iload 18 dX5_mostAlike_16 rfl rfl ?_
    refine zw_bipush 20 dX5_mostAlike_18 rfl (by decide) ?_
    refine zw_icmp_ge 67 23 dX5_mostAlike_20 (by decide) rfl (by omega) (by omega) (fun h20 => ?_) (fun h20 => ?_)
    · refine zw_loc [true, true, true, true, true, false] rfl ?_
      exact kk
    · exfalso; omega
  | succ mm ih =>
    intro j hj
    have z2 := zsh_b (a := st) (i := (j : Int)) hst
    have f1 := hfb j (by omega) (by omega)
    have f2 := hfb k hk6.1 hk6.2
    have zb := zct_b (f := (fun j => if zbt st k = 1 ∧ zbt st j = 1 ∧ f j = f k then 1 else 0)) j (fun x _ _ => by omega)
    have ih2 := ih (j + 1) (by omega)
    rw [show (((j + 1 : Nat) : Int)) = (j : Int) + 1 by omega, show zct (fun j => if zbt st k = 1 ∧ zbt st j = 1 ∧ f j = f k then 1 else 0) (j + 1) = zct (fun j => if zbt st k = 1 ∧ zbt st j = 1 ∧ f j = f k then 1 else 0) j + (if zbt st k = 1 ∧ zbt st j = 1 ∧ f j = f k then 1 else 0) from rfl] at ih2
    have d1 : zbt st k = st / 2 ^ k.toNat % 2 := rfl
    have d2 : zbt st (j : Int) = st / 2 ^ (j : Int).toNat % 2 := rfl
    refine zw_iload 18 dX5_mostAlike_16 rfl rfl ?_
    refine zw_bipush 20 dX5_mostAlike_18 rfl (by decide) ?_
    refine zw_icmp_ge 67 23 dX5_mostAlike_20 (by decide) rfl (by omega) (by omega) (fun h20 => ?_) (fun h20 => ?_)
    · exfalso; omega
    · refine zw_iload_n 24 dX5_mostAlike_23 rfl rfl ?_
      refine zw_iload_n 25 dX5_mostAlike_24 rfl rfl ?_
      refine zw_ishr 26 _ dX5_mostAlike_25 rfl (zsh_int hst (by omega)) ?_
      refine zw_iconst 27 dX5_mostAlike_26 rfl ?_
      refine zw_iand 28 _ dX5_mostAlike_27 rfl (zand_int (by omega)) ?_
      refine zw_iconst 29 dX5_mostAlike_28 rfl ?_
      refine zw_icmp_ne 61 32 dX5_mostAlike_29 (by decide) rfl (by omega) (by omega) (fun h29 => ?_) (fun h29 => ?_)
      · refine zw_iinc 64 dX5_mostAlike_61 rfl (by decide) rfl ?_
        refine zw_goto 16 dX5_mostAlike_64 (by decide) ?_
        refine zw_loc [true, true, true, true, true, true] rfl ?_
        first
          | (rw [if_pos ⟨by omega, by omega, by omega⟩] at ih2; exact ih2)
          | (rw [if_neg (fun q => by have q1 := q.1; have q2 := q.2.1; have q3 := q.2.2; omega), Int.add_zero] at ih2; exact ih2)
      · refine zw_iload_n 33 dX5_mostAlike_32 rfl rfl ?_
        refine zw_iload 35 dX5_mostAlike_33 rfl rfl ?_
        refine zw_ishr 36 _ dX5_mostAlike_35 rfl (zsh_int hst (by omega)) ?_
        refine zw_iconst 37 dX5_mostAlike_36 rfl ?_
        refine zw_iand 38 _ dX5_mostAlike_37 rfl (zand_int (by omega)) ?_
        refine zw_iconst 39 dX5_mostAlike_38 rfl ?_
        refine zw_icmp_ne 61 42 dX5_mostAlike_39 (by decide) rfl (by omega) (by omega) (fun h39 => ?_) (fun h39 => ?_)
        · refine zw_iinc 64 dX5_mostAlike_61 rfl (by decide) rfl ?_
          refine zw_goto 16 dX5_mostAlike_64 (by decide) ?_
          refine zw_loc [true, true, true, true, true, true] rfl ?_
          first
            | (rw [if_pos ⟨by omega, by omega, by omega⟩] at ih2; exact ih2)
            | (rw [if_neg (fun q => by have q1 := q.1; have q2 := q.2.1; have q3 := q.2.2; omega), Int.add_zero] at ih2; exact ih2)
        · refine zw_aload_n 43 dX5_mostAlike_42 rfl rfl ?_
          refine zw_getr 46 (115) (o := 114) dX5_mostAlike_43 rfl fX5_52 (by decide) rfl rfl ly1 ?_
          refine zw_iload 48 dX5_mostAlike_46 rfl rfl ?_
          refine zw_iald 49 dX5_mostAlike_48 rfl ly115 (by omega) ?_
          rw [hf]
          refine zw_aload_n 50 dX5_mostAlike_49 rfl rfl ?_
          refine zw_getr 53 (115) (o := 114) dX5_mostAlike_50 rfl fX5_52 (by decide) rfl rfl ly1 ?_
          refine zw_iload_n 54 dX5_mostAlike_53 rfl rfl ?_
          refine zw_iald 55 dX5_mostAlike_54 rfl ly115 (by omega) ?_
          rw [hf]
          refine zw_icmp_ne 61 58 dX5_mostAlike_55 (by decide) rfl (by omega) (by omega) (fun h55 => ?_) (fun h55 => ?_)
          · refine zw_iinc 64 dX5_mostAlike_61 rfl (by decide) rfl ?_
            refine zw_goto 16 dX5_mostAlike_64 (by decide) ?_
            refine zw_loc [true, true, true, true, true, true] rfl ?_
            first
              | (rw [if_pos ⟨by omega, by omega, by omega⟩] at ih2; exact ih2)
              | (rw [if_neg (fun q => by have q1 := q.1; have q2 := q.2.1; have q3 := q.2.2; omega), Int.add_zero] at ih2; exact ih2)
          · refine zw_iinc 61 dX5_mostAlike_58 rfl (by decide) rfl ?_
            refine zw_iinc 64 dX5_mostAlike_61 rfl (by decide) rfl ?_
            refine zw_goto 16 dX5_mostAlike_64 (by decide) ?_
            refine zw_loc [true, true, true, true, true, true] rfl ?_
            first
              | (rw [if_pos ⟨by omega, by omega, by omega⟩] at ih2; exact ih2)
              | (rw [if_neg (fun q => by have q1 := q.1; have q2 := q.2.1; have q3 := q.2.2; omega), Int.add_zero] at ih2; exact ih2)
theorem lo_X5_mostAlike {l : Launch} {d : Nat} {σ : zMem} (hd : 1 ≤ d) {f : zR} (hf : σ 115 = f) (hfb : ∀ j, 0 ≤ j → j < 6 → -2147483648 ≤ f j ∧ f j < 2147483648) {st : Int} (hst : 0 ≤ st ∧ st < 64) : ∀ (mm : Nat) (k : Int), k + mm = 6 → 0 ≤ k → zw l d mX5_mostAlike 4 [some (.ref 1), some (.int (zI st)), some (.int (zI ((zmx (zgr f (zbt st) 6) k.toNat)))), some (.int (zI k)), none, none] [] σ (zRi (zmo f (zbt st) 6) σ) := by
  intro mm
  induction mm with
  | zero =>
    intro k hk hk0
    obtain rfl : k = 6 := by omega
    refine zw_iload_n 5 dX5_mostAlike_4 rfl rfl ?_
    refine zw_bipush 7 dX5_mostAlike_5 rfl (by decide) ?_
    refine zw_icmp_ge 80 10 dX5_mostAlike_7 (by decide) rfl (by omega) (by omega) (fun h7 => ?_) (fun h7 => ?_)
    · refine zw_iload_n 81 dX5_mostAlike_80 rfl rfl ?_
      refine zw_iret dX5_mostAlike_81 rfl ?_
      exact zRi_of (zmo_mx f (zbt st) 6)
    · exfalso; omega
  | succ mm ih =>
    intro k hk hk0
    have zb := zct_b (f := (fun j => if zbt st k = 1 ∧ zbt st j = 1 ∧ f j = f k then 1 else 0)) 6 (fun x _ _ => by omega)
    have zm0 := zmx_0 (zgr f (zbt st) 6) k.toNat
    have zmle : zmx (zgr f (zbt st) 6) k.toNat ≤ 6 := zmx_le (by omega) _ (fun j _ _ => by
      unfold zgr; split
      · exact (zgc_b _ _ _ _).2
      · omega)
    have ih2 := ih (k + 1) (by omega) (by omega)
    rw [zmx_s _ hk0, ← zgr_eq] at ih2
    have kk : zw l d mX5_mostAlike 67 [some (.ref 1), some (.int (zI st)), some (.int (zI ((zmx (zgr f (zbt st) 6) k.toNat)))), some (.int (zI k)), some (.int (zI ((zct (fun j => if zbt st k = 1 ∧ zbt st j = 1 ∧ f j = f k then 1 else 0) 6)))), none] [] σ (zRi (zmo f (zbt st) 6) σ) := by
      refine zw_iload_n 68 dX5_mostAlike_67 rfl rfl ?_
      refine zw_iload 70 dX5_mostAlike_68 rfl rfl ?_
      refine zw_mmax 73 dX5_mostAlike_70 rfl xX5_246 (by omega) (by omega) rfl (by omega) ?_
      refine zw_istore_n 74 dX5_mostAlike_73 rfl (by decide) ?_
      refine zw_iinc 77 dX5_mostAlike_74 rfl (by decide) rfl ?_
      refine zw_goto 4 dX5_mostAlike_77 (by decide) ?_
      refine zw_loc [true, true, true, true, false, false] rfl ?_
      exact ih2
    have h2 := li_X5_mostAlike (l := l) (d := d) hf hfb hst (k := k) (m := zmx (zgr f (zbt st) 6) k.toNat) (by omega) kk 6 0 (by omega)
    rw [show zct (fun j => if zbt st k = 1 ∧ zbt st j = 1 ∧ f j = f k then 1 else 0) 0 = 0 from rfl, show (((0 : Nat) : Int)) = 0 from rfl] at h2
    refine zw_iload_n 5 dX5_mostAlike_4 rfl rfl ?_
    refine zw_bipush 7 dX5_mostAlike_5 rfl (by decide) ?_
    refine zw_icmp_ge 80 10 dX5_mostAlike_7 (by decide) rfl (by omega) (by omega) (fun h7 => ?_) (fun h7 => ?_)
    · exfalso; omega
    · refine zw_iconst 11 dX5_mostAlike_10 rfl ?_
      refine zw_istore 13 dX5_mostAlike_11 rfl (by decide) ?_
      refine zw_iconst 14 dX5_mostAlike_13 rfl ?_
      refine zw_istore 16 dX5_mostAlike_14 rfl (by decide) ?_
      exact h2
theorem sp_X5_mostAlike {l : Launch} {d : Nat} {σ : zMem} (hd : 1 ≤ d) {f : zR} (hf : σ 115 = f) (hfb : ∀ j, 0 ≤ j → j < 6 → -2147483648 ≤ f j ∧ f j < 2147483648) {st : Int} (hst : 0 ≤ st ∧ st < 64)  : zSp l d mX5_mostAlike [.ref 1, .int (zI st)] σ (zRi (zmo f (zbt st) 6) σ) := by
  refine zSp_of oX5_mostAlike (Nat.le_of_ble_eq_true rfl) ?_
  show zw l d mX5_mostAlike 0 [some (.ref 1), some (.int (zI st)), none, none, none, none] [] σ _
  refine zw_iconst 1 dX5_mostAlike_0 rfl ?_
  refine zw_istore_n 2 dX5_mostAlike_1 rfl (by decide) ?_
  refine zw_iconst 3 dX5_mostAlike_2 rfl ?_
  refine zw_istore_n 4 dX5_mostAlike_3 rfl (by decide) ?_
  exact lo_X5_mostAlike hd hf hfb hst 6 0 (by omega) (by omega)
def zlkF (N : zR) (s h y q : Int) : Int := zgv q (N (25 + s)) h y
def ztrF (N : zR) (c g h q : Int) : Int := zac q g h
theorem lf_X5_look {l : Launch} {d : Nat} {σ : zMem} {N : zR} (hC : zCh σ 2 N) (hV : zVN N) (hd : 4 ≤ d) {s : Int} (hsx : 0 ≤ s ∧ s < N 33) {st : Int} (hst : 0 ≤ st ∧ st < 64) {h y : Int} (hh : 0 ≤ h ∧ h ≤ 20) (hyy : 0 ≤ y ∧ y < 2) {b0 b1 : Int} {Q : Option Value → zMem → Prop} (kk : ∀ σq, (∀ b, b ≠ 115 → σq b = σ b) → (∀ j, 0 ≤ j → j < 6 → σq 115 j = (zlkF N s h y) j) → zw l d mX5_look 94 [some (.ref 1), some (.int (zI s)), some (.int (zI st)), some (.int (zI b0)), some (.int (zI b1)), some (.int (zI h)), some (.int (zI y)), none] [] σq Q) : ∀ (mm : Nat) (q : Int) (σc : zMem), q + mm = 6 → 0 ≤ q → (∀ b, b ≠ 115 → σc b = σ b) → (∀ j, 0 ≤ j → j < q → σc 115 j = (zlkF N s h y) j) → zw l d mX5_look 53 [some (.ref 1), some (.int (zI s)), some (.int (zI st)), some (.int (zI b0)), some (.int (zI b1)), some (.int (zI h)), some (.int (zI y)), some (.int (zI q))] [] σc Q := by
  have hs := hV.1
  have hv := hV.2.1
  have hy := hV.2.2.1
  have hB := zVN_bd hV
  have gN := hs.1
  have gC := hs.2.1
  have c0 : σ 2 0 = N 33 := hC.1.1.1
  have c1 : σ 2 1 = N 48 := hC.1.1.2.1
  have c2 : ∀ s, 0 ≤ s → s < N 33 → σ 3 s = N (34 + s) ∧ σ 4 s = N (41 + s) := hC.1.1.2.2.1
  have c3 : ∀ c, 0 ≤ c → c < N 48 → σ 5 c = N (49 + c) ∧ σ 6 c = N (54 + c) ∧ σ 7 c = zhv (N (49 + c)) (N (54 + c)) := hC.1.1.2.2.2
  have c4 : zSc σ 8 N := hC.1.2.1
  have c41 : ∀ c, 0 ≤ c → c < 5 → σ 9 c = N c := c4.1
  have c42 : ∀ i, 0 ≤ i → i < 20 → σ 10 i = N (5 + i) := c4.2.1
  have c43 : ∀ s, 0 ≤ s → s < 7 → σ 11 s = N (25 + s) := c4.2.2.1
  have c44 : σ 8 0 = N 32 := c4.2.2.2
  have c5 : zRo σ 13 3 59 N := hC.1.2.2.1
  have c6 : zRo σ 15 5 78 N := hC.1.2.2.2.1
  have c7 : zRo σ 17 4 109 N := hC.1.2.2.2.2
  have c8 : σ 2 2 = N 134 := hC.2.1
  have hb5 : ∀ c, 0 ≤ c → c < 5 → -1 ≤ N c ∧ N c < 1000 := fun c h0 h1 => by have := hv.1 c h0 h1; omega
  have k3 := c43 s (by omega) (by omega)
  have gd := hv.2.2.1 s (by omega) (by omega)
  intro mm
  induction mm with
  | zero =>
    intro q σc hq hq0 g1 g2
    obtain rfl : q = 6 := by omega
    refine zw_iload 55 dX5_look_53 rfl rfl ?_
    refine zw_bipush 57 dX5_look_55 rfl (by decide) ?_
    refine zw_icmp_ge 94 60 dX5_look_57 (by decide) rfl (by omega) (by omega) (fun h57 => ?_) (fun h57 => ?_)
    · refine zw_loc [true, true, true, true, true, true, true, false] rfl ?_
      exact kk _ g1 (fun j j0 j1 => g2 j j0 (by omega))
    · exfalso; omega
  | succ mm ih =>
    intro q σc hq hq0 g1 g2
    refine zw_iload 55 dX5_look_53 rfl rfl ?_
    refine zw_bipush 57 dX5_look_55 rfl (by decide) ?_
    refine zw_icmp_ge 94 60 dX5_look_57 (by decide) rfl (by omega) (by omega) (fun h57 => ?_) (fun h57 => ?_)
    · exfalso; omega
    · refine zw_aload_n 61 dX5_look_60 rfl rfl ?_
      refine zw_getr 64 (115) (o := 114) dX5_look_61 rfl fX5_52 (by decide) rfl rfl ly1 ?_
      refine zw_iload 66 dX5_look_64 rfl rfl ?_
      refine zw_iload 68 dX5_look_66 rfl rfl ?_
      refine zw_aload_n 69 dX5_look_68 rfl rfl ?_
      refine zw_getr 72 (2) (o := 1) dX5_look_69 rfl fX5_10 (by decide) rfl rfl ly1 ?_
      refine zw_getr 75 (8) (o := 6) dX5_look_72 rfl fX5_131 (by decide) rfl rfl ly2 ?_
      refine zw_getr 78 (11) (o := 3) dX5_look_75 rfl fX5_174 (by decide) rfl rfl ly8 ?_
      refine zw_iload_n 79 dX5_look_78 rfl rfl ?_
      refine zw_iald 80 dX5_look_79 rfl ly11 (by omega) ?_
      rw [g1 11 (by decide), k3]
      refine zw_iload 82 dX5_look_80 rfl rfl ?_
      refine zw_iload 84 dX5_look_82 rfl rfl ?_
      refine zw_callS 87 _ _ dX5_look_84 rfl kX5_218 qX5_given (sp_X5_given (d := d - 1) (by omega) (k := q) (dd := N (25 + s)) (y := y) (h := h) (by omega) (by omega) (by omega) (by omega)) (by omega) rfl rfl (Nat.le_of_ble_eq_true rfl) (fun r σ' hq => ?_)
      obtain ⟨rfl, rfl⟩ := hq
      refine zw_iast 88 dX5_look_87 rfl ly115 (by omega) ?_
      refine zw_iinc 91 dX5_look_88 rfl (by decide) rfl ?_
      refine zw_goto 53 dX5_look_91 (by decide) ?_
      refine zw_loc [true, true, true, true, true, true, true, true] rfl ?_
      refine ih (q + 1) _ (by omega) (by omega) (fun b hb => (zwr_ne _ _ _ hb).trans (g1 b hb)) (fun j j0 j1 => ?_)
      unfold zwr
      rw [zwa_same]; unfold zup
      by_cases e : j = q
      · rw [if_pos e, e]; rfl
      · rw [if_neg e]; exact g2 j j0 (by omega)
theorem ly_X5_look {l : Launch} {d : Nat} {σ : zMem} {N : zR} (hC : zCh σ 2 N) (hV : zVN N) (hd : 4 ≤ d) {s : Int} (hsx : 0 ≤ s ∧ s < N 33) {st : Int} (hst : 0 ≤ st ∧ st < 64) {h : Int} (hh : 0 ≤ h ∧ h ≤ 20) {Q : Option Value → zMem → Prop} (kk : ∀ σq, (∀ b, b ≠ 115 → σq b = σ b) → zw l d mX5_look 127 [some (.ref 1), some (.int (zI s)), some (.int (zI st)), some (.int (zI ((zmn 7 (zloG N s st) zloC (2 * (h + 1)).toNat).1))), some (.int (zI ((zmn 7 (zloG N s st) zloC (2 * (h + 1)).toNat).2))), some (.int (zI h)), none, none] [] σq Q) : ∀ (mm : Nat) (y : Int) (σc : zMem), y + mm = 2 → 0 ≤ y → (∀ b, b ≠ 115 → σc b = σ b) → zw l d mX5_look 44 [some (.ref 1), some (.int (zI s)), some (.int (zI st)), some (.int (zI ((zmn 7 (zloG N s st) zloC (2 * h + y).toNat).1))), some (.int (zI ((zmn 7 (zloG N s st) zloC (2 * h + y).toNat).2))), some (.int (zI h)), some (.int (zI y)), none] [] σc Q := by
  have hs := hV.1
  have hv := hV.2.1
  have hy := hV.2.2.1
  have hB := zVN_bd hV
  have gN := hs.1
  have gC := hs.2.1
  have c0 : σ 2 0 = N 33 := hC.1.1.1
  have c1 : σ 2 1 = N 48 := hC.1.1.2.1
  have c2 : ∀ s, 0 ≤ s → s < N 33 → σ 3 s = N (34 + s) ∧ σ 4 s = N (41 + s) := hC.1.1.2.2.1
  have c3 : ∀ c, 0 ≤ c → c < N 48 → σ 5 c = N (49 + c) ∧ σ 6 c = N (54 + c) ∧ σ 7 c = zhv (N (49 + c)) (N (54 + c)) := hC.1.1.2.2.2
  have c4 : zSc σ 8 N := hC.1.2.1
  have c41 : ∀ c, 0 ≤ c → c < 5 → σ 9 c = N c := c4.1
  have c42 : ∀ i, 0 ≤ i → i < 20 → σ 10 i = N (5 + i) := c4.2.1
  have c43 : ∀ s, 0 ≤ s → s < 7 → σ 11 s = N (25 + s) := c4.2.2.1
  have c44 : σ 8 0 = N 32 := c4.2.2.2
  have c5 : zRo σ 13 3 59 N := hC.1.2.2.1
  have c6 : zRo σ 15 5 78 N := hC.1.2.2.2.1
  have c7 : zRo σ 17 4 109 N := hC.1.2.2.2.2
  have c8 : σ 2 2 = N 134 := hC.2.1
  have hb5 : ∀ c, 0 ≤ c → c < 5 → -1 ≤ N c ∧ N c < 1000 := fun c h0 h1 => by have := hv.1 c h0 h1; omega
  have hG : ∀ n, 0 ≤ zloG N s st n ∧ zloG N s st n ≤ 6 := fun n => zmo_b _ _ 6
  intro mm
  induction mm with
  | zero =>
    intro y σc hy2 hy0 g1
    obtain rfl : y = 2 := by omega
    rw [show 2 * h + 2 = 2 * (h + 1) by omega]
    refine zw_iload 46 dX5_look_44 rfl rfl ?_
    refine zw_iconst 47 dX5_look_46 rfl ?_
    refine zw_icmp_gt 127 50 dX5_look_47 (by decide) rfl (by omega) (by omega) (fun h47 => ?_) (fun h47 => ?_)
    · refine zw_loc [true, true, true, true, true, true, false, false] rfl ?_
      exact kk _ g1
    · exfalso; omega
  | succ mm ih =>
    intro y σc hy2 hy0 g1
    have bz := zmn_b7 (cd := zloC) hG (2 * h + y).toNat
    have hGn := hG (2 * h + y)
    have es : ∀ v, zmn 7 (zloG N s st) zloC (v + 1) = if zloG N s st v < (zmn 7 (zloG N s st) zloC v).2 then (zloC v, zloG N s st v) else zmn 7 (zloG N s st) zloC v := fun _ => rfl
    have ih2 := fun (σq : zMem) => ih (y + 1) σq (by omega) (by omega)
    rw [show (2 * h + (y + 1)).toNat = (2 * h + y).toNat + 1 by omega, es, show ((((2 * h + y).toNat : Nat)) : Int) = 2 * h + y by omega] at ih2
    have ka : ∀ σq, (∀ b, b ≠ 115 → σq b = σ b) → (∀ j, 0 ≤ j → j < 6 → σq 115 j = (zlkF N s h y) j) → zw l d mX5_look 94 [some (.ref 1), some (.int (zI s)), some (.int (zI st)), some (.int (zI ((zmn 7 (zloG N s st) zloC (2 * h + y).toNat).1))), some (.int (zI ((zmn 7 (zloG N s st) zloC (2 * h + y).toNat).2))), some (.int (zI h)), some (.int (zI y)), none] [] σq Q := by
      intro σq g3 g4
      have eG : zmo (σq 115) (zbt st) 6 = zloG N s st (2 * h + y) := by
        unfold zloG
        rw [show (2 * h + y) / 2 = h by omega, show (2 * h + y) % 2 = y by omega]
        exact zmo_congr 6 (fun j j0 j1 => g4 j j0 (by omega))
      refine zw_aload_n 95 dX5_look_94 rfl rfl ?_
      refine zw_iload_n 96 dX5_look_95 rfl rfl ?_
      refine zw_callV 99 _ _ dX5_look_96 rfl kX5_265 qX5_mostAlike ly1 ⟨_, rfl, rfl⟩ (by decide) (sp_X5_mostAlike (d := d - 1) (by omega) (f := σq 115) rfl (fun j j0 j1 => by rw [g4 j j0 j1]; exact (by unfold zlkF; have := zgv_b (k := j) (d := N (25 + s)) (h := h) (y := y) (hv.2.2.1 s (by omega) (by omega)) (by omega); omega)) hst) (by omega) rfl rfl (Nat.le_of_ble_eq_true rfl) (fun r σ' hq => ?_)
      obtain ⟨rfl, rfl⟩ := hq
      rw [eG]
      refine zw_istore 101 dX5_look_99 rfl (by decide) ?_
      refine zw_iload 103 dX5_look_101 rfl rfl ?_
      refine zw_iload 105 dX5_look_103 rfl rfl ?_
      refine zw_icmp_ge 121 108 dX5_look_105 (by decide) rfl (by omega) (by omega) (fun h105 => ?_) (fun h105 => ?_)
      · refine zw_iinc 124 dX5_look_121 rfl (by decide) rfl ?_
        refine zw_goto 44 dX5_look_124 (by decide) ?_
        refine zw_loc [true, true, true, true, true, true, true, false] rfl ?_
        first
          | (rw [if_pos (show zloG N s st (2 * h + y) < (zmn 7 (zloG N s st) zloC (2 * h + y).toNat).2 by omega)] at ih2
             rw [show zloC (2 * h + y) = 100 * h + y by unfold zloC; omega] at ih2
             exact ih2 _ g3)
          | (rw [if_neg (show ¬ zloG N s st (2 * h + y) < (zmn 7 (zloG N s st) zloC (2 * h + y).toNat).2 by omega)] at ih2
             exact ih2 _ g3)
      · refine zw_iload 110 dX5_look_108 rfl rfl ?_
        refine zw_istore 112 dX5_look_110 rfl (by decide) ?_
        refine zw_bipush 114 dX5_look_112 rfl (by decide) ?_
        refine zw_iload 116 dX5_look_114 rfl rfl ?_
        refine zw_imul 117 dX5_look_116 rfl ?_
        refine zw_iload 119 dX5_look_117 rfl rfl ?_
        refine zw_iadd 120 dX5_look_119 rfl ?_
        refine zw_istore_n 121 dX5_look_120 rfl (by decide) ?_
        refine zw_iinc 124 dX5_look_121 rfl (by decide) rfl ?_
        refine zw_goto 44 dX5_look_124 (by decide) ?_
        refine zw_loc [true, true, true, true, true, true, true, false] rfl ?_
        first
          | (rw [if_pos (show zloG N s st (2 * h + y) < (zmn 7 (zloG N s st) zloC (2 * h + y).toNat).2 by omega)] at ih2
             rw [show zloC (2 * h + y) = 100 * h + y by unfold zloC; omega] at ih2
             exact ih2 _ g3)
          | (rw [if_neg (show ¬ zloG N s st (2 * h + y) < (zmn 7 (zloG N s st) zloC (2 * h + y).toNat).2 by omega)] at ih2
             exact ih2 _ g3)
    refine zw_iload 46 dX5_look_44 rfl rfl ?_
    refine zw_iconst 47 dX5_look_46 rfl ?_
    refine zw_icmp_gt 127 50 dX5_look_47 (by decide) rfl (by omega) (by omega) (fun h47 => ?_) (fun h47 => ?_)
    · exfalso; omega
    · refine zw_iconst 51 dX5_look_50 rfl ?_
      refine zw_istore 53 dX5_look_51 rfl (by decide) ?_
      exact lf_X5_look hC hV hd hsx hst hh ⟨hy0, by omega⟩ ka 6 0 _ (by omega) (by omega) g1 (fun j j0 j1 => by omega)
theorem lo_X5_look {l : Launch} {d : Nat} {σ : zMem} {N : zR} (hC : zCh σ 2 N) (hV : zVN N) (hd : 4 ≤ d) {s : Int} (hsx : 0 ≤ s ∧ s < N 33) {st : Int} (hst : 0 ≤ st ∧ st < 64) (hres : st ≠ 0 → (zmn 7 (zloG N s st) zloC 42).1 = (zlo N s)) (hres0 : st = 0 → (zlo N s) = -1) : ∀ (mm : Nat) (h : Int) (σc : zMem), h + mm = 21 → 0 ≤ h → (st = 0 → h = 0) → (∀ b, b ≠ 115 → σc b = σ b) → zw l d mX5_look 30 [some (.ref 1), some (.int (zI s)), some (.int (zI st)), some (.int (zI ((zmn 7 (zloG N s st) zloC (2 * h).toNat).1))), some (.int (zI ((zmn 7 (zloG N s st) zloC (2 * h).toNat).2))), some (.int (zI h)), none, none] [] σc (fun a0 σ' => a0 = some (.int (zI ((zlo N s)))) ∧ zNS σ σ') := by
  have hs := hV.1
  have hv := hV.2.1
  have hy := hV.2.2.1
  have hB := zVN_bd hV
  have gN := hs.1
  have gC := hs.2.1
  have c0 : σ 2 0 = N 33 := hC.1.1.1
  have c1 : σ 2 1 = N 48 := hC.1.1.2.1
  have c2 : ∀ s, 0 ≤ s → s < N 33 → σ 3 s = N (34 + s) ∧ σ 4 s = N (41 + s) := hC.1.1.2.2.1
  have c3 : ∀ c, 0 ≤ c → c < N 48 → σ 5 c = N (49 + c) ∧ σ 6 c = N (54 + c) ∧ σ 7 c = zhv (N (49 + c)) (N (54 + c)) := hC.1.1.2.2.2
  have c4 : zSc σ 8 N := hC.1.2.1
  have c41 : ∀ c, 0 ≤ c → c < 5 → σ 9 c = N c := c4.1
  have c42 : ∀ i, 0 ≤ i → i < 20 → σ 10 i = N (5 + i) := c4.2.1
  have c43 : ∀ s, 0 ≤ s → s < 7 → σ 11 s = N (25 + s) := c4.2.2.1
  have c44 : σ 8 0 = N 32 := c4.2.2.2
  have c5 : zRo σ 13 3 59 N := hC.1.2.2.1
  have c6 : zRo σ 15 5 78 N := hC.1.2.2.2.1
  have c7 : zRo σ 17 4 109 N := hC.1.2.2.2.2
  have c8 : σ 2 2 = N 134 := hC.2.1
  have hb5 : ∀ c, 0 ≤ c → c < 5 → -1 ≤ N c ∧ N c < 1000 := fun c h0 h1 => by have := hv.1 c h0 h1; omega
  intro mm
  induction mm with
  | zero =>
    intro h σc hh hh0 hz g1
    obtain rfl : h = 21 := by omega
    have hst0 : st ≠ 0 := fun q => by have := hz q; omega
    have hr := hres hst0
    refine zw_iload 32 dX5_look_30 rfl rfl ?_
    refine zw_bipush 34 dX5_look_32 rfl (by decide) ?_
    refine zw_icmp_gt 133 37 dX5_look_34 (by decide) rfl (by omega) (by omega) (fun h34 => ?_) (fun h34 => ?_)
    · refine zw_iload_n 134 dX5_look_133 rfl rfl ?_
      refine zw_iret dX5_look_134 rfl ?_
      exact ⟨by rw [show (2 * (21 : Int)).toNat = 42 from rfl, hr], zNc.ns (fun b b0 b1 => g1 b (by omega))⟩
    · exfalso; omega
  | succ mm ih =>
    intro h σc hh hh0 hz g1
    have ih2 := fun (q : st ≠ 0) (σq : zMem) => ih (h + 1) σq (by omega) (by omega) (fun z => absurd z q)
    refine zw_iload 32 dX5_look_30 rfl rfl ?_
    refine zw_bipush 34 dX5_look_32 rfl (by decide) ?_
    refine zw_icmp_gt 133 37 dX5_look_34 (by decide) rfl (by omega) (by omega) (fun h34 => ?_) (fun h34 => ?_)
    · refine zw_iload_n 134 dX5_look_133 rfl rfl ?_
      refine zw_iret dX5_look_134 rfl ?_
      first
        | (exfalso; omega)
        | (have h0 := hz (by omega)
           subst h0
           exact ⟨by rw [hres0 (by omega)]; rfl, zNc.ns (fun b b0 b1 => g1 b (by omega))⟩)
    · refine zw_iload_n 38 dX5_look_37 rfl rfl ?_
      refine zw_if_eq 133 41 dX5_look_38 (by decide) rfl (by omega) (fun h38 => ?_) (fun h38 => ?_)
      · refine zw_iload_n 134 dX5_look_133 rfl rfl ?_
        refine zw_iret dX5_look_134 rfl ?_
        first
          | (exfalso; omega)
          | (have h0 := hz (by omega)
             subst h0
             exact ⟨by rw [hres0 (by omega)]; rfl, zNc.ns (fun b b0 b1 => g1 b (by omega))⟩)
      · refine zw_iconst 42 dX5_look_41 rfl ?_
        refine zw_istore 44 dX5_look_42 rfl (by decide) ?_
        have kk : ∀ σq, (∀ b, b ≠ 115 → σq b = σ b) → zw l d mX5_look 127 [some (.ref 1), some (.int (zI s)), some (.int (zI st)), some (.int (zI ((zmn 7 (zloG N s st) zloC (2 * (h + 1)).toNat).1))), some (.int (zI ((zmn 7 (zloG N s st) zloC (2 * (h + 1)).toNat).2))), some (.int (zI h)), none, none] [] σq (fun a0 σ' => a0 = some (.int (zI ((zlo N s)))) ∧ zNS σ σ') := by
          intro σq g3
          refine zw_iinc 130 dX5_look_127 rfl (by decide) rfl ?_
          refine zw_goto 30 dX5_look_130 (by decide) ?_
          refine zw_loc [true, true, true, true, true, true, false, false] rfl ?_
          exact ih2 (by omega) _ g3
        have hl := ly_X5_look (l := l) (d := d) hC hV hd hsx hst (h := h) ⟨hh0, by omega⟩ kk 2 0 σc (by omega) (by omega) g1
        rw [Int.add_zero] at hl
        refine zw_loc [true, true, true, true, true, true, true, false] rfl ?_
        exact hl
theorem sp_X5_look {l : Launch} {d : Nat} {σ : zMem} (hd : 8 ≤ d) {N : zR} (hC : zCh σ 2 N) (hV : zVN N) {s : Int} (hs : -2147483648 ≤ s ∧ s < 2147483648)  : zSp l d mX5_look [.ref 1, .int (zI s)] σ (zAn 118 (0 ≤ s ∧ s ≤ N 33 - 1) (zlo N s) 0 (-2) σ) := by
  refine zSp_of oX5_look (Nat.le_of_ble_eq_true rfl) ?_
  show zw l d mX5_look 0 [some (.ref 1), some (.int (zI s)), none, none, none, none, none, none] [] σ _
  have hs := hV.1
  have hv := hV.2.1
  have hy := hV.2.2.1
  have hB := zVN_bd hV
  have gN := hs.1
  have gC := hs.2.1
  have c0 : σ 2 0 = N 33 := hC.1.1.1
  have c1 : σ 2 1 = N 48 := hC.1.1.2.1
  have c2 : ∀ s, 0 ≤ s → s < N 33 → σ 3 s = N (34 + s) ∧ σ 4 s = N (41 + s) := hC.1.1.2.2.1
  have c3 : ∀ c, 0 ≤ c → c < N 48 → σ 5 c = N (49 + c) ∧ σ 6 c = N (54 + c) ∧ σ 7 c = zhv (N (49 + c)) (N (54 + c)) := hC.1.1.2.2.2
  have c4 : zSc σ 8 N := hC.1.2.1
  have c41 : ∀ c, 0 ≤ c → c < 5 → σ 9 c = N c := c4.1
  have c42 : ∀ i, 0 ≤ i → i < 20 → σ 10 i = N (5 + i) := c4.2.1
  have c43 : ∀ s, 0 ≤ s → s < 7 → σ 11 s = N (25 + s) := c4.2.2.1
  have c44 : σ 8 0 = N 32 := c4.2.2.2
  have c5 : zRo σ 13 3 59 N := hC.1.2.2.1
  have c6 : zRo σ 15 5 78 N := hC.1.2.2.2.1
  have c7 : zRo σ 17 4 109 N := hC.1.2.2.2.2
  have c8 : σ 2 2 = N 134 := hC.2.1
  have hb5 : ∀ c, 0 ≤ c → c < 5 → -1 ≤ N c ∧ N c < 1000 := fun c h0 h1 => by have := hv.1 c h0 h1; omega
  refine zw_aload_n 1 dX5_look_0 rfl rfl ?_
  refine zw_iload_n 2 dX5_look_1 rfl rfl ?_
  refine zw_callV 5 _ _ dX5_look_2 rfl kX5_165 qX5_isSeat ly1 ⟨_, rfl, rfl⟩ (by decide) (sp_X5_isSeat (d := d - 1) (by omega) hC.1.1 (by omega) (by omega)) (by omega) rfl rfl (Nat.le_of_ble_eq_true rfl) (fun r σ' hq => ?_)
  obtain ⟨rfl, rfl⟩ := hq
  refine zw_if_ne 15 8 dX5_look_5 (by decide) rfl (by omega) (fun h5 => ?_) (fun h5 => ?_)
  · refine zw_aload_n 16 dX5_look_15 rfl rfl ?_
    refine zw_iload_n 17 dX5_look_16 rfl rfl ?_
    refine zw_callV 20 _ _ dX5_look_17 rfl kX5_262 qX5_seatKinds ly1 ⟨_, rfl, rfl⟩ (by decide) (sp_X5_seatKinds (d := d - 1) (by omega) hC hV (s := s) (by omega)) (by omega) rfl rfl (Nat.le_of_ble_eq_true rfl) (fun r σ' hq => ?_)
    obtain ⟨rfl, rfl⟩ := hq
    have zst := zbi_b (f := zks N s) 6 (fun _ _ _ => zal_b _ _)
    have z64 : (2 : Int) ^ 6 = 64 := rfl
    rw [z64] at zst
    refine zw_istore_n 21 dX5_look_20 rfl (by decide) ?_
    refine zw_iconst 22 dX5_look_21 rfl ?_
    refine zw_istore_n 23 dX5_look_22 rfl (by decide) ?_
    refine zw_bipush 25 dX5_look_23 rfl (by decide) ?_
    refine zw_istore 27 dX5_look_25 rfl (by decide) ?_
    refine zw_iconst 28 dX5_look_27 rfl ?_
    refine zw_istore 30 dX5_look_28 rfl (by decide) ?_
    have hG : ∀ n, 0 ≤ zloG N s (zbi (zks N s) 6) n ∧ zloG N s (zbi (zks N s) 6) n ≤ 6 := fun n => zmo_b _ _ 6
    refine zw_loc [true, true, true, true, true, true, false, false] rfl ?_
    refine zw_mono (lo_X5_look (l := l) (d := d) hC hV (by omega) (s := s) (by omega) (st := zbi (zks N s) 6) zst (fun q => ?_) (fun q => ?_) 21 0 σ (by omega) (by omega) (fun _ => rfl) (fun _ _ => rfl)) (fun a0 σ2 hq => ⟨fun _ => hq, fun q => absurd (show 0 ≤ s ∧ s ≤ N 33 - 1 by omega) q⟩)
    · unfold zlo
      rw [if_neg q, zmn_7 hG 41]
    · unfold zlo; rw [if_pos q]
  · refine zw_aload_n 9 dX5_look_8 rfl rfl ?_
    refine zw_bipush 11 dX5_look_9 rfl (by decide) ?_
    refine zw_callV 14 _ _ dX5_look_11 rfl kX5_89 qX5_refuse ly1 ⟨_, rfl, rfl⟩ (by decide) (sp_X5_refuse_2 (d := d - 1)) (by omega) rfl rfl (Nat.le_of_ble_eq_true rfl) (fun r σ' hq => ?_)
    obtain ⟨rfl, rfl⟩ := hq
    refine zw_iret dX5_look_14 rfl ?_
    exact zAn_f (by omega)
theorem lf_X5_tries {l : Launch} {d : Nat} {σ : zMem} {N : zR} (hC : zCh σ 2 N) (hV : zVN N) (hd : 4 ≤ d) {c : Int} (hsx : 0 ≤ c ∧ c < N 48) {st : Int} (hst : 0 ≤ st ∧ st < 64) {h y : Int} (hh : 0 ≤ h ∧ h ≤ 9) (hyy : 0 ≤ y ∧ y < 21) {b0 b1 : Int} {Q : Option Value → zMem → Prop} (kk : ∀ σq, (∀ b, b ≠ 115 → σq b = σ b) → (∀ j, 0 ≤ j → j < 6 → σq 115 j = (ztrF N c h y) j) → zw l d mX5_tries 83 [some (.ref 1), some (.int (zI c)), some (.int (zI st)), some (.int (zI b0)), some (.int (zI b1)), some (.int (zI h)), some (.int (zI y)), none] [] σq Q) : ∀ (mm : Nat) (q : Int) (σc : zMem), q + mm = 6 → 0 ≤ q → (∀ b, b ≠ 115 → σc b = σ b) → (∀ j, 0 ≤ j → j < q → σc 115 j = (ztrF N c h y) j) → zw l d mX5_tries 54 [some (.ref 1), some (.int (zI c)), some (.int (zI st)), some (.int (zI b0)), some (.int (zI b1)), some (.int (zI h)), some (.int (zI y)), some (.int (zI q))] [] σc Q := by
  have hs := hV.1
  have hv := hV.2.1
  have hy := hV.2.2.1
  have hB := zVN_bd hV
  have gN := hs.1
  have gC := hs.2.1
  have c0 : σ 2 0 = N 33 := hC.1.1.1
  have c1 : σ 2 1 = N 48 := hC.1.1.2.1
  have c2 : ∀ s, 0 ≤ s → s < N 33 → σ 3 s = N (34 + s) ∧ σ 4 s = N (41 + s) := hC.1.1.2.2.1
  have c3 : ∀ c, 0 ≤ c → c < N 48 → σ 5 c = N (49 + c) ∧ σ 6 c = N (54 + c) ∧ σ 7 c = zhv (N (49 + c)) (N (54 + c)) := hC.1.1.2.2.2
  have c4 : zSc σ 8 N := hC.1.2.1
  have c41 : ∀ c, 0 ≤ c → c < 5 → σ 9 c = N c := c4.1
  have c42 : ∀ i, 0 ≤ i → i < 20 → σ 10 i = N (5 + i) := c4.2.1
  have c43 : ∀ s, 0 ≤ s → s < 7 → σ 11 s = N (25 + s) := c4.2.2.1
  have c44 : σ 8 0 = N 32 := c4.2.2.2
  have c5 : zRo σ 13 3 59 N := hC.1.2.2.1
  have c6 : zRo σ 15 5 78 N := hC.1.2.2.2.1
  have c7 : zRo σ 17 4 109 N := hC.1.2.2.2.2
  have c8 : σ 2 2 = N 134 := hC.2.1
  have hb5 : ∀ c, 0 ≤ c → c < 5 → -1 ≤ N c ∧ N c < 1000 := fun c h0 h1 => by have := hv.1 c h0 h1; omega
  intro mm
  induction mm with
  | zero =>
    intro q σc hq hq0 g1 g2
    obtain rfl : q = 6 := by omega
    refine zw_iload 56 dX5_tries_54 rfl rfl ?_
    refine zw_bipush 58 dX5_tries_56 rfl (by decide) ?_
    refine zw_icmp_ge 83 61 dX5_tries_58 (by decide) rfl (by omega) (by omega) (fun h58 => ?_) (fun h58 => ?_)
    · refine zw_loc [true, true, true, true, true, true, true, false] rfl ?_
      exact kk _ g1 (fun j j0 j1 => g2 j j0 (by omega))
    · exfalso; omega
  | succ mm ih =>
    intro q σc hq hq0 g1 g2
    refine zw_iload 56 dX5_tries_54 rfl rfl ?_
    refine zw_bipush 58 dX5_tries_56 rfl (by decide) ?_
    refine zw_icmp_ge 83 61 dX5_tries_58 (by decide) rfl (by omega) (by omega) (fun h58 => ?_) (fun h58 => ?_)
    · exfalso; omega
    · refine zw_aload_n 62 dX5_tries_61 rfl rfl ?_
      refine zw_getr 65 (115) (o := 114) dX5_tries_62 rfl fX5_52 (by decide) rfl rfl ly1 ?_
      refine zw_iload 67 dX5_tries_65 rfl rfl ?_
      refine zw_iload 69 dX5_tries_67 rfl rfl ?_
      refine zw_iload 71 dX5_tries_69 rfl rfl ?_
      refine zw_iload 73 dX5_tries_71 rfl rfl ?_
      refine zw_callS 76 _ _ dX5_tries_73 rfl kX5_271 qX5_accepted (sp_X5_accepted (d := d - 1) (k := q) (g := h) (h := y) (by omega) (by omega) (by omega)) (by omega) rfl rfl (Nat.le_of_ble_eq_true rfl) (fun r σ' hq => ?_)
      obtain ⟨rfl, rfl⟩ := hq
      refine zw_iast 77 dX5_tries_76 rfl ly115 (by omega) ?_
      refine zw_iinc 80 dX5_tries_77 rfl (by decide) rfl ?_
      refine zw_goto 54 dX5_tries_80 (by decide) ?_
      refine zw_loc [true, true, true, true, true, true, true, true] rfl ?_
      refine ih (q + 1) _ (by omega) (by omega) (fun b hb => (zwr_ne _ _ _ hb).trans (g1 b hb)) (fun j j0 j1 => ?_)
      unfold zwr
      rw [zwa_same]; unfold zup
      by_cases e : j = q
      · rw [if_pos e, e]; rfl
      · rw [if_neg e]; exact g2 j j0 (by omega)
theorem ly_X5_tries {l : Launch} {d : Nat} {σ : zMem} {N : zR} (hC : zCh σ 2 N) (hV : zVN N) (hd : 4 ≤ d) {c : Int} (hsx : 0 ≤ c ∧ c < N 48) {st : Int} (hst : 0 ≤ st ∧ st < 64) {h : Int} (hh : 0 ≤ h ∧ h ≤ 9) {Q : Option Value → zMem → Prop} (kk : ∀ σq, (∀ b, b ≠ 115 → σq b = σ b) → zw l d mX5_tries 116 [some (.ref 1), some (.int (zI c)), some (.int (zI st)), some (.int (zI ((zmn 7 (ztyG N c st) ztyC (21 * (h + 1)).toNat).1))), some (.int (zI ((zmn 7 (ztyG N c st) ztyC (21 * (h + 1)).toNat).2))), some (.int (zI h)), none, none] [] σq Q) : ∀ (mm : Nat) (y : Int) (σc : zMem), y + mm = 21 → 0 ≤ y → (∀ b, b ≠ 115 → σc b = σ b) → zw l d mX5_tries 44 [some (.ref 1), some (.int (zI c)), some (.int (zI st)), some (.int (zI ((zmn 7 (ztyG N c st) ztyC (21 * h + y).toNat).1))), some (.int (zI ((zmn 7 (ztyG N c st) ztyC (21 * h + y).toNat).2))), some (.int (zI h)), some (.int (zI y)), none] [] σc Q := by
  have hs := hV.1
  have hv := hV.2.1
  have hy := hV.2.2.1
  have hB := zVN_bd hV
  have gN := hs.1
  have gC := hs.2.1
  have c0 : σ 2 0 = N 33 := hC.1.1.1
  have c1 : σ 2 1 = N 48 := hC.1.1.2.1
  have c2 : ∀ s, 0 ≤ s → s < N 33 → σ 3 s = N (34 + s) ∧ σ 4 s = N (41 + s) := hC.1.1.2.2.1
  have c3 : ∀ c, 0 ≤ c → c < N 48 → σ 5 c = N (49 + c) ∧ σ 6 c = N (54 + c) ∧ σ 7 c = zhv (N (49 + c)) (N (54 + c)) := hC.1.1.2.2.2
  have c4 : zSc σ 8 N := hC.1.2.1
  have c41 : ∀ c, 0 ≤ c → c < 5 → σ 9 c = N c := c4.1
  have c42 : ∀ i, 0 ≤ i → i < 20 → σ 10 i = N (5 + i) := c4.2.1
  have c43 : ∀ s, 0 ≤ s → s < 7 → σ 11 s = N (25 + s) := c4.2.2.1
  have c44 : σ 8 0 = N 32 := c4.2.2.2
  have c5 : zRo σ 13 3 59 N := hC.1.2.2.1
  have c6 : zRo σ 15 5 78 N := hC.1.2.2.2.1
  have c7 : zRo σ 17 4 109 N := hC.1.2.2.2.2
  have c8 : σ 2 2 = N 134 := hC.2.1
  have hb5 : ∀ c, 0 ≤ c → c < 5 → -1 ≤ N c ∧ N c < 1000 := fun c h0 h1 => by have := hv.1 c h0 h1; omega
  have hG : ∀ n, 0 ≤ ztyG N c st n ∧ ztyG N c st n ≤ 6 := fun n => zmo_b _ _ 6
  intro mm
  induction mm with
  | zero =>
    intro y σc hy2 hy0 g1
    obtain rfl : y = 21 := by omega
    rw [show 21 * h + 21 = 21 * (h + 1) by omega]
    refine zw_iload 46 dX5_tries_44 rfl rfl ?_
    refine zw_bipush 48 dX5_tries_46 rfl (by decide) ?_
    refine zw_icmp_gt 116 51 dX5_tries_48 (by decide) rfl (by omega) (by omega) (fun h48 => ?_) (fun h48 => ?_)
    · refine zw_loc [true, true, true, true, true, true, false, false] rfl ?_
      exact kk _ g1
    · exfalso; omega
  | succ mm ih =>
    intro y σc hy2 hy0 g1
    have bz := zmn_b7 (cd := ztyC) hG (21 * h + y).toNat
    have hGn := hG (21 * h + y)
    have es : ∀ v, zmn 7 (ztyG N c st) ztyC (v + 1) = if ztyG N c st v < (zmn 7 (ztyG N c st) ztyC v).2 then (ztyC v, ztyG N c st v) else zmn 7 (ztyG N c st) ztyC v := fun _ => rfl
    have ih2 := fun (σq : zMem) => ih (y + 1) σq (by omega) (by omega)
    rw [show (21 * h + (y + 1)).toNat = (21 * h + y).toNat + 1 by omega, es, show ((((21 * h + y).toNat : Nat)) : Int) = 21 * h + y by omega] at ih2
    have ka : ∀ σq, (∀ b, b ≠ 115 → σq b = σ b) → (∀ j, 0 ≤ j → j < 6 → σq 115 j = (ztrF N c h y) j) → zw l d mX5_tries 83 [some (.ref 1), some (.int (zI c)), some (.int (zI st)), some (.int (zI ((zmn 7 (ztyG N c st) ztyC (21 * h + y).toNat).1))), some (.int (zI ((zmn 7 (ztyG N c st) ztyC (21 * h + y).toNat).2))), some (.int (zI h)), some (.int (zI y)), none] [] σq Q := by
      intro σq g3 g4
      have eG : zmo (σq 115) (zbt st) 6 = ztyG N c st (21 * h + y) := by
        unfold ztyG
        rw [show (21 * h + y) / 21 = h by omega, show (21 * h + y) % 21 = y by omega]
        exact zmo_congr 6 (fun j j0 j1 => g4 j j0 (by omega))
      refine zw_aload_n 84 dX5_tries_83 rfl rfl ?_
      refine zw_iload_n 85 dX5_tries_84 rfl rfl ?_
      refine zw_callV 88 _ _ dX5_tries_85 rfl kX5_265 qX5_mostAlike ly1 ⟨_, rfl, rfl⟩ (by decide) (sp_X5_mostAlike (d := d - 1) (by omega) (f := σq 115) rfl (fun j j0 j1 => by rw [g4 j j0 j1]; exact (by unfold ztrF; have := zac_b (k := j) (g := h) (h := y) (by omega); omega)) hst) (by omega) rfl rfl (Nat.le_of_ble_eq_true rfl) (fun r σ' hq => ?_)
      obtain ⟨rfl, rfl⟩ := hq
      rw [eG]
      refine zw_istore 90 dX5_tries_88 rfl (by decide) ?_
      refine zw_iload 92 dX5_tries_90 rfl rfl ?_
      refine zw_iload 94 dX5_tries_92 rfl rfl ?_
      refine zw_icmp_ge 110 97 dX5_tries_94 (by decide) rfl (by omega) (by omega) (fun h94 => ?_) (fun h94 => ?_)
      · refine zw_iinc 113 dX5_tries_110 rfl (by decide) rfl ?_
        refine zw_goto 44 dX5_tries_113 (by decide) ?_
        refine zw_loc [true, true, true, true, true, true, true, false] rfl ?_
        first
          | (rw [if_pos (show ztyG N c st (21 * h + y) < (zmn 7 (ztyG N c st) ztyC (21 * h + y).toNat).2 by omega)] at ih2
             rw [show ztyC (21 * h + y) = 100 * h + y by unfold ztyC; omega] at ih2
             exact ih2 _ g3)
          | (rw [if_neg (show ¬ ztyG N c st (21 * h + y) < (zmn 7 (ztyG N c st) ztyC (21 * h + y).toNat).2 by omega)] at ih2
             exact ih2 _ g3)
      · refine zw_iload 99 dX5_tries_97 rfl rfl ?_
        refine zw_istore 101 dX5_tries_99 rfl (by decide) ?_
        refine zw_bipush 103 dX5_tries_101 rfl (by decide) ?_
        refine zw_iload 105 dX5_tries_103 rfl rfl ?_
        refine zw_imul 106 dX5_tries_105 rfl ?_
        refine zw_iload 108 dX5_tries_106 rfl rfl ?_
        refine zw_iadd 109 dX5_tries_108 rfl ?_
        refine zw_istore_n 110 dX5_tries_109 rfl (by decide) ?_
        refine zw_iinc 113 dX5_tries_110 rfl (by decide) rfl ?_
        refine zw_goto 44 dX5_tries_113 (by decide) ?_
        refine zw_loc [true, true, true, true, true, true, true, false] rfl ?_
        first
          | (rw [if_pos (show ztyG N c st (21 * h + y) < (zmn 7 (ztyG N c st) ztyC (21 * h + y).toNat).2 by omega)] at ih2
             rw [show ztyC (21 * h + y) = 100 * h + y by unfold ztyC; omega] at ih2
             exact ih2 _ g3)
          | (rw [if_neg (show ¬ ztyG N c st (21 * h + y) < (zmn 7 (ztyG N c st) ztyC (21 * h + y).toNat).2 by omega)] at ih2
             exact ih2 _ g3)
    refine zw_iload 46 dX5_tries_44 rfl rfl ?_
    refine zw_bipush 48 dX5_tries_46 rfl (by decide) ?_
    refine zw_icmp_gt 116 51 dX5_tries_48 (by decide) rfl (by omega) (by omega) (fun h48 => ?_) (fun h48 => ?_)
    · exfalso; omega
    · refine zw_iconst 52 dX5_tries_51 rfl ?_
      refine zw_istore 54 dX5_tries_52 rfl (by decide) ?_
      exact lf_X5_tries hC hV hd hsx hst hh ⟨hy0, by omega⟩ ka 6 0 _ (by omega) (by omega) g1 (fun j j0 j1 => by omega)
theorem lo_X5_tries {l : Launch} {d : Nat} {σ : zMem} {N : zR} (hC : zCh σ 2 N) (hV : zVN N) (hd : 4 ≤ d) {c : Int} (hsx : 0 ≤ c ∧ c < N 48) {st : Int} (hst : 0 ≤ st ∧ st < 64) (hres : st ≠ 0 → (zmn 7 (ztyG N c st) ztyC 210).1 = (zty N c)) (hres0 : st = 0 → (zty N c) = -1) : ∀ (mm : Nat) (h : Int) (σc : zMem), h + mm = 10 → 0 ≤ h → (st = 0 → h = 0) → (∀ b, b ≠ 115 → σc b = σ b) → zw l d mX5_tries 30 [some (.ref 1), some (.int (zI c)), some (.int (zI st)), some (.int (zI ((zmn 7 (ztyG N c st) ztyC (21 * h).toNat).1))), some (.int (zI ((zmn 7 (ztyG N c st) ztyC (21 * h).toNat).2))), some (.int (zI h)), none, none] [] σc (fun a0 σ' => a0 = some (.int (zI ((zty N c)))) ∧ zNS σ σ') := by
  have hs := hV.1
  have hv := hV.2.1
  have hy := hV.2.2.1
  have hB := zVN_bd hV
  have gN := hs.1
  have gC := hs.2.1
  have c0 : σ 2 0 = N 33 := hC.1.1.1
  have c1 : σ 2 1 = N 48 := hC.1.1.2.1
  have c2 : ∀ s, 0 ≤ s → s < N 33 → σ 3 s = N (34 + s) ∧ σ 4 s = N (41 + s) := hC.1.1.2.2.1
  have c3 : ∀ c, 0 ≤ c → c < N 48 → σ 5 c = N (49 + c) ∧ σ 6 c = N (54 + c) ∧ σ 7 c = zhv (N (49 + c)) (N (54 + c)) := hC.1.1.2.2.2
  have c4 : zSc σ 8 N := hC.1.2.1
  have c41 : ∀ c, 0 ≤ c → c < 5 → σ 9 c = N c := c4.1
  have c42 : ∀ i, 0 ≤ i → i < 20 → σ 10 i = N (5 + i) := c4.2.1
  have c43 : ∀ s, 0 ≤ s → s < 7 → σ 11 s = N (25 + s) := c4.2.2.1
  have c44 : σ 8 0 = N 32 := c4.2.2.2
  have c5 : zRo σ 13 3 59 N := hC.1.2.2.1
  have c6 : zRo σ 15 5 78 N := hC.1.2.2.2.1
  have c7 : zRo σ 17 4 109 N := hC.1.2.2.2.2
  have c8 : σ 2 2 = N 134 := hC.2.1
  have hb5 : ∀ c, 0 ≤ c → c < 5 → -1 ≤ N c ∧ N c < 1000 := fun c h0 h1 => by have := hv.1 c h0 h1; omega
  intro mm
  induction mm with
  | zero =>
    intro h σc hh hh0 hz g1
    obtain rfl : h = 10 := by omega
    have hst0 : st ≠ 0 := fun q => by have := hz q; omega
    have hr := hres hst0
    refine zw_iload 32 dX5_tries_30 rfl rfl ?_
    refine zw_bipush 34 dX5_tries_32 rfl (by decide) ?_
    refine zw_icmp_gt 122 37 dX5_tries_34 (by decide) rfl (by omega) (by omega) (fun h34 => ?_) (fun h34 => ?_)
    · refine zw_iload_n 123 dX5_tries_122 rfl rfl ?_
      refine zw_iret dX5_tries_123 rfl ?_
      exact ⟨by rw [show (21 * (10 : Int)).toNat = 210 from rfl, hr], zNc.ns (fun b b0 b1 => g1 b (by omega))⟩
    · exfalso; omega
  | succ mm ih =>
    intro h σc hh hh0 hz g1
    have ih2 := fun (q : st ≠ 0) (σq : zMem) => ih (h + 1) σq (by omega) (by omega) (fun z => absurd z q)
    refine zw_iload 32 dX5_tries_30 rfl rfl ?_
    refine zw_bipush 34 dX5_tries_32 rfl (by decide) ?_
    refine zw_icmp_gt 122 37 dX5_tries_34 (by decide) rfl (by omega) (by omega) (fun h34 => ?_) (fun h34 => ?_)
    · refine zw_iload_n 123 dX5_tries_122 rfl rfl ?_
      refine zw_iret dX5_tries_123 rfl ?_
      first
        | (exfalso; omega)
        | (have h0 := hz (by omega)
           subst h0
           exact ⟨by rw [hres0 (by omega)]; rfl, zNc.ns (fun b b0 b1 => g1 b (by omega))⟩)
    · refine zw_iload_n 38 dX5_tries_37 rfl rfl ?_
      refine zw_if_eq 122 41 dX5_tries_38 (by decide) rfl (by omega) (fun h38 => ?_) (fun h38 => ?_)
      · refine zw_iload_n 123 dX5_tries_122 rfl rfl ?_
        refine zw_iret dX5_tries_123 rfl ?_
        first
          | (exfalso; omega)
          | (have h0 := hz (by omega)
             subst h0
             exact ⟨by rw [hres0 (by omega)]; rfl, zNc.ns (fun b b0 b1 => g1 b (by omega))⟩)
      · refine zw_iconst 42 dX5_tries_41 rfl ?_
        refine zw_istore 44 dX5_tries_42 rfl (by decide) ?_
        have kk : ∀ σq, (∀ b, b ≠ 115 → σq b = σ b) → zw l d mX5_tries 116 [some (.ref 1), some (.int (zI c)), some (.int (zI st)), some (.int (zI ((zmn 7 (ztyG N c st) ztyC (21 * (h + 1)).toNat).1))), some (.int (zI ((zmn 7 (ztyG N c st) ztyC (21 * (h + 1)).toNat).2))), some (.int (zI h)), none, none] [] σq (fun a0 σ' => a0 = some (.int (zI ((zty N c)))) ∧ zNS σ σ') := by
          intro σq g3
          refine zw_iinc 119 dX5_tries_116 rfl (by decide) rfl ?_
          refine zw_goto 30 dX5_tries_119 (by decide) ?_
          refine zw_loc [true, true, true, true, true, true, false, false] rfl ?_
          exact ih2 (by omega) _ g3
        have hl := ly_X5_tries (l := l) (d := d) hC hV hd hsx hst (h := h) ⟨hh0, by omega⟩ kk 21 0 σc (by omega) (by omega) g1
        rw [Int.add_zero] at hl
        refine zw_loc [true, true, true, true, true, true, true, false] rfl ?_
        exact hl
theorem sp_X5_tries {l : Launch} {d : Nat} {σ : zMem} (hd : 8 ≤ d) {N : zR} (hC : zCh σ 2 N) (hV : zVN N) {c : Int} (hc : -2147483648 ≤ c ∧ c < 2147483648)  : zSp l d mX5_tries [.ref 1, .int (zI c)] σ (zAn 118 (0 ≤ c ∧ c ≤ N 48 - 1) (zty N c) 0 (-2) σ) := by
  refine zSp_of oX5_tries (Nat.le_of_ble_eq_true rfl) ?_
  show zw l d mX5_tries 0 [some (.ref 1), some (.int (zI c)), none, none, none, none, none, none] [] σ _
  have hs := hV.1
  have hv := hV.2.1
  have hy := hV.2.2.1
  have hB := zVN_bd hV
  have gN := hs.1
  have gC := hs.2.1
  have c0 : σ 2 0 = N 33 := hC.1.1.1
  have c1 : σ 2 1 = N 48 := hC.1.1.2.1
  have c2 : ∀ s, 0 ≤ s → s < N 33 → σ 3 s = N (34 + s) ∧ σ 4 s = N (41 + s) := hC.1.1.2.2.1
  have c3 : ∀ c, 0 ≤ c → c < N 48 → σ 5 c = N (49 + c) ∧ σ 6 c = N (54 + c) ∧ σ 7 c = zhv (N (49 + c)) (N (54 + c)) := hC.1.1.2.2.2
  have c4 : zSc σ 8 N := hC.1.2.1
  have c41 : ∀ c, 0 ≤ c → c < 5 → σ 9 c = N c := c4.1
  have c42 : ∀ i, 0 ≤ i → i < 20 → σ 10 i = N (5 + i) := c4.2.1
  have c43 : ∀ s, 0 ≤ s → s < 7 → σ 11 s = N (25 + s) := c4.2.2.1
  have c44 : σ 8 0 = N 32 := c4.2.2.2
  have c5 : zRo σ 13 3 59 N := hC.1.2.2.1
  have c6 : zRo σ 15 5 78 N := hC.1.2.2.2.1
  have c7 : zRo σ 17 4 109 N := hC.1.2.2.2.2
  have c8 : σ 2 2 = N 134 := hC.2.1
  have hb5 : ∀ c, 0 ≤ c → c < 5 → -1 ≤ N c ∧ N c < 1000 := fun c h0 h1 => by have := hv.1 c h0 h1; omega
  refine zw_aload_n 1 dX5_tries_0 rfl rfl ?_
  refine zw_iload_n 2 dX5_tries_1 rfl rfl ?_
  refine zw_callV 5 _ _ dX5_tries_2 rfl kX5_122 qX5_isCanon ly1 ⟨_, rfl, rfl⟩ (by decide) (sp_X5_isCanon (d := d - 1) (by omega) hC.1.1 (by omega) (by omega)) (by omega) rfl rfl (Nat.le_of_ble_eq_true rfl) (fun r σ' hq => ?_)
  obtain ⟨rfl, rfl⟩ := hq
  refine zw_if_ne 15 8 dX5_tries_5 (by decide) rfl (by omega) (fun h5 => ?_) (fun h5 => ?_)
  · refine zw_aload_n 16 dX5_tries_15 rfl rfl ?_
    refine zw_iload_n 17 dX5_tries_16 rfl rfl ?_
    refine zw_callV 20 _ _ dX5_tries_17 rfl kX5_268 qX5_canonKinds ly1 ⟨_, rfl, rfl⟩ (by decide) (sp_X5_canonKinds (d := d - 1) (by omega) hC hV (c := c) (by omega)) (by omega) rfl rfl (Nat.le_of_ble_eq_true rfl) (fun r σ' hq => ?_)
    obtain ⟨rfl, rfl⟩ := hq
    have zst := zbi_b (f := zkc N c) 6 (fun _ _ _ => zal_b _ _)
    have z64 : (2 : Int) ^ 6 = 64 := rfl
    rw [z64] at zst
    refine zw_istore_n 21 dX5_tries_20 rfl (by decide) ?_
    refine zw_iconst 22 dX5_tries_21 rfl ?_
    refine zw_istore_n 23 dX5_tries_22 rfl (by decide) ?_
    refine zw_bipush 25 dX5_tries_23 rfl (by decide) ?_
    refine zw_istore 27 dX5_tries_25 rfl (by decide) ?_
    refine zw_iconst 28 dX5_tries_27 rfl ?_
    refine zw_istore 30 dX5_tries_28 rfl (by decide) ?_
    have hG : ∀ n, 0 ≤ ztyG N c (zbi (zkc N c) 6) n ∧ ztyG N c (zbi (zkc N c) 6) n ≤ 6 := fun n => zmo_b _ _ 6
    refine zw_loc [true, true, true, true, true, true, false, false] rfl ?_
    refine zw_mono (lo_X5_tries (l := l) (d := d) hC hV (by omega) (c := c) (by omega) (st := zbi (zkc N c) 6) zst (fun q => ?_) (fun q => ?_) 10 0 σ (by omega) (by omega) (fun _ => rfl) (fun _ _ => rfl)) (fun a0 σ2 hq => ⟨fun _ => hq, fun q => absurd (show 0 ≤ c ∧ c ≤ N 48 - 1 by omega) q⟩)
    · unfold zty
      rw [if_neg q, zmn_7 hG 209]
    · unfold zty; rw [if_pos q]
  · refine zw_aload_n 9 dX5_tries_8 rfl rfl ?_
    refine zw_bipush 11 dX5_tries_9 rfl (by decide) ?_
    refine zw_callV 14 _ _ dX5_tries_11 rfl kX5_89 qX5_refuse ly1 ⟨_, rfl, rfl⟩ (by decide) (sp_X5_refuse_2 (d := d - 1)) (by omega) rfl rfl (Nat.le_of_ble_eq_true rfl) (fun r σ' hq => ?_)
    obtain ⟨rfl, rfl⟩ := hq
    refine zw_iret dX5_tries_14 rfl ?_
    exact zAn_f (by omega)
