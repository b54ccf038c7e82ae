theorem sp_X6_step {l : Launch} {d : Nat} {σ : zMem} (hd : 3 ≤ d) (hx : ztx (σ 223) (σ 217 6)) (hi : 0 ≤ σ 217 10 ∧ σ 217 10 ≤ σ 217 6) : zSp l d mX6_step [.ref 217] σ (fun a σ1 => ∃ g : zR, a = none ∧ σ1 = zwa σ 217 g ∧ zSu (σ 223) (σ 217) (σ 217 6) g) := by
  refine zSp_of oX6_step (Nat.le_of_ble_eq_true rfl) ?_
  show zw l d mX6_step 0 [some (.ref 217)] [] σ _
  have zb := zsk_b (σ 223) (σ 217 6) (σ 217 6 - σ 217 10).toNat (σ 217 10) hi.2
  refine zw_mem (zwa_id σ 217) ?_
  refine lpS_X6_step (g0 := σ 217) hx (E := zsk (σ 223) (σ 217 6) (σ 217 6 - σ 217 10).toNat (σ 217 10)) (fun g h1 h2 => ?_) (σ 217 6 - σ 217 10).toNat (σ 217) (by omega) hi.1 rfl (fun i _ => rfl) rfl
  refine zw_aload_n 39 dX6_step_38 rfl rfl ?_
  refine zw_aload_n 40 dX6_step_39 rfl rfl ?_
  refine zw_gti 43 10 dX6_step_40 rfl fX6_112 (by decide) rfl rfl ly217 ?_
  try simp (disch := decide) only [zwr_wa, zwa_same, zup_same, zup_ne, zwa_ne]
  refine zw_pti 46 11 dX6_step_43 rfl pX6_123 (by decide) rfl rfl ly217 ?_
  try simp (disch := decide) only [zwr_wa, zwa_same, zup_same, zup_ne, zwa_ne]
  refine zw_aload_n 47 dX6_step_46 rfl rfl ?_
  refine zw_iconst 48 dX6_step_47 rfl ?_
  refine zw_pti 51 13 dX6_step_48 rfl pX6_126 (by decide) rfl rfl ly217 ?_
  try simp (disch := decide) only [zwr_wa, zwa_same, zup_same, zup_ne, zwa_ne]
  refine zw_aload_n 52 dX6_step_51 rfl rfl ?_
  refine zw_iconst 53 dX6_step_52 rfl ?_
  refine zw_pti 56 14 dX6_step_53 rfl pX6_129 (by decide) rfl rfl ly217 ?_
  try simp (disch := decide) only [zwr_wa, zwa_same, zup_same, zup_ne, zwa_ne]
  refine lpT_X6_step (by omega) hx rfl (by omega) rfl (fun i hi => ?_) ?_ ?_ ?_ ?_
  · rw [zup_ne _ _ (by omega), zup_ne _ _ (by omega), zup_ne _ _ (by omega)]; exact h1 i (by omega)
  · rw [zup_ne _ _ (by omega), zup_ne _ _ (by omega), zup_ne _ _ (by omega)]; exact h2
  · rw [zup_ne _ _ (by omega), zup_ne _ _ (by omega), zup_same]; exact h2
  · rw [zup_ne _ _ (by omega), zup_same]
  · rw [zup_same]
/-- the token at i: where it begins, ends, its kind, its value, its letters, how many, its seventh -/
def zTb (tx : zR) (n i : Int) : Int := zsk tx n (n - i).toNat i
def zTw (tx : zR) (n i : Int) : Int := zwe tx n (n - zTb tx n i).toNat (zTb tx n i)
def zTg (tx : zR) (n i : Int) : Int := zge tx n (n - zTb tx n i).toNat (zTb tx n i)
def zTk (tx : zR) (n i : Int) : Int := if zTb tx n i = n then 0 else if zil tx n (zTb tx n i) = 1 then 1 else if zig tx n (zTb tx n i) = 1 then (if 2 < zTg tx n i - zTb tx n i then 4 else 2) else if tx (zTb tx n i) = 59 then 3 else 4
def zTe (tx : zR) (n i : Int) : Int := if zTb tx n i = n then n else if zil tx n (zTb tx n i) = 1 then zTw tx n i else if zig tx n (zTb tx n i) = 1 then zTg tx n i else zTb tx n i + 1
def zTv (tx : zR) (n i : Int) : Int := zvl tx (zTb tx n i) (zTg tx n i - zTb tx n i).toNat
def zTl (tx : zR) (n i : Int) : Int := zlt tx (zTb tx n i) (min (zTw tx n i - zTb tx n i).toNat 6)
def zTm (tx : zR) (n i : Int) : Int := zTw tx n i - zTb tx n i
def zTs (tx : zR) (n i : Int) : Int := tx (zTb tx n i + 6)
/-- the reader's row after the token at i -/
def zTo (tx : zR) (n : Int) (i : Int) (g0 g : zR) : Prop := (∀ j, j < 10 ∨ 17 < j → g j = g0 j) ∧ g 10 = zTe tx n i ∧ g 11 = zTb tx n i ∧ g 12 = zTk tx n i ∧ (zTk tx n i = 2 → g 14 = zTv tx n i ∧ 0 ≤ g 14 ∧ g 14 ≤ 999) ∧ (zTk tx n i = 1 → g 13 = zTl tx n i ∧ g 17 = zTm tx n i ∧ (7 ≤ zTm tx n i → g 16 = zTs tx n i) ∧ 0 ≤ g 17) ∧ (0 ≤ g 11 ∧ g 11 ≤ g 10 ∧ g 10 ≤ n)
theorem zTk_b (tx : zR) (n i : Int) : 0 ≤ zTk tx n i ∧ zTk tx n i ≤ 4 := by
  unfold zTk; split
  · omega
  · split
    · omega
    · split
      · split <;> omega
      · split <;> omega
theorem zSu_o {tx g0 g : zR} {n : Int} (h : zSu tx g0 n g) : zTo tx n (g0 10) g0 g := by
  obtain ⟨b, hb, h1, h2, h3, h4, h5, h6, h7⟩ := h
  have hb' : zTb tx n (g0 10) = b := hb.symm
  unfold zTo zTk zTe zTv zTl zTm zTs zTw zTg
  rw [hb']
  refine ⟨h1, ?_, h2, ?_, ?_, ?_, by omega⟩
  · rcases h7 with ⟨a1, a2, a3⟩ | ⟨a1, a2, a3, kk, a4, a5, a6, a7, a8⟩ | ⟨a1, a2, a3, kk, a4, a5, a6, a7, a8⟩ | ⟨a1, a2, a3, a4, a5⟩
    · rw [if_pos a1]; exact a2
    · rw [if_neg (show ¬ b = n by omega), if_pos a2]; omega
    · rw [if_neg (show ¬ b = n by omega), if_neg (show ¬ zil tx n b = 1 by omega), if_pos a3]; omega
    · rw [if_neg (show ¬ b = n by omega), if_neg (show ¬ zil tx n b = 1 by omega), if_neg (show ¬ zig tx n b = 1 by omega)]; exact a4
  · rcases h7 with ⟨a1, a2, a3⟩ | ⟨a1, a2, a3, kk, a4, a5, a6, a7, a8⟩ | ⟨a1, a2, a3, kk, a4, a5, a6, a7, a8⟩ | ⟨a1, a2, a3, a4, a5⟩
    · rw [if_pos a1]; exact a3
    · rw [if_neg (show ¬ b = n by omega), if_pos a2]; exact a3
    · rw [if_neg (show ¬ b = n by omega), if_neg (show ¬ zil tx n b = 1 by omega), if_pos a3, a8, ← a7]
      by_cases q : 2 < (kk : Int)
      · rw [if_pos q, if_pos (by omega)]
      · rw [if_neg q, if_neg (by omega)]
    · rw [if_neg (show ¬ b = n by omega), if_neg (show ¬ zil tx n b = 1 by omega), if_neg (show ¬ zig tx n b = 1 by omega)]; exact a5
  · rcases h7 with ⟨a1, a2, a3⟩ | ⟨a1, a2, a3, kk, a4, a5, a6, a7, a8⟩ | ⟨a1, a2, a3, kk, a4, a5, a6, a7, a8⟩ | ⟨a1, a2, a3, a4, a5⟩
    · rw [if_pos a1]; intro q; omega
    · rw [if_neg (show ¬ b = n by omega), if_pos a2]; intro q; omega
    · intro _; rw [← a7, show (b + (kk : Int) - b).toNat = kk by omega]; exact ⟨a5, a6⟩
    · rw [if_neg (show ¬ b = n by omega), if_neg (show ¬ zil tx n b = 1 by omega), if_neg (show ¬ zig tx n b = 1 by omega)]
      intro q; split at q <;> omega
  · rcases h7 with ⟨a1, a2, a3⟩ | ⟨a1, a2, a3, kk, a4, a5, a6, a7, a8⟩ | ⟨a1, a2, a3, kk, a4, a5, a6, a7, a8⟩ | ⟨a1, a2, a3, a4, a5⟩
    · rw [if_pos a1]; intro q; omega
    · intro _; rw [← a8, show (b + (kk : Int) - b).toNat = kk by omega]
      exact ⟨a5, by omega, fun q => a6 (by omega), by omega⟩
    · rw [if_neg (show ¬ b = n by omega), if_neg (show ¬ zil tx n b = 1 by omega), if_pos a3]
      intro q; split at q <;> omega
    · rw [if_neg (show ¬ b = n by omega), if_neg (show ¬ zil tx n b = 1 by omega), if_neg (show ¬ zig tx n b = 1 by omega)]
      intro q; split at q <;> omega
