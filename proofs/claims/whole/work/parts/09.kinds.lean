theorem sp_X5_given {l : Launch} {d : Nat} {σ : zMem} (hd : 1 ≤ d) {k dd y h : Int} (hk : -2147483648 ≤ k ∧ k < 2147483648) (hdd : 0 ≤ dd ∧ dd < 1000000) (hy : 0 ≤ y ∧ y < 1000000) (hh : 0 ≤ h ∧ h < 1000000) : zSp l d mX5_given [.int (zI k), .int (zI dd), .int (zI y), .int (zI h)] σ (zRi (zgv k dd h y) σ) := by
  refine zSp_of oX5_given (Nat.le_of_ble_eq_true rfl) ?_
  show zw l d mX5_given 0 [some (.int (zI k)), some (.int (zI dd)), some (.int (zI y)), some (.int (zI h)), none, none] [] σ _
  refine zw_iload_n 1 dX5_given_0 rfl rfl ?_
  refine zw_iconst 2 dX5_given_1 rfl ?_
  refine zw_idiv 3 dX5_given_2 rfl (by omega) (by decide) ?_
  refine zw_istore 5 dX5_given_3 rfl (by decide) ?_
  refine zw_iconst 6 dX5_given_5 rfl ?_
  refine zw_iload 8 dX5_given_6 rfl rfl ?_
  refine zw_imul 9 dX5_given_8 rfl ?_
  refine zw_istore 11 dX5_given_9 rfl (by decide) ?_
  refine zw_iload_n 12 dX5_given_11 rfl rfl ?_
  refine zw_sw 79 dX5_given_12 (by decide) (by omega) (fun h12 => ?_) (fun vh12 lh12 uh12 h12 => ?_)
  · refine zw_iload 81 dX5_given_79 rfl rfl ?_
    refine zw_iret dX5_given_81 rfl ?_
    exact zRi_of (by simp only [zgv]; omega)
  · obtain rfl | rfl | rfl | rfl : vh12 = 2 ∨ vh12 = 3 ∨ vh12 = 4 ∨ vh12 = 5 := by omega
    · refine ⟨44, _, rfl, by decide, ?_⟩
      refine zw_iload 46 dX5_given_44 rfl rfl ?_
      refine zw_iret dX5_given_46 rfl ?_
      exact zRi_of (by simp only [zgv]; omega)
    · refine ⟨47, _, rfl, by decide, ?_⟩
      refine zw_iload 49 dX5_given_47 rfl rfl ?_
      refine zw_iconst 50 dX5_given_49 rfl ?_
      refine zw_isub 51 dX5_given_50 rfl ?_
      refine zw_iconst 52 dX5_given_51 rfl ?_
      refine zw_mmax 55 dX5_given_52 rfl xX5_246 (by omega) (by omega) rfl (by omega) ?_
      refine zw_iret dX5_given_55 rfl ?_
      exact zRi_of (by simp only [zgv]; omega)
    · refine ⟨56, _, rfl, by decide, ?_⟩
      refine zw_iload_n 57 dX5_given_56 rfl rfl ?_
      refine zw_iconst 58 dX5_given_57 rfl ?_
      refine zw_irem 59 dX5_given_58 rfl (by omega) (by decide) ?_
      refine zw_if_ne 67 62 dX5_given_59 (by decide) rfl (by omega) (fun h59 => ?_) (fun h59 => ?_)
      · refine zw_iload 69 dX5_given_67 rfl rfl ?_
        refine zw_iconst 70 dX5_given_69 rfl ?_
        refine zw_idiv 71 dX5_given_70 rfl (by omega) (by decide) ?_
        refine zw_iret dX5_given_71 rfl ?_
        exact zRi_of (by simp only [zgv]; omega)
      · refine zw_iload 64 dX5_given_62 rfl rfl ?_
        refine zw_goto 71 dX5_given_64 (by decide) ?_
        refine zw_iret dX5_given_71 rfl ?_
        exact zRi_of (by simp only [zgv]; omega)
    · refine ⟨72, _, rfl, by decide, ?_⟩
      refine zw_iload 74 dX5_given_72 rfl rfl ?_
      refine zw_iload_n 75 dX5_given_74 rfl rfl ?_
      refine zw_iconst 76 dX5_given_75 rfl ?_
      refine zw_idiv 77 dX5_given_76 rfl (by omega) (by decide) ?_
      refine zw_iadd 78 dX5_given_77 rfl ?_
      refine zw_iret dX5_given_78 rfl ?_
      exact zRi_of (by simp only [zgv]; omega)
theorem sp_X6_gives {l : Launch} {d : Nat} {σ : zMem} (hd : 1 ≤ d) {k dd y h : Int} (hk : -2147483648 ≤ k ∧ k < 2147483648) (hdd : 0 ≤ dd ∧ dd < 1000000) (hy : 0 ≤ y ∧ y < 1000000) (hh : 0 ≤ h ∧ h < 1000000) : zSp l d mX6_gives [.int (zI k), .int (zI dd), .int (zI h), .int (zI y)] σ (zRi (zgv k dd h y) σ) := by
  refine zSp_of oX6_gives (Nat.le_of_ble_eq_true rfl) ?_
  show zw l d mX6_gives 0 [some (.int (zI k)), some (.int (zI dd)), some (.int (zI h)), some (.int (zI y)), none] [] σ _
  refine zw_iload_n 1 dX6_gives_0 rfl rfl ?_
  refine zw_iconst 2 dX6_gives_1 rfl ?_
  refine zw_idiv 3 dX6_gives_2 rfl (by omega) (by decide) ?_
  refine zw_istore 5 dX6_gives_3 rfl (by decide) ?_
  refine zw_iload_n 6 dX6_gives_5 rfl rfl ?_
  refine zw_sw 79 dX6_gives_6 (by decide) (by omega) (fun h6 => ?_) (fun vh6 lh6 uh6 h6 => ?_)
  · refine zw_iload 81 dX6_gives_79 rfl rfl ?_
    refine zw_iret dX6_gives_81 rfl ?_
    exact zRi_of (by simp only [zgv]; omega)
  · obtain rfl | rfl | rfl | rfl : vh6 = 2 ∨ vh6 = 3 ∨ vh6 = 4 ∨ vh6 = 5 := by omega
    · refine ⟨36, _, rfl, by decide, ?_⟩
      refine zw_iconst 37 dX6_gives_36 rfl ?_
      refine zw_iload 39 dX6_gives_37 rfl rfl ?_
      refine zw_imul 40 dX6_gives_39 rfl ?_
      refine zw_iret dX6_gives_40 rfl ?_
      exact zRi_of (by simp only [zgv]; omega)
    · refine ⟨41, _, rfl, by decide, ?_⟩
      refine zw_iload 43 dX6_gives_41 rfl rfl ?_
      refine zw_iconst 44 dX6_gives_43 rfl ?_
      refine zw_icmp_ge 51 47 dX6_gives_44 (by decide) rfl (by omega) (by omega) (fun h44 => ?_) (fun h44 => ?_)
      · refine zw_iload 53 dX6_gives_51 rfl rfl ?_
        refine zw_iconst 54 dX6_gives_53 rfl ?_
        refine zw_isub 55 dX6_gives_54 rfl ?_
        refine zw_iret dX6_gives_55 rfl ?_
        exact zRi_of (by simp only [zgv]; omega)
      · refine zw_iconst 48 dX6_gives_47 rfl ?_
        refine zw_goto 55 dX6_gives_48 (by decide) ?_
        refine zw_iret dX6_gives_55 rfl ?_
        exact zRi_of (by simp only [zgv]; omega)
    · refine ⟨56, _, rfl, by decide, ?_⟩
      refine zw_iload_n 57 dX6_gives_56 rfl rfl ?_
      refine zw_iconst 58 dX6_gives_57 rfl ?_
      refine zw_irem 59 dX6_gives_58 rfl (by omega) (by decide) ?_
      refine zw_if_ne 69 62 dX6_gives_59 (by decide) rfl (by omega) (fun h59 => ?_) (fun h59 => ?_)
      · refine zw_iload 71 dX6_gives_69 rfl rfl ?_
        refine zw_iret dX6_gives_71 rfl ?_
        exact zRi_of (by simp only [zgv]; omega)
      · refine zw_iconst 63 dX6_gives_62 rfl ?_
        refine zw_iload 65 dX6_gives_63 rfl rfl ?_
        refine zw_imul 66 dX6_gives_65 rfl ?_
        refine zw_goto 71 dX6_gives_66 (by decide) ?_
        refine zw_iret dX6_gives_71 rfl ?_
        exact zRi_of (by simp only [zgv]; omega)
    · refine ⟨72, _, rfl, by decide, ?_⟩
      refine zw_iload 74 dX6_gives_72 rfl rfl ?_
      refine zw_iload_n 75 dX6_gives_74 rfl rfl ?_
      refine zw_iconst 76 dX6_gives_75 rfl ?_
      refine zw_idiv 77 dX6_gives_76 rfl (by omega) (by decide) ?_
      refine zw_iadd 78 dX6_gives_77 rfl ?_
      refine zw_iret dX6_gives_78 rfl ?_
      exact zRi_of (by simp only [zgv]; omega)
theorem sp_X5_worn {l : Launch} {d : Nat} {σ : zMem} {k w : Int} (hk : -2147483648 ≤ k ∧ k < 2147483648) (hw : 0 ≤ w ∧ w < 1000000) : zSp l d mX5_worn [.int (zI k), .int (zI w)] σ (zRi (zwn k w) σ) := by
  refine zSp_of oX5_worn (Nat.le_of_ble_eq_true rfl) ?_
  show zw l d mX5_worn 0 [some (.int (zI k)), some (.int (zI w)), none] [] σ _
  refine zw_iload_n 1 dX5_worn_0 rfl rfl ?_
  refine zw_iconst 2 dX5_worn_1 rfl ?_
  refine zw_idiv 3 dX5_worn_2 rfl (by omega) (by decide) ?_
  refine zw_istore_n 4 dX5_worn_3 rfl (by decide) ?_
  refine zw_iload_n 5 dX5_worn_4 rfl rfl ?_
  refine zw_sw 50 dX5_worn_5 (by decide) (by omega) (fun h5 => ?_) (fun vh5 lh5 uh5 h5 => ?_)
  · refine zw_iload_n 51 dX5_worn_50 rfl rfl ?_
    refine zw_iret dX5_worn_51 rfl ?_
    exact zRi_of (by simp only [zwn]; omega)
  · obtain rfl | rfl | rfl | rfl | rfl : vh5 = 1 ∨ vh5 = 2 ∨ vh5 = 3 ∨ vh5 = 4 ∨ vh5 = 5 := by omega
    · refine ⟨40, _, rfl, by decide, ?_⟩
      refine zw_iload_n 41 dX5_worn_40 rfl rfl ?_
      refine zw_iconst 42 dX5_worn_41 rfl ?_
      refine zw_idiv 43 dX5_worn_42 rfl (by omega) (by decide) ?_
      refine zw_iret dX5_worn_43 rfl ?_
      exact zRi_of (by simp only [zwn]; omega)
    · refine ⟨50, _, rfl, by decide, ?_⟩
      refine zw_iload_n 51 dX5_worn_50 rfl rfl ?_
      refine zw_iret dX5_worn_51 rfl ?_
      exact zRi_of (by simp only [zwn]; omega)
    · refine ⟨44, _, rfl, by decide, ?_⟩
      refine zw_iload_n 45 dX5_worn_44 rfl rfl ?_
      refine zw_iconst 46 dX5_worn_45 rfl ?_
      refine zw_iadd 47 dX5_worn_46 rfl ?_
      refine zw_iret dX5_worn_47 rfl ?_
      exact zRi_of (by simp only [zwn]; omega)
    · refine ⟨44, _, rfl, by decide, ?_⟩
      refine zw_iload_n 45 dX5_worn_44 rfl rfl ?_
      refine zw_iconst 46 dX5_worn_45 rfl ?_
      refine zw_iadd 47 dX5_worn_46 rfl ?_
      refine zw_iret dX5_worn_47 rfl ?_
      exact zRi_of (by simp only [zwn]; omega)
    · refine ⟨48, _, rfl, by decide, ?_⟩
      refine zw_iconst 49 dX5_worn_48 rfl ?_
      refine zw_iret dX5_worn_49 rfl ?_
      exact zRi_of (by simp only [zwn]; omega)
theorem sp_X6_worn {l : Launch} {d : Nat} {σ : zMem} {k w : Int} (hk : -2147483648 ≤ k ∧ k < 2147483648) (hw : 0 ≤ w ∧ w < 1000000) : zSp l d mX6_worn [.int (zI k), .int (zI w)] σ (zRi (zwn k w) σ) := by
  refine zSp_of oX6_worn (Nat.le_of_ble_eq_true rfl) ?_
  show zw l d mX6_worn 0 [some (.int (zI k)), some (.int (zI w)), none] [] σ _
  refine zw_iload_n 1 dX6_worn_0 rfl rfl ?_
  refine zw_iconst 2 dX6_worn_1 rfl ?_
  refine zw_idiv 3 dX6_worn_2 rfl (by omega) (by decide) ?_
  refine zw_istore_n 4 dX6_worn_3 rfl (by decide) ?_
  refine zw_iload_n 5 dX6_worn_4 rfl rfl ?_
  refine zw_sw 50 dX6_worn_5 (by decide) (by omega) (fun h5 => ?_) (fun vh5 lh5 uh5 h5 => ?_)
  · refine zw_iload_n 51 dX6_worn_50 rfl rfl ?_
    refine zw_iret dX6_worn_51 rfl ?_
    exact zRi_of (by simp only [zwn]; omega)
  · obtain rfl | rfl | rfl | rfl | rfl : vh5 = 1 ∨ vh5 = 2 ∨ vh5 = 3 ∨ vh5 = 4 ∨ vh5 = 5 := by omega
    · refine ⟨40, _, rfl, by decide, ?_⟩
      refine zw_iload_n 41 dX6_worn_40 rfl rfl ?_
      refine zw_iconst 42 dX6_worn_41 rfl ?_
      refine zw_idiv 43 dX6_worn_42 rfl (by omega) (by decide) ?_
      refine zw_iret dX6_worn_43 rfl ?_
      exact zRi_of (by simp only [zwn]; omega)
    · refine ⟨50, _, rfl, by decide, ?_⟩
      refine zw_iload_n 51 dX6_worn_50 rfl rfl ?_
      refine zw_iret dX6_worn_51 rfl ?_
      exact zRi_of (by simp only [zwn]; omega)
    · refine ⟨44, _, rfl, by decide, ?_⟩
      refine zw_iload_n 45 dX6_worn_44 rfl rfl ?_
      refine zw_iconst 46 dX6_worn_45 rfl ?_
      refine zw_iadd 47 dX6_worn_46 rfl ?_
      refine zw_iret dX6_worn_47 rfl ?_
      exact zRi_of (by simp only [zwn]; omega)
    · refine ⟨44, _, rfl, by decide, ?_⟩
      refine zw_iload_n 45 dX6_worn_44 rfl rfl ?_
      refine zw_iconst 46 dX6_worn_45 rfl ?_
      refine zw_iadd 47 dX6_worn_46 rfl ?_
      refine zw_iret dX6_worn_47 rfl ?_
      exact zRi_of (by simp only [zwn]; omega)
    · refine ⟨48, _, rfl, by decide, ?_⟩
      refine zw_iconst 49 dX6_worn_48 rfl ?_
      refine zw_iret dX6_worn_49 rfl ?_
      exact zRi_of (by simp only [zwn]; omega)
theorem sp_X5_heavy {l : Launch} {d : Nat} {σ : zMem} {k w : Int} (hk : -2147483648 ≤ k ∧ k < 2147483648) (hw : 0 ≤ w ∧ w < 1000000) : zSp l d mX5_heavy [.int (zI k), .int (zI w)] σ (zRi (zhv k w) σ) := by
  refine zSp_of oX5_heavy (Nat.le_of_ble_eq_true rfl) ?_
  show zw l d mX5_heavy 0 [some (.int (zI k)), some (.int (zI w))] [] σ _
  refine zw_iload_n 1 dX5_heavy_0 rfl rfl ?_
  refine zw_sw 46 dX5_heavy_1 (by decide) (by omega) (fun h1 => ?_) (fun vh1 lh1 uh1 h1 => ?_)
  · refine zw_iload_n 47 dX5_heavy_46 rfl rfl ?_
    refine zw_iret dX5_heavy_47 rfl ?_
    exact zRi_of (by simp only [zhv]; omega)
  · obtain rfl | rfl | rfl | rfl : vh1 = 2 ∨ vh1 = 3 ∨ vh1 = 4 ∨ vh1 = 5 := by omega
    · refine ⟨32, _, rfl, by decide, ?_⟩
      refine zw_iload_n 33 dX5_heavy_32 rfl rfl ?_
      refine zw_iconst 34 dX5_heavy_33 rfl ?_
      refine zw_iadd 35 dX5_heavy_34 rfl ?_
      refine zw_iconst 36 dX5_heavy_35 rfl ?_
      refine zw_idiv 37 dX5_heavy_36 rfl (by omega) (by decide) ?_
      refine zw_iret dX5_heavy_37 rfl ?_
      exact zRi_of (by simp only [zhv]; omega)
    · refine ⟨38, _, rfl, by decide, ?_⟩
      refine zw_iconst 39 dX5_heavy_38 rfl ?_
      refine zw_iload_n 40 dX5_heavy_39 rfl rfl ?_
      refine zw_imul 41 dX5_heavy_40 rfl ?_
      refine zw_iret dX5_heavy_41 rfl ?_
      exact zRi_of (by simp only [zhv]; omega)
    · refine ⟨32, _, rfl, by decide, ?_⟩
      refine zw_iload_n 33 dX5_heavy_32 rfl rfl ?_
      refine zw_iconst 34 dX5_heavy_33 rfl ?_
      refine zw_iadd 35 dX5_heavy_34 rfl ?_
      refine zw_iconst 36 dX5_heavy_35 rfl ?_
      refine zw_idiv 37 dX5_heavy_36 rfl (by omega) (by decide) ?_
      refine zw_iret dX5_heavy_37 rfl ?_
      exact zRi_of (by simp only [zhv]; omega)
    · refine ⟨42, _, rfl, by decide, ?_⟩
      refine zw_iload_n 43 dX5_heavy_42 rfl rfl ?_
      refine zw_iconst 44 dX5_heavy_43 rfl ?_
      refine zw_iadd 45 dX5_heavy_44 rfl ?_
      refine zw_iret dX5_heavy_45 rfl ?_
      exact zRi_of (by simp only [zhv]; omega)
theorem sp_X6_heavy {l : Launch} {d : Nat} {σ : zMem} {k w : Int} (hk : -2147483648 ≤ k ∧ k < 2147483648) (hw : 0 ≤ w ∧ w < 1000000) : zSp l d mX6_heavy [.int (zI k), .int (zI w)] σ (zRi (zhv k w) σ) := by
  refine zSp_of oX6_heavy (Nat.le_of_ble_eq_true rfl) ?_
  show zw l d mX6_heavy 0 [some (.int (zI k)), some (.int (zI w))] [] σ _
  refine zw_iload_n 1 dX6_heavy_0 rfl rfl ?_
  refine zw_sw 46 dX6_heavy_1 (by decide) (by omega) (fun h1 => ?_) (fun vh1 lh1 uh1 h1 => ?_)
  · refine zw_iload_n 47 dX6_heavy_46 rfl rfl ?_
    refine zw_iret dX6_heavy_47 rfl ?_
    exact zRi_of (by simp only [zhv]; omega)
  · obtain rfl | rfl | rfl | rfl : vh1 = 2 ∨ vh1 = 3 ∨ vh1 = 4 ∨ vh1 = 5 := by omega
    · refine ⟨32, _, rfl, by decide, ?_⟩
      refine zw_iload_n 33 dX6_heavy_32 rfl rfl ?_
      refine zw_iconst 34 dX6_heavy_33 rfl ?_
      refine zw_iadd 35 dX6_heavy_34 rfl ?_
      refine zw_iconst 36 dX6_heavy_35 rfl ?_
      refine zw_idiv 37 dX6_heavy_36 rfl (by omega) (by decide) ?_
      refine zw_iret dX6_heavy_37 rfl ?_
      exact zRi_of (by simp only [zhv]; omega)
    · refine ⟨38, _, rfl, by decide, ?_⟩
      refine zw_iconst 39 dX6_heavy_38 rfl ?_
      refine zw_iload_n 40 dX6_heavy_39 rfl rfl ?_
      refine zw_imul 41 dX6_heavy_40 rfl ?_
      refine zw_iret dX6_heavy_41 rfl ?_
      exact zRi_of (by simp only [zhv]; omega)
    · refine ⟨32, _, rfl, by decide, ?_⟩
      refine zw_iload_n 33 dX6_heavy_32 rfl rfl ?_
      refine zw_iconst 34 dX6_heavy_33 rfl ?_
      refine zw_iadd 35 dX6_heavy_34 rfl ?_
      refine zw_iconst 36 dX6_heavy_35 rfl ?_
      refine zw_idiv 37 dX6_heavy_36 rfl (by omega) (by decide) ?_
      refine zw_iret dX6_heavy_37 rfl ?_
      exact zRi_of (by simp only [zhv]; omega)
    · refine ⟨42, _, rfl, by decide, ?_⟩
      refine zw_iload_n 43 dX6_heavy_42 rfl rfl ?_
      refine zw_iconst 44 dX6_heavy_43 rfl ?_
      refine zw_iadd 45 dX6_heavy_44 rfl ?_
      refine zw_iret dX6_heavy_45 rfl ?_
      exact zRi_of (by simp only [zhv]; omega)
theorem sp_X5_accepted {l : Launch} {d : Nat} {σ : zMem} {k g h : Int} (hk : -2147483648 ≤ k ∧ k < 2147483648) (hg : 0 ≤ g ∧ g < 1000000) (hh : 0 ≤ h ∧ h < 1000000) : zSp l d mX5_accepted [.int (zI k), .int (zI g), .int (zI h)] σ (zRi (zac k g h) σ) := by
  refine zSp_of oX5_accepted (Nat.le_of_ble_eq_true rfl) ?_
  show zw l d mX5_accepted 0 [some (.int (zI k)), some (.int (zI g)), some (.int (zI h)), none, none] [] σ _
  refine zw_iload_n 1 dX5_accepted_0 rfl rfl ?_
  refine zw_iconst 2 dX5_accepted_1 rfl ?_
  refine zw_idiv 3 dX5_accepted_2 rfl (by omega) (by decide) ?_
  refine zw_istore_n 4 dX5_accepted_3 rfl (by decide) ?_
  refine zw_iload_n 5 dX5_accepted_4 rfl rfl ?_
  refine zw_iconst 6 dX5_accepted_5 rfl ?_
  refine zw_icmp_lt 15 9 dX5_accepted_6 (by decide) rfl (by omega) (by omega) (fun h6 => ?_) (fun h6 => ?_)
  · refine zw_iload_n 16 dX5_accepted_15 rfl rfl ?_
    refine zw_istore 18 dX5_accepted_16 rfl (by decide) ?_
    refine zw_iload_n 19 dX5_accepted_18 rfl rfl ?_
    refine zw_sw 82 dX5_accepted_19 (by decide) (by omega) (fun h19 => ?_) (fun vh19 lh19 uh19 h19 => ?_)
    · refine zw_iload_n 83 dX5_accepted_82 rfl rfl ?_
      refine zw_iret dX5_accepted_83 rfl ?_
      exact zRi_of (by simp only [zac]; omega)
    · obtain rfl | rfl | rfl | rfl | rfl : vh19 = 1 ∨ vh19 = 2 ∨ vh19 = 3 ∨ vh19 = 4 ∨ vh19 = 5 := by omega
      · refine ⟨52, _, rfl, by decide, ?_⟩
        refine zw_iload_n 53 dX5_accepted_52 rfl rfl ?_
        refine zw_iret dX5_accepted_53 rfl ?_
        exact zRi_of (by simp only [zac]; omega)
      · refine ⟨54, _, rfl, by decide, ?_⟩
        refine zw_iload 56 dX5_accepted_54 rfl rfl ?_
        refine zw_iret dX5_accepted_56 rfl ?_
        exact zRi_of (by simp only [zac]; omega)
      · refine ⟨57, _, rfl, by decide, ?_⟩
        refine zw_iconst 58 dX5_accepted_57 rfl ?_
        refine zw_iret dX5_accepted_58 rfl ?_
        exact zRi_of (by simp only [zac]; omega)
      · refine ⟨59, _, rfl, by decide, ?_⟩
        refine zw_iload_n 60 dX5_accepted_59 rfl rfl ?_
        refine zw_bipush 62 dX5_accepted_60 rfl (by decide) ?_
        refine zw_icmp_lt 69 65 dX5_accepted_62 (by decide) rfl (by omega) (by omega) (fun h62 => ?_) (fun h62 => ?_)
        · refine zw_iload 71 dX5_accepted_69 rfl rfl ?_
          refine zw_iret dX5_accepted_71 rfl ?_
          exact zRi_of (by simp only [zac]; omega)
        · refine zw_iconst 66 dX5_accepted_65 rfl ?_
          refine zw_goto 71 dX5_accepted_66 (by decide) ?_
          refine zw_iret dX5_accepted_71 rfl ?_
          exact zRi_of (by simp only [zac]; omega)
      · refine ⟨72, _, rfl, by decide, ?_⟩
        refine zw_iload_n 73 dX5_accepted_72 rfl rfl ?_
        refine zw_if_ne 80 76 dX5_accepted_73 (by decide) rfl (by omega) (fun h73 => ?_) (fun h73 => ?_)
        · refine zw_iload_n 81 dX5_accepted_80 rfl rfl ?_
          refine zw_iret dX5_accepted_81 rfl ?_
          exact zRi_of (by simp only [zac]; omega)
        · refine zw_iload_n 77 dX5_accepted_76 rfl rfl ?_
          refine zw_goto 81 dX5_accepted_77 (by decide) ?_
          refine zw_iret dX5_accepted_81 rfl ?_
          exact zRi_of (by simp only [zac]; omega)
  · refine zw_iload_n 10 dX5_accepted_9 rfl rfl ?_
    refine zw_iconst 11 dX5_accepted_10 rfl ?_
    refine zw_iadd 12 dX5_accepted_11 rfl ?_
    refine zw_goto 16 dX5_accepted_12 (by decide) ?_
    refine zw_istore 18 dX5_accepted_16 rfl (by decide) ?_
    refine zw_iload_n 19 dX5_accepted_18 rfl rfl ?_
    refine zw_sw 82 dX5_accepted_19 (by decide) (by omega) (fun h19 => ?_) (fun vh19 lh19 uh19 h19 => ?_)
    · refine zw_iload_n 83 dX5_accepted_82 rfl rfl ?_
      refine zw_iret dX5_accepted_83 rfl ?_
      exact zRi_of (by simp only [zac]; omega)
    · obtain rfl | rfl | rfl | rfl | rfl : vh19 = 1 ∨ vh19 = 2 ∨ vh19 = 3 ∨ vh19 = 4 ∨ vh19 = 5 := by omega
      · refine ⟨52, _, rfl, by decide, ?_⟩
        refine zw_iload_n 53 dX5_accepted_52 rfl rfl ?_
        refine zw_iret dX5_accepted_53 rfl ?_
        exact zRi_of (by simp only [zac]; omega)
      · refine ⟨54, _, rfl, by decide, ?_⟩
        refine zw_iload 56 dX5_accepted_54 rfl rfl ?_
        refine zw_iret dX5_accepted_56 rfl ?_
        exact zRi_of (by simp only [zac]; omega)
      · refine ⟨57, _, rfl, by decide, ?_⟩
        refine zw_iconst 58 dX5_accepted_57 rfl ?_
        refine zw_iret dX5_accepted_58 rfl ?_
        exact zRi_of (by simp only [zac]; omega)
      · refine ⟨59, _, rfl, by decide, ?_⟩
        refine zw_iload_n 60 dX5_accepted_59 rfl rfl ?_
        refine zw_bipush 62 dX5_accepted_60 rfl (by decide) ?_
        refine zw_icmp_lt 69 65 dX5_accepted_62 (by decide) rfl (by omega) (by omega) (fun h62 => ?_) (fun h62 => ?_)
        · refine zw_iload 71 dX5_accepted_69 rfl rfl ?_
          refine zw_iret dX5_accepted_71 rfl ?_
          exact zRi_of (by simp only [zac]; omega)
        · refine zw_iconst 66 dX5_accepted_65 rfl ?_
          refine zw_goto 71 dX5_accepted_66 (by decide) ?_
          refine zw_iret dX5_accepted_71 rfl ?_
          exact zRi_of (by simp only [zac]; omega)
      · refine ⟨72, _, rfl, by decide, ?_⟩
        refine zw_iload_n 73 dX5_accepted_72 rfl rfl ?_
        refine zw_if_ne 80 76 dX5_accepted_73 (by decide) rfl (by omega) (fun h73 => ?_) (fun h73 => ?_)
        · refine zw_iload_n 81 dX5_accepted_80 rfl rfl ?_
          refine zw_iret dX5_accepted_81 rfl ?_
          exact zRi_of (by simp only [zac]; omega)
        · refine zw_iload_n 77 dX5_accepted_76 rfl rfl ?_
          refine zw_goto 81 dX5_accepted_77 (by decide) ?_
          refine zw_iret dX5_accepted_81 rfl ?_
          exact zRi_of (by simp only [zac]; omega)
theorem sp_X6_takesOf {l : Launch} {d : Nat} {σ : zMem} {k g h : Int} (hk : -2147483648 ≤ k ∧ k < 2147483648) (hg : 0 ≤ g ∧ g < 1000000) (hh : 0 ≤ h ∧ h < 1000000) : zSp l d mX6_takesOf [.int (zI k), .int (zI g), .int (zI h)] σ (zRi (zac k g h) σ) := by
  refine zSp_of oX6_takesOf (Nat.le_of_ble_eq_true rfl) ?_
  show zw l d mX6_takesOf 0 [some (.int (zI k)), some (.int (zI g)), some (.int (zI h)), none] [] σ _
  refine zw_iload_n 1 dX6_takesOf_0 rfl rfl ?_
  refine zw_if_le 10 4 dX6_takesOf_1 (by decide) rfl (by omega) (fun h1 => ?_) (fun h1 => ?_)
  · refine zw_iload_n 11 dX6_takesOf_10 rfl rfl ?_
    refine zw_istore_n 12 dX6_takesOf_11 rfl (by decide) ?_
    refine zw_iload_n 13 dX6_takesOf_12 rfl rfl ?_
    refine zw_sw 80 dX6_takesOf_13 (by decide) (by omega) (fun h13 => ?_) (fun vh13 lh13 uh13 h13 => ?_)
    · refine zw_iload_n 81 dX6_takesOf_80 rfl rfl ?_
      refine zw_iret dX6_takesOf_81 rfl ?_
      exact zRi_of (by simp only [zac]; omega)
    · obtain rfl | rfl | rfl | rfl | rfl : vh13 = 1 ∨ vh13 = 2 ∨ vh13 = 3 ∨ vh13 = 4 ∨ vh13 = 5 := by omega
      · refine ⟨48, _, rfl, by decide, ?_⟩
        refine zw_iload_n 49 dX6_takesOf_48 rfl rfl ?_
        refine zw_iconst 50 dX6_takesOf_49 rfl ?_
        refine zw_idiv 51 dX6_takesOf_50 rfl (by omega) (by decide) ?_
        refine zw_iret dX6_takesOf_51 rfl ?_
        exact zRi_of (by simp only [zac]; omega)
      · refine ⟨52, _, rfl, by decide, ?_⟩
        refine zw_iload_n 53 dX6_takesOf_52 rfl rfl ?_
        refine zw_iret dX6_takesOf_53 rfl ?_
        exact zRi_of (by simp only [zac]; omega)
      · refine ⟨54, _, rfl, by decide, ?_⟩
        refine zw_iconst 55 dX6_takesOf_54 rfl ?_
        refine zw_iret dX6_takesOf_55 rfl ?_
        exact zRi_of (by simp only [zac]; omega)
      · refine ⟨56, _, rfl, by decide, ?_⟩
        refine zw_iload_n 57 dX6_takesOf_56 rfl rfl ?_
        refine zw_bipush 59 dX6_takesOf_57 rfl (by decide) ?_
        refine zw_icmp_le 66 62 dX6_takesOf_59 (by decide) rfl (by omega) (by omega) (fun h59 => ?_) (fun h59 => ?_)
        · refine zw_iload_n 67 dX6_takesOf_66 rfl rfl ?_
          refine zw_iret dX6_takesOf_67 rfl ?_
          exact zRi_of (by simp only [zac]; omega)
        · refine zw_iconst 63 dX6_takesOf_62 rfl ?_
          refine zw_goto 67 dX6_takesOf_63 (by decide) ?_
          refine zw_iret dX6_takesOf_67 rfl ?_
          exact zRi_of (by simp only [zac]; omega)
      · refine ⟨68, _, rfl, by decide, ?_⟩
        refine zw_iload_n 69 dX6_takesOf_68 rfl rfl ?_
        refine zw_if_ne 76 72 dX6_takesOf_69 (by decide) rfl (by omega) (fun h69 => ?_) (fun h69 => ?_)
        · refine zw_iload_n 77 dX6_takesOf_76 rfl rfl ?_
          refine zw_iconst 78 dX6_takesOf_77 rfl ?_
          refine zw_idiv 79 dX6_takesOf_78 rfl (by omega) (by decide) ?_
          refine zw_iret dX6_takesOf_79 rfl ?_
          exact zRi_of (by simp only [zac]; omega)
        · refine zw_iload_n 73 dX6_takesOf_72 rfl rfl ?_
          refine zw_goto 79 dX6_takesOf_73 (by decide) ?_
          refine zw_iret dX6_takesOf_79 rfl ?_
          exact zRi_of (by simp only [zac]; omega)
  · refine zw_iload_n 5 dX6_takesOf_4 rfl rfl ?_
    refine zw_iconst 6 dX6_takesOf_5 rfl ?_
    refine zw_iadd 7 dX6_takesOf_6 rfl ?_
    refine zw_goto 11 dX6_takesOf_7 (by decide) ?_
    refine zw_istore_n 12 dX6_takesOf_11 rfl (by decide) ?_
    refine zw_iload_n 13 dX6_takesOf_12 rfl rfl ?_
    refine zw_sw 80 dX6_takesOf_13 (by decide) (by omega) (fun h13 => ?_) (fun vh13 lh13 uh13 h13 => ?_)
    · refine zw_iload_n 81 dX6_takesOf_80 rfl rfl ?_
      refine zw_iret dX6_takesOf_81 rfl ?_
      exact zRi_of (by simp only [zac]; omega)
    · obtain rfl | rfl | rfl | rfl | rfl : vh13 = 1 ∨ vh13 = 2 ∨ vh13 = 3 ∨ vh13 = 4 ∨ vh13 = 5 := by omega
      · refine ⟨48, _, rfl, by decide, ?_⟩
        refine zw_iload_n 49 dX6_takesOf_48 rfl rfl ?_
        refine zw_iconst 50 dX6_takesOf_49 rfl ?_
        refine zw_idiv 51 dX6_takesOf_50 rfl (by omega) (by decide) ?_
        refine zw_iret dX6_takesOf_51 rfl ?_
        exact zRi_of (by simp only [zac]; omega)
      · refine ⟨52, _, rfl, by decide, ?_⟩
        refine zw_iload_n 53 dX6_takesOf_52 rfl rfl ?_
        refine zw_iret dX6_takesOf_53 rfl ?_
        exact zRi_of (by simp only [zac]; omega)
      · refine ⟨54, _, rfl, by decide, ?_⟩
        refine zw_iconst 55 dX6_takesOf_54 rfl ?_
        refine zw_iret dX6_takesOf_55 rfl ?_
        exact zRi_of (by simp only [zac]; omega)
      · refine ⟨56, _, rfl, by decide, ?_⟩
        refine zw_iload_n 57 dX6_takesOf_56 rfl rfl ?_
        refine zw_bipush 59 dX6_takesOf_57 rfl (by decide) ?_
        refine zw_icmp_le 66 62 dX6_takesOf_59 (by decide) rfl (by omega) (by omega) (fun h59 => ?_) (fun h59 => ?_)
        · refine zw_iload_n 67 dX6_takesOf_66 rfl rfl ?_
          refine zw_iret dX6_takesOf_67 rfl ?_
          exact zRi_of (by simp only [zac]; omega)
        · refine zw_iconst 63 dX6_takesOf_62 rfl ?_
          refine zw_goto 67 dX6_takesOf_63 (by decide) ?_
          refine zw_iret dX6_takesOf_67 rfl ?_
          exact zRi_of (by simp only [zac]; omega)
      · refine ⟨68, _, rfl, by decide, ?_⟩
        refine zw_iload_n 69 dX6_takesOf_68 rfl rfl ?_
        refine zw_if_ne 76 72 dX6_takesOf_69 (by decide) rfl (by omega) (fun h69 => ?_) (fun h69 => ?_)
        · refine zw_iload_n 77 dX6_takesOf_76 rfl rfl ?_
          refine zw_iconst 78 dX6_takesOf_77 rfl ?_
          refine zw_idiv 79 dX6_takesOf_78 rfl (by omega) (by decide) ?_
          refine zw_iret dX6_takesOf_79 rfl ?_
          exact zRi_of (by simp only [zac]; omega)
        · refine zw_iload_n 73 dX6_takesOf_72 rfl rfl ?_
          refine zw_goto 79 dX6_takesOf_73 (by decide) ?_
          refine zw_iret dX6_takesOf_79 rfl ?_
          exact zRi_of (by simp only [zac]; omega)
