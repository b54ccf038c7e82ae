theorem sp_X5_given {l : Launch} {d : Nat} {σ : zMem} (hd : 1 ≤ d) {k dd y h : Int} (hk : -2147483648 ≤ k ∧ k < 2147483648) (hdd : 0 ≤ dd ∧ dd < 1000000) (hy : 0 ≤ y ∧ y < 1000000) (hh : 0 ≤ h ∧ h < 1000000) : zSp l d mX5_given [.int (zI k), .int (zI dd), .int (zI y), .int (zI h)] σ (zRi (zgv k dd h y) σ) := by

  refine zSp_of oX5_given (Nat.le_of_ble_eq_true rfl) ?_
  show zw l d mX5_given 0 [some (.int (zI k)), some (.int (zI dd)), some (.int (zI y)), some (.int (zI h)), none, none] [] σ _

  refine zw_iload_n 1 dX5_given_0 rfl rfl ?_
  refine zw_iconst 2 dX5_given_1 rfl ?_
  refine zw_idiv 3 dX5_given_2 rfl (by omega) (by decide) ?_
  refine zw_istore 5 dX5_given_3 rfl (by decide) ?_
  refine zw_iconst 6 dX5_given_5 rfl ?_
  refine zw_iload 8 dX5_given_6 rfl rfl ?_
  refine zw_imul 9 dX5_given_8 rfl ?_
  refine zw_istore 11 dX5_given_9 rfl (by decide) ?_
  refine zw_iload_n 12 dX5_given_11 rfl rfl ?_
  refine zw_sw 79 dX5_given_12 (by decide) (by omega) (fun h12 => ?_) (fun vh12 lh12 uh12 h12 => ?_)
  · refine zw_iload 81 dX5_given_79 rfl rfl ?_
    refine zw_iret dX5_given_81 rfl ?_
    exact zRi_of (by simp only [zgv]; omega)
  · obtain rfl | rfl | rfl | rfl : vh12 = 2 ∨ vh12 = 3 ∨ vh12 = 4 ∨ vh12 = 5 := by omega
    · refine ⟨44, _, rfl, by decide, ?_⟩
      refine zw_iload 46 dX5_given_44 rfl rfl ?_
      refine zw_iret dX5_given_46 rfl ?_
      exact zRi_of (by simp only [zgv]; omega)
    · refine ⟨47, _, rfl, by decide, ?_⟩
      refine zw_iload 49 dX5_given_47 rfl rfl ?_
      refine zw_iconst 50 dX5_given_49 rfl ?_
      refine zw_isub 51 dX5_given_50 rfl ?_
      refine zw_iconst 52 dX5_given_51 rfl ?_
      refine zw_mmax 55 dX5_given_52 rfl xX5_246 (by omega) (by omega) rfl (by omega) ?_
      refine zw_iret dX5_given_55 rfl ?_
      exact zRi_of (by simp only [zgv]; omega)
    · refine ⟨56, _, rfl, by decide, ?_⟩
      refine zw_iload_n 57 dX5_given_56 rfl rfl ?_
      refine zw_iconst 58 dX5_given_57 rfl ?_
      refine zw_irem 59 dX5_given_58 rfl (by omega) (by decide) ?_
      refine zw_if_ne 67 62 dX5_given_59 (by decide) rfl (by omega) (fun h59 => ?_) (fun h59 => ?_)
      · refine zw_iload 69 dX5_given_67 rfl rfl ?_
        refine zw_iconst 70 dX5_given_69 rfl ?_
        refine zw_idiv 71 dX5_given_70 rfl (by omega) (by decide) ?_
        refine zw_iret dX5_given_71 rfl ?_
        exact zRi_of (by simp only [zgv]; omega)
      · refine zw_iload 64 dX5_given_62 rfl rfl ?_
        refine zw_goto 71 dX5_given_64 (by decide) ?_
        refine zw_iret dX5_given_71 rfl ?_
        exact zRi_of (by simp only [zgv]; omega)
    · refine ⟨72, _, rfl, by decide, ?_⟩
      refine zw_iload 74 dX5_given_72 rfl rfl ?_
      refine zw_iload_n 75 dX5_given_74 rfl rfl ?_
      refine zw_iconst 76 dX5_given_75 rfl ?_
      refine zw_idiv 77 dX5_given_76 rfl (by omega) (by decide) ?_
      refine zw_iadd 78 dX5_given_77 rfl ?_
      refine zw_iret dX5_given_78 rfl ?_
      exact zRi_of (by simp only [zgv]; omega)
