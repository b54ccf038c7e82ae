theorem zpw7 : zpw 7 6000 (zfL id 7 []) = zpd 7 7 [] := by
  rw [show zfL id 7 [] = [0, 1, 2, 3, 4, 5, 6] from rfl]
  rw [show 6000 = 120 + 5880 from rfl, zpq_some 7 120 _ _ _ 5880 zpc0]
  rw [show 5880 = 120 + 5760 from rfl, zpq_some 7 120 _ _ _ 5760 zpc1]
  rw [show 5760 = 120 + 5640 from rfl, zpq_some 7 120 _ _ _ 5640 zpc2]
  rw [show 5640 = 120 + 5520 from rfl, zpq_some 7 120 _ _ _ 5520 zpc3]
  rw [show 5520 = 120 + 5400 from rfl, zpq_some 7 120 _ _ _ 5400 zpc4]
  rw [show 5400 = 120 + 5280 from rfl, zpq_some 7 120 _ _ _ 5280 zpc5]
  rw [show 5280 = 120 + 5160 from rfl, zpq_some 7 120 _ _ _ 5160 zpc6]
  rw [show 5160 = 120 + 5040 from rfl, zpq_some 7 120 _ _ _ 5040 zpc7]
  rw [show 5040 = 120 + 4920 from rfl, zpq_some 7 120 _ _ _ 4920 zpc8]
  rw [show 4920 = 120 + 4800 from rfl, zpq_some 7 120 _ _ _ 4800 zpc9]
  rw [show 4800 = 120 + 4680 from rfl, zpq_some 7 120 _ _ _ 4680 zpc10]
  rw [show 4680 = 120 + 4560 from rfl, zpq_some 7 120 _ _ _ 4560 zpc11]
  rw [show 4560 = 120 + 4440 from rfl, zpq_some 7 120 _ _ _ 4440 zpc12]
  rw [show 4440 = 120 + 4320 from rfl, zpq_some 7 120 _ _ _ 4320 zpc13]
  rw [show 4320 = 120 + 4200 from rfl, zpq_some 7 120 _ _ _ 4200 zpc14]
  rw [show 4200 = 120 + 4080 from rfl, zpq_some 7 120 _ _ _ 4080 zpc15]
  rw [show 4080 = 120 + 3960 from rfl, zpq_some 7 120 _ _ _ 3960 zpc16]
  rw [show 3960 = 120 + 3840 from rfl, zpq_some 7 120 _ _ _ 3840 zpc17]
  rw [show 3840 = 120 + 3720 from rfl, zpq_some 7 120 _ _ _ 3720 zpc18]
  rw [show 3720 = 120 + 3600 from rfl, zpq_some 7 120 _ _ _ 3600 zpc19]
  rw [show 3600 = 120 + 3480 from rfl, zpq_some 7 120 _ _ _ 3480 zpc20]
  rw [show 3480 = 120 + 3360 from rfl, zpq_some 7 120 _ _ _ 3360 zpc21]
  rw [show 3360 = 120 + 3240 from rfl, zpq_some 7 120 _ _ _ 3240 zpc22]
  rw [show 3240 = 120 + 3120 from rfl, zpq_some 7 120 _ _ _ 3120 zpc23]
  rw [show 3120 = 120 + 3000 from rfl, zpq_some 7 120 _ _ _ 3000 zpc24]
  rw [show 3000 = 120 + 2880 from rfl, zpq_some 7 120 _ _ _ 2880 zpc25]
  rw [show 2880 = 120 + 2760 from rfl, zpq_some 7 120 _ _ _ 2760 zpc26]
  rw [show 2760 = 120 + 2640 from rfl, zpq_some 7 120 _ _ _ 2640 zpc27]
  rw [show 2640 = 120 + 2520 from rfl, zpq_some 7 120 _ _ _ 2520 zpc28]
  rw [show 2520 = 120 + 2400 from rfl, zpq_some 7 120 _ _ _ 2400 zpc29]
  rw [show 2400 = 120 + 2280 from rfl, zpq_some 7 120 _ _ _ 2280 zpc30]
  rw [show 2280 = 120 + 2160 from rfl, zpq_some 7 120 _ _ _ 2160 zpc31]
  rw [show 2160 = 120 + 2040 from rfl, zpq_some 7 120 _ _ _ 2040 zpc32]
  rw [show 2040 = 120 + 1920 from rfl, zpq_some 7 120 _ _ _ 1920 zpc33]
  rw [show 1920 = 120 + 1800 from rfl, zpq_some 7 120 _ _ _ 1800 zpc34]
  rw [show 1800 = 120 + 1680 from rfl, zpq_some 7 120 _ _ _ 1680 zpc35]
  rw [show 1680 = 120 + 1560 from rfl, zpq_some 7 120 _ _ _ 1560 zpc36]
  rw [show 1560 = 120 + 1440 from rfl, zpq_some 7 120 _ _ _ 1440 zpc37]
  rw [show 1440 = 120 + 1320 from rfl, zpq_some 7 120 _ _ _ 1320 zpc38]
  rw [show 1320 = 120 + 1200 from rfl, zpq_some 7 120 _ _ _ 1200 zpc39]
  rw [show 1200 = 120 + 1080 from rfl, zpq_some 7 120 _ _ _ 1080 zpc40]
  rw [show 1080 = 120 + 960 from rfl, zpq_none 7 120 _ _ 960 zpc41]
  have hr : List.range 7 = [0, 1, 2, 3, 4, 5, 6] := rfl
  have h7 : zpd 7 7 [] = (List.range 7).flatMap (fun v => if ([] : List Nat).contains v then [] else zpd 7 6 [v]) := rfl
  have h6 : ∀ v, zpd 7 6 [v] = (List.range 7).flatMap (fun u => if [v].contains u then [] else zpd 7 5 [u, v]) := fun _ => rfl
  rw [h7, hr]
  simp only [List.flatMap_cons, List.flatMap_nil, h6, hr]
  simp
set_option maxRecDepth 1000000 in
theorem zpdlen7 : (zpd 7 7 []).length < 6000 := by decide +kernel
theorem zpw_all {n : Nat} (h : n < 8) : zpw n 6000 (zfL id n []) = zpd n n [] ∧ (zpd n n []).length < 6000 := by
  by_cases h7 : n = 7
  · subst h7; exact ⟨zpw7, zpdlen7⟩
  · exact zpw_ok n (by omega)
