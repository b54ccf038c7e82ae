def zxmax (own : String) (idx : Nat) : Prop := Cond.methodLink own idx Lib.Math.max.name ∈ ztbl ∧ Cond.static Lib.Math.max.name ∈ ztbl ∧ Cond.initialized "java/lang/Math" ∈ ztbl ∧ Cond.code Lib.Math.max.name Lib.Math.max.code 2 (some .int) ∈ ztbl
def zxmin (own : String) (idx : Nat) : Prop := Cond.methodLink own idx Lib.Math.min.name ∈ ztbl ∧ Cond.static Lib.Math.min.name ∈ ztbl ∧ Cond.initialized "java/lang/Math" ∈ ztbl ∧ Cond.code Lib.Math.min.name Lib.Math.min.code 2 (some .int) ∈ ztbl
theorem xX5_246 : zxmax RX5 246 := ⟨zw_in 442 (by decide +kernel) rfl, zw_in 443 (by decide +kernel) rfl, zw_in 13 (by decide +kernel) rfl, zw_in 444 (by decide +kernel) rfl⟩
theorem xX0_113 : zxmin RX0 113 := ⟨zw_in 448 (by decide +kernel) rfl, zw_in 449 (by decide +kernel) rfl, zw_in 13 (by decide +kernel) rfl, zw_in 450 (by decide +kernel) rfl⟩
theorem xX0_121 : zxmax RX0 121 := ⟨zw_in 454 (by decide +kernel) rfl, zw_in 443 (by decide +kernel) rfl, zw_in 13 (by decide +kernel) rfl, zw_in 444 (by decide +kernel) rfl⟩
theorem xX3_39 : zxmax RX3 39 := ⟨zw_in 620 (by decide +kernel) rfl, zw_in 443 (by decide +kernel) rfl, zw_in 13 (by decide +kernel) rfl, zw_in 444 (by decide +kernel) rfl⟩
theorem ly1 : zly 1 = some (5, 14) := by decide +kernel
theorem ly2 : zly 2 = some (0, 13) := by decide +kernel
theorem ly3 : zly 3 = some (100, 7) := by decide +kernel
theorem ly4 : zly 4 = some (100, 7) := by decide +kernel
theorem ly5 : zly 5 = some (100, 5) := by decide +kernel
theorem ly6 : zly 6 = some (100, 5) := by decide +kernel
theorem ly7 : zly 7 = some (100, 5) := by decide +kernel
theorem ly8 : zly 8 = some (2, 4) := by decide +kernel
theorem ly9 : zly 9 = some (100, 5) := by decide +kernel
theorem ly10 : zly 10 = some (100, 20) := by decide +kernel
theorem ly11 : zly 11 = some (100, 7) := by decide +kernel
theorem ly12 : zly 12 = some (103, 8) := by decide +kernel
theorem ly13 : zly 13 = some (1, 3) := by decide +kernel
theorem ly14 : zly 14 = some (100, 30) := by decide +kernel
theorem ly15 : zly 15 = some (1, 3) := by decide +kernel
theorem ly16 : zly 16 = some (100, 30) := by decide +kernel
theorem ly17 : zly 17 = some (1, 3) := by decide +kernel
theorem ly18 : zly 18 = some (100, 30) := by decide +kernel
theorem ly19 : zly 19 = some (2, 4) := by decide +kernel
theorem ly20 : zly 20 = some (100, 5) := by decide +kernel
theorem ly21 : zly 21 = some (100, 20) := by decide +kernel
theorem ly22 : zly 22 = some (100, 7) := by decide +kernel
theorem ly23 : zly 23 = some (2, 4) := by decide +kernel
theorem ly24 : zly 24 = some (100, 5) := by decide +kernel
theorem ly25 : zly 25 = some (100, 20) := by decide +kernel
theorem ly26 : zly 26 = some (100, 7) := by decide +kernel
theorem ly27 : zly 27 = some (2, 4) := by decide +kernel
theorem ly28 : zly 28 = some (100, 5) := by decide +kernel
theorem ly29 : zly 29 = some (100, 20) := by decide +kernel
theorem ly30 : zly 30 = some (100, 7) := by decide +kernel
theorem ly31 : zly 31 = some (2, 4) := by decide +kernel
theorem ly32 : zly 32 = some (100, 5) := by decide +kernel
theorem ly33 : zly 33 = some (100, 20) := by decide +kernel
theorem ly34 : zly 34 = some (100, 7) := by decide +kernel
theorem ly35 : zly 35 = some (2, 4) := by decide +kernel
theorem ly36 : zly 36 = some (100, 5) := by decide +kernel
theorem ly37 : zly 37 = some (100, 20) := by decide +kernel
theorem ly38 : zly 38 = some (100, 7) := by decide +kernel
theorem ly39 : zly 39 = some (2, 4) := by decide +kernel
theorem ly40 : zly 40 = some (100, 5) := by decide +kernel
theorem ly41 : zly 41 = some (100, 20) := by decide +kernel
theorem ly42 : zly 42 = some (100, 7) := by decide +kernel
theorem ly43 : zly 43 = some (2, 4) := by decide +kernel
theorem ly44 : zly 44 = some (100, 5) := by decide +kernel
theorem ly45 : zly 45 = some (100, 20) := by decide +kernel
theorem ly46 : zly 46 = some (100, 7) := by decide +kernel
theorem ly47 : zly 47 = some (2, 4) := by decide +kernel
theorem ly48 : zly 48 = some (100, 5) := by decide +kernel
theorem ly49 : zly 49 = some (100, 20) := by decide +kernel
theorem ly50 : zly 50 = some (100, 7) := by decide +kernel
theorem ly51 : zly 51 = some (0, 13) := by decide +kernel
theorem ly52 : zly 52 = some (100, 7) := by decide +kernel
theorem ly53 : zly 53 = some (100, 7) := by decide +kernel
theorem ly54 : zly 54 = some (100, 5) := by decide +kernel
theorem ly55 : zly 55 = some (100, 5) := by decide +kernel
theorem ly56 : zly 56 = some (100, 5) := by decide +kernel
theorem ly57 : zly 57 = some (2, 4) := by decide +kernel
theorem ly58 : zly 58 = some (100, 5) := by decide +kernel
theorem ly59 : zly 59 = some (100, 20) := by decide +kernel
theorem ly60 : zly 60 = some (100, 7) := by decide +kernel
theorem ly61 : zly 61 = some (103, 8) := by decide +kernel
theorem ly62 : zly 62 = some (1, 3) := by decide +kernel
theorem ly63 : zly 63 = some (100, 30) := by decide +kernel
theorem ly64 : zly 64 = some (1, 3) := by decide +kernel
theorem ly65 : zly 65 = some (100, 30) := by decide +kernel
theorem ly66 : zly 66 = some (1, 3) := by decide +kernel
theorem ly67 : zly 67 = some (100, 30) := by decide +kernel
theorem ly68 : zly 68 = some (2, 4) := by decide +kernel
theorem ly69 : zly 69 = some (100, 5) := by decide +kernel
theorem ly70 : zly 70 = some (100, 20) := by decide +kernel
theorem ly71 : zly 71 = some (100, 7) := by decide +kernel
theorem ly72 : zly 72 = some (2, 4) := by decide +kernel
theorem ly73 : zly 73 = some (100, 5) := by decide +kernel
theorem ly74 : zly 74 = some (100, 20) := by decide +kernel
theorem ly75 : zly 75 = some (100, 7) := by decide +kernel
theorem ly76 : zly 76 = some (2, 4) := by decide +kernel
theorem ly77 : zly 77 = some (100, 5) := by decide +kernel
theorem ly78 : zly 78 = some (100, 20) := by decide +kernel
theorem ly79 : zly 79 = some (100, 7) := by decide +kernel
theorem ly80 : zly 80 = some (2, 4) := by decide +kernel
theorem ly81 : zly 81 = some (100, 5) := by decide +kernel
theorem ly82 : zly 82 = some (100, 20) := by decide +kernel
theorem ly83 : zly 83 = some (100, 7) := by decide +kernel
theorem ly84 : zly 84 = some (2, 4) := by decide +kernel
theorem ly85 : zly 85 = some (100, 5) := by decide +kernel
theorem ly86 : zly 86 = some (100, 20) := by decide +kernel
theorem ly87 : zly 87 = some (100, 7) := by decide +kernel
theorem ly88 : zly 88 = some (2, 4) := by decide +kernel
theorem ly89 : zly 89 = some (100, 5) := by decide +kernel
theorem ly90 : zly 90 = some (100, 20) := by decide +kernel
theorem ly91 : zly 91 = some (100, 7) := by decide +kernel
theorem ly92 : zly 92 = some (2, 4) := by decide +kernel
theorem ly93 : zly 93 = some (100, 5) := by decide +kernel
theorem ly94 : zly 94 = some (100, 20) := by decide +kernel
theorem ly95 : zly 95 = some (100, 7) := by decide +kernel
theorem ly96 : zly 96 = some (2, 4) := by decide +kernel
theorem ly97 : zly 97 = some (100, 5) := by decide +kernel
theorem ly98 : zly 98 = some (100, 20) := by decide +kernel
theorem ly99 : zly 99 = some (100, 7) := by decide +kernel
theorem ly100 : zly 100 = some (104, 2) := by decide +kernel
theorem ly101 : zly 101 = some (101, 2) := by decide +kernel
theorem ly102 : zly 102 = some (2, 4) := by decide +kernel
theorem ly103 : zly 103 = some (100, 5) := by decide +kernel
theorem ly104 : zly 104 = some (100, 20) := by decide +kernel
theorem ly105 : zly 105 = some (100, 7) := by decide +kernel
theorem ly106 : zly 106 = some (4, 8) := by decide +kernel
theorem ly107 : zly 107 = some (102, 150) := by decide +kernel
theorem ly108 : zly 108 = some (100, 3) := by decide +kernel
theorem ly109 : zly 109 = some (3, 7) := by decide +kernel
theorem ly110 : zly 110 = some (100, 5) := by decide +kernel
theorem ly111 : zly 111 = some (100, 5) := by decide +kernel
theorem ly112 : zly 112 = some (100, 40) := by decide +kernel
theorem ly113 : zly 113 = some (100, 6) := by decide +kernel
theorem ly114 : zly 114 = some (100, 7) := by decide +kernel
theorem ly115 : zly 115 = some (100, 6) := by decide +kernel
theorem ly116 : zly 116 = some (100, 7) := by decide +kernel
theorem ly117 : zly 117 = some (100, 7) := by decide +kernel
theorem ly118 : zly 118 = some (100, 3) := by decide +kernel
theorem ly119 : zly 119 = some (0, 13) := by decide +kernel
theorem ly120 : zly 120 = some (100, 7) := by decide +kernel
theorem ly121 : zly 121 = some (100, 7) := by decide +kernel
theorem ly122 : zly 122 = some (100, 5) := by decide +kernel
theorem ly123 : zly 123 = some (100, 5) := by decide +kernel
theorem ly124 : zly 124 = some (100, 5) := by decide +kernel
theorem ly125 : zly 125 = some (2, 4) := by decide +kernel
theorem ly126 : zly 126 = some (100, 5) := by decide +kernel
theorem ly127 : zly 127 = some (100, 20) := by decide +kernel
theorem ly128 : zly 128 = some (100, 7) := by decide +kernel
theorem ly129 : zly 129 = some (103, 8) := by decide +kernel
theorem ly130 : zly 130 = some (1, 3) := by decide +kernel
theorem ly131 : zly 131 = some (100, 30) := by decide +kernel
theorem ly132 : zly 132 = some (1, 3) := by decide +kernel
theorem ly133 : zly 133 = some (100, 30) := by decide +kernel
theorem ly134 : zly 134 = some (1, 3) := by decide +kernel
theorem ly135 : zly 135 = some (100, 30) := by decide +kernel
theorem ly136 : zly 136 = some (2, 4) := by decide +kernel
theorem ly137 : zly 137 = some (100, 5) := by decide +kernel
theorem ly138 : zly 138 = some (100, 20) := by decide +kernel
theorem ly139 : zly 139 = some (100, 7) := by decide +kernel
theorem ly140 : zly 140 = some (2, 4) := by decide +kernel
theorem ly141 : zly 141 = some (100, 5) := by decide +kernel
theorem ly142 : zly 142 = some (100, 20) := by decide +kernel
theorem ly143 : zly 143 = some (100, 7) := by decide +kernel
theorem ly144 : zly 144 = some (2, 4) := by decide +kernel
theorem ly145 : zly 145 = some (100, 5) := by decide +kernel
theorem ly146 : zly 146 = some (100, 20) := by decide +kernel
theorem ly147 : zly 147 = some (100, 7) := by decide +kernel
theorem ly148 : zly 148 = some (2, 4) := by decide +kernel
theorem ly149 : zly 149 = some (100, 5) := by decide +kernel
theorem ly150 : zly 150 = some (100, 20) := by decide +kernel
theorem ly151 : zly 151 = some (100, 7) := by decide +kernel
theorem ly152 : zly 152 = some (2, 4) := by decide +kernel
theorem ly153 : zly 153 = some (100, 5) := by decide +kernel
theorem ly154 : zly 154 = some (100, 20) := by decide +kernel
theorem ly155 : zly 155 = some (100, 7) := by decide +kernel
theorem ly156 : zly 156 = some (2, 4) := by decide +kernel
theorem ly157 : zly 157 = some (100, 5) := by decide +kernel
theorem ly158 : zly 158 = some (100, 20) := by decide +kernel
theorem ly159 : zly 159 = some (100, 7) := by decide +kernel
theorem ly160 : zly 160 = some (2, 4) := by decide +kernel
theorem ly161 : zly 161 = some (100, 5) := by decide +kernel
theorem ly162 : zly 162 = some (100, 20) := by decide +kernel
theorem ly163 : zly 163 = some (100, 7) := by decide +kernel
theorem ly164 : zly 164 = some (2, 4) := by decide +kernel
theorem ly165 : zly 165 = some (100, 5) := by decide +kernel
theorem ly166 : zly 166 = some (100, 20) := by decide +kernel
theorem ly167 : zly 167 = some (100, 7) := by decide +kernel
theorem ly168 : zly 168 = some (0, 13) := by decide +kernel
theorem ly169 : zly 169 = some (100, 7) := by decide +kernel
theorem ly170 : zly 170 = some (100, 7) := by decide +kernel
theorem ly171 : zly 171 = some (100, 5) := by decide +kernel
theorem ly172 : zly 172 = some (100, 5) := by decide +kernel
theorem ly173 : zly 173 = some (100, 5) := by decide +kernel
theorem ly174 : zly 174 = some (2, 4) := by decide +kernel
theorem ly175 : zly 175 = some (100, 5) := by decide +kernel
theorem ly176 : zly 176 = some (100, 20) := by decide +kernel
theorem ly177 : zly 177 = some (100, 7) := by decide +kernel
theorem ly178 : zly 178 = some (103, 8) := by decide +kernel
theorem ly179 : zly 179 = some (1, 3) := by decide +kernel
theorem ly180 : zly 180 = some (100, 30) := by decide +kernel
theorem ly181 : zly 181 = some (1, 3) := by decide +kernel
theorem ly182 : zly 182 = some (100, 30) := by decide +kernel
theorem ly183 : zly 183 = some (1, 3) := by decide +kernel
theorem ly184 : zly 184 = some (100, 30) := by decide +kernel
theorem ly185 : zly 185 = some (2, 4) := by decide +kernel
theorem ly186 : zly 186 = some (100, 5) := by decide +kernel
theorem ly187 : zly 187 = some (100, 20) := by decide +kernel
theorem ly188 : zly 188 = some (100, 7) := by decide +kernel
theorem ly189 : zly 189 = some (2, 4) := by decide +kernel
theorem ly190 : zly 190 = some (100, 5) := by decide +kernel
theorem ly191 : zly 191 = some (100, 20) := by decide +kernel
theorem ly192 : zly 192 = some (100, 7) := by decide +kernel
theorem ly193 : zly 193 = some (2, 4) := by decide +kernel
theorem ly194 : zly 194 = some (100, 5) := by decide +kernel
theorem ly195 : zly 195 = some (100, 20) := by decide +kernel
theorem ly196 : zly 196 = some (100, 7) := by decide +kernel
theorem ly197 : zly 197 = some (2, 4) := by decide +kernel
theorem ly198 : zly 198 = some (100, 5) := by decide +kernel
theorem ly199 : zly 199 = some (100, 20) := by decide +kernel
theorem ly200 : zly 200 = some (100, 7) := by decide +kernel
theorem ly201 : zly 201 = some (2, 4) := by decide +kernel
theorem ly202 : zly 202 = some (100, 5) := by decide +kernel
theorem ly203 : zly 203 = some (100, 20) := by decide +kernel
theorem ly204 : zly 204 = some (100, 7) := by decide +kernel
theorem ly205 : zly 205 = some (2, 4) := by decide +kernel
theorem ly206 : zly 206 = some (100, 5) := by decide +kernel
theorem ly207 : zly 207 = some (100, 20) := by decide +kernel
theorem ly208 : zly 208 = some (100, 7) := by decide +kernel
theorem ly209 : zly 209 = some (2, 4) := by decide +kernel
theorem ly210 : zly 210 = some (100, 5) := by decide +kernel
theorem ly211 : zly 211 = some (100, 20) := by decide +kernel
theorem ly212 : zly 212 = some (100, 7) := by decide +kernel
theorem ly213 : zly 213 = some (2, 4) := by decide +kernel
theorem ly214 : zly 214 = some (100, 5) := by decide +kernel
theorem ly215 : zly 215 = some (100, 20) := by decide +kernel
theorem ly216 : zly 216 = some (100, 7) := by decide +kernel
theorem ly217 : zly 217 = some (6, 24) := by decide +kernel
theorem ly218 : zly 218 = some (100, 399) := by decide +kernel
theorem ly219 : zly 219 = some (100, 399) := by decide +kernel
theorem ly220 : zly 220 = some (100, 33) := by decide +kernel
theorem ly221 : zly 221 = some (100, 798) := by decide +kernel
theorem ly222 : zly 222 = some (101, 2) := by decide +kernel
theorem ly223 : zly 223 = some (100, 150) := by decide +kernel
theorem ly224 : zly 224 = some (100, 3) := by decide +kernel
theorem ly225 : zly 225 = some (100, 40) := by decide +kernel
theorem ly226 : zly 226 = some (100, 7) := by decide +kernel
theorem ly227 : zly 227 = some (100, 7) := by decide +kernel
theorem ly228 : zly 228 = some (100, 120) := by decide +kernel
section ZM
variable {l : Launch} {d : Nat} {M : zMth} {pc : Nat} {L : List (Option Value)} {st : List Value} {σ : zMem} {Q : Option Value → zMem → Prop} {k : Nat}
theorem zmax_eq {a b : Int} (ha : -2147483648 ≤ a ∧ a < 2147483648) (hb : -2147483648 ≤ b ∧ b < 2147483648) : (if zI a < zI b then zI b else zI a) = zI (max a b) := by
  by_cases h : a < b
  · rw [if_pos ((zI_lt ha.1 ha.2 hb.1 hb.2).mpr h), Int.max_eq_right (by omega)]
  · rw [if_neg (fun q => h ((zI_lt ha.1 ha.2 hb.1 hb.2).mp q)), Int.max_eq_left (by omega)]
theorem zmin_eq {a b : Int} (ha : -2147483648 ≤ a ∧ a < 2147483648) (hb : -2147483648 ≤ b ∧ b < 2147483648) : (if zI b < zI a then zI b else zI a) = zI (min a b) := by
  by_cases h : b < a
  · rw [if_pos ((zI_lt hb.1 hb.2 ha.1 ha.2).mpr h), Int.min_eq_right (by omega)]
  · rw [if_neg (fun q => h ((zI_lt hb.1 hb.2 ha.1 ha.2).mp q)), Int.min_eq_left (by omega)]
theorem zmin_eq2 {a b : Int} (ha : -2147483648 ≤ a ∧ a < 2147483648) (hb : -2147483648 ≤ b ∧ b < 2147483648) : (if zI a < zI b then zI a else zI b) = zI (min a b) := by
  by_cases h : a < b
  · rw [if_pos ((zI_lt ha.1 ha.2 hb.1 hb.2).mpr h), Int.min_eq_left (by omega)]
  · rw [if_neg (fun q => h ((zI_lt ha.1 ha.2 hb.1 hb.2).mp q)), Int.min_eq_right (by omega)]
theorem zcatlen : ∀ (st : List Value), st.length ≤ 4 → (st.map fun v => v.category).sum ≤ 8 := by
  have h2 : ∀ v : Value, v.category ≤ 2 := fun v => by rcases lv_cat v with h | h <;> omega
  intro st h
  match st, h with
  | [], _ => decide
  | [a], _ => have := h2 a; simp; omega
  | [a, b], _ => have := h2 a; have := h2 b; simp; omega
  | [a, b, c], _ => have := h2 a; have := h2 b; have := h2 c; simp; omega
  | [a, b, c, d], _ => have := h2 a; have := h2 b; have := h2 c; have := h2 d; simp; omega
theorem zw_mmax (pc' : Nat) {idx : Nat} {a b : Int} (hd : decode M.2.2.1 pc = .ok (.invokestatic idx, 3)) (hp : pc + 3 = pc') (hw : zxmax M.1 idx) (ha : -2147483648 ≤ a ∧ a < 2147483648) (hb : -2147483648 ≤ b ∧ b < 2147483648) (hs : decide (st.length ≤ 4) = true) (hdd : 1 ≤ d) (kk : zw l d M pc' L (.int (zI (max a b)) :: st) σ Q) : zw l d M pc L (.int (zI b) :: .int (zI a) :: st) σ Q := by
  subst hp; intro G p e R s m args below meth c cells slots Z hC H locs ls hP hS hl
  have hts := hC.2.2.2.2.1
  have hR := hC.2.2.2.2.2.2.2.2.2.1
  have hcat := zcatlen (st.map (ztr G)) (by simpa using hs)
  exact va_mmax hC.1 hC.2.1 (hC.2.2.1.trans hl.1.symm) hC.2.2.2.1 (hts _ hw.1) (hts _ hw.2.1) (hts _ hw.2.2.1) (hts _ hw.2.2.2) (by omega) (by omega) hR.2.2.1 hR.2.2.2 hd (by rw [zmax_eq ha hb]; exact kk G p e R s m args below meth c cells slots Z hC H locs ls hP hS hl)
theorem zw_mmin (pc' : Nat) {idx : Nat} {a b : Int} (hd : decode M.2.2.1 pc = .ok (.invokestatic idx, 3)) (hp : pc + 3 = pc') (hw : zxmin M.1 idx) (ha : -2147483648 ≤ a ∧ a < 2147483648) (hb : -2147483648 ≤ b ∧ b < 2147483648) (hs : decide (st.length ≤ 4) = true) (hdd : 1 ≤ d) (kk : zw l d M pc' L (.int (zI (min a b)) :: st) σ Q) : zw l d M pc L (.int (zI b) :: .int (zI a) :: st) σ Q := by
  subst hp; intro G p e R s m args below meth c cells slots Z hC H locs ls hP hS hl
  have hts := hC.2.2.2.2.1
  have hR := hC.2.2.2.2.2.2.2.2.2.1
  have hcat := zcatlen (st.map (ztr G)) (by simpa using hs)
  exact va_mmin hC.1 hC.2.1 (hC.2.2.1.trans hl.1.symm) hC.2.2.2.1 (hts _ hw.1) (hts _ hw.2.1) (hts _ hw.2.2.1) (hts _ hw.2.2.2) (by omega) (by omega) hR.2.2.1 hR.2.2.2 hd (by first | rw [zmin_eq ha hb]; exact kk G p e R s m args below meth c cells slots Z hC H locs ls hP hS hl | rw [zmin_eq2 ha hb]; exact kk G p e R s m args below meth c cells slots Z hC H locs ls hP hS hl)
/-- a switch: x below or beyond the table, or one of its places -/
theorem zw_sw (tdef : Nat) {dflt lo hi : Int} {offs : Array Int} {len : Nat} {x : Int} (hd : decode M.2.2.1 pc = .ok (.tableswitch dflt lo hi offs, len)) (ht : (pc : Int) + dflt = (tdef : Int)) (hb : -2147483648 ≤ x ∧ x < 2147483648) (hdef : (x < lo ∨ hi < x) → zw l d M tdef L st σ Q) (hin : ∀ v : Int, lo ≤ v → v ≤ hi → x = v → ∃ (tgt : Nat) (off : Int), offs[(v - lo).toNat]? = some off ∧ (pc : Int) + off = (tgt : Int) ∧ zw l d M tgt L st σ Q) : zw l d M pc L (.int (zI x) :: st) σ Q := by
  by_cases h : x < lo ∨ hi < x
  · exact zw_tableOut tdef hd hb h ht (hdef h)
  · obtain ⟨tgt, off, h1, h2, h3⟩ := hin x (by omega) (by omega) rfl
    exact zw_tableIn tgt hd hb (by omega) (by omega) h1 h2 h3
end ZM
/-- what a method answers: an int, and the cells behind it -/
def zRi (v : Int) (σ1 : zMem) : Option Value → zMem → Prop := fun r σ' => r = some (.int (zI v)) ∧ σ1 = σ'
def zRl (v : Int) (σ1 : zMem) : Option Value → zMem → Prop := fun r σ' => r = some (.long (zL v)) ∧ σ1 = σ'
def zRv (σ1 : zMem) : Option Value → zMem → Prop := fun r σ' => r = none ∧ σ1 = σ'
def zPv (P : zMem → Prop) : Option Value → zMem → Prop := fun r σ' => r = none ∧ P σ'
def zPi (P : Int → zMem → Prop) : Option Value → zMem → Prop := fun r σ' => ∃ v, r = some (.int (zI v)) ∧ P v σ'
theorem zSp_mono {l : Launch} {d : Nat} {M : zMth} {args : List Value} {σ : zMem} {Q Q' : Option Value → zMem → Prop} (h : zSp l d M args σ Q') (hq : ∀ r σ', Q' r σ' → Q r σ') : zSp l d M args σ Q := by
  intro G p e ha hc hk s m a below hf happ hP hK
  obtain ⟨t, o, h1, h2, h3, ⟨⟨r, σ', e1, e2, e3⟩, hF⟩, h5⟩ := h G p e ha hc hk s m a below hf happ hP hK
  exact ⟨t, o, h1, h2, h3, ⟨⟨r, σ', e1, hq r σ' e2, e3⟩, hF⟩, h5⟩
/-! ===== the pure numbers of the kinds ===== -/
/-- what a seat gives: kind, depth, what is taken already, year -/
def zgv (k d h y : Int) : Int := if k = 2 then 2 * (d / 4) else if k = 3 then max (d / 4 - 2) 0 else if k = 4 then (if y % 2 = 0 then 2 * (d / 4) else d / 4) else if k = 5 then d / 4 + h / 5 else d / 4
def zwn (k w : Int) : Int := if k = 1 then w / 3 / 2 else if k = 3 ∨ k = 4 then w / 3 + 1 else if k = 5 then 0 else w / 3
def zac (k g h : Int) : Int := if k = 1 then g / 2 else if k = 2 then (if 1 ≤ g then g + 1 else g) else if k = 3 then 0 else if k = 4 then (if 20 ≤ h then 0 else if 1 ≤ g then g + 1 else g) else if k = 5 then (if h = 0 then g else g / 2) else g
def zhv (k w : Int) : Int := if k = 2 ∨ k = 4 then (w + 1) / 2 else if k = 3 then 2 * w else if k = 5 then w + 1 else w
theorem zRi_of {v v' : Int} {σ : zMem} (h : v' = v) : zRi v σ (some (.int (zI v'))) σ := ⟨by rw [h], rfl⟩
theorem zRl_of {v v' : Int} {σ : zMem} (h : v' = v) : zRl v σ (some (.long (zL v'))) σ := ⟨by rw [h], rfl⟩
theorem zRi_of2 {v v' : Int} {σ σ' : zMem} (h : v' = v) (h2 : σ' = σ) : zRi v σ (some (.int (zI v'))) σ' := ⟨by rw [h], h2.symm⟩
