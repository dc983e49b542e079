def sv_off : Nat → Nat → Option Nat := fun c k => match c, k with
  | 7, 2 => some 15
  | 7, 3 => some 17
  | 7, 4 => some 21
  | 7, 5 => some 63
  | 7, 6 => some 66
  | 7, 7 => some 70
  | 7, 8 => some 117
  | 6, 5 => some 1
  | 6, 6 => some 2
  | 6, 7 => some 3
  | 6, 8 => some 4
  | 6, 9 => some 5
  | 6, 10 => some 6
  | 5, 1 => some 1
  | 4, 1 => some 1
  | 3, 5 => some 1
  | 3, 6 => some 2
  | 3, 7 => some 3
  | 2, 1 => some 1
  | 2, 2 => some 5
  | 1, 2 => some 1
  | 1, 3 => some 2
  | 1, 4 => some 3
  | 0, 0 => some 1
  | 0, 1 => some 2
  | 8, 3 => some 1
  | 8, 5 => some 2
  | 8, 6 => some 3
  | 8, 7 => some 4
  | 8, 8 => some 5
  | 8, 9 => some 6
  | 8, 10 => some 7
  | 8, 12 => some 8
  | 8, 14 => some 9
  | 8, 26 => some 10
  | 8, 27 => some 11
  | 8, 28 => some 12
  | 8, 30 => some 13
  | 8, 31 => some 14
  | 8, 32 => some 15
  | 8, 33 => some 16
  | 8, 34 => some 17
  | _, _ => none
def sv_hr (tw dr : Nat) (pm : Nat → Nat) : svR := fun i k => if i = 0 ∧ k = 0 then some tw else if i = 0 ∧ k = 1 then some dr else if i = 22 then (if k < 10 then some (pm k) else none) else match svSH[i]? with
  | some (0, c) => (sv_off c k).map (fun d => i + d)
  | some (4, n) => if k < n then some (i + 1 + 4 * k) else none
  | _ => none
theorem sv_all {P : Nat → Bool} (h : (List.range 182).all P = true) {i : Nat} (hi : i < 182) : P i = true := List.all_eq_true.mp h i (List.mem_range.mpr hi)
theorem sv_lt {i : Nat} {q : Nat × Nat} (h : svSH[i]? = some q) : i < 182 := (List.getElem?_eq_some_iff.mp h).1
theorem sv_next {q r : Nat × Nat} {d : Nat} (h : (List.range 182).all (fun i => !(decide (svSH[i]? = some q)) || decide (svSH[i + d]? = some r)) = true) {i : Nat} (hi : svSH[i]? = some q) : svSH[i + d]? = some r := by
  have h1 := sv_all h (sv_lt hi)
  simpa [hi] using h1
theorem sv_ne {i j : Nat} {q r : Nat × Nat} (h : svSH[i]? = some q) (hj : svSH[j]? = some r) (hqr : q ≠ r) : i ≠ j := fun e => by
  subst e
  rw [h] at hj
  exact hqr (Option.some.inj hj)
theorem sh_0 : svSH[0]? = some (0, 7) := by decide +kernel
theorem sh_1 : svSH[1]? = some (0, 6) := by decide +kernel
theorem sh_2 : svSH[2]? = some (1, 8) := by decide +kernel
theorem sh_3 : svSH[3]? = some (1, 8) := by decide +kernel
theorem sh_4 : svSH[4]? = some (1, 8) := by decide +kernel
theorem sh_5 : svSH[5]? = some (1, 6) := by decide +kernel
theorem sh_6 : svSH[6]? = some (1, 6) := by decide +kernel
theorem sh_7 : svSH[7]? = some (1, 6) := by decide +kernel
theorem sh_8 : svSH[8]? = some (0, 6) := by decide +kernel
theorem sh_9 : svSH[9]? = some (1, 8) := by decide +kernel
theorem sh_10 : svSH[10]? = some (1, 8) := by decide +kernel
theorem sh_11 : svSH[11]? = some (1, 8) := by decide +kernel
theorem sh_12 : svSH[12]? = some (1, 6) := by decide +kernel
theorem sh_13 : svSH[13]? = some (1, 6) := by decide +kernel
theorem sh_14 : svSH[14]? = some (1, 6) := by decide +kernel
theorem sh_15 : svSH[15]? = some (0, 5) := by decide +kernel
theorem sh_16 : svSH[16]? = some (2, 120) := by decide +kernel
theorem sh_17 : svSH[17]? = some (0, 3) := by decide +kernel
theorem sh_18 : svSH[18]? = some (1, 6) := by decide +kernel
theorem sh_19 : svSH[19]? = some (1, 8) := by decide +kernel
theorem sh_20 : svSH[20]? = some (1, 8) := by decide +kernel
theorem sh_21 : svSH[21]? = some (0, 4) := by decide +kernel
theorem sh_22 : svSH[22]? = some (4, 10) := by decide +kernel
theorem sh_23 : svSH[23]? = some (0, 3) := by decide +kernel
theorem sh_24 : svSH[24]? = some (1, 6) := by decide +kernel
theorem sh_25 : svSH[25]? = some (1, 8) := by decide +kernel
theorem sh_26 : svSH[26]? = some (1, 8) := by decide +kernel
theorem sh_27 : svSH[27]? = some (0, 3) := by decide +kernel
theorem sh_28 : svSH[28]? = some (1, 6) := by decide +kernel
theorem sh_29 : svSH[29]? = some (1, 8) := by decide +kernel
theorem sh_30 : svSH[30]? = some (1, 8) := by decide +kernel
theorem sh_31 : svSH[31]? = some (0, 3) := by decide +kernel
theorem sh_32 : svSH[32]? = some (1, 6) := by decide +kernel
theorem sh_33 : svSH[33]? = some (1, 8) := by decide +kernel
theorem sh_34 : svSH[34]? = some (1, 8) := by decide +kernel
theorem sh_35 : svSH[35]? = some (0, 3) := by decide +kernel
theorem sh_36 : svSH[36]? = some (1, 6) := by decide +kernel
theorem sh_37 : svSH[37]? = some (1, 8) := by decide +kernel
theorem sh_38 : svSH[38]? = some (1, 8) := by decide +kernel
theorem sh_39 : svSH[39]? = some (0, 3) := by decide +kernel
theorem sh_40 : svSH[40]? = some (1, 6) := by decide +kernel
theorem sh_41 : svSH[41]? = some (1, 8) := by decide +kernel
theorem sh_42 : svSH[42]? = some (1, 8) := by decide +kernel
theorem sh_43 : svSH[43]? = some (0, 3) := by decide +kernel
theorem sh_44 : svSH[44]? = some (1, 6) := by decide +kernel
theorem sh_45 : svSH[45]? = some (1, 8) := by decide +kernel
theorem sh_46 : svSH[46]? = some (1, 8) := by decide +kernel
theorem sh_47 : svSH[47]? = some (0, 3) := by decide +kernel
theorem sh_48 : svSH[48]? = some (1, 6) := by decide +kernel
theorem sh_49 : svSH[49]? = some (1, 8) := by decide +kernel
theorem sh_50 : svSH[50]? = some (1, 8) := by decide +kernel
theorem sh_51 : svSH[51]? = some (0, 3) := by decide +kernel
theorem sh_52 : svSH[52]? = some (1, 6) := by decide +kernel
theorem sh_53 : svSH[53]? = some (1, 8) := by decide +kernel
theorem sh_54 : svSH[54]? = some (1, 8) := by decide +kernel
theorem sh_55 : svSH[55]? = some (0, 3) := by decide +kernel
theorem sh_56 : svSH[56]? = some (1, 6) := by decide +kernel
theorem sh_57 : svSH[57]? = some (1, 8) := by decide +kernel
theorem sh_58 : svSH[58]? = some (1, 8) := by decide +kernel
theorem sh_59 : svSH[59]? = some (0, 3) := by decide +kernel
theorem sh_60 : svSH[60]? = some (1, 6) := by decide +kernel
theorem sh_61 : svSH[61]? = some (1, 8) := by decide +kernel
theorem sh_62 : svSH[62]? = some (1, 8) := by decide +kernel
theorem sh_63 : svSH[63]? = some (0, 0) := by decide +kernel
theorem sh_64 : svSH[64]? = some (1, 6) := by decide +kernel
theorem sh_65 : svSH[65]? = some (1, 6) := by decide +kernel
theorem sh_66 : svSH[66]? = some (0, 1) := by decide +kernel
theorem sh_67 : svSH[67]? = some (1, 4) := by decide +kernel
theorem sh_68 : svSH[68]? = some (1, 4) := by decide +kernel
theorem sh_69 : svSH[69]? = some (1, 36) := by decide +kernel
theorem sh_70 : svSH[70]? = some (0, 2) := by decide +kernel
theorem sh_71 : svSH[71]? = some (0, 3) := by decide +kernel
theorem sh_72 : svSH[72]? = some (1, 6) := by decide +kernel
theorem sh_73 : svSH[73]? = some (1, 8) := by decide +kernel
theorem sh_74 : svSH[74]? = some (1, 8) := by decide +kernel
theorem sh_75 : svSH[75]? = some (0, 4) := by decide +kernel
theorem sh_76 : svSH[76]? = some (4, 10) := by decide +kernel
theorem sh_77 : svSH[77]? = some (0, 3) := by decide +kernel
theorem sh_78 : svSH[78]? = some (1, 6) := by decide +kernel
theorem sh_79 : svSH[79]? = some (1, 8) := by decide +kernel
theorem sh_80 : svSH[80]? = some (1, 8) := by decide +kernel
theorem sh_81 : svSH[81]? = some (0, 3) := by decide +kernel
theorem sh_82 : svSH[82]? = some (1, 6) := by decide +kernel
theorem sh_83 : svSH[83]? = some (1, 8) := by decide +kernel
theorem sh_84 : svSH[84]? = some (1, 8) := by decide +kernel
theorem sh_85 : svSH[85]? = some (0, 3) := by decide +kernel
theorem sh_86 : svSH[86]? = some (1, 6) := by decide +kernel
theorem sh_87 : svSH[87]? = some (1, 8) := by decide +kernel
theorem sh_88 : svSH[88]? = some (1, 8) := by decide +kernel
theorem sh_89 : svSH[89]? = some (0, 3) := by decide +kernel
theorem sh_90 : svSH[90]? = some (1, 6) := by decide +kernel
theorem sh_91 : svSH[91]? = some (1, 8) := by decide +kernel
theorem sh_92 : svSH[92]? = some (1, 8) := by decide +kernel
theorem sh_93 : svSH[93]? = some (0, 3) := by decide +kernel
theorem sh_94 : svSH[94]? = some (1, 6) := by decide +kernel
theorem sh_95 : svSH[95]? = some (1, 8) := by decide +kernel
theorem sh_96 : svSH[96]? = some (1, 8) := by decide +kernel
theorem sh_97 : svSH[97]? = some (0, 3) := by decide +kernel
theorem sh_98 : svSH[98]? = some (1, 6) := by decide +kernel
theorem sh_99 : svSH[99]? = some (1, 8) := by decide +kernel
theorem sh_100 : svSH[100]? = some (1, 8) := by decide +kernel
theorem sh_101 : svSH[101]? = some (0, 3) := by decide +kernel
theorem sh_102 : svSH[102]? = some (1, 6) := by decide +kernel
theorem sh_103 : svSH[103]? = some (1, 8) := by decide +kernel
theorem sh_104 : svSH[104]? = some (1, 8) := by decide +kernel
theorem sh_105 : svSH[105]? = some (0, 3) := by decide +kernel
theorem sh_106 : svSH[106]? = some (1, 6) := by decide +kernel
theorem sh_107 : svSH[107]? = some (1, 8) := by decide +kernel
theorem sh_108 : svSH[108]? = some (1, 8) := by decide +kernel
theorem sh_109 : svSH[109]? = some (0, 3) := by decide +kernel
theorem sh_110 : svSH[110]? = some (1, 6) := by decide +kernel
theorem sh_111 : svSH[111]? = some (1, 8) := by decide +kernel
theorem sh_112 : svSH[112]? = some (1, 8) := by decide +kernel
theorem sh_113 : svSH[113]? = some (0, 3) := by decide +kernel
theorem sh_114 : svSH[114]? = some (1, 6) := by decide +kernel
theorem sh_115 : svSH[115]? = some (1, 8) := by decide +kernel
theorem sh_116 : svSH[116]? = some (1, 8) := by decide +kernel
theorem sh_117 : svSH[117]? = some (0, 2) := by decide +kernel
theorem sh_118 : svSH[118]? = some (0, 3) := by decide +kernel
theorem sh_119 : svSH[119]? = some (1, 6) := by decide +kernel
theorem sh_120 : svSH[120]? = some (1, 8) := by decide +kernel
theorem sh_121 : svSH[121]? = some (1, 8) := by decide +kernel
theorem sh_122 : svSH[122]? = some (0, 4) := by decide +kernel
theorem sh_123 : svSH[123]? = some (4, 10) := by decide +kernel
theorem sh_124 : svSH[124]? = some (0, 3) := by decide +kernel
theorem sh_125 : svSH[125]? = some (1, 6) := by decide +kernel
theorem sh_126 : svSH[126]? = some (1, 8) := by decide +kernel
theorem sh_127 : svSH[127]? = some (1, 8) := by decide +kernel
theorem sh_128 : svSH[128]? = some (0, 3) := by decide +kernel
theorem sh_129 : svSH[129]? = some (1, 6) := by decide +kernel
theorem sh_130 : svSH[130]? = some (1, 8) := by decide +kernel
theorem sh_131 : svSH[131]? = some (1, 8) := by decide +kernel
theorem sh_132 : svSH[132]? = some (0, 3) := by decide +kernel
theorem sh_133 : svSH[133]? = some (1, 6) := by decide +kernel
theorem sh_134 : svSH[134]? = some (1, 8) := by decide +kernel
theorem sh_135 : svSH[135]? = some (1, 8) := by decide +kernel
theorem sh_136 : svSH[136]? = some (0, 3) := by decide +kernel
theorem sh_137 : svSH[137]? = some (1, 6) := by decide +kernel
theorem sh_138 : svSH[138]? = some (1, 8) := by decide +kernel
theorem sh_139 : svSH[139]? = some (1, 8) := by decide +kernel
theorem sh_140 : svSH[140]? = some (0, 3) := by decide +kernel
theorem sh_141 : svSH[141]? = some (1, 6) := by decide +kernel
theorem sh_142 : svSH[142]? = some (1, 8) := by decide +kernel
theorem sh_143 : svSH[143]? = some (1, 8) := by decide +kernel
theorem sh_144 : svSH[144]? = some (0, 3) := by decide +kernel
theorem sh_145 : svSH[145]? = some (1, 6) := by decide +kernel
theorem sh_146 : svSH[146]? = some (1, 8) := by decide +kernel
theorem sh_147 : svSH[147]? = some (1, 8) := by decide +kernel
theorem sh_148 : svSH[148]? = some (0, 3) := by decide +kernel
theorem sh_149 : svSH[149]? = some (1, 6) := by decide +kernel
theorem sh_150 : svSH[150]? = some (1, 8) := by decide +kernel
theorem sh_151 : svSH[151]? = some (1, 8) := by decide +kernel
theorem sh_152 : svSH[152]? = some (0, 3) := by decide +kernel
theorem sh_153 : svSH[153]? = some (1, 6) := by decide +kernel
theorem sh_154 : svSH[154]? = some (1, 8) := by decide +kernel
theorem sh_155 : svSH[155]? = some (1, 8) := by decide +kernel
theorem sh_156 : svSH[156]? = some (0, 3) := by decide +kernel
theorem sh_157 : svSH[157]? = some (1, 6) := by decide +kernel
theorem sh_158 : svSH[158]? = some (1, 8) := by decide +kernel
theorem sh_159 : svSH[159]? = some (1, 8) := by decide +kernel
theorem sh_160 : svSH[160]? = some (0, 3) := by decide +kernel
theorem sh_161 : svSH[161]? = some (1, 6) := by decide +kernel
theorem sh_162 : svSH[162]? = some (1, 8) := by decide +kernel
theorem sh_163 : svSH[163]? = some (1, 8) := by decide +kernel
theorem sh_164 : svSH[164]? = some (0, 8) := by decide +kernel
theorem sh_165 : svSH[165]? = some (1, 8) := by decide +kernel
theorem sh_166 : svSH[166]? = some (1, 6) := by decide +kernel
theorem sh_167 : svSH[167]? = some (1, 6) := by decide +kernel
theorem sh_168 : svSH[168]? = some (1, 6) := by decide +kernel
theorem sh_169 : svSH[169]? = some (1, 298) := by decide +kernel
theorem sh_170 : svSH[170]? = some (1, 596) := by decide +kernel
theorem sh_171 : svSH[171]? = some (3, 2) := by decide +kernel
theorem sh_172 : svSH[172]? = some (1, 8) := by decide +kernel
theorem sh_173 : svSH[173]? = some (1, 120) := by decide +kernel
theorem sh_174 : svSH[174]? = some (1, 8) := by decide +kernel
theorem sh_175 : svSH[175]? = some (1, 8) := by decide +kernel
theorem sh_176 : svSH[176]? = some (1, 8) := by decide +kernel
theorem sh_177 : svSH[177]? = some (1, 6) := by decide +kernel
theorem sh_178 : svSH[178]? = some (1, 6) := by decide +kernel
theorem sh_179 : svSH[179]? = some (1, 6) := by decide +kernel
theorem sh_180 : svSH[180]? = some (1, 6) := by decide +kernel
theorem sh_181 : svSH[181]? = some (1, 6) := by decide +kernel
section SvHr
variable {tw dr : Nat} {pm : Nat → Nat}
theorem sv_hr_obj {i c k d : Nat} (h : svSH[i]? = some (0, c)) (h0 : i ≠ 0 ∨ (k ≠ 0 ∧ k ≠ 1)) (hd : sv_off c k = some d) : sv_hr tw dr pm i k = some (i + d) := by
  have h22 : i ≠ 22 := sv_ne h sh_22 (by simp)
  unfold sv_hr
  rw [if_neg (by omega), if_neg (by omega), if_neg h22, h]
  simp [hd]
theorem hv_0_2 : sv_hr tw dr pm 0 2 = some 15 := sv_hr_obj (i := 0) (c := 7) (k := 2) (d := 15) sh_0 (Or.inr ⟨by decide, by decide⟩) rfl
theorem hv_0_3 : sv_hr tw dr pm 0 3 = some 17 := sv_hr_obj (i := 0) (c := 7) (k := 3) (d := 17) sh_0 (Or.inr ⟨by decide, by decide⟩) rfl
theorem hv_0_4 : sv_hr tw dr pm 0 4 = some 21 := sv_hr_obj (i := 0) (c := 7) (k := 4) (d := 21) sh_0 (Or.inr ⟨by decide, by decide⟩) rfl
theorem hv_0_5 : sv_hr tw dr pm 0 5 = some 63 := sv_hr_obj (i := 0) (c := 7) (k := 5) (d := 63) sh_0 (Or.inr ⟨by decide, by decide⟩) rfl
theorem hv_0_6 : sv_hr tw dr pm 0 6 = some 66 := sv_hr_obj (i := 0) (c := 7) (k := 6) (d := 66) sh_0 (Or.inr ⟨by decide, by decide⟩) rfl
theorem hv_0_7 : sv_hr tw dr pm 0 7 = some 70 := sv_hr_obj (i := 0) (c := 7) (k := 7) (d := 70) sh_0 (Or.inr ⟨by decide, by decide⟩) rfl
theorem hv_0_8 : sv_hr tw dr pm 0 8 = some 117 := sv_hr_obj (i := 0) (c := 7) (k := 8) (d := 117) sh_0 (Or.inr ⟨by decide, by decide⟩) rfl
theorem hv_15_1 : sv_hr tw dr pm 15 1 = some 16 := sv_hr_obj (i := 15) (c := 5) (k := 1) (d := 1) sh_15 (Or.inl (by decide)) rfl
theorem hv_17_5 : sv_hr tw dr pm 17 5 = some 18 := sv_hr_obj (i := 17) (c := 3) (k := 5) (d := 1) sh_17 (Or.inl (by decide)) rfl
theorem hv_17_6 : sv_hr tw dr pm 17 6 = some 19 := sv_hr_obj (i := 17) (c := 3) (k := 6) (d := 2) sh_17 (Or.inl (by decide)) rfl
theorem hv_17_7 : sv_hr tw dr pm 17 7 = some 20 := sv_hr_obj (i := 17) (c := 3) (k := 7) (d := 3) sh_17 (Or.inl (by decide)) rfl
theorem hv_21_1 : sv_hr tw dr pm 21 1 = some 22 := sv_hr_obj (i := 21) (c := 4) (k := 1) (d := 1) sh_21 (Or.inl (by decide)) rfl
theorem hv_75_1 : sv_hr tw dr pm 75 1 = some 76 := sv_hr_obj (i := 75) (c := 4) (k := 1) (d := 1) sh_75 (Or.inl (by decide)) rfl
theorem hv_122_1 : sv_hr tw dr pm 122 1 = some 123 := sv_hr_obj (i := 122) (c := 4) (k := 1) (d := 1) sh_122 (Or.inl (by decide)) rfl
theorem hv_63_0 : sv_hr tw dr pm 63 0 = some 64 := sv_hr_obj (i := 63) (c := 0) (k := 0) (d := 1) sh_63 (Or.inl (by decide)) rfl
theorem hv_63_1 : sv_hr tw dr pm 63 1 = some 65 := sv_hr_obj (i := 63) (c := 0) (k := 1) (d := 2) sh_63 (Or.inl (by decide)) rfl
theorem hv_66_2 : sv_hr tw dr pm 66 2 = some 67 := sv_hr_obj (i := 66) (c := 1) (k := 2) (d := 1) sh_66 (Or.inl (by decide)) rfl
theorem hv_66_3 : sv_hr tw dr pm 66 3 = some 68 := sv_hr_obj (i := 66) (c := 1) (k := 3) (d := 2) sh_66 (Or.inl (by decide)) rfl
theorem hv_66_4 : sv_hr tw dr pm 66 4 = some 69 := sv_hr_obj (i := 66) (c := 1) (k := 4) (d := 3) sh_66 (Or.inl (by decide)) rfl
theorem hv_70_1 : sv_hr tw dr pm 70 1 = some 71 := sv_hr_obj (i := 70) (c := 2) (k := 1) (d := 1) sh_70 (Or.inl (by decide)) rfl
theorem hv_70_2 : sv_hr tw dr pm 70 2 = some 75 := sv_hr_obj (i := 70) (c := 2) (k := 2) (d := 5) sh_70 (Or.inl (by decide)) rfl
theorem hv_117_1 : sv_hr tw dr pm 117 1 = some 118 := sv_hr_obj (i := 117) (c := 2) (k := 1) (d := 1) sh_117 (Or.inl (by decide)) rfl
theorem hv_117_2 : sv_hr tw dr pm 117 2 = some 122 := sv_hr_obj (i := 117) (c := 2) (k := 2) (d := 5) sh_117 (Or.inl (by decide)) rfl
theorem hv_164_3 : sv_hr tw dr pm 164 3 = some 165 := sv_hr_obj (i := 164) (c := 8) (k := 3) (d := 1) sh_164 (Or.inl (by decide)) rfl
theorem hv_164_5 : sv_hr tw dr pm 164 5 = some 166 := sv_hr_obj (i := 164) (c := 8) (k := 5) (d := 2) sh_164 (Or.inl (by decide)) rfl
theorem hv_164_6 : sv_hr tw dr pm 164 6 = some 167 := sv_hr_obj (i := 164) (c := 8) (k := 6) (d := 3) sh_164 (Or.inl (by decide)) rfl
theorem hv_164_7 : sv_hr tw dr pm 164 7 = some 168 := sv_hr_obj (i := 164) (c := 8) (k := 7) (d := 4) sh_164 (Or.inl (by decide)) rfl
theorem hv_164_8 : sv_hr tw dr pm 164 8 = some 169 := sv_hr_obj (i := 164) (c := 8) (k := 8) (d := 5) sh_164 (Or.inl (by decide)) rfl
theorem hv_164_9 : sv_hr tw dr pm 164 9 = some 170 := sv_hr_obj (i := 164) (c := 8) (k := 9) (d := 6) sh_164 (Or.inl (by decide)) rfl
theorem hv_164_10 : sv_hr tw dr pm 164 10 = some 171 := sv_hr_obj (i := 164) (c := 8) (k := 10) (d := 7) sh_164 (Or.inl (by decide)) rfl
theorem hv_164_12 : sv_hr tw dr pm 164 12 = some 172 := sv_hr_obj (i := 164) (c := 8) (k := 12) (d := 8) sh_164 (Or.inl (by decide)) rfl
theorem hv_164_14 : sv_hr tw dr pm 164 14 = some 173 := sv_hr_obj (i := 164) (c := 8) (k := 14) (d := 9) sh_164 (Or.inl (by decide)) rfl
theorem hv_164_26 : sv_hr tw dr pm 164 26 = some 174 := sv_hr_obj (i := 164) (c := 8) (k := 26) (d := 10) sh_164 (Or.inl (by decide)) rfl
theorem hv_164_27 : sv_hr tw dr pm 164 27 = some 175 := sv_hr_obj (i := 164) (c := 8) (k := 27) (d := 11) sh_164 (Or.inl (by decide)) rfl
theorem hv_164_28 : sv_hr tw dr pm 164 28 = some 176 := sv_hr_obj (i := 164) (c := 8) (k := 28) (d := 12) sh_164 (Or.inl (by decide)) rfl
theorem hv_164_30 : sv_hr tw dr pm 164 30 = some 177 := sv_hr_obj (i := 164) (c := 8) (k := 30) (d := 13) sh_164 (Or.inl (by decide)) rfl
theorem hv_164_31 : sv_hr tw dr pm 164 31 = some 178 := sv_hr_obj (i := 164) (c := 8) (k := 31) (d := 14) sh_164 (Or.inl (by decide)) rfl
theorem hv_164_32 : sv_hr tw dr pm 164 32 = some 179 := sv_hr_obj (i := 164) (c := 8) (k := 32) (d := 15) sh_164 (Or.inl (by decide)) rfl
theorem hv_164_33 : sv_hr tw dr pm 164 33 = some 180 := sv_hr_obj (i := 164) (c := 8) (k := 33) (d := 16) sh_164 (Or.inl (by decide)) rfl
theorem hv_164_34 : sv_hr tw dr pm 164 34 = some 181 := sv_hr_obj (i := 164) (c := 8) (k := 34) (d := 17) sh_164 (Or.inl (by decide)) rfl
theorem hv_0_0 : sv_hr tw dr pm 0 0 = some tw := rfl
theorem hv_0_1 : sv_hr tw dr pm 0 1 = some dr := rfl
theorem hv_rows {k : Nat} (h : k < 10) : sv_hr tw dr pm 22 k = some (pm k) := by simp [sv_hr, h]
theorem hv_rows0 {k : Nat} (h : k < 10) : sv_hr tw dr pm 76 k = some (77 + 4 * k) := by
  unfold sv_hr
  rw [if_neg (by omega), if_neg (by omega), if_neg (by decide), sh_76]
  simp [h]
theorem hv_rows1 {k : Nat} (h : k < 10) : sv_hr tw dr pm 123 k = some (124 + 4 * k) := by
  unfold sv_hr
  rw [if_neg (by omega), if_neg (by omega), if_neg (by decide), sh_123]
  simp [h]
theorem hv_T5 {i : Nat} (h : svSH[i]? = some (0, 6)) : sv_hr tw dr pm i 5 = some (i + 1) := sv_hr_obj h (Or.inl (sv_ne h sh_0 (by simp))) rfl
theorem ar_T5 {i : Nat} (h : svSH[i]? = some (0, 6)) : svSH[i + 1]? = some (1, 8) := sv_next (by decide +kernel) h
theorem hv_T6 {i : Nat} (h : svSH[i]? = some (0, 6)) : sv_hr tw dr pm i 6 = some (i + 2) := sv_hr_obj h (Or.inl (sv_ne h sh_0 (by simp))) rfl
theorem ar_T6 {i : Nat} (h : svSH[i]? = some (0, 6)) : svSH[i + 2]? = some (1, 8) := sv_next (by decide +kernel) h
theorem hv_T7 {i : Nat} (h : svSH[i]? = some (0, 6)) : sv_hr tw dr pm i 7 = some (i + 3) := sv_hr_obj h (Or.inl (sv_ne h sh_0 (by simp))) rfl
theorem ar_T7 {i : Nat} (h : svSH[i]? = some (0, 6)) : svSH[i + 3]? = some (1, 8) := sv_next (by decide +kernel) h
theorem hv_T8 {i : Nat} (h : svSH[i]? = some (0, 6)) : sv_hr tw dr pm i 8 = some (i + 4) := sv_hr_obj h (Or.inl (sv_ne h sh_0 (by simp))) rfl
theorem ar_T8 {i : Nat} (h : svSH[i]? = some (0, 6)) : svSH[i + 4]? = some (1, 6) := sv_next (by decide +kernel) h
theorem hv_T9 {i : Nat} (h : svSH[i]? = some (0, 6)) : sv_hr tw dr pm i 9 = some (i + 5) := sv_hr_obj h (Or.inl (sv_ne h sh_0 (by simp))) rfl
theorem ar_T9 {i : Nat} (h : svSH[i]? = some (0, 6)) : svSH[i + 5]? = some (1, 6) := sv_next (by decide +kernel) h
theorem hv_T10 {i : Nat} (h : svSH[i]? = some (0, 6)) : sv_hr tw dr pm i 10 = some (i + 6) := sv_hr_obj h (Or.inl (sv_ne h sh_0 (by simp))) rfl
theorem ar_T10 {i : Nat} (h : svSH[i]? = some (0, 6)) : svSH[i + 6]? = some (1, 6) := sv_next (by decide +kernel) h
theorem hv_N5 {i : Nat} (h : svSH[i]? = some (0, 3)) : sv_hr tw dr pm i 5 = some (i + 1) := sv_hr_obj h (Or.inl (sv_ne h sh_0 (by simp))) rfl
theorem ar_N5 {i : Nat} (h : svSH[i]? = some (0, 3)) : svSH[i + 1]? = some (1, 6) := sv_next (by decide +kernel) h
theorem hv_N6 {i : Nat} (h : svSH[i]? = some (0, 3)) : sv_hr tw dr pm i 6 = some (i + 2) := sv_hr_obj h (Or.inl (sv_ne h sh_0 (by simp))) rfl
theorem ar_N6 {i : Nat} (h : svSH[i]? = some (0, 3)) : svSH[i + 2]? = some (1, 8) := sv_next (by decide +kernel) h
theorem hv_N7 {i : Nat} (h : svSH[i]? = some (0, 3)) : sv_hr tw dr pm i 7 = some (i + 3) := sv_hr_obj h (Or.inl (sv_ne h sh_0 (by simp))) rfl
theorem ar_N7 {i : Nat} (h : svSH[i]? = some (0, 3)) : svSH[i + 3]? = some (1, 8) := sv_next (by decide +kernel) h
theorem hv_P1 {i : Nat} (h : svSH[i]? = some (0, 4)) : sv_hr tw dr pm i 1 = some (i + 1) := sv_hr_obj h (Or.inl (sv_ne h sh_0 (by simp))) rfl
theorem ar_P1 {i : Nat} (h : svSH[i]? = some (0, 4)) : svSH[i + 1]? = some (4, 10) := sv_next (by decide +kernel) h
theorem hv_I1 {i : Nat} (h : svSH[i]? = some (0, 2)) : sv_hr tw dr pm i 1 = some (i + 1) := sv_hr_obj h (Or.inl (sv_ne h sh_0 (by simp))) rfl
theorem ar_I1 {i : Nat} (h : svSH[i]? = some (0, 2)) : svSH[i + 1]? = some (0, 3) := sv_next (by decide +kernel) h
theorem hv_I2 {i : Nat} (h : svSH[i]? = some (0, 2)) : sv_hr tw dr pm i 2 = some (i + 5) := sv_hr_obj h (Or.inl (sv_ne h sh_0 (by simp))) rfl
theorem ar_I2 {i : Nat} (h : svSH[i]? = some (0, 2)) : svSH[i + 5]? = some (0, 4) := sv_next (by decide +kernel) h
end SvHr
theorem svJ_ls {l : Launch} {G : svG} {R : Room} {M : svM} {F : svF} {cs sl pc : Nat} {ls ls' : List (Option Value)} {st : List Value} {sh : svS} {hi : svH} {hl : svL} {hr : svR} (e : ls' = ls) (h : svJ l G R M F cs sl pc ls' st sh hi hl hr) : svJ l G R M F cs sl pc ls st sh hi hl hr := e ▸ h
theorem svJ_hi {l : Launch} {G : svG} {R : Room} {M : svM} {F : svF} {cs sl pc : Nat} {ls ls' : List (Option Value)} {st : List Value} {sh : svS} {hi hi' : svH} {hl : svL} {hr : svR} (e : ls' = ls) (e2 : hi' = hi) (h : svJ l G R M F cs sl pc ls' st sh hi' hl hr) : svJ l G R M F cs sl pc ls st sh hi hl hr := e ▸ e2 ▸ h
/-- a truth as the number that Java holds -/
def sv_b (c : Prop) [Decidable c] : Int32 := if c then 1 else 0
theorem sv_b_t {c : Prop} [Decidable c] (h : c) : sv_b c = 1 := if_pos h
theorem sv_b_f {c : Prop} [Decidable c] (h : ¬ c) : sv_b c = 0 := if_neg h
theorem sv_b_ne {c : Prop} [Decidable c] : ¬ sv_b c = 0 ↔ c := by
  by_cases h : c
  · rw [sv_b_t h]; exact ⟨fun _ => h, fun _ => by decide⟩
  · rw [sv_b_f h]; exact ⟨fun z => absurd rfl z, fun z => absurd z h⟩
theorem sv_b_eq {c : Prop} [Decidable c] : sv_b c = 0 ↔ ¬ c := by
  by_cases h : c
  · rw [sv_b_t h]; exact ⟨fun z => absurd z (by decide), fun z => absurd h z⟩
  · rw [sv_b_f h]; exact ⟨fun _ => h, fun _ => rfl⟩
theorem sv_b_z {c : Prop} [Decidable c] : sv_b c = 0 ∨ sv_b c = 1 := by
  by_cases h : c
  · exact Or.inr (sv_b_t h)
  · exact Or.inl (sv_b_f h)
theorem sv_b_nar {c : Prop} [Decidable c] : narrow .boolean (.int (sv_b c)) = .int (sv_b c) := by
  by_cases h : c
  · rw [sv_b_t h]; rfl
  · rw [sv_b_f h]; rfl
theorem sv_b_iff {c d : Prop} [Decidable c] [Decidable d] (h : c ↔ d) : sv_b c = sv_b d := by
  by_cases k : c
  · rw [sv_b_t k, sv_b_t (h.mp k)]
  · rw [sv_b_f k, sv_b_f (fun z => k (h.mpr z))]
section SvB
variable {l : Launch} {G : svG} {R : Room} {M : svM} {F : svF} {cs sl pc : Nat} {ls : List (Option Value)} {st : List Value} {sh : svS} {hi : svH} {hl : svL} {hr : svR}
theorem J_if_eq_b {c : Prop} [Decidable c] {off : Int} (tgt : Nat) (d : decode M.2.1 pc = .ok (.ifCond .eq off, 3)) (ht : (pc : Int) + off = (tgt : Int)) (kt : ¬ c → svJ l G R M F cs sl tgt ls st sh hi hl hr) (kf : c → svJ l G R M F cs sl (pc + 3) ls st sh hi hl hr) : svJ l G R M F cs sl pc ls (.int (sv_b c) :: st) sh hi hl hr := J_if_eq tgt d ht (fun z => kt (sv_b_eq.mp z)) (fun z => kf (sv_b_ne.mp z))
theorem J_if_ne_b {c : Prop} [Decidable c] {off : Int} (tgt : Nat) (d : decode M.2.1 pc = .ok (.ifCond .ne off, 3)) (ht : (pc : Int) + off = (tgt : Int)) (kt : c → svJ l G R M F cs sl tgt ls st sh hi hl hr) (kf : ¬ c → svJ l G R M F cs sl (pc + 3) ls st sh hi hl hr) : svJ l G R M F cs sl pc ls (.int (sv_b c) :: st) sh hi hl hr := J_if_ne tgt d ht (fun z => kt (sv_b_ne.mp z)) (fun z => kf (sv_b_eq.mp z))
end SvB
/-- a row read behind a look at its length; a bit behind a look at its place -/
def sv_at (n : Nat) (f : Nat → Int32) (x : Int32) : Int32 := if 0 ≤ x ∧ x < nI n then f x.toNatClampNeg else 0
def sv_bit (b i : Int32) : Int32 := if 0 ≤ i ∧ i < 32 then b >>> (i &&& 31) &&& 1 else 0
theorem sv_at_n {n j : Nat} {f : Nat → Int32} (h : j < n) (hn : n < 2 ^ 31) : sv_at n f (nI j) = f j := by
  unfold sv_at
  rw [if_pos ⟨nI_pos' (by omega), nI_lt h hn⟩, nI_clamp (by omega)]
theorem sv_in0 {x : Int32} {n : Nat} (h : 0 ≤ x ∧ x < nI n) (hn : n < 2 ^ 31) : vp_in x n := by
  have h0 := Int32.le_iff_toInt_le.mp h.1
  have h1 := Int32.lt_iff_toInt_lt.mp h.2
  rw [nI_toInt hn] at h1
  exact vp_in_iff.mpr ⟨by simpa using h0, h1⟩
theorem sv_ix {x : Int32} {n : Nat} (h : 0 ≤ x ∧ x < nI n) (hn : n < 2 ^ 31) : ∃ j : Nat, j < n ∧ x = nI j := vp_in_of (sv_in0 h hn) hn

section SvInc
variable {l : Launch} {G : svG} {R : Room} {M : svM} {F : svF} {cs sl pc : Nat} {ls : List (Option Value)} {st : List Value} {sh : svS} {hi : svH} {hl : svL} {hr : svR}
theorem S_inc_0 {x : Int32} {n : Int} (v : Int32) (hv : Int32.ofInt n = v) (d : decode M.2.1 pc = .ok (.iinc 0 n, 3)) (hn : 0 < M.2.2.1) (kk : svJ l G R M F cs sl (pc + 3) (some (.int (x + v)) :: ls) st sh hi hl hr) : svJ l G R M F cs sl pc (some (.int x) :: ls) st sh hi hl hr := S_iinc_0 d (by rw [hv]) hn kk
theorem S_inc_1 {a0 : Option Value} {x : Int32} {n : Int} (v : Int32) (hv : Int32.ofInt n = v) (d : decode M.2.1 pc = .ok (.iinc 1 n, 3)) (hn : 1 < M.2.2.1) (kk : svJ l G R M F cs sl (pc + 3) (a0 :: some (.int (x + v)) :: ls) st sh hi hl hr) : svJ l G R M F cs sl pc (a0 :: some (.int x) :: ls) st sh hi hl hr := S_iinc_1 d (by rw [hv]) hn kk
theorem S_inc_2 {a0 a1 : Option Value} {x : Int32} {n : Int} (v : Int32) (hv : Int32.ofInt n = v) (d : decode M.2.1 pc = .ok (.iinc 2 n, 3)) (hn : 2 < M.2.2.1) (kk : svJ l G R M F cs sl (pc + 3) (a0 :: a1 :: some (.int (x + v)) :: ls) st sh hi hl hr) : svJ l G R M F cs sl pc (a0 :: a1 :: some (.int x) :: ls) st sh hi hl hr := S_iinc_2 d (by rw [hv]) hn kk
theorem S_inc_3 {a0 a1 a2 : Option Value} {x : Int32} {n : Int} (v : Int32) (hv : Int32.ofInt n = v) (d : decode M.2.1 pc = .ok (.iinc 3 n, 3)) (hn : 3 < M.2.2.1) (kk : svJ l G R M F cs sl (pc + 3) (a0 :: a1 :: a2 :: some (.int (x + v)) :: ls) st sh hi hl hr) : svJ l G R M F cs sl pc (a0 :: a1 :: a2 :: some (.int x) :: ls) st sh hi hl hr := S_iinc_3 d (by rw [hv]) hn kk
theorem S_inc_4 {a0 a1 a2 a3 : Option Value} {x : Int32} {n : Int} (v : Int32) (hv : Int32.ofInt n = v) (d : decode M.2.1 pc = .ok (.iinc 4 n, 3)) (hn : 4 < M.2.2.1) (kk : svJ l G R M F cs sl (pc + 3) (a0 :: a1 :: a2 :: a3 :: some (.int (x + v)) :: ls) st sh hi hl hr) : svJ l G R M F cs sl pc (a0 :: a1 :: a2 :: a3 :: some (.int x) :: ls) st sh hi hl hr := S_iinc_4 d (by rw [hv]) hn kk
theorem S_inc_5 {a0 a1 a2 a3 a4 : Option Value} {x : Int32} {n : Int} (v : Int32) (hv : Int32.ofInt n = v) (d : decode M.2.1 pc = .ok (.iinc 5 n, 3)) (hn : 5 < M.2.2.1) (kk : svJ l G R M F cs sl (pc + 3) (a0 :: a1 :: a2 :: a3 :: a4 :: some (.int (x + v)) :: ls) st sh hi hl hr) : svJ l G R M F cs sl pc (a0 :: a1 :: a2 :: a3 :: a4 :: some (.int x) :: ls) st sh hi hl hr := S_iinc_5 d (by rw [hv]) hn kk
theorem S_inc_6 {a0 a1 a2 a3 a4 a5 : Option Value} {x : Int32} {n : Int} (v : Int32) (hv : Int32.ofInt n = v) (d : decode M.2.1 pc = .ok (.iinc 6 n, 3)) (hn : 6 < M.2.2.1) (kk : svJ l G R M F cs sl (pc + 3) (a0 :: a1 :: a2 :: a3 :: a4 :: a5 :: some (.int (x + v)) :: ls) st sh hi hl hr) : svJ l G R M F cs sl pc (a0 :: a1 :: a2 :: a3 :: a4 :: a5 :: some (.int x) :: ls) st sh hi hl hr := S_iinc_6 d (by rw [hv]) hn kk
theorem S_inc_7 {a0 a1 a2 a3 a4 a5 a6 : Option Value} {x : Int32} {n : Int} (v : Int32) (hv : Int32.ofInt n = v) (d : decode M.2.1 pc = .ok (.iinc 7 n, 3)) (hn : 7 < M.2.2.1) (kk : svJ l G R M F cs sl (pc + 3) (a0 :: a1 :: a2 :: a3 :: a4 :: a5 :: a6 :: some (.int (x + v)) :: ls) st sh hi hl hr) : svJ l G R M F cs sl pc (a0 :: a1 :: a2 :: a3 :: a4 :: a5 :: a6 :: some (.int x) :: ls) st sh hi hl hr := S_iinc_7 d (by rw [hv]) hn kk
theorem S_inc_8 {a0 a1 a2 a3 a4 a5 a6 a7 : Option Value} {x : Int32} {n : Int} (v : Int32) (hv : Int32.ofInt n = v) (d : decode M.2.1 pc = .ok (.iinc 8 n, 3)) (hn : 8 < M.2.2.1) (kk : svJ l G R M F cs sl (pc + 3) (a0 :: a1 :: a2 :: a3 :: a4 :: a5 :: a6 :: a7 :: some (.int (x + v)) :: ls) st sh hi hl hr) : svJ l G R M F cs sl pc (a0 :: a1 :: a2 :: a3 :: a4 :: a5 :: a6 :: a7 :: some (.int x) :: ls) st sh hi hl hr := S_iinc_8 d (by rw [hv]) hn kk
theorem S_inc_9 {a0 a1 a2 a3 a4 a5 a6 a7 a8 : Option Value} {x : Int32} {n : Int} (v : Int32) (hv : Int32.ofInt n = v) (d : decode M.2.1 pc = .ok (.iinc 9 n, 3)) (hn : 9 < M.2.2.1) (kk : svJ l G R M F cs sl (pc + 3) (a0 :: a1 :: a2 :: a3 :: a4 :: a5 :: a6 :: a7 :: a8 :: some (.int (x + v)) :: ls) st sh hi hl hr) : svJ l G R M F cs sl pc (a0 :: a1 :: a2 :: a3 :: a4 :: a5 :: a6 :: a7 :: a8 :: some (.int x) :: ls) st sh hi hl hr := S_iinc_9 d (by rw [hv]) hn kk
theorem S_inc_10 {a0 a1 a2 a3 a4 a5 a6 a7 a8 a9 : Option Value} {x : Int32} {n : Int} (v : Int32) (hv : Int32.ofInt n = v) (d : decode M.2.1 pc = .ok (.iinc 10 n, 3)) (hn : 10 < M.2.2.1) (kk : svJ l G R M F cs sl (pc + 3) (a0 :: a1 :: a2 :: a3 :: a4 :: a5 :: a6 :: a7 :: a8 :: a9 :: some (.int (x + v)) :: ls) st sh hi hl hr) : svJ l G R M F cs sl pc (a0 :: a1 :: a2 :: a3 :: a4 :: a5 :: a6 :: a7 :: a8 :: a9 :: some (.int x) :: ls) st sh hi hl hr := S_iinc_10 d (by rw [hv]) hn kk
end SvInc
/-- a method that answers this and changes nothing; one that answers this and changes the numbers to those -/
abbrev svIp (l : Launch) (G : svG) (y : MethodName) (M : svM) (rm : Room) (args : List Value) (hi : svH) (hl : svL) (hr : svR) (f : Int32) : Prop := svI l G y M rm args hi hl hr (fun r a b c => f = r ∧ hi = a ∧ hl = b ∧ hr = c)
abbrev svIh (l : Launch) (G : svG) (y : MethodName) (M : svM) (rm : Room) (args : List Value) (hi : svH) (hl : svL) (hr : svR) (f : Int32) (hi' : svH) : Prop := svI l G y M rm args hi hl hr (fun r a b c => f = r ∧ hi' = a ∧ hl = b ∧ hr = c)
abbrev svVh (l : Launch) (G : svG) (y : MethodName) (M : svM) (rm : Room) (args : List Value) (hi : svH) (hl : svL) (hr : svR) (hi' : svH) : Prop := svV l G y M rm args hi hl hr (fun a b c => hi' = a ∧ hl = b ∧ hr = c)
