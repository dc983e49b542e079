/-- what the model settles: its fields, its trains and the day, its groups -/
def sA (hi a : svH) : Prop := a 164 0 = hi 164 22 ∧ a 164 1 = hi 164 23 ∧ a 164 2 = hi 164 25 ∧ a 164 4 = hi 164 29 ∧ ∀ k, 16 ≤ k → a 164 k = hi 164 k
def sB (hi a : svH) (t : Nat) : Prop := (∀ i, i < t → a 165 i = hi 175 i ∧ a 169 (9 + i) = hi 174 i ∧ a 169 (17 + i) = hi 176 i) ∧ a 169 1 = hi 164 24 ∧ ∀ k, k < 298 → k ≠ 1 → (k < 9 ∨ 9 + t ≤ k) → (k < 17 ∨ 17 + t ≤ k) → a 169 k = 0
def sC (hi a : svH) (r : Nat) : Prop := ∀ i, i < r → a 166 i = hi 177 i ∧ a 167 i = hi 178 i ∧ a 168 i = hi 179 i
def sFr (hi a : svH) : Prop := ∀ q, q < 164 ∨ 169 < q → a q = hi q
def mSetR (hi a : svH) (T Gn : Nat) : Prop := (∀ q, q < 164 ∨ q = 170 ∨ 171 < q → a q = hi q) ∧ sA hi a ∧ sB hi a T ∧ sC hi a Gn ∧ a 171 0 = 0 ∧ a 171 1 = 0 ∧ a 164 11 = 0 ∧ a 164 15 = 0
set_option maxRecDepth 20000 in
set_option maxHeartbeats 2000000 in
theorem lo3_X8_settles {l : Launch} {G : svG} {hi : svH} {hl : svL} {tw dr : Nat} {pm : Nat → Nat} {T Gn : Nat} (hT : hi 164 25 = nI T) (hT8 : T ≤ 8) (hG : hi 164 29 = nI Gn) (hG6 : Gn ≤ 6) : ∀ t, t ≤ Gn → ∀ h' : svH, sFr hi h' → sA hi h' → sB hi h' T → sC hi h' t → svJ l G rX8_settles mX8_settles (sv_Fm G (fun v sh a b c => v = none ∧ sh = svSH ∧ ((fun a b c => mSetR hi a T Gn ∧ hl = b ∧ sv_hr tw dr pm = c)) a b c) 0 0) 0 0 124 [some (sv_rf G.1 164), some (.int (nI t))] [] svSH h' hl (sv_hr tw dr pm) := by
  refine sv_up (fun t ht ih h' i1 i2 i3 i4 => ?_)
  have eG : h' 164 4 = nI Gn := by rw [i2.2.2.2.1]; exact hG
  refine S_iload_1 (pc := 124) dX8_settles_124 ?_
  refine S_aload_0 (pc := 125) dX8_settles_125 ?_
  refine fgX8_76 (pc := 126) sh_164 dX8_settles_126 ?_
  refine J_icmp_ge (pc := 129) 174 dX8_settles_129 (by decide) (fun h129 => ?_) (fun h129 => ?_)
  · rw [eG, nI_leI (by omega) (by omega)] at h129
    obtain rfl : t = Gn := by omega
    refine S_aload_0 (pc := 174) dX8_settles_174 ?_
    refine J_iconst (pc := 175) (0) rfl dX8_settles_175 ?_
    refine fpX8_156 (pc := 176) sh_164 dX8_settles_176 ?_
    refine S_aload_0 (pc := 179) dX8_settles_179 ?_
    refine fgX8_35 (pc := 180) sh_164 hv_164_10 dX8_settles_180 ?_
    refine J_iconst (pc := 183) (0) rfl dX8_settles_183 ?_
    refine J_iconst (pc := 184) (0) rfl dX8_settles_184 ?_
    refine J_zast_n (pc := 185) 0 sh_171 rfl (by decide) (by decide) rfl dX8_settles_185 ?_
    refine S_aload_0 (pc := 186) dX8_settles_186 ?_
    refine fgX8_35 (pc := 187) sh_164 hv_164_10 dX8_settles_187 ?_
    refine J_iconst (pc := 190) (1) rfl dX8_settles_190 ?_
    refine J_iconst (pc := 191) (0) rfl dX8_settles_191 ?_
    refine J_zast_n (pc := 192) 1 sh_171 rfl (by decide) (by decide) rfl dX8_settles_192 ?_
    refine S_aload_0 (pc := 193) dX8_settles_193 ?_
    refine J_iconst (pc := 194) (0) rfl dX8_settles_194 ?_
    refine fpX8_79 (pc := 195) sh_164 dX8_settles_195 ?_
    exact J_return (pc := 198) dX8_settles_198 rfl ⟨rfl, rfl, (by
        refine ⟨⟨fun q hq => ?_, ⟨?_, ?_, ?_, ?_, fun k hk => ?_⟩, ?_, ?_, ?_, ?_, ?_, ?_⟩, rfl, rfl⟩
        · rw [sv_u2_off (by omega), sv_u2_off (by omega), sv_u2_off (by omega), sv_u2_off (by omega)]; exact i1 q (by omega)
        · rw [u2x (by decide), u2x (by decide), u2x (by decide), u2x (by decide)]; exact i2.1
        · rw [u2x (by decide), u2x (by decide), u2x (by decide), u2x (by decide)]; exact i2.2.1
        · rw [u2x (by decide), u2x (by decide), u2x (by decide), u2x (by decide)]; exact i2.2.2.1
        · rw [u2x (by decide), u2x (by decide), u2x (by decide), u2x (by decide)]; exact i2.2.2.2.1
        · rw [u2x (by omega), u2x (by omega), u2x (by omega), u2x (by omega)]; exact i2.2.2.2.2 k hk
        · unfold sB
          rw [sv_u2_off (show (165 : Nat) ≠ 164 by decide), sv_u2_off (show (165 : Nat) ≠ 171 by decide), sv_u2_off (show (165 : Nat) ≠ 171 by decide), sv_u2_off (show (165 : Nat) ≠ 164 by decide), sv_u2_off (show (169 : Nat) ≠ 164 by decide), sv_u2_off (show (169 : Nat) ≠ 171 by decide), sv_u2_off (show (169 : Nat) ≠ 171 by decide), sv_u2_off (show (169 : Nat) ≠ 164 by decide)]
          exact i3
        · intro i hi2
          rw [u2x (by omega), u2x (by omega), u2x (by omega), u2x (by omega), u2x (by omega), u2x (by omega), u2x (by omega), u2x (by omega), u2x (by omega), u2x (by omega), u2x (by omega), u2x (by omega)]
          exact i4 i hi2
        · simp [sv_u2]
        · simp [sv_u2]
        · simp [sv_u2]
        · simp [sv_u2])⟩
  · rw [eG, nI_leI (by omega) (by omega)] at h129
    refine S_aload_0 (pc := 132) dX8_settles_132 ?_
    refine fgX8_20 (pc := 133) sh_164 hv_164_5 dX8_settles_133 ?_
    refine S_iload_1 (pc := 136) dX8_settles_136 ?_
    refine S_aload_0 (pc := 137) dX8_settles_137 ?_
    refine fgX8_54 (pc := 138) sh_164 hv_164_30 dX8_settles_138 ?_
    refine S_iload_1 (pc := 141) dX8_settles_141 ?_
    refine J_iald_n (pc := 142) t sh_177 rfl (by omega) (by decide) dX8_settles_142 ?_
    refine J_iast_n (pc := 143) t sh_166 rfl (by omega) (by decide) dX8_settles_143 ?_
    refine S_aload_0 (pc := 144) dX8_settles_144 ?_
    refine fgX8_23 (pc := 145) sh_164 hv_164_6 dX8_settles_145 ?_
    refine S_iload_1 (pc := 148) dX8_settles_148 ?_
    refine S_aload_0 (pc := 149) dX8_settles_149 ?_
    refine fgX8_57 (pc := 150) sh_164 hv_164_31 dX8_settles_150 ?_
    refine S_iload_1 (pc := 153) dX8_settles_153 ?_
    refine J_iald_n (pc := 154) t sh_178 rfl (by omega) (by decide) dX8_settles_154 ?_
    refine J_iast_n (pc := 155) t sh_167 rfl (by omega) (by decide) dX8_settles_155 ?_
    refine S_aload_0 (pc := 156) dX8_settles_156 ?_
    refine fgX8_26 (pc := 157) sh_164 hv_164_7 dX8_settles_157 ?_
    refine S_iload_1 (pc := 160) dX8_settles_160 ?_
    refine S_aload_0 (pc := 161) dX8_settles_161 ?_
    refine fgX8_60 (pc := 162) sh_164 hv_164_32 dX8_settles_162 ?_
    refine S_iload_1 (pc := 165) dX8_settles_165 ?_
    refine J_iald_n (pc := 166) t sh_179 rfl (by omega) (by decide) dX8_settles_166 ?_
    refine J_iast_n (pc := 167) t sh_168 rfl (by omega) (by decide) dX8_settles_167 ?_
    refine S_inc_1 (pc := 168) (1) rfl dX8_settles_168 (by decide) ?_
    refine J_goto (pc := 171) 124 dX8_settles_171 (by decide) ?_
    refine svJ_ls (by rw [nI_succ]) (ih (t + 1) (by omega) (by omega) _ (fun q hq => ?_) ⟨?_, ?_, ?_, ?_, fun k hk => ?_⟩ ?_ (fun i hi2 => ?_))
    · rw [sv_u2_off (by omega), sv_u2_off (by omega), sv_u2_off (by omega)]; exact i1 q hq
    · rw [u2x (by omega), u2x (by omega), u2x (by omega)]; exact i2.1
    · rw [u2x (by omega), u2x (by omega), u2x (by omega)]; exact i2.2.1
    · rw [u2x (by omega), u2x (by omega), u2x (by omega)]; exact i2.2.2.1
    · rw [u2x (by omega), u2x (by omega), u2x (by omega)]; exact i2.2.2.2.1
    · rw [u2x (by omega), u2x (by omega), u2x (by omega)]; exact i2.2.2.2.2 k hk
    · unfold sB
      rw [sv_u2_off (show (165 : Nat) ≠ 168 by decide), sv_u2_off (show (165 : Nat) ≠ 167 by decide), sv_u2_off (show (165 : Nat) ≠ 166 by decide), sv_u2_off (show (169 : Nat) ≠ 168 by decide), sv_u2_off (show (169 : Nat) ≠ 167 by decide), sv_u2_off (show (169 : Nat) ≠ 166 by decide)]
      exact i3
    · rw [sv_u2_off (show (178 : Nat) ≠ 166 by decide), sv_u2_off (show (179 : Nat) ≠ 167 by decide), sv_u2_off (show (179 : Nat) ≠ 166 by decide), i1 177 (by decide), i1 178 (by decide), i1 179 (by decide), sv_u2_off (show (166 : Nat) ≠ 168 by decide), sv_u2_off (show (166 : Nat) ≠ 167 by decide), sv_u2_off (show (167 : Nat) ≠ 168 by decide)]
      by_cases e : i = t
      · subst e
        exact ⟨sv_u2_at, sv_u2_at, sv_u2_at⟩
      · rw [sv_u2_k e, sv_u2_k e, sv_u2_k e, sv_u2_off (show (167 : Nat) ≠ 166 by decide), sv_u2_off (show (168 : Nat) ≠ 167 by decide), sv_u2_off (show (168 : Nat) ≠ 166 by decide)]
        exact i4 i (by omega)
set_option maxRecDepth 20000 in
set_option maxHeartbeats 2000000 in
theorem lo2_X8_settles {l : Launch} {G : svG} {hi : svH} {hl : svL} {tw dr : Nat} {pm : Nat → Nat} {T Gn : Nat} (hT : hi 164 25 = nI T) (hT8 : T ≤ 8) (hG : hi 164 29 = nI Gn) (hG6 : Gn ≤ 6) : ∀ t, t ≤ T → ∀ h' : svH, sFr hi h' → sA hi h' → sB hi h' t → svJ l G rX8_settles mX8_settles (sv_Fm G (fun v sh a b c => v = none ∧ sh = svSH ∧ ((fun a b c => mSetR hi a T Gn ∧ hl = b ∧ sv_hr tw dr pm = c)) a b c) 0 0) 0 0 66 [some (sv_rf G.1 164), some (.int (nI t))] [] svSH h' hl (sv_hr tw dr pm) := by
  refine sv_up (fun t ht ih h' i1 i2 i3 => ?_)
  have eT : h' 164 2 = nI T := by rw [i2.2.2.1]; exact hT
  refine S_iload_1 (pc := 66) dX8_settles_66 ?_
  refine S_aload_0 (pc := 67) dX8_settles_67 ?_
  refine fgX8_73 (pc := 68) sh_164 dX8_settles_68 ?_
  refine J_icmp_ge (pc := 71) 122 dX8_settles_71 (by decide) (fun h71 => ?_) (fun h71 => ?_)
  · rw [eT, nI_leI (by omega) (by omega)] at h71
    obtain rfl : t = T := by omega
    refine J_iconst (pc := 122) (0) rfl dX8_settles_122 ?_
    refine S_istore_1 (pc := 123) dX8_settles_123 (by decide) ?_
    exact svJ_ls (by rfl) (lo3_X8_settles hT hT8 hG hG6 0 (Nat.zero_le _) _ i1 i2 i3 (fun i hi2 => by omega))
  · rw [eT, nI_leI (by omega) (by omega)] at h71
    refine S_aload_0 (pc := 74) dX8_settles_74 ?_
    refine fgX8_16 (pc := 75) sh_164 hv_164_3 dX8_settles_75 ?_
    refine S_iload_1 (pc := 78) dX8_settles_78 ?_
    refine S_aload_0 (pc := 79) dX8_settles_79 ?_
    refine fgX8_48 (pc := 80) sh_164 hv_164_27 dX8_settles_80 ?_
    refine S_iload_1 (pc := 83) dX8_settles_83 ?_
    refine J_iald_n (pc := 84) t sh_175 rfl (by omega) (by decide) dX8_settles_84 ?_
    refine J_iast_n (pc := 85) t sh_165 rfl (by omega) (by decide) dX8_settles_85 ?_
    refine S_aload_0 (pc := 86) dX8_settles_86 ?_
    refine fgX8_29 (pc := 87) sh_164 hv_164_8 dX8_settles_87 ?_
    refine J_bipush (pc := 90) (9) rfl dX8_settles_90 ?_
    refine S_iload_1 (pc := 92) dX8_settles_92 ?_
    refine J_iadd (pc := 93) dX8_settles_93 ?_
    refine S_aload_0 (pc := 94) dX8_settles_94 ?_
    refine fgX8_45 (pc := 95) sh_164 hv_164_26 dX8_settles_95 ?_
    refine S_iload_1 (pc := 98) dX8_settles_98 ?_
    refine J_iald_n (pc := 99) t sh_174 rfl (by omega) (by decide) dX8_settles_99 ?_
    refine J_iast_n (pc := 100) (9 + t) sh_169 (by rw [show (9 : Int32) = nI 9 from rfl, nI_add]) (by omega) (by decide) dX8_settles_100 ?_
    refine S_aload_0 (pc := 101) dX8_settles_101 ?_
    refine fgX8_29 (pc := 102) sh_164 hv_164_8 dX8_settles_102 ?_
    refine J_bipush (pc := 105) (17) rfl dX8_settles_105 ?_
    refine S_iload_1 (pc := 107) dX8_settles_107 ?_
    refine J_iadd (pc := 108) dX8_settles_108 ?_
    refine S_aload_0 (pc := 109) dX8_settles_109 ?_
    refine fgX8_51 (pc := 110) sh_164 hv_164_28 dX8_settles_110 ?_
    refine S_iload_1 (pc := 113) dX8_settles_113 ?_
    refine J_iald_n (pc := 114) t sh_176 rfl (by omega) (by decide) dX8_settles_114 ?_
    refine J_iast_n (pc := 115) (17 + t) sh_169 (by rw [show (17 : Int32) = nI 17 from rfl, nI_add]) (by omega) (by decide) dX8_settles_115 ?_
    refine S_inc_1 (pc := 116) (1) rfl dX8_settles_116 (by decide) ?_
    refine J_goto (pc := 119) 66 dX8_settles_119 (by decide) ?_
    refine svJ_ls (by rw [nI_succ]) (ih (t + 1) (by omega) (by omega) _ (fun q hq => ?_) ⟨?_, ?_, ?_, ?_, fun k hk => ?_⟩ ⟨fun i hi2 => ?_, ?_, fun k k0 k1 k2 k3 => ?_⟩)
    · rw [sv_u2_off (by omega), sv_u2_off (by omega), sv_u2_off (by omega)]; exact i1 q hq
    · rw [u2x (by omega), u2x (by omega), u2x (by omega)]; exact i2.1
    · rw [u2x (by omega), u2x (by omega), u2x (by omega)]; exact i2.2.1
    · rw [u2x (by omega), u2x (by omega), u2x (by omega)]; exact i2.2.2.1
    · rw [u2x (by omega), u2x (by omega), u2x (by omega)]; exact i2.2.2.2.1
    · rw [u2x (by omega), u2x (by omega), u2x (by omega)]; exact i2.2.2.2.2 k hk
    · rw [sv_u2_off (show (174 : Nat) ≠ 165 by decide), sv_u2_off (show (176 : Nat) ≠ 169 by decide), sv_u2_off (show (176 : Nat) ≠ 165 by decide), i1 174 (by decide), i1 175 (by decide), i1 176 (by decide), sv_u2_off (show (165 : Nat) ≠ 169 by decide), sv_u2_off (show (165 : Nat) ≠ 169 by decide)]
      by_cases e : i = t
      · subst e
        exact ⟨sv_u2_at, by rw [sv_u2_k (by omega)]; exact sv_u2_at, sv_u2_at⟩
      · rw [sv_u2_k e, sv_u2_k (show 9 + i ≠ 17 + t by omega), sv_u2_k (show 9 + i ≠ 9 + t by omega), sv_u2_k (show 17 + i ≠ 17 + t by omega), sv_u2_k (show 17 + i ≠ 9 + t by omega), sv_u2_off (show (169 : Nat) ≠ 165 by decide)]
        exact i3.1 i (by omega)
    · rw [sv_u2_k (by omega), sv_u2_k (by omega), sv_u2_off (by decide)]; exact i3.2.1
    · rw [sv_u2_k (by omega), sv_u2_k (by omega), sv_u2_off (by decide)]; exact i3.2.2 k k0 k1 (by omega) (by omega)
set_option maxRecDepth 20000 in
set_option maxHeartbeats 2000000 in
theorem lo_X8_settles {l : Launch} {G : svG} {hi : svH} {hl : svL} {tw dr : Nat} {pm : Nat → Nat} {T Gn : Nat} (hT : hi 164 25 = nI T) (hT8 : T ≤ 8) (hG : hi 164 29 = nI Gn) (hG6 : Gn ≤ 6) : ∀ t, t ≤ 298 → ∀ h' : svH, (∀ q, q ≠ 164 → q ≠ 169 → h' q = hi q) → sA hi h' → (∀ k, k < t → h' 169 k = 0) → svJ l G rX8_settles mX8_settles (sv_Fm G (fun v sh a b c => v = none ∧ sh = svSH ∧ ((fun a b c => mSetR hi a T Gn ∧ hl = b ∧ sv_hr tw dr pm = c)) a b c) 0 0) 0 0 34 [some (sv_rf G.1 164), some (.int (nI t))] [] svSH h' hl (sv_hr tw dr pm) := by
  refine sv_up (fun t ht ih h' i1 i2 i3 => ?_)
  refine S_iload_1 (pc := 34) dX8_settles_34 ?_
  refine J_sipush (pc := 35) (298) rfl dX8_settles_35 ?_
  refine J_icmp_ge (pc := 38) 54 dX8_settles_38 (by decide) (fun h38 => ?_) (fun h38 => ?_)
  · rw [show (298 : Int32) = nI 298 from rfl, nI_leI (by omega) (by omega)] at h38
    obtain rfl : t = 298 := by omega
    refine S_aload_0 (pc := 54) dX8_settles_54 ?_
    refine fgX8_29 (pc := 55) sh_164 hv_164_8 dX8_settles_55 ?_
    refine J_iconst (pc := 58) (1) rfl dX8_settles_58 ?_
    refine S_aload_0 (pc := 59) dX8_settles_59 ?_
    refine fgX8_131 (pc := 60) sh_164 dX8_settles_60 ?_
    refine J_iast_n (pc := 63) 1 sh_169 rfl (by decide) (by decide) dX8_settles_63 ?_
    refine J_iconst (pc := 64) (0) rfl dX8_settles_64 ?_
    refine S_istore_1 (pc := 65) dX8_settles_65 (by decide) ?_
    refine svJ_ls (by rfl) (lo2_X8_settles hT hT8 hG hG6 0 (Nat.zero_le _) _ (fun q hq => ?_) ⟨?_, ?_, ?_, ?_, fun k hk => ?_⟩ ⟨fun i hi2 => by omega, ?_, fun k k0 k1 k2 k3 => ?_⟩)
    · rw [sv_u2_off (by omega)]; exact i1 q (by omega) (by omega)
    · rw [sv_u2_off (by decide)]; exact i2.1
    · rw [sv_u2_off (by decide)]; exact i2.2.1
    · rw [sv_u2_off (by decide)]; exact i2.2.2.1
    · rw [sv_u2_off (by decide)]; exact i2.2.2.2.1
    · rw [sv_u2_off (by decide)]; exact i2.2.2.2.2 k hk
    · rw [sv_u2_at]; exact i2.2.2.2.2 24 (by decide)
    · rw [sv_u2_k k1]; exact i3 k k0
  · rw [show (298 : Int32) = nI 298 from rfl, nI_leI (by omega) (by omega)] at h38
    refine S_aload_0 (pc := 41) dX8_settles_41 ?_
    refine fgX8_29 (pc := 42) sh_164 hv_164_8 dX8_settles_42 ?_
    refine S_iload_1 (pc := 45) dX8_settles_45 ?_
    refine J_iconst (pc := 46) (0) rfl dX8_settles_46 ?_
    refine J_iast_n (pc := 47) t sh_169 rfl (by omega) (by decide) dX8_settles_47 ?_
    refine S_inc_1 (pc := 48) (1) rfl dX8_settles_48 (by decide) ?_
    refine J_goto (pc := 51) 34 dX8_settles_51 (by decide) ?_
    refine svJ_ls (by rw [nI_succ]) (ih (t + 1) (by omega) (by omega) _ (fun q q1 q2 => ?_) ⟨?_, ?_, ?_, ?_, fun k hk => ?_⟩ (fun k hk => ?_))
    · rw [sv_u2_off q2]; exact i1 q q1 q2
    · rw [sv_u2_off (by decide)]; exact i2.1
    · rw [sv_u2_off (by decide)]; exact i2.2.1
    · rw [sv_u2_off (by decide)]; exact i2.2.2.1
    · rw [sv_u2_off (by decide)]; exact i2.2.2.2.1
    · rw [sv_u2_off (by decide)]; exact i2.2.2.2.2 k hk
    · by_cases e : k = t
      · rw [e]; exact sv_u2_at
      · rw [sv_u2_k e]; exact i3 k (by omega)
set_option maxRecDepth 20000 in
set_option maxHeartbeats 2000000 in
theorem t_X8_settles {l : Launch} {G : svG} {hi : svH} {hl : svL} {tw dr : Nat} {pm : Nat → Nat} {T Gn : Nat} (hT : hi 164 25 = nI T) (hT8 : T ≤ 8) (hG : hi 164 29 = nI Gn) (hG6 : Gn ≤ 6) : svV l G yX8_settles mX8_settles rX8_settles [sv_rf G.1 164] hi hl (sv_hr tw dr pm) (fun a b c => mSetR hi a T Gn ∧ hl = b ∧ sv_hr tw dr pm = c) := by
  refine sv_entry (by decide +kernel) rfl rfl (Nat.le_of_ble_eq_true rfl) (by simp [Value.category, sv_rf]) [some (sv_rf G.1 164), none] rfl ?_
  refine S_aload_0 (pc := 0) dX8_settles_0 ?_
  refine S_aload_0 (pc := 1) dX8_settles_1 ?_
  refine fgX8_125 (pc := 2) sh_164 dX8_settles_2 ?_
  refine fpX8_7 (pc := 5) sh_164 dX8_settles_5 ?_
  refine S_aload_0 (pc := 8) dX8_settles_8 ?_
  refine S_aload_0 (pc := 9) dX8_settles_9 ?_
  refine fgX8_128 (pc := 10) sh_164 dX8_settles_10 ?_
  refine fpX8_13 (pc := 13) sh_164 dX8_settles_13 ?_
  refine S_aload_0 (pc := 16) dX8_settles_16 ?_
  refine S_aload_0 (pc := 17) dX8_settles_17 ?_
  refine fgX8_115 (pc := 18) sh_164 dX8_settles_18 ?_
  refine fpX8_73 (pc := 21) sh_164 dX8_settles_21 ?_
  refine S_aload_0 (pc := 24) dX8_settles_24 ?_
  refine S_aload_0 (pc := 25) dX8_settles_25 ?_
  refine fgX8_118 (pc := 26) sh_164 dX8_settles_26 ?_
  refine fpX8_76 (pc := 29) sh_164 dX8_settles_29 ?_
  refine J_iconst (pc := 32) (0) rfl dX8_settles_32 ?_
  refine S_istore_1 (pc := 33) dX8_settles_33 (by decide) ?_
  
  refine svJ_ls (by rfl) (lo_X8_settles hT hT8 hG hG6 0 (Nat.zero_le _) _ (fun q q1 q2 => ?_) ⟨?_, ?_, ?_, ?_, fun k hk => ?_⟩ (fun k hk => by omega))
  · rw [sv_u2_off q1, sv_u2_off q1, sv_u2_off q1, sv_u2_off q1]
  · simp [sv_u2]
  · simp [sv_u2]
  · simp [sv_u2]
  · simp [sv_u2]
  · rw [u2x (by omega), u2x (by omega), u2x (by omega), u2x (by omega)]
