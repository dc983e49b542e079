def mLt (s : Nat → Int32) (n j : Nat) : Int32 := if j < n then s j else -1
theorem mLt_in {s : Nat → Int32} {n j : Nat} (h : j < n) : mLt s n j = s j := if_pos h
theorem mLt_D {s : Nat → Int32} {n q : Nat} : (48 ≤ mLt s n q ∧ mLt s n q ≤ 57) ↔ q < n ∧ lxD s q = true := by
  unfold mLt lxD
  by_cases h : q < n
  · rw [if_pos h]; simp [h]
  · rw [if_neg h]; exact ⟨fun z => absurd z (by decide), fun z => absurd z.1 h⟩
theorem mLt_L {s : Nat → Int32} {n q : Nat} : (97 ≤ mLt s n q ∧ mLt s n q ≤ 122) ↔ q < n ∧ lxL s q = true := by
  unfold mLt lxL
  by_cases h : q < n
  · rw [if_pos h]; simp [h]
  · rw [if_neg h]; exact ⟨fun z => absurd z (by decide), fun z => absurd z.1 h⟩
theorem mLt_S {s : Nat → Int32} {n q : Nat} : mLt s n q = 32 ↔ q < n ∧ lxS s q = true := by
  unfold mLt lxS
  by_cases h : q < n
  · rw [if_pos h]; simp [h]
  · rw [if_neg h]; exact ⟨fun z => absurd z (by decide), fun z => absurd z.1 h⟩
theorem not_and_or_f {n q : Nat} {b : Bool} (h : ¬ (q < n ∧ b = true)) : n ≤ q ∨ b = false := by
  by_cases hq : q < n
  · exact Or.inr (by cases b; rfl; exact absurd ⟨hq, rfl⟩ h)
  · exact Or.inl (by omega)
theorem lxD_L {s : Nat → Int32} {q : Nat} (h : lxD s q = true) : ¬ lxL s q = true := by
  unfold lxD lxL at *
  rw [decide_eq_true_eq] at *
  intro z
  exact absurd (Int32.le_trans z.1 h.2) (by decide)
theorem t_X8_letterAt_v {l : Launch} {G : svG} {hi : svH} {hl : svL} {tw dr : Nat} {pm : Nat → Nat} {j n : Nat} (hn : hi 164 15 = nI n) (hn2 : n ≤ 120) (hj : j < 1000) {x v0 : Int32} (hx : x = nI j) (hv : mLt (hi 173) n j = v0) : svIp l G yX8_letterAt mX8_letterAt rX8_letterAt [sv_rf G.1 164, .int x] hi hl (sv_hr tw dr pm) v0 := by
  subst hx
  subst hv
  exact t_X8_letterAt (l := l) (G := G) (hl := hl) (tw := tw) (dr := dr) (pm := pm) hn hn2 hj
set_option maxRecDepth 20000 in
set_option maxHeartbeats 2000000 in
theorem loD_X8_next {l : Launch} {G : svG} {hi : svH} {hl : svL} {tw dr : Nat} {pm : Nat → Nat} {n st : Nat} (hn2 : n ≤ 120) (hst : st < n) {Q : svH → Prop} (hn : hi 164 15 = nI n) (h3 : hi 164 17 = nI st) (hQ : ∀ a, (∀ q, q ≠ 164 → a q = hi q) → (∀ k, k ≠ 16 → k ≠ 18 → k ≠ 19 → a 164 k = hi 164 k) → a 164 16 = nI (rE (lxD (hi 173)) n st) → a 164 18 = (if (hi 173 st = 48 ∧ 1 < rE (lxD (hi 173)) n st - st) ∨ 99 < vE (lxD (hi 173)) (hi 173) n st 0 then 4 else 2) → a 164 19 = nI (vE (lxD (hi 173)) (hi 173) n st 0) → Q a) : ∀ q, q ≤ n → ∀ (h' : svH) (v : Nat), st ≤ q → v < 1000 → (∀ q, q ≠ 164 → h' q = hi q) → (∀ k, k ≠ 16 → k ≠ 19 → h' 164 k = hi 164 k) → h' 164 16 = nI q → h' 164 19 = nI v → rE (lxD (hi 173)) n q = rE (lxD (hi 173)) n st → vE (lxD (hi 173)) (hi 173) n q v = vE (lxD (hi 173)) (hi 173) n st 0 → svJ l G rX8_next mX8_next (sv_Fm G (fun v sh a b c => v = none ∧ sh = svSH ∧ ((fun a b c => Q a ∧ hl = b ∧ sv_hr tw dr pm = c)) a b c) 0 0) 0 0 67 [some (sv_rf G.1 164), some (.int (hi 173 st))] [] svSH h' hl (sv_hr tw dr pm) := by
  refine sv_up (fun q hq ih h' v hsq hv i1 ik i2 i5 ie iv => ?_)
  have i0 : h' 164 15 = nI n := by rw [ik 15 (by decide) (by decide)]; exact hn
  have i3 : h' 164 17 = nI st := by rw [ik 17 (by decide) (by decide)]; exact h3
  have i16 : h' 173 = hi 173 := i1 173 (by decide)
  have hle := rE_le (P := lxD (hi 173)) (n := n) (p := st) (by omega)
  refine S_aload_0 (pc := 67) dX8_next_67 ?_
  refine S_aload_0 (pc := 68) dX8_next_68 ?_
  refine fgX8_82 (pc := 69) sh_164 dX8_next_69 ?_
  refine caX8_85 (pc := 72) (t_X8_letterAt_v (l := l) (G := G) (hi := h') (n := n) (j := q) i0 hn2 (by omega) i2 (congrArg (fun s => mLt s n q) i16)) sh_164 (Nat.le_of_ble_eq_true rfl) ⟨rfl, rfl, ⟨by decide, by decide⟩, by decide, by decide⟩ dX8_next_72 (fun r72 a72 b72 c72 p72 => ?_)
  obtain ⟨rfl, rfl, rfl, rfl⟩ := p72
  refine caX8_98 (pc := 75) (t_X8_isFigure (l := l) (G := G)) (Nat.le_of_ble_eq_true rfl) ⟨rfl, rfl, ⟨by decide, by decide⟩, by decide, by decide⟩ dX8_next_75 (fun r75 a75 b75 c75 p75 => ?_)
  obtain ⟨rfl, rfl, rfl, rfl⟩ := p75
  refine J_if_eq_b (pc := 78) 133 dX8_next_78 (by decide) (fun h78 => ?_) (fun h78 => ?_)
  · have h78 := not_and_or_f (fun z => h78 (mLt_D.mpr z))
    have eE : rE (lxD (hi 173)) n st = q := by rw [← ie]; exact rE_stop h78
    have eV : vE (lxD (hi 173)) (hi 173) n st 0 = v := by rw [← iv]; exact vE_stop h78
    have i5' : nI v ≤ 99 ↔ ¬ 99 < v := by rw [show (99 : Int32) = nI 99 from rfl, nI_leI (by omega) (by omega)]; omega
    refine S_aload_0 (pc := 133) dX8_next_133 ?_
    refine S_aload_0 (pc := 134) dX8_next_134 ?_
    refine fgX8_92 (pc := 135) sh_164 dX8_next_135 ?_
    refine J_bipush (pc := 138) (99) rfl dX8_next_138 ?_
    refine J_icmp_gt (pc := 140) 162 dX8_next_140 (by decide) (fun h140 => ?_) (fun h140 => ?_)
    · have h140 : 99 < v := by
        have h := h140
        rw [i5] at h
        exact Classical.not_not.mp (fun z => Int32.not_le.mpr h (i5'.mpr z))
      refine J_iconst (pc := 162) (4) rfl dX8_next_162 ?_
      refine J_goto (pc := 163) 167 dX8_next_163 (by decide) ?_
      refine fpX8_95 (pc := 167) sh_164 dX8_next_167 ?_
      refine J_goto (pc := 170) 262 dX8_next_170 (by decide) ?_
      exact J_return (pc := 262) dX8_next_262 rfl ⟨rfl, rfl, ⟨hQ _ (fun q g => by rw [sv_u2_off g]; exact i1 q g) (fun k g1 g2 g3 => by rw [sv_u2_k g2]; exact ik k g1 g3) (by rw [sv_u2_k (by decide), i2, eE]) (by
          rw [sv_u2_at, eE, eV]
          first
          | (rw [if_pos (Or.inr h140)]; done)
          | (rw [if_pos (Or.inl ⟨h146, by omega⟩)]; done)
          | (rw [if_neg]
             intro z
             rcases z with z | z
             · first | exact h146 z.1 | exact absurd z.2 (by omega)
             · exact h140 z)) (by rw [sv_u2_k (by decide), i5, eV]), rfl, rfl⟩⟩
    · have h140 : ¬ 99 < v := by
        have h := h140
        rw [i5] at h
        exact i5'.mp (Int32.not_lt.mp h)
      refine S_iload_1 (pc := 143) dX8_next_143 ?_
      refine J_bipush (pc := 144) (48) rfl dX8_next_144 ?_
      refine J_icmp_ne (pc := 146) 166 dX8_next_146 (by decide) (fun h146 => ?_) (fun h146 => ?_)
      · refine J_iconst (pc := 166) (2) rfl dX8_next_166 ?_
        refine fpX8_95 (pc := 167) sh_164 dX8_next_167 ?_
        refine J_goto (pc := 170) 262 dX8_next_170 (by decide) ?_
        exact J_return (pc := 262) dX8_next_262 rfl ⟨rfl, rfl, ⟨hQ _ (fun q g => by rw [sv_u2_off g]; exact i1 q g) (fun k g1 g2 g3 => by rw [sv_u2_k g2]; exact ik k g1 g3) (by rw [sv_u2_k (by decide), i2, eE]) (by
            rw [sv_u2_at, eE, eV]
            first
            | (rw [if_pos (Or.inr h140)]; done)
            | (rw [if_pos (Or.inl ⟨h146, by omega⟩)]; done)
            | (rw [if_neg]
               intro z
               rcases z with z | z
               · first | exact h146 z.1 | exact absurd z.2 (by omega)
               · exact h140 z)) (by rw [sv_u2_k (by decide), i5, eV]), rfl, rfl⟩⟩
      · refine S_aload_0 (pc := 149) dX8_next_149 ?_
        refine fgX8_82 (pc := 150) sh_164 dX8_next_150 ?_
        refine S_aload_0 (pc := 153) dX8_next_153 ?_
        refine fgX8_89 (pc := 154) sh_164 dX8_next_154 ?_
        refine J_isub (pc := 157) dX8_next_157 ?_
        refine J_iconst (pc := 158) (1) rfl dX8_next_158 ?_
        refine J_icmp_le (pc := 159) 166 dX8_next_159 (by decide) (fun h159 => ?_) (fun h159 => ?_)
        · rw [i2, i3, pk_sub (by omega), show (1 : Int32) = nI 1 from rfl, nI_leI (by omega) (by omega)] at h159
          refine J_iconst (pc := 166) (2) rfl dX8_next_166 ?_
          refine fpX8_95 (pc := 167) sh_164 dX8_next_167 ?_
          refine J_goto (pc := 170) 262 dX8_next_170 (by decide) ?_
          exact J_return (pc := 262) dX8_next_262 rfl ⟨rfl, rfl, ⟨hQ _ (fun q g => by rw [sv_u2_off g]; exact i1 q g) (fun k g1 g2 g3 => by rw [sv_u2_k g2]; exact ik k g1 g3) (by rw [sv_u2_k (by decide), i2, eE]) (by
              rw [sv_u2_at, eE, eV]
              first
              | (rw [if_pos (Or.inr h140)]; done)
              | (rw [if_pos (Or.inl ⟨h146, by omega⟩)]; done)
              | (rw [if_neg]
                 intro z
                 rcases z with z | z
                 · first | exact h146 z.1 | exact absurd z.2 (by omega)
                 · exact h140 z)) (by rw [sv_u2_k (by decide), i5, eV]), rfl, rfl⟩⟩
        · rw [i2, i3, pk_sub (by omega), show (1 : Int32) = nI 1 from rfl, nI_leI (by omega) (by omega)] at h159
          refine J_iconst (pc := 162) (4) rfl dX8_next_162 ?_
          refine J_goto (pc := 163) 167 dX8_next_163 (by decide) ?_
          refine fpX8_95 (pc := 167) sh_164 dX8_next_167 ?_
          refine J_goto (pc := 170) 262 dX8_next_170 (by decide) ?_
          exact J_return (pc := 262) dX8_next_262 rfl ⟨rfl, rfl, ⟨hQ _ (fun q g => by rw [sv_u2_off g]; exact i1 q g) (fun k g1 g2 g3 => by rw [sv_u2_k g2]; exact ik k g1 g3) (by rw [sv_u2_k (by decide), i2, eE]) (by
              rw [sv_u2_at, eE, eV]
              first
              | (rw [if_pos (Or.inr h140)]; done)
              | (rw [if_pos (Or.inl ⟨h146, by omega⟩)]; done)
              | (rw [if_neg]
                 intro z
                 rcases z with z | z
                 · first | exact h146 z.1 | exact absurd z.2 (by omega)
                 · exact h140 z)) (by rw [sv_u2_k (by decide), i5, eV]), rfl, rfl⟩⟩
  · obtain ⟨hqn, hP⟩ := mLt_D.mp h78
    rw [mLt_in hqn] at h78
    obtain ⟨v1, v2, v3⟩ := lxV_dig (v := v) hv h78
    refine S_aload_0 (pc := 81) dX8_next_81 ?_
    refine S_aload_0 (pc := 82) dX8_next_82 ?_
    refine fgX8_92 (pc := 83) sh_164 dX8_next_83 ?_
    refine J_bipush (pc := 86) (99) rfl dX8_next_86 ?_
    refine J_icmp_le (pc := 88) 98 dX8_next_88 (by decide) (fun h88 => ?_) (fun h88 => ?_)
    · rw [i5, show (99 : Int32) = nI 99 from rfl, nI_leI (by omega) (by omega)] at h88
      refine J_bipush (pc := 98) (10) rfl dX8_next_98 ?_
      refine S_aload_0 (pc := 100) dX8_next_100 ?_
      refine fgX8_92 (pc := 101) sh_164 dX8_next_101 ?_
      refine J_imul (pc := 104) dX8_next_104 ?_
      refine S_aload_0 (pc := 105) dX8_next_105 ?_
      refine S_aload_0 (pc := 106) dX8_next_106 ?_
      refine fgX8_82 (pc := 107) sh_164 dX8_next_107 ?_
      refine caX8_85 (pc := 110) (t_X8_letterAt_v (l := l) (G := G) (hi := h') (n := n) (j := q) i0 hn2 (by omega) i2 (congrArg (fun s => mLt s n q) i16)) sh_164 (Nat.le_of_ble_eq_true rfl) ⟨rfl, rfl, ⟨by decide, by decide⟩, by decide, by decide⟩ dX8_next_110 (fun r110 a110 b110 c110 p110 => ?_)
      obtain ⟨rfl, rfl, rfl, rfl⟩ := p110
      refine J_iadd (pc := 113) dX8_next_113 ?_
      refine J_bipush (pc := 114) (48) rfl dX8_next_114 ?_
      refine J_isub (pc := 116) dX8_next_116 ?_
      refine fpX8_92 (pc := 117) sh_164 dX8_next_117 ?_
      refine S_aload_0 (pc := 120) dX8_next_120 ?_
      refine J_dup (pc := 121) rfl dX8_next_121 ?_
      refine fgX8_82 (pc := 122) sh_164 dX8_next_122 ?_
      refine J_iconst (pc := 125) (1) rfl dX8_next_125 ?_
      refine J_iadd (pc := 126) dX8_next_126 ?_
      refine fpX8_82 (pc := 127) sh_164 dX8_next_127 ?_
      refine J_goto (pc := 130) 67 dX8_next_130 (by decide) ?_
      first
      | (refine ih (q + 1) (by omega) (by omega) _ (lxV v (hi 173 q)) (by omega) v1 (fun q g => ?_) (fun k g1 g2 => ?_) ?_ ?_ (by rw [← ie]; exact (rE_step (by omega) hP).symm) (by rw [← iv]; exact (vE_step (by omega) hP).symm)
         · rw [sv_u2_off g, sv_u2_off g]; exact i1 q g
         · rw [sv_u2_k g1, sv_u2_k g2]; exact ik k g1 g2
         · rw [sv_u2_at, sv_u2_k (by decide), i2, nI_succ]
         · rw [sv_u2_k (by decide), sv_u2_at, i5]; first | (rw [v3 (by omega)]; done) | (rw [mLt_in hqn]; exact (v2 (by omega)).2))
    · rw [i5, show (99 : Int32) = nI 99 from rfl, nI_leI (by omega) (by omega)] at h88
      refine S_aload_0 (pc := 91) dX8_next_91 ?_
      refine fgX8_92 (pc := 92) sh_164 dX8_next_92 ?_
      refine J_goto (pc := 95) 117 dX8_next_95 (by decide) ?_
      refine fpX8_92 (pc := 117) sh_164 dX8_next_117 ?_
      refine S_aload_0 (pc := 120) dX8_next_120 ?_
      refine J_dup (pc := 121) rfl dX8_next_121 ?_
      refine fgX8_82 (pc := 122) sh_164 dX8_next_122 ?_
      refine J_iconst (pc := 125) (1) rfl dX8_next_125 ?_
      refine J_iadd (pc := 126) dX8_next_126 ?_
      refine fpX8_82 (pc := 127) sh_164 dX8_next_127 ?_
      refine J_goto (pc := 130) 67 dX8_next_130 (by decide) ?_
      first
      | (refine ih (q + 1) (by omega) (by omega) _ (lxV v (hi 173 q)) (by omega) v1 (fun q g => ?_) (fun k g1 g2 => ?_) ?_ ?_ (by rw [← ie]; exact (rE_step (by omega) hP).symm) (by rw [← iv]; exact (vE_step (by omega) hP).symm)
         · rw [sv_u2_off g, sv_u2_off g]; exact i1 q g
         · rw [sv_u2_k g1, sv_u2_k g2]; exact ik k g1 g2
         · rw [sv_u2_at, sv_u2_k (by decide), i2, nI_succ]
         · rw [sv_u2_k (by decide), sv_u2_at, i5]; first | (rw [v3 (by omega)]; done) | (rw [mLt_in hqn]; exact (v2 (by omega)).2))
set_option maxRecDepth 20000 in
set_option maxHeartbeats 2000000 in
theorem loL_X8_next {l : Launch} {G : svG} {hi : svH} {hl : svL} {tw dr : Nat} {pm : Nat → Nat} {n st : Nat} (hn2 : n ≤ 120) (hst : st < n) {Q : svH → Prop} (hn : hi 164 15 = nI n) (h3 : hi 164 17 = nI st) (hQ : ∀ a, (∀ q, q ≠ 164 → a q = hi q) → (∀ k, k ≠ 16 → k ≠ 18 → k ≠ 19 → a 164 k = hi 164 k) → a 164 16 = nI (rE (lxL (hi 173)) n st) → a 164 18 = 1 → a 164 19 = (if rE (lxL (hi 173)) n st - st = 1 then hi 173 st else 0) → Q a) : ∀ q, q ≤ n → ∀ (h' : svH), st ≤ q → (∀ q, q ≠ 164 → h' q = hi q) → (∀ k, k ≠ 16 → h' 164 k = hi 164 k) → h' 164 16 = nI q → rE (lxL (hi 173)) n q = rE (lxL (hi 173)) n st → svJ l G rX8_next mX8_next (sv_Fm G (fun v sh a b c => v = none ∧ sh = svSH ∧ ((fun a b c => Q a ∧ hl = b ∧ sv_hr tw dr pm = c)) a b c) 0 0) 0 0 180 [some (sv_rf G.1 164), some (.int (hi 173 st))] [] svSH h' hl (sv_hr tw dr pm) := by
  refine sv_up (fun q hq ih h' hsq i1 ik i2 ie => ?_)
  have i0 : h' 164 15 = nI n := by rw [ik 15 (by decide)]; exact hn
  have i16 : h' 173 = hi 173 := i1 173 (by decide)
  have hle := rE_le (P := lxL (hi 173)) (n := n) (p := st) (by omega)
  refine S_aload_0 (pc := 180) dX8_next_180 ?_
  refine S_aload_0 (pc := 181) dX8_next_181 ?_
  refine fgX8_82 (pc := 182) sh_164 dX8_next_182 ?_
  refine caX8_85 (pc := 185) (t_X8_letterAt_v (l := l) (G := G) (hi := h') (n := n) (j := q) i0 hn2 (by omega) i2 (congrArg (fun s => mLt s n q) i16)) sh_164 (Nat.le_of_ble_eq_true rfl) ⟨rfl, rfl, ⟨by decide, by decide⟩, by decide, by decide⟩ dX8_next_185 (fun r185 a185 b185 c185 p185 => ?_)
  obtain ⟨rfl, rfl, rfl, rfl⟩ := p185
  refine caX8_102 (pc := 188) (t_X8_isLetter (l := l) (G := G)) (Nat.le_of_ble_eq_true rfl) ⟨rfl, rfl, ⟨by decide, by decide⟩, by decide, by decide⟩ dX8_next_188 (fun r188 a188 b188 c188 p188 => ?_)
  obtain ⟨rfl, rfl, rfl, rfl⟩ := p188
  refine J_if_eq_b (pc := 191) 207 dX8_next_191 (by decide) (fun h191 => ?_) (fun h191 => ?_)
  · have h191 := not_and_or_f (fun z => h191 (mLt_L.mpr z))
    have eE : rE (lxL (hi 173)) n st = q := by rw [← ie]; exact rE_stop h191
    refine S_aload_0 (pc := 207) dX8_next_207 ?_
    refine J_iconst (pc := 208) (1) rfl dX8_next_208 ?_
    refine fpX8_95 (pc := 209) sh_164 dX8_next_209 ?_
    refine S_aload_0 (pc := 212) dX8_next_212 ?_
    refine S_aload_0 (pc := 213) dX8_next_213 ?_
    refine fgX8_82 (pc := 214) sh_164 dX8_next_214 ?_
    refine S_aload_0 (pc := 217) dX8_next_217 ?_
    refine fgX8_89 (pc := 218) sh_164 dX8_next_218 ?_
    refine J_isub (pc := 221) dX8_next_221 ?_
    refine J_iconst (pc := 222) (1) rfl dX8_next_222 ?_
    refine J_icmp_ne (pc := 223) 230 dX8_next_223 (by decide) (fun h223 => ?_) (fun h223 => ?_)
    · have h223 : ¬ rE (lxL (hi 173)) n st - st = 1 := by
        intro z
        apply h223
        rw [sv_u2_k (by decide), sv_u2_k (by decide), i2, ik 17 (by decide), h3, pk_sub (by omega), ← eE, z]; rfl
      refine J_iconst (pc := 230) (0) rfl dX8_next_230 ?_
      refine fpX8_92 (pc := 231) sh_164 dX8_next_231 ?_
      refine J_goto (pc := 234) 262 dX8_next_234 (by decide) ?_
      exact J_return (pc := 262) dX8_next_262 rfl ⟨rfl, rfl, ⟨hQ _ (fun q g => by rw [sv_u2_off g, sv_u2_off g]; exact i1 q g) (fun k g1 g2 g3 => by rw [sv_u2_k g3, sv_u2_k g2]; exact ik k g1) (by rw [sv_u2_k (by decide), sv_u2_k (by decide), i2, eE]) (by rw [sv_u2_k (by decide), sv_u2_at]) (by rw [sv_u2_at]; first | rw [if_neg h223] | rw [if_pos h223]), rfl, rfl⟩⟩
    · have h223 : rE (lxL (hi 173)) n st - st = 1 := by
        rw [sv_u2_k (by decide), sv_u2_k (by decide), i2, ik 17 (by decide), h3, pk_sub (by omega), show (1 : Int32) = nI 1 from rfl, nI_eq (by omega) (by omega)] at h223
        rw [eE]; exact h223
      refine S_iload_1 (pc := 226) dX8_next_226 ?_
      refine J_goto (pc := 227) 231 dX8_next_227 (by decide) ?_
      refine fpX8_92 (pc := 231) sh_164 dX8_next_231 ?_
      refine J_goto (pc := 234) 262 dX8_next_234 (by decide) ?_
      exact J_return (pc := 262) dX8_next_262 rfl ⟨rfl, rfl, ⟨hQ _ (fun q g => by rw [sv_u2_off g, sv_u2_off g]; exact i1 q g) (fun k g1 g2 g3 => by rw [sv_u2_k g3, sv_u2_k g2]; exact ik k g1) (by rw [sv_u2_k (by decide), sv_u2_k (by decide), i2, eE]) (by rw [sv_u2_k (by decide), sv_u2_at]) (by rw [sv_u2_at]; first | rw [if_neg h223] | rw [if_pos h223]), rfl, rfl⟩⟩
  · obtain ⟨hqn, hP⟩ := mLt_L.mp h191
    refine S_aload_0 (pc := 194) dX8_next_194 ?_
    refine J_dup (pc := 195) rfl dX8_next_195 ?_
    refine fgX8_82 (pc := 196) sh_164 dX8_next_196 ?_
    refine J_iconst (pc := 199) (1) rfl dX8_next_199 ?_
    refine J_iadd (pc := 200) dX8_next_200 ?_
    refine fpX8_82 (pc := 201) sh_164 dX8_next_201 ?_
    refine J_goto (pc := 204) 180 dX8_next_204 (by decide) ?_
    exact ih (q + 1) (by omega) (by omega) _ (by omega) (fun q g => by rw [sv_u2_off g]; exact i1 q g) (fun k hk => by rw [sv_u2_k hk]; exact ik k hk) (by rw [sv_u2_at, i2, nI_succ]) (by rw [← ie]; exact (rE_step (by omega) hP).symm)
