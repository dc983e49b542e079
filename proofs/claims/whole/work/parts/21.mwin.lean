/-- a set of those who may be left: some of the first C, at least one -/
def setOk (C : Nat) (m : Int32) : Prop := (∀ i, C ≤ i → i < 32 → bt m i = false) ∧ ∃ i, i < C ∧ bt m i = true
theorem setOk_left {C : Nat} (hC : 0 < C) (hC6 : C ≤ 6) {f : Nat → Int32} {k : Nat} (hk : 0 < k) : setOk C (mLeft C f k) := ⟨fun i h1 h2 => mLeft_bits hC hC6 k i h1 h2, mLeft_has hC hC6 hk⟩
theorem mLow_mem {C : Nat} (hC : C ≤ 6) {m : Int32} (h : ∃ i, i < C ∧ bt m i = true) : mLow m < C ∧ bt m (mLow m) = true ∧ ∀ i, i < mLow m → bt m i = false := by
  obtain ⟨j, hj, hb, hmin⟩ : ∃ j, j < C ∧ bt m j = true ∧ ∀ i, i < j → bt m i = false := by
    obtain ⟨k, hk⟩ := h
    obtain ⟨j, hj⟩ := pk_least (fun i => i < C ∧ bt m i = true) ⟨k, hk⟩
    exact ⟨j, hj.1.1, hj.1.2, fun i hi => by
      have := hj.2 i hi
      cases hbi : bt m i with
      | false => rfl
      | true => exact absurd ⟨by omega, hbi⟩ this⟩
  have e := mLow_first (m := m) (by omega) hmin hb
  rw [e]
  exact ⟨hj, hb, hmin⟩
set_option maxRecDepth 20000 in
set_option maxHeartbeats 2000000 in
theorem lo3_X8_winnerOf {l : Launch} {G : svG} {hi : svH} {hl : svL} {tw dr : Nat} {pm : Nat → Nat} {C L T Gn : Nat} (hm : mT hi C L T Gn) {m : Int32} (hset : setOk C m) {h' : svH} (i1 : ∀ q, q ≠ 181 → h' q = hi q) (i2 : ∀ k, k < 6 → h' 181 k = mBack (hi 166) (hi 167) (hi 168) (hi 169 26) m Gn k) : ∀ t, t ≤ C → svJ l G rX8_winnerOf mX8_winnerOf (sv_Fm G (fun v sh a b c => ∃ r, v = some (.int r) ∧ sh = svSH ∧ ((fun r a b c => nI ((mBest (fun i => bt m i) (mBack (hi 166) (hi 167) (hi 168) (hi 169 26) m Gn) C).getD 0) = r ∧ (∀ q, q ≠ 181 → a q = hi q) ∧ hl = b ∧ sv_hr tw dr pm = c)) r a b c) 0 0) 0 0 128 [some (sv_rf G.1 164), some (.int m), some (.int (nI ((mBest (fun i => bt m i) (mBack (hi 166) (hi 167) (hi 168) (hi 169 26) m Gn) t).getD (mLow m)))), some (.int (nI t))] [] svSH h' hl (sv_hr tw dr pm) := by
  obtain ⟨hCc, hLc, hT, hGn, hC2, hC6, hL1, hLC, hT8, hG6, hf, hs, hk⟩ := id hm
  have hlow := mLow_mem hC6 hset.2
  refine sv_up (fun t ht ih => ?_)
  cases hb : mBest (fun i => bt m i) (mBack (hi 166) (hi 167) (hi 168) (hi 169 26) m Gn) t with
  | none =>
    refine S_iload_3 (pc := 128) dX8_winnerOf_128 ?_
    refine S_aload_0 (pc := 129) dX8_winnerOf_129 ?_
    refine fgX8_7 (pc := 130) sh_164 dX8_winnerOf_130 ?_
    refine J_icmp_ge (pc := 133) 171 dX8_winnerOf_133 (by decide) (fun h133 => ?_) (fun h133 => ?_)
    · rw [i1 164 (by decide), hCc, nI_leI (by omega) (by omega)] at h133
      obtain rfl : t = C := by omega
      refine S_iload_2 (pc := 171) dX8_winnerOf_171 ?_
      exact J_ireturn (pc := 172) dX8_winnerOf_172 rfl rfl ⟨_, rfl, rfl, ⟨absurd (mBest_none hb hset.2.choose hset.2.choose_spec.1) (by show ¬ (bt m hset.2.choose = false); rw [hset.2.choose_spec.2]; decide), i1, rfl, rfl⟩⟩
    · rw [i1 164 (by decide), hCc, nI_leI (by omega) (by omega)] at h133
      refine S_iload_1 (pc := 136) dX8_winnerOf_136 ?_
      refine S_iload_3 (pc := 137) dX8_winnerOf_137 ?_
      refine caX8_159 (pc := 138) (t_X8_has_x (l := l) (G := G) t rfl (by omega)) (Nat.le_of_ble_eq_true rfl) ⟨rfl, rfl, ⟨by decide, by decide⟩, by decide, by decide⟩ dX8_winnerOf_138 (fun r138 a138 b138 c138 p138 => ?_)
      obtain ⟨rfl, rfl, rfl, rfl⟩ := p138
      refine J_if_eq_b (pc := 141) 163 dX8_winnerOf_141 (by decide) (fun h141 => ?_) (fun h141 => ?_)
      · refine S_iload_2 (pc := 163) dX8_winnerOf_163 ?_
        refine S_istore_2 (pc := 164) dX8_winnerOf_164 (by decide) ?_
        refine S_inc_3 (pc := 165) (1) rfl dX8_winnerOf_165 (by decide) ?_
        refine J_goto (pc := 168) 128 dX8_winnerOf_168 (by decide) ?_
        first
        | (refine svJ_ls ?_ (ih (t + 1) (by omega) (by omega)); rw [mBest, hb]; simp [h141, nI_succ]; done)
        | (refine svJ_ls ?_ (ih (t + 1) (by omega) (by omega)); rw [mBest, hb]; simp [h141, et, nI_succ]; done)
      · have et : mLow m = t := by
          have h1 := mBest_none hb
          apply Nat.le_antisymm
          · apply Nat.le_of_not_lt
            intro h2
            rw [hlow.2.2 t h2] at h141
            cases h141
          · apply Nat.le_of_not_lt
            intro h2
            have h3 : bt m (mLow m) = false := h1 (mLow m) h2
            rw [hlow.2.1] at h3
            cases h3
        refine S_aload_0 (pc := 144) dX8_winnerOf_144 ?_
        refine fgX8_66 (pc := 145) sh_164 hv_164_34 dX8_winnerOf_145 ?_
        refine S_iload_3 (pc := 148) dX8_winnerOf_148 ?_
        refine J_iald_n (pc := 149) t sh_181 rfl (by omega) (by decide) dX8_winnerOf_149 ?_
        refine S_aload_0 (pc := 150) dX8_winnerOf_150 ?_
        refine fgX8_66 (pc := 151) sh_164 hv_164_34 dX8_winnerOf_151 ?_
        refine S_iload_2 (pc := 154) dX8_winnerOf_154 ?_
        refine J_iald_n (pc := 155) (mLow m) sh_181 (by rfl) (by omega) (by decide) dX8_winnerOf_155 ?_
        refine J_icmp_le (pc := 156) 163 dX8_winnerOf_156 (by decide) (fun h156 => ?_) (fun h156 => ?_)
        · refine S_iload_2 (pc := 163) dX8_winnerOf_163 ?_
          refine S_istore_2 (pc := 164) dX8_winnerOf_164 (by decide) ?_
          refine S_inc_3 (pc := 165) (1) rfl dX8_winnerOf_165 (by decide) ?_
          refine J_goto (pc := 168) 128 dX8_winnerOf_168 (by decide) ?_
          first
          | (refine svJ_ls ?_ (ih (t + 1) (by omega) (by omega)); rw [mBest, hb]; simp [h141, nI_succ]; done)
          | (refine svJ_ls ?_ (ih (t + 1) (by omega) (by omega)); rw [mBest, hb]; simp [h141, et, nI_succ]; done)
        · refine S_iload_3 (pc := 159) dX8_winnerOf_159 ?_
          refine J_goto (pc := 160) 164 dX8_winnerOf_160 (by decide) ?_
          refine S_istore_2 (pc := 164) dX8_winnerOf_164 (by decide) ?_
          refine S_inc_3 (pc := 165) (1) rfl dX8_winnerOf_165 (by decide) ?_
          refine J_goto (pc := 168) 128 dX8_winnerOf_168 (by decide) ?_
          first
          | (refine svJ_ls ?_ (ih (t + 1) (by omega) (by omega)); rw [mBest, hb]; simp [h141, nI_succ]; done)
          | (refine svJ_ls ?_ (ih (t + 1) (by omega) (by omega)); rw [mBest, hb]; simp [h141, et, nI_succ]; done)
  | some b =>
    have hbl := (mBest_lt hb).1
    refine S_iload_3 (pc := 128) dX8_winnerOf_128 ?_
    refine S_aload_0 (pc := 129) dX8_winnerOf_129 ?_
    refine fgX8_7 (pc := 130) sh_164 dX8_winnerOf_130 ?_
    refine J_icmp_ge (pc := 133) 171 dX8_winnerOf_133 (by decide) (fun h133 => ?_) (fun h133 => ?_)
    · rw [i1 164 (by decide), hCc, nI_leI (by omega) (by omega)] at h133
      obtain rfl : t = C := by omega
      refine S_iload_2 (pc := 171) dX8_winnerOf_171 ?_
      exact J_ireturn (pc := 172) dX8_winnerOf_172 rfl rfl ⟨_, rfl, rfl, ⟨by rw [hb]; rfl, i1, rfl, rfl⟩⟩
    · rw [i1 164 (by decide), hCc, nI_leI (by omega) (by omega)] at h133
      refine S_iload_1 (pc := 136) dX8_winnerOf_136 ?_
      refine S_iload_3 (pc := 137) dX8_winnerOf_137 ?_
      refine caX8_159 (pc := 138) (t_X8_has_x (l := l) (G := G) t rfl (by omega)) (Nat.le_of_ble_eq_true rfl) ⟨rfl, rfl, ⟨by decide, by decide⟩, by decide, by decide⟩ dX8_winnerOf_138 (fun r138 a138 b138 c138 p138 => ?_)
      obtain ⟨rfl, rfl, rfl, rfl⟩ := p138
      refine J_if_eq_b (pc := 141) 163 dX8_winnerOf_141 (by decide) (fun h141 => ?_) (fun h141 => ?_)
      · refine S_iload_2 (pc := 163) dX8_winnerOf_163 ?_
        refine S_istore_2 (pc := 164) dX8_winnerOf_164 (by decide) ?_
        refine S_inc_3 (pc := 165) (1) rfl dX8_winnerOf_165 (by decide) ?_
        refine J_goto (pc := 168) 128 dX8_winnerOf_168 (by decide) ?_
        first
        | (refine svJ_ls ?_ (ih (t + 1) (by omega) (by omega)); rw [mBest, hb]; simp [h141, nI_succ]; done)
        | (refine svJ_ls ?_ (ih (t + 1) (by omega) (by omega))
           rw [mBest, hb]
           have w1 := i2 t (by omega)
           have w2 := i2 b (by omega)
           have h156' := h156
           rw [w1, w2] at h156'
           simp [h141, h156', nI_succ, Int32.not_lt.mpr, Int32.not_le.mp]
           done)
      · refine S_aload_0 (pc := 144) dX8_winnerOf_144 ?_
        refine fgX8_66 (pc := 145) sh_164 hv_164_34 dX8_winnerOf_145 ?_
        refine S_iload_3 (pc := 148) dX8_winnerOf_148 ?_
        refine J_iald_n (pc := 149) t sh_181 rfl (by omega) (by decide) dX8_winnerOf_149 ?_
        refine S_aload_0 (pc := 150) dX8_winnerOf_150 ?_
        refine fgX8_66 (pc := 151) sh_164 hv_164_34 dX8_winnerOf_151 ?_
        refine S_iload_2 (pc := 154) dX8_winnerOf_154 ?_
        refine J_iald_n (pc := 155) b sh_181 (by rfl) (by omega) (by decide) dX8_winnerOf_155 ?_
        refine J_icmp_le (pc := 156) 163 dX8_winnerOf_156 (by decide) (fun h156 => ?_) (fun h156 => ?_)
        · refine S_iload_2 (pc := 163) dX8_winnerOf_163 ?_
          refine S_istore_2 (pc := 164) dX8_winnerOf_164 (by decide) ?_
          refine S_inc_3 (pc := 165) (1) rfl dX8_winnerOf_165 (by decide) ?_
          refine J_goto (pc := 168) 128 dX8_winnerOf_168 (by decide) ?_
          first
          | (refine svJ_ls ?_ (ih (t + 1) (by omega) (by omega)); rw [mBest, hb]; simp [h141, nI_succ]; done)
          | (refine svJ_ls ?_ (ih (t + 1) (by omega) (by omega))
             rw [mBest, hb]
             have w1 := i2 t (by omega)
             have w2 := i2 b (by omega)
             have h156' := h156
             rw [w1, w2] at h156'
             simp [h141, h156', nI_succ, Int32.not_lt.mpr, Int32.not_le.mp]
             done)
        · refine S_iload_3 (pc := 159) dX8_winnerOf_159 ?_
          refine J_goto (pc := 160) 164 dX8_winnerOf_160 (by decide) ?_
          refine S_istore_2 (pc := 164) dX8_winnerOf_164 (by decide) ?_
          refine S_inc_3 (pc := 165) (1) rfl dX8_winnerOf_165 (by decide) ?_
          refine J_goto (pc := 168) 128 dX8_winnerOf_168 (by decide) ?_
          first
          | (refine svJ_ls ?_ (ih (t + 1) (by omega) (by omega)); rw [mBest, hb]; simp [h141, nI_succ]; done)
          | (refine svJ_ls ?_ (ih (t + 1) (by omega) (by omega))
             rw [mBest, hb]
             have w1 := i2 t (by omega)
             have w2 := i2 b (by omega)
             have h156' := h156
             rw [w1, w2] at h156'
             simp [h141, h156', nI_succ, Int32.not_lt.mpr, Int32.not_le.mp]
             done)
theorem mChoice_as {m x z : Int32} {x1 x2 : Nat} (e1 : x = nI x1) (h1 : x1 < 6) (e2 : z = nI x2) (h2 : x2 < 6) : (if bt m x1 = true then x else if bt m x2 = true then z else nI (mLow m)) = nI (mChoice m x z) := by
  subst e1; subst e2
  unfold mChoice
  rw [nI_clamp (by omega), nI_clamp (by omega)]
  split
  · rfl
  · split <;> rfl
set_option maxRecDepth 20000 in
set_option maxHeartbeats 2000000 in
theorem lo2_X8_winnerOf {l : Launch} {G : svG} {hi : svH} {hl : svL} {tw dr : Nat} {pm : Nat → Nat} {C L T Gn : Nat} (hm : mT hi C L T Gn) {m : Int32} (hset : setOk C m) : ∀ t, t ≤ Gn → ∀ (h' : svH) (z : Option Value), (∀ q, q ≠ 181 → h' q = hi q) → (∀ k, k < 6 → h' 181 k = mBack (hi 166) (hi 167) (hi 168) (hi 169 26) m t k) → svJ l G rX8_winnerOf mX8_winnerOf (sv_Fm G (fun v sh a b c => ∃ r, v = some (.int r) ∧ sh = svSH ∧ ((fun r a b c => nI ((mBest (fun i => bt m i) (mBack (hi 166) (hi 167) (hi 168) (hi 169 26) m Gn) C).getD 0) = r ∧ (∀ q, q ≠ 181 → a q = hi q) ∧ hl = b ∧ sv_hr tw dr pm = c)) r a b c) 0 0) 0 0 23 [some (sv_rf G.1 164), some (.int m), some (.int (nI t)), z] [] svSH h' hl (sv_hr tw dr pm) := by
  obtain ⟨hCc, hLc, hT, hGn, hC2, hC6, hL1, hLC, hT8, hG6, hf, hs, hk⟩ := id hm
  have hlow := mLow_mem hC6 hset.2
  have hex : ∃ i, i < 6 ∧ bt m i = true := hset.2.elim fun i h => ⟨i, by omega, h.2⟩
  refine sv_up (fun t ht ih h' z i1 i2 => ?_)
  refine S_iload_2 (pc := 23) dX8_winnerOf_23 ?_
  refine S_aload_0 (pc := 24) dX8_winnerOf_24 ?_
  refine fgX8_76 (pc := 25) sh_164 dX8_winnerOf_25 ?_
  refine J_icmp_ge (pc := 28) 120 dX8_winnerOf_28 (by decide) (fun h28 => ?_) (fun h28 => ?_)
  · rw [i1 164 (by decide), hGn, nI_leI (by omega) (by omega)] at h28
    obtain rfl : t = Gn := by omega
    refine S_aload_0 (pc := 120) dX8_winnerOf_120 ?_
    refine S_iload_1 (pc := 121) dX8_winnerOf_121 ?_
    refine caX8_166 (pc := 122) (t_X8_lowestOf (l := l) (G := G) hex) sh_164 (Nat.le_of_ble_eq_true rfl) ⟨rfl, rfl, ⟨by decide, by decide⟩, by decide, by decide⟩ dX8_winnerOf_122 (fun r122 a122 b122 c122 p122 => ?_)
    obtain ⟨rfl, rfl, rfl, rfl⟩ := p122
    refine S_istore_2 (pc := 125) dX8_winnerOf_125 (by decide) ?_
    refine J_iconst (pc := 126) (0) rfl dX8_winnerOf_126 ?_
    refine S_istore_3 (pc := 127) dX8_winnerOf_127 (by decide) ?_
    exact svJ_ls (by rfl) (lo3_X8_winnerOf hm hset i1 i2 0 (Nat.zero_le _))
  · rw [i1 164 (by decide), hGn, nI_leI (by omega) (by omega)] at h28
    obtain ⟨x1, hx1, e1⟩ := hf t (by omega)
    obtain ⟨x2, hx2, e2⟩ := hs t (by omega)
    have e1' := e1
    have e2' := e2
    rw [← i1 167 (by decide)] at e1'
    rw [← i1 168 (by decide)] at e2'
    have hlt : (mChoice m (hi 167 t) (hi 168 t)) < 6 := mChoice_lt (by rw [e1, nI_clamp (by omega)]; omega) (by rw [e2, nI_clamp (by omega)]; omega)
    have hcho := mChoice_as (m := m) e1' (by omega) e2' (by omega)
    rw [i1 167 (by decide), i1 168 (by decide)] at hcho
    refine S_iload_1 (pc := 31) dX8_winnerOf_31 ?_
    refine S_aload_0 (pc := 32) dX8_winnerOf_32 ?_
    refine fgX8_23 (pc := 33) sh_164 hv_164_6 dX8_winnerOf_33 ?_
    refine S_iload_2 (pc := 36) dX8_winnerOf_36 ?_
    refine J_iald_n (pc := 37) t sh_167 rfl (by omega) (by decide) dX8_winnerOf_37 ?_
    refine caX8_159 (pc := 38) (t_X8_has_x (l := l) (G := G) x1 e1' (by omega)) (Nat.le_of_ble_eq_true rfl) ⟨rfl, rfl, ⟨by decide, by decide⟩, by decide, by decide⟩ dX8_winnerOf_38 (fun r38 a38 b38 c38 p38 => ?_)
    obtain ⟨rfl, rfl, rfl, rfl⟩ := p38
    refine J_if_eq_b (pc := 41) 53 dX8_winnerOf_41 (by decide) (fun h41 => ?_) (fun h41 => ?_)
    · refine S_iload_1 (pc := 53) dX8_winnerOf_53 ?_
      refine S_aload_0 (pc := 54) dX8_winnerOf_54 ?_
      refine fgX8_26 (pc := 55) sh_164 hv_164_7 dX8_winnerOf_55 ?_
      refine S_iload_2 (pc := 58) dX8_winnerOf_58 ?_
      refine J_iald_n (pc := 59) t sh_168 rfl (by omega) (by decide) dX8_winnerOf_59 ?_
      refine caX8_159 (pc := 60) (t_X8_has_x (l := l) (G := G) x2 e2' (by omega)) (Nat.le_of_ble_eq_true rfl) ⟨rfl, rfl, ⟨by decide, by decide⟩, by decide, by decide⟩ dX8_winnerOf_60 (fun r60 a60 b60 c60 p60 => ?_)
      obtain ⟨rfl, rfl, rfl, rfl⟩ := p60
      refine J_if_eq_b (pc := 63) 75 dX8_winnerOf_63 (by decide) (fun h63 => ?_) (fun h63 => ?_)
      · refine S_aload_0 (pc := 75) dX8_winnerOf_75 ?_
        refine S_iload_1 (pc := 76) dX8_winnerOf_76 ?_
        refine caX8_166 (pc := 77) (t_X8_lowestOf (l := l) (G := G) hex) sh_164 (Nat.le_of_ble_eq_true rfl) ⟨rfl, rfl, ⟨by decide, by decide⟩, by decide, by decide⟩ dX8_winnerOf_77 (fun r77 a77 b77 c77 p77 => ?_)
        obtain ⟨rfl, rfl, rfl, rfl⟩ := p77
        refine S_istore_3 (pc := 80) dX8_winnerOf_80 (by decide) ?_
        refine S_aload_0 (pc := 81) dX8_winnerOf_81 ?_
        refine fgX8_66 (pc := 82) sh_164 hv_164_34 dX8_winnerOf_82 ?_
        refine S_iload_3 (pc := 85) dX8_winnerOf_85 ?_
        refine J_dup2 (pc := 86) rfl rfl dX8_winnerOf_86 ?_
        refine J_iald_n (pc := 87) (mChoice m (hi 167 t) (hi 168 t)) sh_181 (by rw [← hcho]; first | (rw [if_pos h41, i1 167 (by decide)]; done) | (rw [if_neg h41, if_pos h63, i1 168 (by decide)]; done) | (rw [if_neg h41, if_neg h63]; done)) hlt (by decide) dX8_winnerOf_87 ?_
        refine S_aload_0 (pc := 88) dX8_winnerOf_88 ?_
        refine fgX8_29 (pc := 89) sh_164 hv_164_8 dX8_winnerOf_89 ?_
        refine J_bipush (pc := 92) (26) rfl dX8_winnerOf_92 ?_
        refine J_iald_n (pc := 94) 26 sh_169 rfl (by decide) (by decide) dX8_winnerOf_94 ?_
        refine S_iload_2 (pc := 95) dX8_winnerOf_95 ?_
        refine caX8_159 (pc := 96) (t_X8_has_x (l := l) (G := G) t rfl (by omega)) (Nat.le_of_ble_eq_true rfl) ⟨rfl, rfl, ⟨by decide, by decide⟩, by decide, by decide⟩ dX8_winnerOf_96 (fun r96 a96 b96 c96 p96 => ?_)
        obtain ⟨rfl, rfl, rfl, rfl⟩ := p96
        try rw [i1 169 (by decide)]
        refine J_if_eq_b (pc := 99) 106 dX8_winnerOf_99 (by decide) (fun h99 => ?_) (fun h99 => ?_)
        · refine S_aload_0 (pc := 106) dX8_winnerOf_106 ?_
          refine fgX8_20 (pc := 107) sh_164 hv_164_5 dX8_winnerOf_107 ?_
          refine S_iload_2 (pc := 110) dX8_winnerOf_110 ?_
          refine J_iald_n (pc := 111) t sh_166 rfl (by omega) (by decide) dX8_winnerOf_111 ?_
          refine J_iadd (pc := 112) dX8_winnerOf_112 ?_
          refine J_iast_n (pc := 113) (mChoice m (hi 167 t) (hi 168 t)) sh_181 (by rw [← hcho]; first | (rw [if_pos h41, i1 167 (by decide)]; done) | (rw [if_neg h41, if_pos h63, i1 168 (by decide)]; done) | (rw [if_neg h41, if_neg h63]; done)) hlt (by decide) dX8_winnerOf_113 ?_
          refine S_inc_2 (pc := 114) (1) rfl dX8_winnerOf_114 (by decide) ?_
          refine J_goto (pc := 117) 23 dX8_winnerOf_117 (by decide) ?_
          refine svJ_ls (by rw [nI_succ]) (ih (t + 1) (by omega) (by omega) _ _ (fun q hq => (sv_u2_off hq).trans (i1 q hq)) (fun k hk => ?_))
          rw [sv_u2_row, mBack]
          first
          | (rw [if_pos h99, Int32.add_zero]
             unfold upd
             by_cases hkk : k = (mChoice m (hi 167 t) (hi 168 t))
             · rw [if_pos hkk, hkk]; exact i2 _ hlt
             · rw [if_neg hkk]; exact i2 k hk)
          | (rw [if_neg h99]
             unfold upd
             rw [i1 166 (by decide), i2 _ hlt]
             by_cases hkk : k = (mChoice m (hi 167 t) (hi 168 t))
             · rw [if_pos hkk, if_pos hkk]
             · rw [if_neg hkk, if_neg hkk]; exact i2 k hk)
        · refine J_iconst (pc := 102) (0) rfl dX8_winnerOf_102 ?_
          refine J_goto (pc := 103) 112 dX8_winnerOf_103 (by decide) ?_
          refine J_iadd (pc := 112) dX8_winnerOf_112 ?_
          refine J_iast_n (pc := 113) (mChoice m (hi 167 t) (hi 168 t)) sh_181 (by rw [← hcho]; first | (rw [if_pos h41, i1 167 (by decide)]; done) | (rw [if_neg h41, if_pos h63, i1 168 (by decide)]; done) | (rw [if_neg h41, if_neg h63]; done)) hlt (by decide) dX8_winnerOf_113 ?_
          refine S_inc_2 (pc := 114) (1) rfl dX8_winnerOf_114 (by decide) ?_
          refine J_goto (pc := 117) 23 dX8_winnerOf_117 (by decide) ?_
          refine svJ_ls (by rw [nI_succ]) (ih (t + 1) (by omega) (by omega) _ _ (fun q hq => (sv_u2_off hq).trans (i1 q hq)) (fun k hk => ?_))
          rw [sv_u2_row, mBack]
          first
          | (rw [if_pos h99, Int32.add_zero]
             unfold upd
             by_cases hkk : k = (mChoice m (hi 167 t) (hi 168 t))
             · rw [if_pos hkk, hkk]; exact i2 _ hlt
             · rw [if_neg hkk]; exact i2 k hk)
          | (rw [if_neg h99]
             unfold upd
             rw [i1 166 (by decide), i2 _ hlt]
             by_cases hkk : k = (mChoice m (hi 167 t) (hi 168 t))
             · rw [if_pos hkk, if_pos hkk]
             · rw [if_neg hkk, if_neg hkk]; exact i2 k hk)
      · refine S_aload_0 (pc := 66) dX8_winnerOf_66 ?_
        refine fgX8_26 (pc := 67) sh_164 hv_164_7 dX8_winnerOf_67 ?_
        refine S_iload_2 (pc := 70) dX8_winnerOf_70 ?_
        refine J_iald_n (pc := 71) t sh_168 rfl (by omega) (by decide) dX8_winnerOf_71 ?_
        refine J_goto (pc := 72) 80 dX8_winnerOf_72 (by decide) ?_
        refine S_istore_3 (pc := 80) dX8_winnerOf_80 (by decide) ?_
        refine S_aload_0 (pc := 81) dX8_winnerOf_81 ?_
        refine fgX8_66 (pc := 82) sh_164 hv_164_34 dX8_winnerOf_82 ?_
        refine S_iload_3 (pc := 85) dX8_winnerOf_85 ?_
        refine J_dup2 (pc := 86) rfl rfl dX8_winnerOf_86 ?_
        refine J_iald_n (pc := 87) (mChoice m (hi 167 t) (hi 168 t)) sh_181 (by rw [← hcho]; first | (rw [if_pos h41, i1 167 (by decide)]; done) | (rw [if_neg h41, if_pos h63, i1 168 (by decide)]; done) | (rw [if_neg h41, if_neg h63]; done)) hlt (by decide) dX8_winnerOf_87 ?_
        refine S_aload_0 (pc := 88) dX8_winnerOf_88 ?_
        refine fgX8_29 (pc := 89) sh_164 hv_164_8 dX8_winnerOf_89 ?_
        refine J_bipush (pc := 92) (26) rfl dX8_winnerOf_92 ?_
        refine J_iald_n (pc := 94) 26 sh_169 rfl (by decide) (by decide) dX8_winnerOf_94 ?_
        refine S_iload_2 (pc := 95) dX8_winnerOf_95 ?_
        refine caX8_159 (pc := 96) (t_X8_has_x (l := l) (G := G) t rfl (by omega)) (Nat.le_of_ble_eq_true rfl) ⟨rfl, rfl, ⟨by decide, by decide⟩, by decide, by decide⟩ dX8_winnerOf_96 (fun r96 a96 b96 c96 p96 => ?_)
        obtain ⟨rfl, rfl, rfl, rfl⟩ := p96
        try rw [i1 169 (by decide)]
        refine J_if_eq_b (pc := 99) 106 dX8_winnerOf_99 (by decide) (fun h99 => ?_) (fun h99 => ?_)
        · refine S_aload_0 (pc := 106) dX8_winnerOf_106 ?_
          refine fgX8_20 (pc := 107) sh_164 hv_164_5 dX8_winnerOf_107 ?_
          refine S_iload_2 (pc := 110) dX8_winnerOf_110 ?_
          refine J_iald_n (pc := 111) t sh_166 rfl (by omega) (by decide) dX8_winnerOf_111 ?_
          refine J_iadd (pc := 112) dX8_winnerOf_112 ?_
          refine J_iast_n (pc := 113) (mChoice m (hi 167 t) (hi 168 t)) sh_181 (by rw [← hcho]; first | (rw [if_pos h41, i1 167 (by decide)]; done) | (rw [if_neg h41, if_pos h63, i1 168 (by decide)]; done) | (rw [if_neg h41, if_neg h63]; done)) hlt (by decide) dX8_winnerOf_113 ?_
          refine S_inc_2 (pc := 114) (1) rfl dX8_winnerOf_114 (by decide) ?_
          refine J_goto (pc := 117) 23 dX8_winnerOf_117 (by decide) ?_
          refine svJ_ls (by rw [nI_succ]) (ih (t + 1) (by omega) (by omega) _ _ (fun q hq => (sv_u2_off hq).trans (i1 q hq)) (fun k hk => ?_))
          rw [sv_u2_row, mBack]
          first
          | (rw [if_pos h99, Int32.add_zero]
             unfold upd
             by_cases hkk : k = (mChoice m (hi 167 t) (hi 168 t))
             · rw [if_pos hkk, hkk]; exact i2 _ hlt
             · rw [if_neg hkk]; exact i2 k hk)
          | (rw [if_neg h99]
             unfold upd
             rw [i1 166 (by decide), i2 _ hlt]
             by_cases hkk : k = (mChoice m (hi 167 t) (hi 168 t))
             · rw [if_pos hkk, if_pos hkk]
             · rw [if_neg hkk, if_neg hkk]; exact i2 k hk)
        · refine J_iconst (pc := 102) (0) rfl dX8_winnerOf_102 ?_
          refine J_goto (pc := 103) 112 dX8_winnerOf_103 (by decide) ?_
          refine J_iadd (pc := 112) dX8_winnerOf_112 ?_
          refine J_iast_n (pc := 113) (mChoice m (hi 167 t) (hi 168 t)) sh_181 (by rw [← hcho]; first | (rw [if_pos h41, i1 167 (by decide)]; done) | (rw [if_neg h41, if_pos h63, i1 168 (by decide)]; done) | (rw [if_neg h41, if_neg h63]; done)) hlt (by decide) dX8_winnerOf_113 ?_
          refine S_inc_2 (pc := 114) (1) rfl dX8_winnerOf_114 (by decide) ?_
          refine J_goto (pc := 117) 23 dX8_winnerOf_117 (by decide) ?_
          refine svJ_ls (by rw [nI_succ]) (ih (t + 1) (by omega) (by omega) _ _ (fun q hq => (sv_u2_off hq).trans (i1 q hq)) (fun k hk => ?_))
          rw [sv_u2_row, mBack]
          first
          | (rw [if_pos h99, Int32.add_zero]
             unfold upd
             by_cases hkk : k = (mChoice m (hi 167 t) (hi 168 t))
             · rw [if_pos hkk, hkk]; exact i2 _ hlt
             · rw [if_neg hkk]; exact i2 k hk)
          | (rw [if_neg h99]
             unfold upd
             rw [i1 166 (by decide), i2 _ hlt]
             by_cases hkk : k = (mChoice m (hi 167 t) (hi 168 t))
             · rw [if_pos hkk, if_pos hkk]
             · rw [if_neg hkk, if_neg hkk]; exact i2 k hk)
    · refine S_aload_0 (pc := 44) dX8_winnerOf_44 ?_
      refine fgX8_23 (pc := 45) sh_164 hv_164_6 dX8_winnerOf_45 ?_
      refine S_iload_2 (pc := 48) dX8_winnerOf_48 ?_
      refine J_iald_n (pc := 49) t sh_167 rfl (by omega) (by decide) dX8_winnerOf_49 ?_
      refine J_goto (pc := 50) 80 dX8_winnerOf_50 (by decide) ?_
      refine S_istore_3 (pc := 80) dX8_winnerOf_80 (by decide) ?_
      refine S_aload_0 (pc := 81) dX8_winnerOf_81 ?_
      refine fgX8_66 (pc := 82) sh_164 hv_164_34 dX8_winnerOf_82 ?_
      refine S_iload_3 (pc := 85) dX8_winnerOf_85 ?_
      refine J_dup2 (pc := 86) rfl rfl dX8_winnerOf_86 ?_
      refine J_iald_n (pc := 87) (mChoice m (hi 167 t) (hi 168 t)) sh_181 (by rw [← hcho]; first | (rw [if_pos h41, i1 167 (by decide)]; done) | (rw [if_neg h41, if_pos h63, i1 168 (by decide)]; done) | (rw [if_neg h41, if_neg h63]; done)) hlt (by decide) dX8_winnerOf_87 ?_
      refine S_aload_0 (pc := 88) dX8_winnerOf_88 ?_
      refine fgX8_29 (pc := 89) sh_164 hv_164_8 dX8_winnerOf_89 ?_
      refine J_bipush (pc := 92) (26) rfl dX8_winnerOf_92 ?_
      refine J_iald_n (pc := 94) 26 sh_169 rfl (by decide) (by decide) dX8_winnerOf_94 ?_
      refine S_iload_2 (pc := 95) dX8_winnerOf_95 ?_
      refine caX8_159 (pc := 96) (t_X8_has_x (l := l) (G := G) t rfl (by omega)) (Nat.le_of_ble_eq_true rfl) ⟨rfl, rfl, ⟨by decide, by decide⟩, by decide, by decide⟩ dX8_winnerOf_96 (fun r96 a96 b96 c96 p96 => ?_)
      obtain ⟨rfl, rfl, rfl, rfl⟩ := p96
      try rw [i1 169 (by decide)]
      refine J_if_eq_b (pc := 99) 106 dX8_winnerOf_99 (by decide) (fun h99 => ?_) (fun h99 => ?_)
      · refine S_aload_0 (pc := 106) dX8_winnerOf_106 ?_
        refine fgX8_20 (pc := 107) sh_164 hv_164_5 dX8_winnerOf_107 ?_
        refine S_iload_2 (pc := 110) dX8_winnerOf_110 ?_
        refine J_iald_n (pc := 111) t sh_166 rfl (by omega) (by decide) dX8_winnerOf_111 ?_
        refine J_iadd (pc := 112) dX8_winnerOf_112 ?_
        refine J_iast_n (pc := 113) (mChoice m (hi 167 t) (hi 168 t)) sh_181 (by rw [← hcho]; first | (rw [if_pos h41, i1 167 (by decide)]; done) | (rw [if_neg h41, if_pos h63, i1 168 (by decide)]; done) | (rw [if_neg h41, if_neg h63]; done)) hlt (by decide) dX8_winnerOf_113 ?_
        refine S_inc_2 (pc := 114) (1) rfl dX8_winnerOf_114 (by decide) ?_
        refine J_goto (pc := 117) 23 dX8_winnerOf_117 (by decide) ?_
        refine svJ_ls (by rw [nI_succ]) (ih (t + 1) (by omega) (by omega) _ _ (fun q hq => (sv_u2_off hq).trans (i1 q hq)) (fun k hk => ?_))
        rw [sv_u2_row, mBack]
        first
        | (rw [if_pos h99, Int32.add_zero]
           unfold upd
           by_cases hkk : k = (mChoice m (hi 167 t) (hi 168 t))
           · rw [if_pos hkk, hkk]; exact i2 _ hlt
           · rw [if_neg hkk]; exact i2 k hk)
        | (rw [if_neg h99]
           unfold upd
           rw [i1 166 (by decide), i2 _ hlt]
           by_cases hkk : k = (mChoice m (hi 167 t) (hi 168 t))
           · rw [if_pos hkk, if_pos hkk]
           · rw [if_neg hkk, if_neg hkk]; exact i2 k hk)
      · refine J_iconst (pc := 102) (0) rfl dX8_winnerOf_102 ?_
        refine J_goto (pc := 103) 112 dX8_winnerOf_103 (by decide) ?_
        refine J_iadd (pc := 112) dX8_winnerOf_112 ?_
        refine J_iast_n (pc := 113) (mChoice m (hi 167 t) (hi 168 t)) sh_181 (by rw [← hcho]; first | (rw [if_pos h41, i1 167 (by decide)]; done) | (rw [if_neg h41, if_pos h63, i1 168 (by decide)]; done) | (rw [if_neg h41, if_neg h63]; done)) hlt (by decide) dX8_winnerOf_113 ?_
        refine S_inc_2 (pc := 114) (1) rfl dX8_winnerOf_114 (by decide) ?_
        refine J_goto (pc := 117) 23 dX8_winnerOf_117 (by decide) ?_
        refine svJ_ls (by rw [nI_succ]) (ih (t + 1) (by omega) (by omega) _ _ (fun q hq => (sv_u2_off hq).trans (i1 q hq)) (fun k hk => ?_))
        rw [sv_u2_row, mBack]
        first
        | (rw [if_pos h99, Int32.add_zero]
           unfold upd
           by_cases hkk : k = (mChoice m (hi 167 t) (hi 168 t))
           · rw [if_pos hkk, hkk]; exact i2 _ hlt
           · rw [if_neg hkk]; exact i2 k hk)
        | (rw [if_neg h99]
           unfold upd
           rw [i1 166 (by decide), i2 _ hlt]
           by_cases hkk : k = (mChoice m (hi 167 t) (hi 168 t))
           · rw [if_pos hkk, if_pos hkk]
           · rw [if_neg hkk, if_neg hkk]; exact i2 k hk)
set_option maxRecDepth 20000 in
set_option maxHeartbeats 2000000 in
theorem lo1_X8_winnerOf {l : Launch} {G : svG} {hi : svH} {hl : svL} {tw dr : Nat} {pm : Nat → Nat} {C L T Gn : Nat} (hm : mT hi C L T Gn) {m : Int32} (hset : setOk C m) : ∀ t, t ≤ 6 → ∀ (h' : svH), (∀ q, q ≠ 181 → h' q = hi q) → (∀ k, k < t → h' 181 k = 0) → svJ l G rX8_winnerOf mX8_winnerOf (sv_Fm G (fun v sh a b c => ∃ r, v = some (.int r) ∧ sh = svSH ∧ ((fun r a b c => nI ((mBest (fun i => bt m i) (mBack (hi 166) (hi 167) (hi 168) (hi 169 26) m Gn) C).getD 0) = r ∧ (∀ q, q ≠ 181 → a q = hi q) ∧ hl = b ∧ sv_hr tw dr pm = c)) r a b c) 0 0) 0 0 2 [some (sv_rf G.1 164), some (.int m), some (.int (nI t)), none] [] svSH h' hl (sv_hr tw dr pm) := by
  refine sv_up (fun t ht ih h' i1 i2 => ?_)
  refine S_iload_2 (pc := 2) dX8_winnerOf_2 ?_
  refine J_bipush (pc := 3) (6) rfl dX8_winnerOf_3 ?_
  refine J_icmp_ge (pc := 5) 21 dX8_winnerOf_5 (by decide) (fun h5 => ?_) (fun h5 => ?_)
  · rw [show (6 : Int32) = nI 6 from rfl, nI_leI (by omega) (by omega)] at h5
    obtain rfl : t = 6 := by omega
    refine J_iconst (pc := 21) (0) rfl dX8_winnerOf_21 ?_
    refine S_istore_2 (pc := 22) dX8_winnerOf_22 (by decide) ?_
    exact lo2_X8_winnerOf hm hset 0 (Nat.zero_le _) h' none i1 (fun k hk => by rw [mBack]; exact i2 k hk)
  · rw [show (6 : Int32) = nI 6 from rfl, nI_leI (by omega) (by omega)] at h5
    refine S_aload_0 (pc := 8) dX8_winnerOf_8 ?_
    refine fgX8_66 (pc := 9) sh_164 hv_164_34 dX8_winnerOf_9 ?_
    refine S_iload_2 (pc := 12) dX8_winnerOf_12 ?_
    refine J_iconst (pc := 13) (0) rfl dX8_winnerOf_13 ?_
    refine J_iast_n (pc := 14) t sh_181 rfl (by omega) (by decide) dX8_winnerOf_14 ?_
    refine S_inc_2 (pc := 15) (1) rfl dX8_winnerOf_15 (by decide) ?_
    refine J_goto (pc := 18) 2 dX8_winnerOf_18 (by decide) ?_
    refine svJ_ls (by rw [nI_succ]) (ih (t + 1) (by omega) (by omega) _ (fun q hq => (sv_u2_off hq).trans (i1 q hq)) (fun k hk => ?_))
    rw [sv_u2_row]
    unfold upd
    by_cases e : k = t
    · rw [if_pos e]
    · rw [if_neg e]; exact i2 k (by omega)
set_option maxRecDepth 20000 in
set_option maxHeartbeats 2000000 in
theorem t_X8_winnerOf {l : Launch} {G : svG} {hi : svH} {hl : svL} {tw dr : Nat} {pm : Nat → Nat} {C L T Gn : Nat} (hm : mT hi C L T Gn) {m : Int32} (hset : setOk C m) : svI l G yX8_winnerOf mX8_winnerOf rX8_winnerOf [sv_rf G.1 164, .int m] hi hl (sv_hr tw dr pm) (fun r a b c => nI ((mBest (fun i => bt m i) (mBack (hi 166) (hi 167) (hi 168) (hi 169 26) m Gn) C).getD 0) = r ∧ (∀ q, q ≠ 181 → a q = hi q) ∧ hl = b ∧ sv_hr tw dr pm = c) := by
  refine sv_entry (by decide +kernel) rfl rfl (Nat.le_of_ble_eq_true rfl) (by simp [Value.category, sv_rf]) [some (sv_rf G.1 164), some (.int m), none, none] rfl ?_
  refine J_iconst (pc := 0) (0) rfl dX8_winnerOf_0 ?_
  refine S_istore_2 (pc := 1) dX8_winnerOf_1 (by decide) ?_
  
  exact lo1_X8_winnerOf hm hset 0 (Nat.zero_le _) hi (fun _ _ => rfl) (fun k hk => by omega)
