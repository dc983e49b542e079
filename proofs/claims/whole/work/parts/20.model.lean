theorem has_n (x : Int32) {k : Nat} (hk : k < 32) : (x >>> (nI k &&& 31) &&& 1 = 1) ↔ bt x k = true := by rw [hb_shr x hk, sv_b_1]
theorem t_X8_has_x {l : Launch} {G : svG} {hi : svH} {hl : svL} {hr : svR} {b x : Int32} (k : Nat) (hx : x = nI k) (hk : k < 32) : svIp l G yX8_has mX8_has rX8_has [.int b, .int x] hi hl hr (sv_b (bt b k = true)) := by
  subst hx
  have h := t_X8_has (l := l) (G := G) (hi := hi) (hl := hl) (hr := hr) (x := b) (k := nI k)
  rw [sv_b_iff (has_n b hk)] at h
  exact h
theorem t_X8_isStopped_x {l : Launch} {G : svG} {hi : svH} {hl : svL} {tw dr : Nat} {pm : Nat → Nat} {x : Int32} (k : Nat) (hx : x = nI k) (hk : k < 32) : svIp l G yX8_isStopped mX8_isStopped rX8_isStopped [sv_rf G.1 164, .int x] hi hl (sv_hr tw dr pm) (sv_b (bt (hi 169 25) k = true)) := by
  subst hx
  have h := t_X8_isStopped (l := l) (G := G) (hi := hi) (hl := hl) (tw := tw) (dr := dr) (pm := pm) (x := nI k)
  rw [sv_b_iff (has_n _ hk)] at h
  exact h
def mT (hi : svH) (C L T Gn : Nat) : Prop := hi 164 0 = nI C ∧ hi 164 1 = nI L ∧ hi 164 2 = nI T ∧ hi 164 4 = nI Gn ∧ 2 ≤ C ∧ C ≤ 6 ∧ 1 ≤ L ∧ L ≤ C ∧ T ≤ 8 ∧ Gn ≤ 6 ∧ (∀ r, r < Gn → ∃ j, j < C ∧ hi 167 r = nI j) ∧ (∀ r, r < Gn → ∃ j, j < C ∧ hi 168 r = nI j) ∧ ∀ t, t < T → ∃ j, j < C ∧ hi 169 (17 + t) = nI j
theorem mT.keep {hi a : svH} {C L T Gn : Nat} (h : mT hi C L T Gn) (hq : ∀ q, q ≠ 180 → q ≠ 181 → a q = hi q) : mT a C L T Gn := by
  unfold mT
  rw [hq 164 (by decide) (by decide), hq 167 (by decide) (by decide), hq 168 (by decide) (by decide), hq 169 (by decide) (by decide)]
  exact h
set_option maxRecDepth 20000 in
set_option maxHeartbeats 2000000 in
theorem lo_X8_toCome {l : Launch} {G : svG} {hi : svH} {hl : svL} {tw dr : Nat} {pm : Nat → Nat} {C L T Gn : Nat} (hm : mT hi C L T Gn) : ∀ t, t ≤ T → svJ l G rX8_toCome mX8_toCome (sv_Fm G (fun v sh a b c => ∃ r, v = some (.int r) ∧ sh = svSH ∧ ((mOpen (hi 169 25) (hi 169 0) (fun t => hi 169 (9 + t)) T) = r ∧ hi = a ∧ hl = b ∧ (sv_hr tw dr pm) = c)) 0 0) 0 0 4 [some (sv_rf G.1 164), some (.int (mOpen (hi 169 25) (hi 169 0) (fun t => hi 169 (9 + t)) t)), some (.int (nI t))] [] svSH hi hl (sv_hr tw dr pm) := by
  obtain ⟨hCc, hLc, hT, hGn, hC2, hC6, hL1, hLC, hT8, hG6, hf, hs, hk⟩ := id hm
  refine sv_up (fun t ht ih => ?_)
  refine S_iload_2 (pc := 4) dX8_toCome_4 ?_
  refine S_aload_0 (pc := 5) dX8_toCome_5 ?_
  refine fgX8_73 (pc := 6) sh_164 dX8_toCome_6 ?_
  refine J_icmp_ge (pc := 9) 54 dX8_toCome_9 (by decide) (fun h9 => ?_) (fun h9 => ?_)
  · rw [hT, nI_leI (by omega) (by omega)] at h9
    obtain rfl : t = T := by omega
    refine S_iload_1 (pc := 54) dX8_toCome_54 ?_
    exact J_ireturn (pc := 55) dX8_toCome_55 rfl rfl ⟨_, rfl, rfl, ⟨rfl, rfl, rfl, rfl⟩⟩
  · rw [hT, nI_leI (by omega) (by omega)] at h9
    refine S_iload_1 (pc := 12) dX8_toCome_12 ?_
    refine S_aload_0 (pc := 13) dX8_toCome_13 ?_
    refine S_iload_2 (pc := 14) dX8_toCome_14 ?_
    refine caX8_163 (pc := 15) (t_X8_isStopped_x (l := l) (G := G) t rfl (by omega)) sh_164 (Nat.le_of_ble_eq_true rfl) ⟨rfl, rfl, ⟨by decide, by decide⟩, by decide, by decide⟩ dX8_toCome_15 (fun r15 a15 b15 c15 p15 => ?_)
    obtain ⟨rfl, rfl, rfl, rfl⟩ := p15
    refine J_if_ne_b (pc := 18) 45 dX8_toCome_18 (by decide) (fun h18 => ?_) (fun h18 => ?_)
    · refine J_iconst (pc := 45) (0) rfl dX8_toCome_45 ?_
      refine J_ior (pc := 46) dX8_toCome_46 ?_
      refine S_istore_1 (pc := 47) dX8_toCome_47 (by decide) ?_
      refine S_inc_2 (pc := 48) (1) rfl dX8_toCome_48 (by decide) ?_
      refine J_goto (pc := 51) 4 dX8_toCome_51 (by decide) ?_
      exact svJ_ls (by first | (rw [mOpen, if_pos (Or.inl h18), nI_succ]; simp) | (rw [mOpen, if_pos (Or.inr h36), nI_succ]; simp) | rw [mOpen, if_neg (not_or.mpr ⟨h18, h36⟩), nI_succ]) (ih (t + 1) (by omega) (by omega))
    · refine S_aload_0 (pc := 21) dX8_toCome_21 ?_
      refine fgX8_29 (pc := 22) sh_164 hv_164_8 dX8_toCome_22 ?_
      refine J_bipush (pc := 25) (9) rfl dX8_toCome_25 ?_
      refine S_iload_2 (pc := 27) dX8_toCome_27 ?_
      refine J_iadd (pc := 28) dX8_toCome_28 ?_
      refine J_iald_n (pc := 29) (9 + t) sh_169 (by rw [show (9 : Int32) = nI 9 from rfl, nI_add]) (by omega) (by decide) dX8_toCome_29 ?_
      refine S_aload_0 (pc := 30) dX8_toCome_30 ?_
      refine fgX8_29 (pc := 31) sh_164 hv_164_8 dX8_toCome_31 ?_
      refine J_iconst (pc := 34) (0) rfl dX8_toCome_34 ?_
      refine J_iald_n (pc := 35) 0 sh_169 rfl (by decide) (by decide) dX8_toCome_35 ?_
      refine J_icmp_lt (pc := 36) 45 dX8_toCome_36 (by decide) (fun h36 => ?_) (fun h36 => ?_)
      · refine J_iconst (pc := 45) (0) rfl dX8_toCome_45 ?_
        refine J_ior (pc := 46) dX8_toCome_46 ?_
        refine S_istore_1 (pc := 47) dX8_toCome_47 (by decide) ?_
        refine S_inc_2 (pc := 48) (1) rfl dX8_toCome_48 (by decide) ?_
        refine J_goto (pc := 51) 4 dX8_toCome_51 (by decide) ?_
        exact svJ_ls (by first | (rw [mOpen, if_pos (Or.inl h18), nI_succ]; simp) | (rw [mOpen, if_pos (Or.inr h36), nI_succ]; simp) | rw [mOpen, if_neg (not_or.mpr ⟨h18, h36⟩), nI_succ]) (ih (t + 1) (by omega) (by omega))
      · refine J_iconst (pc := 39) (1) rfl dX8_toCome_39 ?_
        refine S_iload_2 (pc := 40) dX8_toCome_40 ?_
        refine J_ishl (pc := 41) dX8_toCome_41 ?_
        refine J_goto (pc := 42) 46 dX8_toCome_42 (by decide) ?_
        refine J_ior (pc := 46) dX8_toCome_46 ?_
        refine S_istore_1 (pc := 47) dX8_toCome_47 (by decide) ?_
        refine S_inc_2 (pc := 48) (1) rfl dX8_toCome_48 (by decide) ?_
        refine J_goto (pc := 51) 4 dX8_toCome_51 (by decide) ?_
        exact svJ_ls (by first | (rw [mOpen, if_pos (Or.inl h18), nI_succ]; simp) | (rw [mOpen, if_pos (Or.inr h36), nI_succ]; simp) | rw [mOpen, if_neg (not_or.mpr ⟨h18, h36⟩), nI_succ]) (ih (t + 1) (by omega) (by omega))
set_option maxRecDepth 20000 in
set_option maxHeartbeats 2000000 in
theorem t_X8_toCome {l : Launch} {G : svG} {hi : svH} {hl : svL} {tw dr : Nat} {pm : Nat → Nat} {C L T Gn : Nat} (hm : mT hi C L T Gn) : svIp l G yX8_toCome mX8_toCome rX8_toCome [sv_rf G.1 164] hi hl (sv_hr tw dr pm) (mOpen (hi 169 25) (hi 169 0) (fun t => hi 169 (9 + t)) T) := by
  refine sv_entry (by decide +kernel) rfl rfl (Nat.le_of_ble_eq_true rfl) (by simp [Value.category, sv_rf]) [some (sv_rf G.1 164), none, none] rfl ?_
  refine J_iconst (pc := 0) (0) rfl dX8_toCome_0 ?_
  refine S_istore_1 (pc := 1) dX8_toCome_1 (by decide) ?_
  refine J_iconst (pc := 2) (0) rfl dX8_toCome_2 ?_
  refine S_istore_2 (pc := 3) dX8_toCome_3 (by decide) ?_
  
  exact lo_X8_toCome hm 0 (Nat.zero_le _)
set_option maxRecDepth 20000 in
set_option maxHeartbeats 2000000 in
theorem lo2_X8_tries {l : Launch} {G : svG} {hi : svH} {hl : svL} {tw dr : Nat} {pm : Nat → Nat} {C L T Gn : Nat} (hm : mT hi C L T Gn) {stops canv by' : Int32} (hto : ∀ t, t < T → (if bt canv t = true then by' else hi 169 (17 + t)) = nI (mTo canv by' (fun t => hi 169 (17 + t)) t) ∧ mTo canv by' (fun t => hi 169 (17 + t)) t < 6) : ∀ t, t ≤ T → ∀ (h' : svH) (z : Option Value), (∀ q, q ≠ 180 → h' q = hi q) → (∀ k, k < 6 → h' 180 k = mCast (fun k => hi 169 (3 + k)) (hi 165) (fun t => hi 169 (17 + t)) stops canv by' t k) → svJ l G rX8_tries mX8_tries (sv_Fm G (fun v sh a b c => v = none ∧ sh = svSH ∧ ((fun a b c => (∀ q, q ≠ 180 → a q = hi q) ∧ (∀ k, k < 6 → a 180 k = mCast (fun k => hi 169 (3 + k)) (hi 165) (fun t => hi 169 (17 + t)) stops canv by' T k) ∧ hl = b ∧ sv_hr tw dr pm = c)) a b c) 0 0) 0 0 35 [some (sv_rf G.1 164), some (.int stops), some (.int canv), some (.int by'), some (.int (nI t)), z] [] svSH h' hl (sv_hr tw dr pm) := by
  obtain ⟨hCc, hLc, hT, hGn, hC2, hC6, hL1, hLC, hT8, hG6, hf, hs, hk⟩ := id hm
  refine sv_up (fun t ht ih h' z i1 i2 => ?_)
  refine S_iload_4 (pc := 35) dX8_tries_35 ?_
  refine S_aload_0 (pc := 37) dX8_tries_37 ?_
  refine fgX8_73 (pc := 38) sh_164 dX8_tries_38 ?_
  refine J_icmp_ge (pc := 41) 105 dX8_tries_41 (by decide) (fun h41 => ?_) (fun h41 => ?_)
  · rw [i1 164 (by decide), hT, nI_leI (by omega) (by omega)] at h41
    obtain rfl : t = T := by omega
    exact J_return (pc := 105) dX8_tries_105 rfl ⟨rfl, rfl, ⟨i1, i2, rfl, rfl⟩⟩
  · rw [i1 164 (by decide), hT, nI_leI (by omega) (by omega)] at h41
    refine S_iload_2 (pc := 44) dX8_tries_44 ?_
    refine S_iload_4 (pc := 45) dX8_tries_45 ?_
    refine caX8_159 (pc := 47) (t_X8_has_x (l := l) (G := G) t rfl (by omega)) (Nat.le_of_ble_eq_true rfl) ⟨rfl, rfl, ⟨by decide, by decide⟩, by decide, by decide⟩ dX8_tries_47 (fun r47 a47 b47 c47 p47 => ?_)
    obtain ⟨rfl, rfl, rfl, rfl⟩ := p47
    refine J_if_eq_b (pc := 50) 57 dX8_tries_50 (by decide) (fun h50 => ?_) (fun h50 => ?_)
    · refine S_aload_0 (pc := 57) dX8_tries_57 ?_
      refine fgX8_29 (pc := 58) sh_164 hv_164_8 dX8_tries_58 ?_
      refine J_bipush (pc := 61) (17) rfl dX8_tries_61 ?_
      refine S_iload_4 (pc := 63) dX8_tries_63 ?_
      refine J_iadd (pc := 65) dX8_tries_65 ?_
      refine J_iald_n (pc := 66) (17 + t) sh_169 (by rw [show (17 : Int32) = nI 17 from rfl, nI_add]) (by omega) (by decide) dX8_tries_66 ?_
      refine S_istore_5 (pc := 67) dX8_tries_67 (by decide) ?_
      refine S_aload_0 (pc := 69) dX8_tries_69 ?_
      refine fgX8_63 (pc := 70) sh_164 hv_164_33 dX8_tries_70 ?_
      refine S_iload_5 (pc := 73) dX8_tries_73 ?_
      refine J_dup2 (pc := 75) rfl rfl dX8_tries_75 ?_
      refine J_iald_n (pc := 76) (mTo canv by' (fun t => hi 169 (17 + t)) t) sh_180 (by have := (hto t (by omega)).1; first | (rw [if_pos h50] at this; exact this) | (rw [if_neg h50] at this; rw [i1 169 (by decide)]; exact this)) (hto t (by omega)).2 (by decide) dX8_tries_76 ?_
      refine S_iload_1 (pc := 77) dX8_tries_77 ?_
      refine S_iload_4 (pc := 78) dX8_tries_78 ?_
      refine caX8_159 (pc := 80) (t_X8_has_x (l := l) (G := G) t rfl (by omega)) (Nat.le_of_ble_eq_true rfl) ⟨rfl, rfl, ⟨by decide, by decide⟩, by decide, by decide⟩ dX8_tries_80 (fun r80 a80 b80 c80 p80 => ?_)
      obtain ⟨rfl, rfl, rfl, rfl⟩ := p80
      refine J_if_eq_b (pc := 83) 96 dX8_tries_83 (by decide) (fun h83 => ?_) (fun h83 => ?_)
      · refine J_iconst (pc := 96) (0) rfl dX8_tries_96 ?_
        refine J_iadd (pc := 97) dX8_tries_97 ?_
        refine J_iast_n (pc := 98) (mTo canv by' (fun t => hi 169 (17 + t)) t) sh_180 (by have := (hto t (by omega)).1; first | (rw [if_pos h50] at this; exact this) | (rw [if_neg h50] at this; rw [i1 169 (by decide)]; exact this)) (hto t (by omega)).2 (by decide) dX8_tries_98 ?_
        refine S_inc_4 (pc := 99) (1) rfl dX8_tries_99 (by decide) ?_
        refine J_goto (pc := 102) 35 dX8_tries_102 (by decide) ?_
        refine svJ_ls (by rw [nI_succ]) (ih (t + 1) (by omega) (by omega) _ _ (fun q hq => (sv_u2_off hq).trans (i1 q hq)) (fun k hk => ?_))
        have hlt := (hto t (by omega)).2
        rw [sv_u2_row, mCast]
        first
        | (rw [if_pos h83]
           unfold upd
           rw [i1 165 (by decide), i2 _ hlt]
           by_cases hkk : k = mTo canv by' (fun t => hi 169 (17 + t)) t
           · rw [if_pos hkk, if_pos hkk]
           · rw [if_neg hkk, if_neg hkk]; exact i2 k hk)
        | (rw [if_neg h83, Int32.add_zero]
           unfold upd
           by_cases hkk : k = mTo canv by' (fun t => hi 169 (17 + t)) t
           · rw [if_pos hkk, hkk]; exact i2 _ hlt
           · rw [if_neg hkk]; exact i2 k hk)
      · refine S_aload_0 (pc := 86) dX8_tries_86 ?_
        refine fgX8_16 (pc := 87) sh_164 hv_164_3 dX8_tries_87 ?_
        refine S_iload_4 (pc := 90) dX8_tries_90 ?_
        refine J_iald_n (pc := 92) t sh_165 rfl (by omega) (by decide) dX8_tries_92 ?_
        refine J_goto (pc := 93) 97 dX8_tries_93 (by decide) ?_
        refine J_iadd (pc := 97) dX8_tries_97 ?_
        refine J_iast_n (pc := 98) (mTo canv by' (fun t => hi 169 (17 + t)) t) sh_180 (by have := (hto t (by omega)).1; first | (rw [if_pos h50] at this; exact this) | (rw [if_neg h50] at this; rw [i1 169 (by decide)]; exact this)) (hto t (by omega)).2 (by decide) dX8_tries_98 ?_
        refine S_inc_4 (pc := 99) (1) rfl dX8_tries_99 (by decide) ?_
        refine J_goto (pc := 102) 35 dX8_tries_102 (by decide) ?_
        refine svJ_ls (by rw [nI_succ]) (ih (t + 1) (by omega) (by omega) _ _ (fun q hq => (sv_u2_off hq).trans (i1 q hq)) (fun k hk => ?_))
        have hlt := (hto t (by omega)).2
        rw [sv_u2_row, mCast]
        first
        | (rw [if_pos h83]
           unfold upd
           rw [i1 165 (by decide), i2 _ hlt]
           by_cases hkk : k = mTo canv by' (fun t => hi 169 (17 + t)) t
           · rw [if_pos hkk, if_pos hkk]
           · rw [if_neg hkk, if_neg hkk]; exact i2 k hk)
        | (rw [if_neg h83, Int32.add_zero]
           unfold upd
           by_cases hkk : k = mTo canv by' (fun t => hi 169 (17 + t)) t
           · rw [if_pos hkk, hkk]; exact i2 _ hlt
           · rw [if_neg hkk]; exact i2 k hk)
    · refine S_iload_3 (pc := 53) dX8_tries_53 ?_
      refine J_goto (pc := 54) 67 dX8_tries_54 (by decide) ?_
      refine S_istore_5 (pc := 67) dX8_tries_67 (by decide) ?_
      refine S_aload_0 (pc := 69) dX8_tries_69 ?_
      refine fgX8_63 (pc := 70) sh_164 hv_164_33 dX8_tries_70 ?_
      refine S_iload_5 (pc := 73) dX8_tries_73 ?_
      refine J_dup2 (pc := 75) rfl rfl dX8_tries_75 ?_
      refine J_iald_n (pc := 76) (mTo canv by' (fun t => hi 169 (17 + t)) t) sh_180 (by have := (hto t (by omega)).1; first | (rw [if_pos h50] at this; exact this) | (rw [if_neg h50] at this; rw [i1 169 (by decide)]; exact this)) (hto t (by omega)).2 (by decide) dX8_tries_76 ?_
      refine S_iload_1 (pc := 77) dX8_tries_77 ?_
      refine S_iload_4 (pc := 78) dX8_tries_78 ?_
      refine caX8_159 (pc := 80) (t_X8_has_x (l := l) (G := G) t rfl (by omega)) (Nat.le_of_ble_eq_true rfl) ⟨rfl, rfl, ⟨by decide, by decide⟩, by decide, by decide⟩ dX8_tries_80 (fun r80 a80 b80 c80 p80 => ?_)
      obtain ⟨rfl, rfl, rfl, rfl⟩ := p80
      refine J_if_eq_b (pc := 83) 96 dX8_tries_83 (by decide) (fun h83 => ?_) (fun h83 => ?_)
      · refine J_iconst (pc := 96) (0) rfl dX8_tries_96 ?_
        refine J_iadd (pc := 97) dX8_tries_97 ?_
        refine J_iast_n (pc := 98) (mTo canv by' (fun t => hi 169 (17 + t)) t) sh_180 (by have := (hto t (by omega)).1; first | (rw [if_pos h50] at this; exact this) | (rw [if_neg h50] at this; rw [i1 169 (by decide)]; exact this)) (hto t (by omega)).2 (by decide) dX8_tries_98 ?_
        refine S_inc_4 (pc := 99) (1) rfl dX8_tries_99 (by decide) ?_
        refine J_goto (pc := 102) 35 dX8_tries_102 (by decide) ?_
        refine svJ_ls (by rw [nI_succ]) (ih (t + 1) (by omega) (by omega) _ _ (fun q hq => (sv_u2_off hq).trans (i1 q hq)) (fun k hk => ?_))
        have hlt := (hto t (by omega)).2
        rw [sv_u2_row, mCast]
        first
        | (rw [if_pos h83]
           unfold upd
           rw [i1 165 (by decide), i2 _ hlt]
           by_cases hkk : k = mTo canv by' (fun t => hi 169 (17 + t)) t
           · rw [if_pos hkk, if_pos hkk]
           · rw [if_neg hkk, if_neg hkk]; exact i2 k hk)
        | (rw [if_neg h83, Int32.add_zero]
           unfold upd
           by_cases hkk : k = mTo canv by' (fun t => hi 169 (17 + t)) t
           · rw [if_pos hkk, hkk]; exact i2 _ hlt
           · rw [if_neg hkk]; exact i2 k hk)
      · refine S_aload_0 (pc := 86) dX8_tries_86 ?_
        refine fgX8_16 (pc := 87) sh_164 hv_164_3 dX8_tries_87 ?_
        refine S_iload_4 (pc := 90) dX8_tries_90 ?_
        refine J_iald_n (pc := 92) t sh_165 rfl (by omega) (by decide) dX8_tries_92 ?_
        refine J_goto (pc := 93) 97 dX8_tries_93 (by decide) ?_
        refine J_iadd (pc := 97) dX8_tries_97 ?_
        refine J_iast_n (pc := 98) (mTo canv by' (fun t => hi 169 (17 + t)) t) sh_180 (by have := (hto t (by omega)).1; first | (rw [if_pos h50] at this; exact this) | (rw [if_neg h50] at this; rw [i1 169 (by decide)]; exact this)) (hto t (by omega)).2 (by decide) dX8_tries_98 ?_
        refine S_inc_4 (pc := 99) (1) rfl dX8_tries_99 (by decide) ?_
        refine J_goto (pc := 102) 35 dX8_tries_102 (by decide) ?_
        refine svJ_ls (by rw [nI_succ]) (ih (t + 1) (by omega) (by omega) _ _ (fun q hq => (sv_u2_off hq).trans (i1 q hq)) (fun k hk => ?_))
        have hlt := (hto t (by omega)).2
        rw [sv_u2_row, mCast]
        first
        | (rw [if_pos h83]
           unfold upd
           rw [i1 165 (by decide), i2 _ hlt]
           by_cases hkk : k = mTo canv by' (fun t => hi 169 (17 + t)) t
           · rw [if_pos hkk, if_pos hkk]
           · rw [if_neg hkk, if_neg hkk]; exact i2 k hk)
        | (rw [if_neg h83, Int32.add_zero]
           unfold upd
           by_cases hkk : k = mTo canv by' (fun t => hi 169 (17 + t)) t
           · rw [if_pos hkk, hkk]; exact i2 _ hlt
           · rw [if_neg hkk]; exact i2 k hk)
set_option maxRecDepth 20000 in
set_option maxHeartbeats 2000000 in
theorem lo1_X8_tries {l : Launch} {G : svG} {hi : svH} {hl : svL} {tw dr : Nat} {pm : Nat → Nat} {C L T Gn : Nat} (hm : mT hi C L T Gn) {stops canv by' : Int32} (hto : ∀ t, t < T → (if bt canv t = true then by' else hi 169 (17 + t)) = nI (mTo canv by' (fun t => hi 169 (17 + t)) t) ∧ mTo canv by' (fun t => hi 169 (17 + t)) t < 6) : ∀ t, t ≤ 6 → ∀ (h' : svH), (∀ q, q ≠ 180 → h' q = hi q) → (∀ k, k < t → h' 180 k = hi 169 (3 + k)) → svJ l G rX8_tries mX8_tries (sv_Fm G (fun v sh a b c => v = none ∧ sh = svSH ∧ ((fun a b c => (∀ q, q ≠ 180 → a q = hi q) ∧ (∀ k, k < 6 → a 180 k = mCast (fun k => hi 169 (3 + k)) (hi 165) (fun t => hi 169 (17 + t)) stops canv by' T k) ∧ hl = b ∧ sv_hr tw dr pm = c)) a b c) 0 0) 0 0 3 [some (sv_rf G.1 164), some (.int stops), some (.int canv), some (.int by'), some (.int (nI t)), none] [] svSH h' hl (sv_hr tw dr pm) := by
  obtain ⟨hCc, hLc, hT, hGn, hC2, hC6, hL1, hLC, hT8, hG6, hf, hs, hk⟩ := id hm
  refine sv_up (fun t ht ih h' i1 i2 => ?_)
  refine S_iload_4 (pc := 3) dX8_tries_3 ?_
  refine J_bipush (pc := 5) (6) rfl dX8_tries_5 ?_
  refine J_icmp_ge (pc := 7) 32 dX8_tries_7 (by decide) (fun h7 => ?_) (fun h7 => ?_)
  · rw [show (6 : Int32) = nI 6 from rfl, nI_leI (by omega) (by omega)] at h7
    obtain rfl : t = 6 := by omega
    refine J_iconst (pc := 32) (0) rfl dX8_tries_32 ?_
    refine S_istore_4 (pc := 33) dX8_tries_33 (by decide) ?_
    exact lo2_X8_tries hm hto 0 (Nat.zero_le _) h' none i1 (fun k hk => by rw [mCast]; exact i2 k hk)
  · rw [show (6 : Int32) = nI 6 from rfl, nI_leI (by omega) (by omega)] at h7
    refine S_aload_0 (pc := 10) dX8_tries_10 ?_
    refine fgX8_63 (pc := 11) sh_164 hv_164_33 dX8_tries_11 ?_
    refine S_iload_4 (pc := 14) dX8_tries_14 ?_
    refine S_aload_0 (pc := 16) dX8_tries_16 ?_
    refine fgX8_29 (pc := 17) sh_164 hv_164_8 dX8_tries_17 ?_
    refine J_iconst (pc := 20) (3) rfl dX8_tries_20 ?_
    refine S_iload_4 (pc := 21) dX8_tries_21 ?_
    refine J_iadd (pc := 23) dX8_tries_23 ?_
    refine J_iald_n (pc := 24) (3 + t) sh_169 (by rw [show (3 : Int32) = nI 3 from rfl, nI_add]) (by omega) (by decide) dX8_tries_24 ?_
    refine J_iast_n (pc := 25) t sh_180 rfl (by omega) (by decide) dX8_tries_25 ?_
    refine S_inc_4 (pc := 26) (1) rfl dX8_tries_26 (by decide) ?_
    refine J_goto (pc := 29) 3 dX8_tries_29 (by decide) ?_
    refine svJ_ls (by rw [nI_succ]) (ih (t + 1) (by omega) (by omega) _ (fun q hq => (sv_u2_off hq).trans (i1 q hq)) (fun k hk => ?_))
    rw [sv_u2_row]
    unfold upd
    by_cases e : k = t
    · rw [if_pos e, i1 169 (by decide), e]
    · rw [if_neg e]; exact i2 k (by omega)
set_option maxRecDepth 20000 in
set_option maxHeartbeats 2000000 in
theorem t_X8_tries {l : Launch} {G : svG} {hi : svH} {hl : svL} {tw dr : Nat} {pm : Nat → Nat} {C L T Gn : Nat} (hm : mT hi C L T Gn) {stops canv by' : Int32} (hto : ∀ t, t < T → (if bt canv t = true then by' else hi 169 (17 + t)) = nI (mTo canv by' (fun t => hi 169 (17 + t)) t) ∧ mTo canv by' (fun t => hi 169 (17 + t)) t < 6) : svV l G yX8_tries mX8_tries rX8_tries [sv_rf G.1 164, .int stops, .int canv, .int by'] hi hl (sv_hr tw dr pm) (fun a b c => (∀ q, q ≠ 180 → a q = hi q) ∧ (∀ k, k < 6 → a 180 k = mCast (fun k => hi 169 (3 + k)) (hi 165) (fun t => hi 169 (17 + t)) stops canv by' T k) ∧ hl = b ∧ sv_hr tw dr pm = c) := by
  refine sv_entry (by decide +kernel) rfl rfl (Nat.le_of_ble_eq_true rfl) (by simp [Value.category, sv_rf]) [some (sv_rf G.1 164), some (.int stops), some (.int canv), some (.int by'), none, none] rfl ?_
  refine J_iconst (pc := 0) (0) rfl dX8_tries_0 ?_
  refine S_istore_4 (pc := 1) dX8_tries_1 (by decide) ?_
  
  exact lo1_X8_tries hm hto 0 (Nat.zero_le _) hi (fun _ _ => rfl) (fun k hk => by omega)
theorem mCnt_add {p : Nat → Bool} {b : Nat} (hp : p b = false) : ∀ {n : Nat}, mCnt (fun i => p i || decide (i = b)) n = mCnt p n + (if b < n then 1 else 0) := by
  intro n
  induction n with
  | zero => simp [mCnt]
  | succ n ih =>
    rw [mCnt, mCnt, ih]
    by_cases e : n = b
    · subst e
      simp [hp]
    · by_cases h : b < n
      · rw [if_pos h, if_pos (by omega)]; simp [e]; omega
      · rw [if_neg h, if_neg (by omega)]; simp [e]
theorem mCnt_congr {p q : Nat → Bool} : ∀ {n : Nat}, (∀ i, i < n → p i = q i) → mCnt p n = mCnt q n := by
  intro n
  induction n with
  | zero => intro _; rfl
  | succ n ih => intro h; rw [mCnt, mCnt, ih (fun i hi => h i (by omega)), h n (by omega)]
theorem mCnt_full {p : Nat → Bool} : ∀ {n : Nat}, (∀ i, i < n → p i = true) → mCnt p n = n := by
  intro n
  induction n with
  | zero => intro _; rfl
  | succ n ih => intro h; rw [mCnt, ih (fun i hi => h i (by omega)), h n (by omega)]; rfl
theorem mCnt_false : ∀ C, mCnt (fun _ => false) C = 0
  | 0 => rfl
  | C + 1 => by rw [mCnt, mCnt_false C]; rfl
theorem mLeft_cnt {C : Nat} (hC : C ≤ 6) {f : Nat → Int32} : ∀ k, k ≤ C → mCnt (fun i => bt (mLeft C f k) i) C = k ∧ ∀ m, m < k → ∃ b, mBest (fun i => !(bt (mLeft C f m) i)) f C = some b := by
  intro k
  induction k with
  | zero => exact fun _ => ⟨by rw [mCnt_congr (p := fun i => bt (mLeft C f 0) i) (q := fun _ => false) (fun i _ => b_0 i)]; exact mCnt_false C, fun m hm => by omega⟩
  | succ k ih =>
    intro hk
    obtain ⟨h1, h2⟩ := ih (by omega)
    have hs : ∃ b, mBest (fun i => !(bt (mLeft C f k) i)) f C = some b := by
      cases hb : mBest (fun i => !(bt (mLeft C f k) i)) f C with
      | some b => exact ⟨b, rfl⟩
      | none =>
        have := mCnt_full (p := fun i => bt (mLeft C f k) i) (n := C) (fun i hi => by simpa using mBest_none hb i hi)
        omega
    obtain ⟨b, hb⟩ := hs
    have hbl := mBest_lt hb
    refine ⟨?_, fun m hm => ?_⟩
    · rw [mCnt_congr (q := fun i => bt (mLeft C f k) i || decide (i = b)) (fun i hi => by rw [mLeft, hb, hb_set _ (by show b < 32; omega) (by omega)]; rfl), mCnt_add (by simpa using hbl.2), h1, if_pos hbl.1]
    · by_cases e : m = k
      · subst e; exact ⟨b, hb⟩
      · exact h2 m (by omega)
def mI9 (o : Option Nat) : Int32 := match o with
  | none => -9
  | some b => nI b
set_option maxRecDepth 20000 in
set_option maxHeartbeats 2000000 in
theorem lo2_X8_whoIsLeft {l : Launch} {G : svG} {hi : svH} {hl : svL} {tw dr : Nat} {pm : Nat → Nat} {C L T Gn : Nat} (hm : mT hi C L T Gn) {many : Nat} (hmany : many ≤ C) {k : Nat} (hkm : k < many) (hout : (∀ z4 z5 z6, svJ l G rX8_whoIsLeft mX8_whoIsLeft (sv_Fm G (fun v sh a b c => ∃ r, v = some (.int r) ∧ sh = svSH ∧ ((mLeft C (hi 180) many) = r ∧ hi = a ∧ hl = b ∧ (sv_hr tw dr pm) = c)) 0 0) 0 0 4 [some (sv_rf G.1 164), some (.int (nI many)), some (.int (mLeft C (hi 180) (k + 1))), some (.int (nI (k + 1))), z4, z5, z6] [] svSH hi hl (sv_hr tw dr pm))) : ∀ t, t ≤ C → ∀ z, svJ l G rX8_whoIsLeft mX8_whoIsLeft (sv_Fm G (fun v sh a b c => ∃ r, v = some (.int r) ∧ sh = svSH ∧ ((mLeft C (hi 180) many) = r ∧ hi = a ∧ hl = b ∧ (sv_hr tw dr pm) = c)) 0 0) 0 0 16 [some (sv_rf G.1 164), some (.int (nI many)), some (.int (mLeft C (hi 180) k)), some (.int (nI k)), some (.int (mI9 (mBest (fun i => !(bt (mLeft C (hi 180) k) i)) (hi 180) t))), some (.int (nI t)), z] [] svSH hi hl (sv_hr tw dr pm) := by
  obtain ⟨hCc, hLc, hT, hGn, hC2, hC6, hL1, hLC, hT8, hG6, hf, hs, hk⟩ := id hm
  refine sv_up (fun t ht ih z => ?_)
  cases hb : mBest (fun i => !(bt (mLeft C (hi 180) k) i)) (hi 180) t with
  | none =>
    refine S_iload_5 (pc := 16) dX8_whoIsLeft_16 ?_
    refine S_aload_0 (pc := 18) dX8_whoIsLeft_18 ?_
    refine fgX8_7 (pc := 19) sh_164 dX8_whoIsLeft_19 ?_
    refine J_icmp_ge (pc := 22) 83 dX8_whoIsLeft_22 (by decide) (fun h22 => ?_) (fun h22 => ?_)
    · rw [hCc, nI_leI (by omega) (by omega)] at h22
      obtain rfl : t = C := by omega
      obtain ⟨b0, hb0⟩ := (mLeft_cnt hC6 (f := hi 180) many hmany).2 k hkm
      refine S_iload_2 (pc := 83) dX8_whoIsLeft_83 ?_
      refine J_iconst (pc := 84) (1) rfl dX8_whoIsLeft_84 ?_
      refine S_iload_4 (pc := 85) dX8_whoIsLeft_85 ?_
      refine J_ishl (pc := 87) dX8_whoIsLeft_87 ?_
      refine J_ior (pc := 88) dX8_whoIsLeft_88 ?_
      refine S_istore_2 (pc := 89) dX8_whoIsLeft_89 (by decide) ?_
      refine S_inc_3 (pc := 90) (1) rfl dX8_whoIsLeft_90 (by decide) ?_
      refine J_goto (pc := 93) 4 dX8_whoIsLeft_93 (by decide) ?_
      rw [hb] at hb0
      cases hb0
    · rw [hCc, nI_leI (by omega) (by omega)] at h22
      refine S_iload_2 (pc := 25) dX8_whoIsLeft_25 ?_
      refine S_iload_5 (pc := 26) dX8_whoIsLeft_26 ?_
      refine caX8_159 (pc := 28) (t_X8_has_x (l := l) (G := G) t rfl (by omega)) (Nat.le_of_ble_eq_true rfl) ⟨rfl, rfl, ⟨by decide, by decide⟩, by decide, by decide⟩ dX8_whoIsLeft_28 (fun r28 a28 b28 c28 p28 => ?_)
      obtain ⟨rfl, rfl, rfl, rfl⟩ := p28
      refine J_if_ne_b (pc := 31) 60 dX8_whoIsLeft_31 (by decide) (fun h31 => ?_) (fun h31 => ?_)
      · refine J_iconst (pc := 60) (0) rfl dX8_whoIsLeft_60 ?_
        refine S_istore_6 (pc := 61) dX8_whoIsLeft_61 (by decide) ?_
        refine S_iload_6 (pc := 63) dX8_whoIsLeft_63 ?_
        refine J_if_eq (pc := 65) 73 dX8_whoIsLeft_65 (by decide) (fun h65 => ?_) (fun h65 => absurd h65 (by decide))
        refine S_iload_4 (pc := 73) dX8_whoIsLeft_73 ?_
        refine S_istore_4 (pc := 75) dX8_whoIsLeft_75 (by decide) ?_
        refine S_inc_5 (pc := 77) (1) rfl dX8_whoIsLeft_77 (by decide) ?_
        refine J_goto (pc := 80) 16 dX8_whoIsLeft_80 (by decide) ?_
        first
        | (refine svJ_ls ?_ (ih (t + 1) (by omega) (by omega) (some (.int 0))); simp [mBest, hb, mI9, nI_succ, h22, h31]; done)
        | (refine svJ_ls ?_ (ih (t + 1) (by omega) (by omega) (some (.int 1))); simp [mBest, hb, mI9, nI_succ, h22, h31]; done)
      · refine S_iload_4 (pc := 34) dX8_whoIsLeft_34 ?_
        refine J_if_lt (pc := 36) 56 dX8_whoIsLeft_36 (by decide) (fun h36 => ?_) (fun h36 => ?_)
        · refine J_iconst (pc := 56) (1) rfl dX8_whoIsLeft_56 ?_
          refine J_goto (pc := 57) 61 dX8_whoIsLeft_57 (by decide) ?_
          refine S_istore_6 (pc := 61) dX8_whoIsLeft_61 (by decide) ?_
          refine S_iload_6 (pc := 63) dX8_whoIsLeft_63 ?_
          refine J_if_eq (pc := 65) 73 dX8_whoIsLeft_65 (by decide) (fun h65 => absurd h65 (by decide)) (fun h65 => ?_)
          refine S_iload_5 (pc := 68) dX8_whoIsLeft_68 ?_
          refine J_goto (pc := 70) 75 dX8_whoIsLeft_70 (by decide) ?_
          refine S_istore_4 (pc := 75) dX8_whoIsLeft_75 (by decide) ?_
          refine S_inc_5 (pc := 77) (1) rfl dX8_whoIsLeft_77 (by decide) ?_
          refine J_goto (pc := 80) 16 dX8_whoIsLeft_80 (by decide) ?_
          first
          | (refine svJ_ls ?_ (ih (t + 1) (by omega) (by omega) (some (.int 0))); simp [mBest, hb, mI9, nI_succ, h22, h31, h36]; done)
          | (refine svJ_ls ?_ (ih (t + 1) (by omega) (by omega) (some (.int 1))); simp [mBest, hb, mI9, nI_succ, h22, h31, h36]; done)
        · exact absurd (by decide) h36
  | some b =>
    have hbl := (mBest_lt hb).1
    refine S_iload_5 (pc := 16) dX8_whoIsLeft_16 ?_
    refine S_aload_0 (pc := 18) dX8_whoIsLeft_18 ?_
    refine fgX8_7 (pc := 19) sh_164 dX8_whoIsLeft_19 ?_
    refine J_icmp_ge (pc := 22) 83 dX8_whoIsLeft_22 (by decide) (fun h22 => ?_) (fun h22 => ?_)
    · rw [hCc, nI_leI (by omega) (by omega)] at h22
      obtain rfl : t = C := by omega
      obtain ⟨b0, hb0⟩ := (mLeft_cnt hC6 (f := hi 180) many hmany).2 k hkm
      refine S_iload_2 (pc := 83) dX8_whoIsLeft_83 ?_
      refine J_iconst (pc := 84) (1) rfl dX8_whoIsLeft_84 ?_
      refine S_iload_4 (pc := 85) dX8_whoIsLeft_85 ?_
      refine J_ishl (pc := 87) dX8_whoIsLeft_87 ?_
      refine J_ior (pc := 88) dX8_whoIsLeft_88 ?_
      refine S_istore_2 (pc := 89) dX8_whoIsLeft_89 (by decide) ?_
      refine S_inc_3 (pc := 90) (1) rfl dX8_whoIsLeft_90 (by decide) ?_
      refine J_goto (pc := 93) 4 dX8_whoIsLeft_93 (by decide) ?_
      rw [hb] at hb0
      cases hb0
      exact svJ_ls (by rw [nI_succ, mLeft, hb]; rfl) (hout _ _ z)
    · rw [hCc, nI_leI (by omega) (by omega)] at h22
      refine S_iload_2 (pc := 25) dX8_whoIsLeft_25 ?_
      refine S_iload_5 (pc := 26) dX8_whoIsLeft_26 ?_
      refine caX8_159 (pc := 28) (t_X8_has_x (l := l) (G := G) t rfl (by omega)) (Nat.le_of_ble_eq_true rfl) ⟨rfl, rfl, ⟨by decide, by decide⟩, by decide, by decide⟩ dX8_whoIsLeft_28 (fun r28 a28 b28 c28 p28 => ?_)
      obtain ⟨rfl, rfl, rfl, rfl⟩ := p28
      refine J_if_ne_b (pc := 31) 60 dX8_whoIsLeft_31 (by decide) (fun h31 => ?_) (fun h31 => ?_)
      · refine J_iconst (pc := 60) (0) rfl dX8_whoIsLeft_60 ?_
        refine S_istore_6 (pc := 61) dX8_whoIsLeft_61 (by decide) ?_
        refine S_iload_6 (pc := 63) dX8_whoIsLeft_63 ?_
        refine J_if_eq (pc := 65) 73 dX8_whoIsLeft_65 (by decide) (fun h65 => ?_) (fun h65 => absurd h65 (by decide))
        refine S_iload_4 (pc := 73) dX8_whoIsLeft_73 ?_
        refine S_istore_4 (pc := 75) dX8_whoIsLeft_75 (by decide) ?_
        refine S_inc_5 (pc := 77) (1) rfl dX8_whoIsLeft_77 (by decide) ?_
        refine J_goto (pc := 80) 16 dX8_whoIsLeft_80 (by decide) ?_
        first
        | (refine svJ_ls ?_ (ih (t + 1) (by omega) (by omega) (some (.int 0))); simp [mBest, hb, mI9, nI_succ, h22, h31]; done)
        | (refine svJ_ls ?_ (ih (t + 1) (by omega) (by omega) (some (.int 1))); simp [mBest, hb, mI9, nI_succ, h22, h31]; done)
      · refine S_iload_4 (pc := 34) dX8_whoIsLeft_34 ?_
        refine J_if_lt (pc := 36) 56 dX8_whoIsLeft_36 (by decide) (fun h36 => ?_) (fun h36 => ?_)
        · exact absurd h36 (nI_pos (by omega))
        · refine S_aload_0 (pc := 39) dX8_whoIsLeft_39 ?_
          refine fgX8_63 (pc := 40) sh_164 hv_164_33 dX8_whoIsLeft_40 ?_
          refine S_iload_5 (pc := 43) dX8_whoIsLeft_43 ?_
          refine J_iald_n (pc := 45) t sh_180 rfl (by omega) (by decide) dX8_whoIsLeft_45 ?_
          refine S_aload_0 (pc := 46) dX8_whoIsLeft_46 ?_
          refine fgX8_63 (pc := 47) sh_164 hv_164_33 dX8_whoIsLeft_47 ?_
          refine S_iload_4 (pc := 50) dX8_whoIsLeft_50 ?_
          refine J_iald_n (pc := 52) b sh_180 rfl (by omega) (by decide) dX8_whoIsLeft_52 ?_
          refine J_icmp_le (pc := 53) 60 dX8_whoIsLeft_53 (by decide) (fun h53 => ?_) (fun h53 => ?_)
          · refine J_iconst (pc := 60) (0) rfl dX8_whoIsLeft_60 ?_
            refine S_istore_6 (pc := 61) dX8_whoIsLeft_61 (by decide) ?_
            refine S_iload_6 (pc := 63) dX8_whoIsLeft_63 ?_
            refine J_if_eq (pc := 65) 73 dX8_whoIsLeft_65 (by decide) (fun h65 => ?_) (fun h65 => absurd h65 (by decide))
            refine S_iload_4 (pc := 73) dX8_whoIsLeft_73 ?_
            refine S_istore_4 (pc := 75) dX8_whoIsLeft_75 (by decide) ?_
            refine S_inc_5 (pc := 77) (1) rfl dX8_whoIsLeft_77 (by decide) ?_
            refine J_goto (pc := 80) 16 dX8_whoIsLeft_80 (by decide) ?_
            first
            | (refine svJ_ls ?_ (ih (t + 1) (by omega) (by omega) (some (.int 0))); simp [mBest, hb, mI9, nI_succ, h22, h31, h36, h53]; done)
            | (refine svJ_ls ?_ (ih (t + 1) (by omega) (by omega) (some (.int 1))); simp [mBest, hb, mI9, nI_succ, h22, h31, h36, h53]; done)
          · refine J_iconst (pc := 56) (1) rfl dX8_whoIsLeft_56 ?_
            refine J_goto (pc := 57) 61 dX8_whoIsLeft_57 (by decide) ?_
            refine S_istore_6 (pc := 61) dX8_whoIsLeft_61 (by decide) ?_
            refine S_iload_6 (pc := 63) dX8_whoIsLeft_63 ?_
            refine J_if_eq (pc := 65) 73 dX8_whoIsLeft_65 (by decide) (fun h65 => absurd h65 (by decide)) (fun h65 => ?_)
            refine S_iload_5 (pc := 68) dX8_whoIsLeft_68 ?_
            refine J_goto (pc := 70) 75 dX8_whoIsLeft_70 (by decide) ?_
            refine S_istore_4 (pc := 75) dX8_whoIsLeft_75 (by decide) ?_
            refine S_inc_5 (pc := 77) (1) rfl dX8_whoIsLeft_77 (by decide) ?_
            refine J_goto (pc := 80) 16 dX8_whoIsLeft_80 (by decide) ?_
            first
            | (refine svJ_ls ?_ (ih (t + 1) (by omega) (by omega) (some (.int 0))); simp [mBest, hb, mI9, nI_succ, h22, h31, h36, h53]; done)
            | (refine svJ_ls ?_ (ih (t + 1) (by omega) (by omega) (some (.int 1))); simp [mBest, hb, mI9, nI_succ, h22, h31, h36, h53]; done)
set_option maxRecDepth 20000 in
set_option maxHeartbeats 2000000 in
theorem lo1_X8_whoIsLeft {l : Launch} {G : svG} {hi : svH} {hl : svL} {tw dr : Nat} {pm : Nat → Nat} {C L T Gn : Nat} (hm : mT hi C L T Gn) {many : Nat} (hmany : many ≤ C) : ∀ k, k ≤ many → ∀ z4 z5 z6, svJ l G rX8_whoIsLeft mX8_whoIsLeft (sv_Fm G (fun v sh a b c => ∃ r, v = some (.int r) ∧ sh = svSH ∧ ((mLeft C (hi 180) many) = r ∧ hi = a ∧ hl = b ∧ (sv_hr tw dr pm) = c)) 0 0) 0 0 4 [some (sv_rf G.1 164), some (.int (nI many)), some (.int (mLeft C (hi 180) k)), some (.int (nI k)), z4, z5, z6] [] svSH hi hl (sv_hr tw dr pm) := by
  obtain ⟨hCc, hLc, hT, hGn, hC2, hC6, hL1, hLC, hT8, hG6, hf, hs, hk⟩ := id hm
  refine sv_up (fun k hk1 ih z4 z5 z6 => ?_)
  refine S_iload_3 (pc := 4) dX8_whoIsLeft_4 ?_
  refine S_iload_1 (pc := 5) dX8_whoIsLeft_5 ?_
  refine J_icmp_ge (pc := 6) 96 dX8_whoIsLeft_6 (by decide) (fun h6 => ?_) (fun h6 => ?_)
  · rw [nI_leI (by omega) (by omega)] at h6
    obtain rfl : k = many := by omega
    refine S_iload_2 (pc := 96) dX8_whoIsLeft_96 ?_
    exact J_ireturn (pc := 97) dX8_whoIsLeft_97 rfl rfl ⟨_, rfl, rfl, ⟨rfl, rfl, rfl, rfl⟩⟩
  · rw [nI_leI (by omega) (by omega)] at h6
    refine J_bipush (pc := 9) (-9) rfl dX8_whoIsLeft_9 ?_
    refine S_istore_4 (pc := 11) dX8_whoIsLeft_11 (by decide) ?_
    refine J_iconst (pc := 13) (0) rfl dX8_whoIsLeft_13 ?_
    refine S_istore_5 (pc := 14) dX8_whoIsLeft_14 (by decide) ?_
    exact lo2_X8_whoIsLeft hm hmany (by omega) (fun z4 z5 z6 => ih (k + 1) (by omega) (by omega) z4 z5 z6) 0 (Nat.zero_le _) z6
set_option maxRecDepth 20000 in
set_option maxHeartbeats 2000000 in
theorem t_X8_whoIsLeft {l : Launch} {G : svG} {hi : svH} {hl : svL} {tw dr : Nat} {pm : Nat → Nat} {C L T Gn : Nat} (hm : mT hi C L T Gn) {many : Nat} (hmany : many ≤ C) : svIp l G yX8_whoIsLeft mX8_whoIsLeft rX8_whoIsLeft [sv_rf G.1 164, .int (nI many)] hi hl (sv_hr tw dr pm) (mLeft C (hi 180) many) := by
  refine sv_entry (by decide +kernel) rfl rfl (Nat.le_of_ble_eq_true rfl) (by simp [Value.category, sv_rf]) [some (sv_rf G.1 164), some (.int (nI many)), none, none, none, none, none] rfl ?_
  refine J_iconst (pc := 0) (0) rfl dX8_whoIsLeft_0 ?_
  refine S_istore_2 (pc := 1) dX8_whoIsLeft_1 (by decide) ?_
  refine J_iconst (pc := 2) (0) rfl dX8_whoIsLeft_2 ?_
  refine S_istore_3 (pc := 3) dX8_whoIsLeft_3 (by decide) ?_
  
  exact lo1_X8_whoIsLeft hm hmany 0 (Nat.zero_le _) none none none
theorem mLow_first {m : Int32} {j : Nat} (hj : j < 6) (h1 : ∀ i, i < j → bt m i = false) (h2 : bt m j = true) : mLow m = j := by
  unfold mLow
  rcases (show j = 0 ∨ j = 1 ∨ j = 2 ∨ j = 3 ∨ j = 4 ∨ j = 5 by omega) with rfl | rfl | rfl | rfl | rfl | rfl
  · simp [h2]
  · simp [h2, h1 0 (by decide)]
  · simp [h2, h1 0 (by decide), h1 1 (by decide)]
  · simp [h2, h1 0 (by decide), h1 1 (by decide), h1 2 (by decide)]
  · simp [h2, h1 0 (by decide), h1 1 (by decide), h1 2 (by decide), h1 3 (by decide)]
  · simp [h1 0 (by decide), h1 1 (by decide), h1 2 (by decide), h1 3 (by decide), h1 4 (by decide)]
set_option maxRecDepth 20000 in
set_option maxHeartbeats 2000000 in
theorem lo_X8_lowestOf {l : Launch} {G : svG} {hi : svH} {hl : svL} {tw dr : Nat} {pm : Nat → Nat} {m : Int32} (hex : ∃ i, i < 6 ∧ bt m i = true) : ∀ t, t ≤ 6 → (∀ i, i < t → bt m i = false) → svJ l G rX8_lowestOf mX8_lowestOf (sv_Fm G (fun v sh a b c => ∃ r, v = some (.int r) ∧ sh = svSH ∧ ((nI (mLow m)) = r ∧ hi = a ∧ hl = b ∧ (sv_hr tw dr pm) = c)) 0 0) 0 0 2 [some (sv_rf G.1 164), some (.int m), some (.int (nI t))] [] svSH hi hl (sv_hr tw dr pm) := by
  refine sv_up (fun t ht ih i1 => ?_)
  have ht6 : t < 6 := by
    obtain ⟨i, h1, h2⟩ := hex
    apply Nat.lt_of_not_le
    intro h3
    rw [i1 i (by omega)] at h2
    cases h2
  refine S_iload_1 (pc := 2) dX8_lowestOf_2 ?_
  refine S_iload_2 (pc := 3) dX8_lowestOf_3 ?_
  refine caX8_159 (pc := 4) (t_X8_has_x (l := l) (G := G) t rfl (by omega)) (Nat.le_of_ble_eq_true rfl) ⟨rfl, rfl, ⟨by decide, by decide⟩, by decide, by decide⟩ dX8_lowestOf_4 (fun r4 a4 b4 c4 p4 => ?_)
  obtain ⟨rfl, rfl, rfl, rfl⟩ := p4
  refine J_if_ne_b (pc := 7) 16 dX8_lowestOf_7 (by decide) (fun h7 => ?_) (fun h7 => ?_)
  · refine S_iload_2 (pc := 16) dX8_lowestOf_16 ?_
    exact J_ireturn (pc := 17) dX8_lowestOf_17 rfl rfl ⟨_, rfl, rfl, ⟨by rw [mLow_first ht6 i1 h7], rfl, rfl, rfl⟩⟩
  · refine S_inc_2 (pc := 10) (1) rfl dX8_lowestOf_10 (by decide) ?_
    refine J_goto (pc := 13) 2 dX8_lowestOf_13 (by decide) ?_
    refine svJ_ls (by rw [nI_succ]) (ih (t + 1) (by omega) (by omega) (fun i hi => ?_))
    by_cases e : i = t
    · subst e; simpa using h7
    · exact i1 i (by omega)
set_option maxRecDepth 20000 in
set_option maxHeartbeats 2000000 in
theorem t_X8_lowestOf {l : Launch} {G : svG} {hi : svH} {hl : svL} {tw dr : Nat} {pm : Nat → Nat} {m : Int32} (hex : ∃ i, i < 6 ∧ bt m i = true) : svIp l G yX8_lowestOf mX8_lowestOf rX8_lowestOf [sv_rf G.1 164, .int m] hi hl (sv_hr tw dr pm) (nI (mLow m)) := by
  refine sv_entry (by decide +kernel) rfl rfl (Nat.le_of_ble_eq_true rfl) (by simp [Value.category, sv_rf]) [some (sv_rf G.1 164), some (.int m), none] rfl ?_
  refine J_iconst (pc := 0) (0) rfl dX8_lowestOf_0 ?_
  refine S_istore_2 (pc := 1) dX8_lowestOf_1 (by decide) ?_
  
  exact lo_X8_lowestOf hex 0 (Nat.zero_le _) (fun i hi => by omega)
