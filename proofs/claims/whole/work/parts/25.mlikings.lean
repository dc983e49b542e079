theorem div10 : ∀ u, u < 60 → nI u / 10 = nI (u / 10) := by decide +kernel
theorem rem10 : ∀ u, u < 60 → nI u - nI (u / 10) * 10 = nI (u % 10) := by decide +kernel
theorem in_n {k C : Nat} (hk : k < 2 ^ 31) (hC : C < 2 ^ 31) : (0 ≤ nI k ∧ nI k < nI C) ↔ k < C := ⟨fun h => (nI_ltI hk hC).mp h.2, fun h => ⟨nI_pos' hk, nI_lt h hC⟩⟩
theorem t_X8_isOne_k {l : Launch} {G : svG} {hi : svH} {hl : svL} {tw dr : Nat} {pm : Nat → Nat} {C L T Gn : Nat} (hm : mT hi C L T Gn) {k : Nat} (hk : k < 1000) : svIp l G yX8_isOne mX8_isOne rX8_isOne [sv_rf G.1 164, .int (nI k)] hi hl (sv_hr tw dr pm) (sv_b (k < C)) := by
  have h := t_X8_isOne_n (l := l) (G := G) (hl := hl) (tw := tw) (dr := dr) (pm := pm) hm (x := nI k)
  rw [sv_b_iff (in_n (by omega) (by have := hm.2.2.2.2.2.1; omega))] at h
  exact h
theorem mOkL_succ {C n : Nat} {ch ot : Nat → Int32} {u : Nat} : mOkL C (n + 1) ch ot u = (mOkL C n ch ot u && decide (sv_cho (nI (u / 10)) (nI (u % 10)) (ch n) (ot n) = ch n)) := by
  unfold mOkL
  rw [mSoUp, ← Bool.and_assoc]
theorem mOkL_0 {C : Nat} {ch ot : Nat → Int32} {u : Nat} : mOkL C 0 ch ot u = true ↔ u / 10 < C ∧ u % 10 < C ∧ ¬ u / 10 = u % 10 := by
  unfold mOkL mSoUp
  simp [and_assoc]
set_option maxRecDepth 20000 in
set_option maxHeartbeats 2000000 in
theorem lo_X8_isSo {l : Launch} {G : svG} {hi : svH} {hl : svL} {tw dr : Nat} {pm : Nat → Nat} {C L T Gn : Nat} (hm : mT hi C L T Gn) {n u : Nat} (hn : hi 164 11 = nI n) (hn2 : n ≤ 4) (hu : u < 60) : ∀ t, t ≤ n → svJ l G rX8_isSo mX8_isSo (sv_Fm G (fun v sh a b c => ∃ r, v = some (.int r) ∧ sh = svSH ∧ ((sv_b (mOkL C n (fun i => hi 172 (2 * i)) (fun i => hi 172 (2 * i + 1)) u = true)) = r ∧ hi = a ∧ hl = b ∧ (sv_hr tw dr pm) = c)) 0 0) 0 0 41 [some (sv_rf G.1 164), some (.int (nI u)), some (.int (sv_b (mOkL C t (fun i => hi 172 (2 * i)) (fun i => hi 172 (2 * i + 1)) u = true))), some (.int (nI t))] [] svSH hi hl (sv_hr tw dr pm) := by
  refine sv_up (fun t ht ih => ?_)
  refine S_iload_3 (pc := 41) dX8_isSo_41 ?_
  refine S_aload_0 (pc := 42) dX8_isSo_42 ?_
  refine fgX8_156 (pc := 43) sh_164 dX8_isSo_43 ?_
  refine J_icmp_ge (pc := 46) 98 dX8_isSo_46 (by decide) (fun h46 => ?_) (fun h46 => ?_)
  · rw [hn, nI_leI (by omega) (by omega)] at h46
    obtain rfl : t = n := by omega
    refine S_iload_2 (pc := 98) dX8_isSo_98 ?_
    exact J_ireturn (pc := 99) dX8_isSo_99 rfl sv_b_nar ⟨_, rfl, rfl, ⟨rfl, rfl, rfl, rfl⟩⟩
  · rw [hn, nI_leI (by omega) (by omega)] at h46
    refine S_iload_2 (pc := 49) dX8_isSo_49 ?_
    refine J_if_eq_b (pc := 50) 90 dX8_isSo_50 (by decide) (fun h50 => ?_) (fun h50 => ?_)
    · refine J_iconst (pc := 90) (0) rfl dX8_isSo_90 ?_
      refine S_istore_2 (pc := 91) dX8_isSo_91 (by decide) ?_
      refine S_inc_3 (pc := 92) (1) rfl dX8_isSo_92 (by decide) ?_
      refine J_goto (pc := 95) 41 dX8_isSo_95 (by decide) ?_
      exact svJ_ls (by rw [sv_b_f (c := (mOkL C (t + 1) (fun i => hi 172 (2 * i)) (fun i => hi 172 (2 * i + 1)) u = true)) (by rw [mOkL_succ]; intro q; rw [Bool.and_eq_true] at q; exact h50 q.1), nI_succ]) (ih (t + 1) (by omega) (by omega))
    · refine S_iload_1 (pc := 53) dX8_isSo_53 ?_
      refine S_aload_0 (pc := 54) dX8_isSo_54 ?_
      refine fgX8_39 (pc := 55) sh_164 hv_164_12 dX8_isSo_55 ?_
      refine J_iconst (pc := 58) (2) rfl dX8_isSo_58 ?_
      refine S_iload_3 (pc := 59) dX8_isSo_59 ?_
      refine J_imul (pc := 60) dX8_isSo_60 ?_
      refine J_iald_n (pc := 61) (2 * t) sh_172 (by rw [show (2 : Int32) = nI 2 from rfl, pk_mul]) (by omega) (by decide) dX8_isSo_61 ?_
      refine S_aload_0 (pc := 62) dX8_isSo_62 ?_
      refine fgX8_39 (pc := 63) sh_164 hv_164_12 dX8_isSo_63 ?_
      refine J_iconst (pc := 66) (2) rfl dX8_isSo_66 ?_
      refine S_iload_3 (pc := 67) dX8_isSo_67 ?_
      refine J_imul (pc := 68) dX8_isSo_68 ?_
      refine J_iconst (pc := 69) (1) rfl dX8_isSo_69 ?_
      refine J_iadd (pc := 70) dX8_isSo_70 ?_
      refine J_iald_n (pc := 71) (2 * t + 1) sh_172 (by rw [show (2 : Int32) = nI 2 from rfl, pk_mul, nI_succ]) (by omega) (by decide) dX8_isSo_71 ?_
      refine caX8_211 (pc := 72) (by have h := t_X8_chosen (l := l) (G := G) (hi := hi) (hl := hl) (hr := sv_hr tw dr pm) (x := nI u) (a := hi 172 (2 * t)) (b := hi 172 (2 * t + 1)); rw [div10 u hu, rem10 u hu] at h; exact h) (Nat.le_of_ble_eq_true rfl) ⟨rfl, rfl, ⟨by decide, by decide⟩, by decide, by decide⟩ dX8_isSo_72 (fun r72 a72 b72 c72 p72 => ?_)
      obtain ⟨rfl, rfl, rfl, rfl⟩ := p72
      refine S_aload_0 (pc := 75) dX8_isSo_75 ?_
      refine fgX8_39 (pc := 76) sh_164 hv_164_12 dX8_isSo_76 ?_
      refine J_iconst (pc := 79) (2) rfl dX8_isSo_79 ?_
      refine S_iload_3 (pc := 80) dX8_isSo_80 ?_
      refine J_imul (pc := 81) dX8_isSo_81 ?_
      refine J_iald_n (pc := 82) (2 * t) sh_172 (by rw [show (2 : Int32) = nI 2 from rfl, pk_mul]) (by omega) (by decide) dX8_isSo_82 ?_
      refine J_icmp_ne (pc := 83) 90 dX8_isSo_83 (by decide) (fun h83 => ?_) (fun h83 => ?_)
      · refine J_iconst (pc := 90) (0) rfl dX8_isSo_90 ?_
        refine S_istore_2 (pc := 91) dX8_isSo_91 (by decide) ?_
        refine S_inc_3 (pc := 92) (1) rfl dX8_isSo_92 (by decide) ?_
        refine J_goto (pc := 95) 41 dX8_isSo_95 (by decide) ?_
        first
        | exact svJ_ls (by rw [sv_b_t (c := (mOkL C (t + 1) (fun i => hi 172 (2 * i)) (fun i => hi 172 (2 * i + 1)) u = true)) (by rw [mOkL_succ, h50, decide_eq_true h83]; rfl), nI_succ]) (ih (t + 1) (by omega) (by omega))
        | exact svJ_ls (by rw [sv_b_f (c := (mOkL C (t + 1) (fun i => hi 172 (2 * i)) (fun i => hi 172 (2 * i + 1)) u = true)) (by rw [mOkL_succ]; intro q; rw [Bool.and_eq_true] at q; exact h83 (of_decide_eq_true q.2)), nI_succ]) (ih (t + 1) (by omega) (by omega))
      · refine J_iconst (pc := 86) (1) rfl dX8_isSo_86 ?_
        refine J_goto (pc := 87) 91 dX8_isSo_87 (by decide) ?_
        refine S_istore_2 (pc := 91) dX8_isSo_91 (by decide) ?_
        refine S_inc_3 (pc := 92) (1) rfl dX8_isSo_92 (by decide) ?_
        refine J_goto (pc := 95) 41 dX8_isSo_95 (by decide) ?_
        first
        | exact svJ_ls (by rw [sv_b_t (c := (mOkL C (t + 1) (fun i => hi 172 (2 * i)) (fun i => hi 172 (2 * i + 1)) u = true)) (by rw [mOkL_succ, h50, decide_eq_true h83]; rfl), nI_succ]) (ih (t + 1) (by omega) (by omega))
        | exact svJ_ls (by rw [sv_b_f (c := (mOkL C (t + 1) (fun i => hi 172 (2 * i)) (fun i => hi 172 (2 * i + 1)) u = true)) (by rw [mOkL_succ]; intro q; rw [Bool.and_eq_true] at q; exact h83 (of_decide_eq_true q.2)), nI_succ]) (ih (t + 1) (by omega) (by omega))
set_option maxRecDepth 20000 in
set_option maxHeartbeats 2000000 in
theorem t_X8_isSo {l : Launch} {G : svG} {hi : svH} {hl : svL} {tw dr : Nat} {pm : Nat → Nat} {C L T Gn : Nat} (hm : mT hi C L T Gn) {n u : Nat} (hn : hi 164 11 = nI n) (hn2 : n ≤ 4) (hu : u < 60) : svIp l G yX8_isSo mX8_isSo rX8_isSo [sv_rf G.1 164, .int (nI u)] hi hl (sv_hr tw dr pm) (sv_b (mOkL C n (fun i => hi 172 (2 * i)) (fun i => hi 172 (2 * i + 1)) u = true)) := by
  refine sv_entry (by decide +kernel) rfl rfl (Nat.le_of_ble_eq_true rfl) (by simp [Value.category, sv_rf]) [some (sv_rf G.1 164), some (.int (nI u)), none, none] rfl ?_
  refine S_aload_0 (pc := 0) dX8_isSo_0 ?_
  refine S_iload_1 (pc := 1) dX8_isSo_1 ?_
  refine J_bipush (pc := 2) (10) rfl dX8_isSo_2 ?_
  refine J_idiv (pc := 4) (by decide) dX8_isSo_4 ?_
  rw [div10 u hu]
  refine caX8_185 (pc := 5) (t_X8_isOne_k (l := l) (G := G) hm (by omega)) sh_164 (Nat.le_of_ble_eq_true rfl) ⟨rfl, rfl, ⟨by decide, by decide⟩, by decide, by decide⟩ dX8_isSo_5 (fun r5 a5 b5 c5 p5 => ?_)
  obtain ⟨rfl, rfl, rfl, rfl⟩ := p5
  refine J_if_eq_b (pc := 8) 37 dX8_isSo_8 (by decide) (fun h8 => ?_) (fun h8 => ?_)
  · refine J_iconst (pc := 37) (0) rfl dX8_isSo_37 ?_
    refine S_istore_2 (pc := 38) dX8_isSo_38 (by decide) ?_
    refine J_iconst (pc := 39) (0) rfl dX8_isSo_39 ?_
    refine S_istore_3 (pc := 40) dX8_isSo_40 (by decide) ?_
    exact svJ_ls (by rw [sv_b_f (c := (mOkL C 0 (fun i => hi 172 (2 * i)) (fun i => hi 172 (2 * i + 1)) u = true)) (fun q => h8 (mOkL_0.mp q).1)]; rfl) (lo_X8_isSo hm hn hn2 hu 0 (Nat.zero_le _))
  · refine S_aload_0 (pc := 11) dX8_isSo_11 ?_
    refine S_iload_1 (pc := 12) dX8_isSo_12 ?_
    refine J_bipush (pc := 13) (10) rfl dX8_isSo_13 ?_
    refine J_irem (pc := 15) (by decide) dX8_isSo_15 ?_
    rw [div10 u hu, rem10 u hu]
    refine caX8_185 (pc := 16) (t_X8_isOne_k (l := l) (G := G) hm (by omega)) sh_164 (Nat.le_of_ble_eq_true rfl) ⟨rfl, rfl, ⟨by decide, by decide⟩, by decide, by decide⟩ dX8_isSo_16 (fun r16 a16 b16 c16 p16 => ?_)
    obtain ⟨rfl, rfl, rfl, rfl⟩ := p16
    refine J_if_eq_b (pc := 19) 37 dX8_isSo_19 (by decide) (fun h19 => ?_) (fun h19 => ?_)
    · refine J_iconst (pc := 37) (0) rfl dX8_isSo_37 ?_
      refine S_istore_2 (pc := 38) dX8_isSo_38 (by decide) ?_
      refine J_iconst (pc := 39) (0) rfl dX8_isSo_39 ?_
      refine S_istore_3 (pc := 40) dX8_isSo_40 (by decide) ?_
      exact svJ_ls (by rw [sv_b_f (c := (mOkL C 0 (fun i => hi 172 (2 * i)) (fun i => hi 172 (2 * i + 1)) u = true)) (fun q => h19 (mOkL_0.mp q).2.1)]; rfl) (lo_X8_isSo hm hn hn2 hu 0 (Nat.zero_le _))
    · refine S_iload_1 (pc := 22) dX8_isSo_22 ?_
      refine J_bipush (pc := 23) (10) rfl dX8_isSo_23 ?_
      refine J_idiv (pc := 25) (by decide) dX8_isSo_25 ?_
      refine S_iload_1 (pc := 26) dX8_isSo_26 ?_
      refine J_bipush (pc := 27) (10) rfl dX8_isSo_27 ?_
      refine J_irem (pc := 29) (by decide) dX8_isSo_29 ?_
      refine J_icmp_eq (pc := 30) 37 dX8_isSo_30 (by decide) (fun h30 => ?_) (fun h30 => ?_)
      · rw [div10 u hu, rem10 u hu, nI_eq (by omega) (by omega)] at h30
        refine J_iconst (pc := 37) (0) rfl dX8_isSo_37 ?_
        refine S_istore_2 (pc := 38) dX8_isSo_38 (by decide) ?_
        refine J_iconst (pc := 39) (0) rfl dX8_isSo_39 ?_
        refine S_istore_3 (pc := 40) dX8_isSo_40 (by decide) ?_
        first
        | exact svJ_ls (by rw [sv_b_f (c := (mOkL C 0 (fun i => hi 172 (2 * i)) (fun i => hi 172 (2 * i + 1)) u = true)) (fun q => (mOkL_0.mp q).2.2 h30)]; rfl) (lo_X8_isSo hm hn hn2 hu 0 (Nat.zero_le _))
        | exact svJ_ls (by rw [sv_b_t (c := (mOkL C 0 (fun i => hi 172 (2 * i)) (fun i => hi 172 (2 * i + 1)) u = true)) (mOkL_0.mpr ⟨h8, h19, h30⟩)]; rfl) (lo_X8_isSo hm hn hn2 hu 0 (Nat.zero_le _))
      · rw [div10 u hu, rem10 u hu, nI_eq (by omega) (by omega)] at h30
        refine J_iconst (pc := 33) (1) rfl dX8_isSo_33 ?_
        refine J_goto (pc := 34) 38 dX8_isSo_34 (by decide) ?_
        refine S_istore_2 (pc := 38) dX8_isSo_38 (by decide) ?_
        refine J_iconst (pc := 39) (0) rfl dX8_isSo_39 ?_
        refine S_istore_3 (pc := 40) dX8_isSo_40 (by decide) ?_
        first
        | exact svJ_ls (by rw [sv_b_f (c := (mOkL C 0 (fun i => hi 172 (2 * i)) (fun i => hi 172 (2 * i + 1)) u = true)) (fun q => (mOkL_0.mp q).2.2 h30)]; rfl) (lo_X8_isSo hm hn hn2 hu 0 (Nat.zero_le _))
        | exact svJ_ls (by rw [sv_b_t (c := (mOkL C 0 (fun i => hi 172 (2 * i)) (fun i => hi 172 (2 * i + 1)) u = true)) (mOkL_0.mpr ⟨h8, h19, h30⟩)]; rfl) (lo_X8_isSo hm hn hn2 hu 0 (Nat.zero_le _))
theorem fHead_app {L : List Nat} {u : Nat} : fHead (L ++ [u]) = if L.length = 0 then nI u else fHead L := by
  cases L with
  | nil => rfl
  | cons a t => rfl
theorem mFit_len2 {ok : Nat → Bool} : ∀ u, (mFit ok u).length ≤ u := fun u => by
  unfold mFit
  exact Nat.le_trans (List.length_filter_le _ _) (by simp)
set_option maxRecDepth 20000 in
set_option maxHeartbeats 2000000 in
theorem lo_X8_likings {l : Launch} {G : svG} {hi : svH} {hl : svL} {tw dr : Nat} {pm : Nat → Nat} {C L T Gn : Nat} (hm : mT hi C L T Gn) {n : Nat} (hn : hi 164 11 = nI n) (hn2 : n ≤ 4) {what : Int32} (h6 : 0 ≤ what ∧ what < 2) : ∀ t, t ≤ 60 → svJ l G rX8_likings mX8_likings (sv_Fm G (fun v sh a b c => ∃ r, v = some (.int r) ∧ sh = svSH ∧ ((fLik (mFit (mOkL C n (fun i => hi 172 (2 * i)) (fun i => hi 172 (2 * i + 1))) 60) what) = r ∧ hi = a ∧ hl = b ∧ (sv_hr tw dr pm) = c)) 0 0) 0 0 19 [some (sv_rf G.1 164), some (.int what), some (.int (nI (mFit (mOkL C n (fun i => hi 172 (2 * i)) (fun i => hi 172 (2 * i + 1))) t).length)), some (.int (fHead (mFit (mOkL C n (fun i => hi 172 (2 * i)) (fun i => hi 172 (2 * i + 1))) t))), some (.int (nI t))] [] svSH hi hl (sv_hr tw dr pm) := by
  refine sv_up (fun t ht ih => ?_)
  have hlen := mFit_len2 (ok := (mOkL C n (fun i => hi 172 (2 * i)) (fun i => hi 172 (2 * i + 1)))) t
  refine S_iload_4 (pc := 19) dX8_likings_19 ?_
  refine J_bipush (pc := 21) (60) rfl dX8_likings_21 ?_
  refine J_icmp_ge (pc := 23) 55 dX8_likings_23 (by decide) (fun h23 => ?_) (fun h23 => ?_)
  · rw [show (60 : Int32) = nI 60 from rfl, nI_leI (by omega) (by omega)] at h23
    obtain rfl : t = 60 := by omega
    refine S_iload_1 (pc := 55) dX8_likings_55 ?_
    refine J_if_ne (pc := 56) 63 dX8_likings_56 (by decide) (fun h56 => ?_) (fun h56 => ?_)
    · refine S_iload_3 (pc := 63) dX8_likings_63 ?_
      exact J_ireturn (pc := 64) dX8_likings_64 rfl rfl ⟨_, rfl, rfl, ⟨by unfold fLik; rw [if_pos h6]; first | rw [if_pos h56] | rw [if_neg h56], rfl, rfl, rfl⟩⟩
    · refine S_iload_2 (pc := 59) dX8_likings_59 ?_
      refine J_goto (pc := 60) 64 dX8_likings_60 (by decide) ?_
      exact J_ireturn (pc := 64) dX8_likings_64 rfl rfl ⟨_, rfl, rfl, ⟨by unfold fLik; rw [if_pos h6]; first | rw [if_pos h56] | rw [if_neg h56], rfl, rfl, rfl⟩⟩
  · rw [show (60 : Int32) = nI 60 from rfl, nI_leI (by omega) (by omega)] at h23
    refine S_aload_0 (pc := 26) dX8_likings_26 ?_
    refine S_iload_4 (pc := 27) dX8_likings_27 ?_
    refine caX8_214 (pc := 29) (t_X8_isSo (l := l) (G := G) hm hn hn2 (u := t) (by omega)) sh_164 (Nat.le_of_ble_eq_true rfl) ⟨rfl, rfl, ⟨by decide, by decide⟩, by decide, by decide⟩ dX8_likings_29 (fun r29 a29 b29 c29 p29 => ?_)
    obtain ⟨rfl, rfl, rfl, rfl⟩ := p29
    refine J_if_eq_b (pc := 32) 49 dX8_likings_32 (by decide) (fun h32 => ?_) (fun h32 => ?_)
    · refine S_inc_4 (pc := 49) (1) rfl dX8_likings_49 (by decide) ?_
      refine J_goto (pc := 52) 19 dX8_likings_52 (by decide) ?_
      exact svJ_ls (by rw [mFit_f (ts_nt h32), nI_succ]) (ih (t + 1) (by omega) (by omega))
    · refine S_iload_2 (pc := 35) dX8_likings_35 ?_
      refine J_if_ne (pc := 36) 44 dX8_likings_36 (by decide) (fun h36 => ?_) (fun h36 => ?_)
      · rw [show (0 : Int32) = nI 0 from rfl, nI_eq (by omega) (by omega)] at h36
        refine S_iload_3 (pc := 44) dX8_likings_44 ?_
        refine S_istore_3 (pc := 45) dX8_likings_45 (by decide) ?_
        refine S_inc_2 (pc := 46) (1) rfl dX8_likings_46 (by decide) ?_
        refine S_inc_4 (pc := 49) (1) rfl dX8_likings_49 (by decide) ?_
        refine J_goto (pc := 52) 19 dX8_likings_52 (by decide) ?_
        first
        | exact svJ_ls (by rw [mFit_t h32, fHead_app, if_neg h36, List.length_append, List.length_singleton, nI_succ, nI_succ]) (ih (t + 1) (by omega) (by omega))
        | exact svJ_ls (by rw [mFit_t h32, fHead_app, if_pos h36, List.length_append, List.length_singleton, nI_succ, nI_succ]) (ih (t + 1) (by omega) (by omega))
      · rw [show (0 : Int32) = nI 0 from rfl, nI_eq (by omega) (by omega)] at h36
        refine S_iload_4 (pc := 39) dX8_likings_39 ?_
        refine J_goto (pc := 41) 45 dX8_likings_41 (by decide) ?_
        refine S_istore_3 (pc := 45) dX8_likings_45 (by decide) ?_
        refine S_inc_2 (pc := 46) (1) rfl dX8_likings_46 (by decide) ?_
        refine S_inc_4 (pc := 49) (1) rfl dX8_likings_49 (by decide) ?_
        refine J_goto (pc := 52) 19 dX8_likings_52 (by decide) ?_
        first
        | exact svJ_ls (by rw [mFit_t h32, fHead_app, if_neg h36, List.length_append, List.length_singleton, nI_succ, nI_succ]) (ih (t + 1) (by omega) (by omega))
        | exact svJ_ls (by rw [mFit_t h32, fHead_app, if_pos h36, List.length_append, List.length_singleton, nI_succ, nI_succ]) (ih (t + 1) (by omega) (by omega))
set_option maxRecDepth 20000 in
set_option maxHeartbeats 2000000 in
theorem t_X8_likings {l : Launch} {G : svG} {hi : svH} {hl : svL} {tw dr : Nat} {pm : Nat → Nat} {C L T Gn : Nat} (hm : mT hi C L T Gn) {n : Nat} (hn : hi 164 11 = nI n) (hn2 : n ≤ 4) {what : Int32} : svIp l G yX8_likings mX8_likings rX8_likings [sv_rf G.1 164, .int what] hi hl (sv_hr tw dr pm) (fLik (mFit (mOkL C n (fun i => hi 172 (2 * i)) (fun i => hi 172 (2 * i + 1))) 60) what) := by
  refine sv_entry (by decide +kernel) rfl rfl (Nat.le_of_ble_eq_true rfl) (by simp [Value.category, sv_rf]) [some (sv_rf G.1 164), some (.int what), none, none, none] rfl ?_
  refine S_iload_1 (pc := 0) dX8_likings_0 ?_
  refine J_iconst (pc := 1) (0) rfl dX8_likings_1 ?_
  refine J_iconst (pc := 2) (1) rfl dX8_likings_2 ?_
  refine caX8_69 (pc := 3) (t_X8_in_n (l := l) (G := G) (b := 2) 2 (by decide) rfl rfl) (Nat.le_of_ble_eq_true rfl) ⟨rfl, rfl, ⟨by decide, by decide⟩, by decide, by decide⟩ dX8_likings_3 (fun r3 a3 b3 c3 p3 => ?_)
  obtain ⟨rfl, rfl, rfl, rfl⟩ := p3
  refine J_if_ne_b (pc := 6) 11 dX8_likings_6 (by decide) (fun h6 => ?_) (fun h6 => ?_)
  · refine J_iconst (pc := 11) (0) rfl dX8_likings_11 ?_
    refine S_istore_2 (pc := 12) dX8_likings_12 (by decide) ?_
    refine J_bipush (pc := 13) (-9) rfl dX8_likings_13 ?_
    refine S_istore_3 (pc := 15) dX8_likings_15 (by decide) ?_
    refine J_iconst (pc := 16) (0) rfl dX8_likings_16 ?_
    refine S_istore_4 (pc := 17) dX8_likings_17 (by decide) ?_
    exact lo_X8_likings hm hn hn2 h6 0 (Nat.zero_le _)
  · refine J_iconst (pc := 9) (-1) rfl dX8_likings_9 ?_
    exact J_ireturn (pc := 10) dX8_likings_10 rfl rfl ⟨_, rfl, rfl, ⟨by unfold fLik; rw [if_neg h6], rfl, rfl, rfl⟩⟩
theorem mForA_app {L : List Nat} {x z : Int32} {u : Nat} : mForA (L ++ [u]) x z = mForA L x z + (if sv_cho (nI (u / 10)) (nI (u % 10)) x z = x then 1 else 0) := by
  unfold mForA
  rw [List.countP_append]
  congr 1
  simp [List.countP_cons]
set_option maxRecDepth 20000 in
set_option maxHeartbeats 2000000 in
theorem lo3_X8_ask {l : Launch} {G : svG} {hi : svH} {hl : svL} {tw dr : Nat} {pm : Nat → Nat} {C L T Gn : Nat} (hm : mT hi C L T Gn) {n : Nat} (hn : hi 164 11 = nI n) (hn2 : n ≤ 4) {f g : Nat} {bs ls : Int32} (hout : svJ l G rX8_ask mX8_ask (sv_Fm G (fun v sh a b c => ∃ r, v = some (.int r) ∧ sh = svSH ∧ (((mAskA (mFit (mOkL C n (fun i => hi 172 (2 * i)) (fun i => hi 172 (2 * i + 1))) 60).length (fun x z => mForA (mFit (mOkL C n (fun i => hi 172 (2 * i)) (fun i => hi 172 (2 * i + 1))) 60) (nI x) (nI z)) C C).1) = r ∧ hi = a ∧ hl = b ∧ (sv_hr tw dr pm) = c)) 0 0) 0 0 90 [some (sv_rf G.1 164), some (.int (nI (mFit (mOkL C n (fun i => hi 172 (2 * i)) (fun i => hi 172 (2 * i + 1))) 60).length)), some (.int bs), some (.int ls), some (.int (nI f)), some (.int (nI g)), some (.int (nI (mForA (mFit (mOkL C n (fun i => hi 172 (2 * i)) (fun i => hi 172 (2 * i + 1))) 60) (nI f) (nI g)))), some (.int (nI 60))] [] svSH hi hl (sv_hr tw dr pm)) : ∀ u, u ≤ 60 → svJ l G rX8_ask mX8_ask (sv_Fm G (fun v sh a b c => ∃ r, v = some (.int r) ∧ sh = svSH ∧ (((mAskA (mFit (mOkL C n (fun i => hi 172 (2 * i)) (fun i => hi 172 (2 * i + 1))) 60).length (fun x z => mForA (mFit (mOkL C n (fun i => hi 172 (2 * i)) (fun i => hi 172 (2 * i + 1))) 60) (nI x) (nI z)) C C).1) = r ∧ hi = a ∧ hl = b ∧ (sv_hr tw dr pm) = c)) 0 0) 0 0 44 [some (sv_rf G.1 164), some (.int (nI (mFit (mOkL C n (fun i => hi 172 (2 * i)) (fun i => hi 172 (2 * i + 1))) 60).length)), some (.int bs), some (.int ls), some (.int (nI f)), some (.int (nI g)), some (.int (nI (mForA (mFit (mOkL C n (fun i => hi 172 (2 * i)) (fun i => hi 172 (2 * i + 1))) u) (nI f) (nI g)))), some (.int (nI u))] [] svSH hi hl (sv_hr tw dr pm) := by
  refine sv_up (fun u hu ih => ?_)
  refine S_iload_7 (pc := 44) dX8_ask_44 ?_
  refine J_bipush (pc := 46) (60) rfl dX8_ask_46 ?_
  refine J_icmp_ge (pc := 48) 90 dX8_ask_48 (by decide) (fun h48 => ?_) (fun h48 => ?_)
  · rw [show (60 : Int32) = nI 60 from rfl, nI_leI (by omega) (by omega)] at h48
    obtain rfl : u = 60 := by omega
    exact hout
  · rw [show (60 : Int32) = nI 60 from rfl, nI_leI (by omega) (by omega)] at h48
    have hu6 : u < 60 := by omega
    refine S_iload_6 (pc := 51) dX8_ask_51 ?_
    refine S_aload_0 (pc := 53) dX8_ask_53 ?_
    refine S_iload_7 (pc := 54) dX8_ask_54 ?_
    refine caX8_214 (pc := 56) (t_X8_isSo (l := l) (G := G) hm hn hn2 (u := u) (by omega)) sh_164 (Nat.le_of_ble_eq_true rfl) ⟨rfl, rfl, ⟨by decide, by decide⟩, by decide, by decide⟩ dX8_ask_56 (fun r56 a56 b56 c56 p56 => ?_)
    obtain ⟨rfl, rfl, rfl, rfl⟩ := p56
    refine J_if_eq_b (pc := 59) 80 dX8_ask_59 (by decide) (fun h59 => ?_) (fun h59 => ?_)
    · refine J_iconst (pc := 80) (0) rfl dX8_ask_80 ?_
      refine J_iadd (pc := 81) dX8_ask_81 ?_
      refine S_istore_6 (pc := 82) dX8_ask_82 (by decide) ?_
      refine S_inc_7 (pc := 84) (1) rfl dX8_ask_84 (by decide) ?_
      refine J_goto (pc := 87) 44 dX8_ask_87 (by decide) ?_
      exact svJ_ls (by rw [mFit_f (ts_nt h59), nI_succ, Int32.add_zero]) (ih (u + 1) (by omega) (by omega))
    · refine S_iload_7 (pc := 62) dX8_ask_62 ?_
      refine S_iload_4 (pc := 64) dX8_ask_64 ?_
      refine S_iload_5 (pc := 66) dX8_ask_66 ?_
      refine caX8_211 (pc := 68) (by have h := t_X8_chosen (l := l) (G := G) (hi := hi) (hl := hl) (hr := sv_hr tw dr pm) (x := nI u) (a := nI f) (b := nI g); rw [div10 u hu6, rem10 u hu6] at h; exact h) (Nat.le_of_ble_eq_true rfl) ⟨rfl, rfl, ⟨by decide, by decide⟩, by decide, by decide⟩ dX8_ask_68 (fun r68 a68 b68 c68 p68 => ?_)
      obtain ⟨rfl, rfl, rfl, rfl⟩ := p68
      refine S_iload_4 (pc := 71) dX8_ask_71 ?_
      refine J_icmp_ne (pc := 73) 80 dX8_ask_73 (by decide) (fun h73 => ?_) (fun h73 => ?_)
      · refine J_iconst (pc := 80) (0) rfl dX8_ask_80 ?_
        refine J_iadd (pc := 81) dX8_ask_81 ?_
        refine S_istore_6 (pc := 82) dX8_ask_82 (by decide) ?_
        refine S_inc_7 (pc := 84) (1) rfl dX8_ask_84 (by decide) ?_
        refine J_goto (pc := 87) 44 dX8_ask_87 (by decide) ?_
        first
        | exact svJ_ls (by rw [mFit_t h59, mForA_app, if_pos h73, nI_succ, nI_succ]) (ih (u + 1) (by omega) (by omega))
        | exact svJ_ls (by rw [mFit_t h59, mForA_app, if_neg h73, nI_succ, Int32.add_zero]; rfl) (ih (u + 1) (by omega) (by omega))
      · refine J_iconst (pc := 76) (1) rfl dX8_ask_76 ?_
        refine J_goto (pc := 77) 81 dX8_ask_77 (by decide) ?_
        refine J_iadd (pc := 81) dX8_ask_81 ?_
        refine S_istore_6 (pc := 82) dX8_ask_82 (by decide) ?_
        refine S_inc_7 (pc := 84) (1) rfl dX8_ask_84 (by decide) ?_
        refine J_goto (pc := 87) 44 dX8_ask_87 (by decide) ?_
        first
        | exact svJ_ls (by rw [mFit_t h59, mForA_app, if_pos h73, nI_succ, nI_succ]) (ih (u + 1) (by omega) (by omega))
        | exact svJ_ls (by rw [mFit_t h59, mForA_app, if_neg h73, nI_succ, Int32.add_zero]; rfl) (ih (u + 1) (by omega) (by omega))
set_option maxRecDepth 20000 in
set_option maxHeartbeats 2000000 in
theorem lo2_X8_ask {l : Launch} {G : svG} {hi : svH} {hl : svL} {tw dr : Nat} {pm : Nat → Nat} {C L T Gn : Nat} (hm : mT hi C L T Gn) {n : Nat} (hn : hi 164 11 = nI n) (hn2 : n ≤ 4) {f : Nat} (hf : f < C) (hout : (∀ z5 z6 z7, svJ l G rX8_ask mX8_ask (sv_Fm G (fun v sh a b c => ∃ r, v = some (.int r) ∧ sh = svSH ∧ (((mAskA (mFit (mOkL C n (fun i => hi 172 (2 * i)) (fun i => hi 172 (2 * i + 1))) 60).length (fun x z => mForA (mFit (mOkL C n (fun i => hi 172 (2 * i)) (fun i => hi 172 (2 * i + 1))) 60) (nI x) (nI z)) C C).1) = r ∧ hi = a ∧ hl = b ∧ (sv_hr tw dr pm) = c)) 0 0) 0 0 14 [some (sv_rf G.1 164), some (.int (nI (mFit (mOkL C n (fun i => hi 172 (2 * i)) (fun i => hi 172 (2 * i + 1))) 60).length)), some (.int (mAskA (mFit (mOkL C n (fun i => hi 172 (2 * i)) (fun i => hi 172 (2 * i + 1))) 60).length (fun x z => mForA (mFit (mOkL C n (fun i => hi 172 (2 * i)) (fun i => hi 172 (2 * i + 1))) 60) (nI x) (nI z)) C (f + 1)).1), some (.int (nI (mAskA (mFit (mOkL C n (fun i => hi 172 (2 * i)) (fun i => hi 172 (2 * i + 1))) 60).length (fun x z => mForA (mFit (mOkL C n (fun i => hi 172 (2 * i)) (fun i => hi 172 (2 * i + 1))) 60) (nI x) (nI z)) C (f + 1)).2)), some (.int (nI (f + 1))), z5, z6, z7] [] svSH hi hl (sv_hr tw dr pm))) : ∀ t, t ≤ C - (f + 1) → ∀ z6 z7, svJ l G rX8_ask mX8_ask (sv_Fm G (fun v sh a b c => ∃ r, v = some (.int r) ∧ sh = svSH ∧ (((mAskA (mFit (mOkL C n (fun i => hi 172 (2 * i)) (fun i => hi 172 (2 * i + 1))) 60).length (fun x z => mForA (mFit (mOkL C n (fun i => hi 172 (2 * i)) (fun i => hi 172 (2 * i + 1))) 60) (nI x) (nI z)) C C).1) = r ∧ hi = a ∧ hl = b ∧ (sv_hr tw dr pm) = c)) 0 0) 0 0 29 [some (sv_rf G.1 164), some (.int (nI (mFit (mOkL C n (fun i => hi 172 (2 * i)) (fun i => hi 172 (2 * i + 1))) 60).length)), some (.int (mAskB (mFit (mOkL C n (fun i => hi 172 (2 * i)) (fun i => hi 172 (2 * i + 1))) 60).length (fun x z => mForA (mFit (mOkL C n (fun i => hi 172 (2 * i)) (fun i => hi 172 (2 * i + 1))) 60) (nI x) (nI z)) f (mAskA (mFit (mOkL C n (fun i => hi 172 (2 * i)) (fun i => hi 172 (2 * i + 1))) 60).length (fun x z => mForA (mFit (mOkL C n (fun i => hi 172 (2 * i)) (fun i => hi 172 (2 * i + 1))) 60) (nI x) (nI z)) C f) t).1), some (.int (nI (mAskB (mFit (mOkL C n (fun i => hi 172 (2 * i)) (fun i => hi 172 (2 * i + 1))) 60).length (fun x z => mForA (mFit (mOkL C n (fun i => hi 172 (2 * i)) (fun i => hi 172 (2 * i + 1))) 60) (nI x) (nI z)) f (mAskA (mFit (mOkL C n (fun i => hi 172 (2 * i)) (fun i => hi 172 (2 * i + 1))) 60).length (fun x z => mForA (mFit (mOkL C n (fun i => hi 172 (2 * i)) (fun i => hi 172 (2 * i + 1))) 60) (nI x) (nI z)) C f) t).2)), some (.int (nI f)), some (.int (nI (f + 1 + t))), z6, z7] [] svSH hi hl (sv_hr tw dr pm) := by
  obtain ⟨hCc, hLc, hT, hGn, hC2, hC6, hL1, hLC, hT8, hG6, hf, hs, hk⟩ := id hm
  refine sv_up (fun t ht ih z6 z7 => ?_)
  have hlen := mFit_len2 (ok := (mOkL C n (fun i => hi 172 (2 * i)) (fun i => hi 172 (2 * i + 1)))) 60
  have hle : (mAskB (mFit (mOkL C n (fun i => hi 172 (2 * i)) (fun i => hi 172 (2 * i + 1))) 60).length (fun x z => mForA (mFit (mOkL C n (fun i => hi 172 (2 * i)) (fun i => hi 172 (2 * i + 1))) 60) (nI x) (nI z)) f (mAskA (mFit (mOkL C n (fun i => hi 172 (2 * i)) (fun i => hi 172 (2 * i + 1))) 60).length (fun x z => mForA (mFit (mOkL C n (fun i => hi 172 (2 * i)) (fun i => hi 172 (2 * i + 1))) 60) (nI x) (nI z)) C f) t).2 ≤ (mFit (mOkL C n (fun i => hi 172 (2 * i)) (fun i => hi 172 (2 * i + 1))) 60).length := mAskB_le (mAskA_le f) t
  have hm2 := mForA_le (mFit (mOkL C n (fun i => hi 172 (2 * i)) (fun i => hi 172 (2 * i + 1))) 60) (nI f) (nI (f + 1 + t))
  refine S_iload_5 (pc := 29) dX8_ask_29 ?_
  refine S_aload_0 (pc := 31) dX8_ask_31 ?_
  refine fgX8_7 (pc := 32) sh_164 dX8_ask_32 ?_
  refine J_icmp_ge (pc := 35) 148 dX8_ask_35 (by decide) (fun h35 => ?_) (fun h35 => ?_)
  · rw [hCc, nI_leI (by omega) (by omega)] at h35
    obtain rfl : t = C - (f + 1) := by omega
    refine S_inc_4 (pc := 148) (1) rfl dX8_ask_148 (by decide) ?_
    refine J_goto (pc := 151) 14 dX8_ask_151 (by decide) ?_
    exact svJ_ls (by rw [mAskA, nI_succ]) (hout _ _ _)
  · rw [hCc, nI_leI (by omega) (by omega)] at h35
    refine J_iconst (pc := 38) (0) rfl dX8_ask_38 ?_
    refine S_istore_6 (pc := 39) dX8_ask_39 (by decide) ?_
    refine J_iconst (pc := 41) (0) rfl dX8_ask_41 ?_
    refine S_istore_7 (pc := 42) dX8_ask_42 (by decide) ?_
    refine lo3_X8_ask hm hn hn2 ?_ 0 (Nat.zero_le _)
    refine S_iload_6 (pc := 90) dX8_ask_90 ?_
    refine S_iload_1 (pc := 92) dX8_ask_92 ?_
    refine S_iload_6 (pc := 93) dX8_ask_93 ?_
    refine J_isub (pc := 95) dX8_ask_95 ?_
    rw [pk_sub hm2]
    refine J_icmp_le (pc := 96) 104 dX8_ask_96 (by decide) (fun h96 => ?_) (fun h96 => ?_)
    · rw [nI_leI (by omega) (by omega)] at h96
      have eg : max (mForA (mFit (mOkL C n (fun i => hi 172 (2 * i)) (fun i => hi 172 (2 * i + 1))) 60) (nI f) (nI (f + 1 + t))) ((mFit (mOkL C n (fun i => hi 172 (2 * i)) (fun i => hi 172 (2 * i + 1))) 60).length - (mForA (mFit (mOkL C n (fun i => hi 172 (2 * i)) (fun i => hi 172 (2 * i + 1))) 60) (nI f) (nI (f + 1 + t)))) = (mFit (mOkL C n (fun i => hi 172 (2 * i)) (fun i => hi 172 (2 * i + 1))) 60).length - (mForA (mFit (mOkL C n (fun i => hi 172 (2 * i)) (fun i => hi 172 (2 * i + 1))) 60) (nI f) (nI (f + 1 + t))) := by omega
      refine S_iload_1 (pc := 104) dX8_ask_104 ?_
      refine S_iload_6 (pc := 105) dX8_ask_105 ?_
      refine J_isub (pc := 107) dX8_ask_107 ?_
      try rw [pk_sub hm2]
      refine S_istore_7 (pc := 108) dX8_ask_108 (by decide) ?_
      refine S_iload_7 (pc := 110) dX8_ask_110 ?_
      refine S_iload_3 (pc := 112) dX8_ask_112 ?_
      refine J_icmp_ge (pc := 113) 127 dX8_ask_113 (by decide) (fun h113 => ?_) (fun h113 => ?_)
      · rw [nI_leI (by omega) (by omega)] at h113
        refine S_iload_2 (pc := 127) dX8_ask_127 ?_
        refine S_istore_2 (pc := 128) dX8_ask_128 (by decide) ?_
        refine S_iload_7 (pc := 129) dX8_ask_129 ?_
        refine S_iload_3 (pc := 131) dX8_ask_131 ?_
        refine J_icmp_ge (pc := 132) 140 dX8_ask_132 (by decide) (fun h132 => ?_) (fun h132 => ?_)
        · rw [nI_leI (by omega) (by omega)] at h132
          refine S_iload_3 (pc := 140) dX8_ask_140 ?_
          refine S_istore_3 (pc := 141) dX8_ask_141 (by decide) ?_
          refine S_inc_5 (pc := 142) (1) rfl dX8_ask_142 (by decide) ?_
          refine J_goto (pc := 145) 29 dX8_ask_145 (by decide) ?_
          first
          | (exfalso; omega)
          | exact svJ_ls (by rw [mAskB, mAskS, if_neg (show ¬ (max (mForA (mFit (mOkL C n (fun i => hi 172 (2 * i)) (fun i => hi 172 (2 * i + 1))) 60) (nI f) (nI (f + 1 + t))) ((mFit (mOkL C n (fun i => hi 172 (2 * i)) (fun i => hi 172 (2 * i + 1))) 60).length - (mForA (mFit (mOkL C n (fun i => hi 172 (2 * i)) (fun i => hi 172 (2 * i + 1))) 60) (nI f) (nI (f + 1 + t)))) < (mAskB (mFit (mOkL C n (fun i => hi 172 (2 * i)) (fun i => hi 172 (2 * i + 1))) 60).length (fun x z => mForA (mFit (mOkL C n (fun i => hi 172 (2 * i)) (fun i => hi 172 (2 * i + 1))) 60) (nI x) (nI z)) f (mAskA (mFit (mOkL C n (fun i => hi 172 (2 * i)) (fun i => hi 172 (2 * i + 1))) 60).length (fun x z => mForA (mFit (mOkL C n (fun i => hi 172 (2 * i)) (fun i => hi 172 (2 * i + 1))) 60) (nI x) (nI z)) C f) t).2) by omega), show f + 1 + (t + 1) = f + 1 + t + 1 from rfl, nI_succ (f + 1 + t)]) (ih (t + 1) (by omega) (by omega) _ _)
          | exact svJ_ls (by rw [mAskB, mAskS, if_pos (show max (mForA (mFit (mOkL C n (fun i => hi 172 (2 * i)) (fun i => hi 172 (2 * i + 1))) 60) (nI f) (nI (f + 1 + t))) ((mFit (mOkL C n (fun i => hi 172 (2 * i)) (fun i => hi 172 (2 * i + 1))) 60).length - (mForA (mFit (mOkL C n (fun i => hi 172 (2 * i)) (fun i => hi 172 (2 * i + 1))) 60) (nI f) (nI (f + 1 + t)))) < (mAskB (mFit (mOkL C n (fun i => hi 172 (2 * i)) (fun i => hi 172 (2 * i + 1))) 60).length (fun x z => mForA (mFit (mOkL C n (fun i => hi 172 (2 * i)) (fun i => hi 172 (2 * i + 1))) 60) (nI x) (nI z)) f (mAskA (mFit (mOkL C n (fun i => hi 172 (2 * i)) (fun i => hi 172 (2 * i + 1))) 60).length (fun x z => mForA (mFit (mOkL C n (fun i => hi 172 (2 * i)) (fun i => hi 172 (2 * i + 1))) 60) (nI x) (nI z)) C f) t).2 by omega), eg, show f + 1 + (t + 1) = f + 1 + t + 1 from rfl, nI_succ (f + 1 + t), show (10 : Int32) * nI f + nI (f + 1 + t) = nI (10 * f + (f + 1 + t)) from by rw [show (10 : Int32) = nI 10 from rfl, pk_mul, nI_add]]) (ih (t + 1) (by omega) (by omega) _ _)
        · rw [nI_leI (by omega) (by omega)] at h132
          refine S_iload_7 (pc := 135) dX8_ask_135 ?_
          refine J_goto (pc := 137) 141 dX8_ask_137 (by decide) ?_
          refine S_istore_3 (pc := 141) dX8_ask_141 (by decide) ?_
          refine S_inc_5 (pc := 142) (1) rfl dX8_ask_142 (by decide) ?_
          refine J_goto (pc := 145) 29 dX8_ask_145 (by decide) ?_
          first
          | (exfalso; omega)
          | exact svJ_ls (by rw [mAskB, mAskS, if_neg (show ¬ (max (mForA (mFit (mOkL C n (fun i => hi 172 (2 * i)) (fun i => hi 172 (2 * i + 1))) 60) (nI f) (nI (f + 1 + t))) ((mFit (mOkL C n (fun i => hi 172 (2 * i)) (fun i => hi 172 (2 * i + 1))) 60).length - (mForA (mFit (mOkL C n (fun i => hi 172 (2 * i)) (fun i => hi 172 (2 * i + 1))) 60) (nI f) (nI (f + 1 + t)))) < (mAskB (mFit (mOkL C n (fun i => hi 172 (2 * i)) (fun i => hi 172 (2 * i + 1))) 60).length (fun x z => mForA (mFit (mOkL C n (fun i => hi 172 (2 * i)) (fun i => hi 172 (2 * i + 1))) 60) (nI x) (nI z)) f (mAskA (mFit (mOkL C n (fun i => hi 172 (2 * i)) (fun i => hi 172 (2 * i + 1))) 60).length (fun x z => mForA (mFit (mOkL C n (fun i => hi 172 (2 * i)) (fun i => hi 172 (2 * i + 1))) 60) (nI x) (nI z)) C f) t).2) by omega), show f + 1 + (t + 1) = f + 1 + t + 1 from rfl, nI_succ (f + 1 + t)]) (ih (t + 1) (by omega) (by omega) _ _)
          | exact svJ_ls (by rw [mAskB, mAskS, if_pos (show max (mForA (mFit (mOkL C n (fun i => hi 172 (2 * i)) (fun i => hi 172 (2 * i + 1))) 60) (nI f) (nI (f + 1 + t))) ((mFit (mOkL C n (fun i => hi 172 (2 * i)) (fun i => hi 172 (2 * i + 1))) 60).length - (mForA (mFit (mOkL C n (fun i => hi 172 (2 * i)) (fun i => hi 172 (2 * i + 1))) 60) (nI f) (nI (f + 1 + t)))) < (mAskB (mFit (mOkL C n (fun i => hi 172 (2 * i)) (fun i => hi 172 (2 * i + 1))) 60).length (fun x z => mForA (mFit (mOkL C n (fun i => hi 172 (2 * i)) (fun i => hi 172 (2 * i + 1))) 60) (nI x) (nI z)) f (mAskA (mFit (mOkL C n (fun i => hi 172 (2 * i)) (fun i => hi 172 (2 * i + 1))) 60).length (fun x z => mForA (mFit (mOkL C n (fun i => hi 172 (2 * i)) (fun i => hi 172 (2 * i + 1))) 60) (nI x) (nI z)) C f) t).2 by omega), eg, show f + 1 + (t + 1) = f + 1 + t + 1 from rfl, nI_succ (f + 1 + t), show (10 : Int32) * nI f + nI (f + 1 + t) = nI (10 * f + (f + 1 + t)) from by rw [show (10 : Int32) = nI 10 from rfl, pk_mul, nI_add]]) (ih (t + 1) (by omega) (by omega) _ _)
      · rw [nI_leI (by omega) (by omega)] at h113
        refine J_bipush (pc := 116) (10) rfl dX8_ask_116 ?_
        refine S_iload_4 (pc := 118) dX8_ask_118 ?_
        refine J_imul (pc := 120) dX8_ask_120 ?_
        refine S_iload_5 (pc := 121) dX8_ask_121 ?_
        refine J_iadd (pc := 123) dX8_ask_123 ?_
        refine J_goto (pc := 124) 128 dX8_ask_124 (by decide) ?_
        refine S_istore_2 (pc := 128) dX8_ask_128 (by decide) ?_
        refine S_iload_7 (pc := 129) dX8_ask_129 ?_
        refine S_iload_3 (pc := 131) dX8_ask_131 ?_
        refine J_icmp_ge (pc := 132) 140 dX8_ask_132 (by decide) (fun h132 => ?_) (fun h132 => ?_)
        · rw [nI_leI (by omega) (by omega)] at h132
          refine S_iload_3 (pc := 140) dX8_ask_140 ?_
          refine S_istore_3 (pc := 141) dX8_ask_141 (by decide) ?_
          refine S_inc_5 (pc := 142) (1) rfl dX8_ask_142 (by decide) ?_
          refine J_goto (pc := 145) 29 dX8_ask_145 (by decide) ?_
          first
          | (exfalso; omega)
          | exact svJ_ls (by rw [mAskB, mAskS, if_neg (show ¬ (max (mForA (mFit (mOkL C n (fun i => hi 172 (2 * i)) (fun i => hi 172 (2 * i + 1))) 60) (nI f) (nI (f + 1 + t))) ((mFit (mOkL C n (fun i => hi 172 (2 * i)) (fun i => hi 172 (2 * i + 1))) 60).length - (mForA (mFit (mOkL C n (fun i => hi 172 (2 * i)) (fun i => hi 172 (2 * i + 1))) 60) (nI f) (nI (f + 1 + t)))) < (mAskB (mFit (mOkL C n (fun i => hi 172 (2 * i)) (fun i => hi 172 (2 * i + 1))) 60).length (fun x z => mForA (mFit (mOkL C n (fun i => hi 172 (2 * i)) (fun i => hi 172 (2 * i + 1))) 60) (nI x) (nI z)) f (mAskA (mFit (mOkL C n (fun i => hi 172 (2 * i)) (fun i => hi 172 (2 * i + 1))) 60).length (fun x z => mForA (mFit (mOkL C n (fun i => hi 172 (2 * i)) (fun i => hi 172 (2 * i + 1))) 60) (nI x) (nI z)) C f) t).2) by omega), show f + 1 + (t + 1) = f + 1 + t + 1 from rfl, nI_succ (f + 1 + t)]) (ih (t + 1) (by omega) (by omega) _ _)
          | exact svJ_ls (by rw [mAskB, mAskS, if_pos (show max (mForA (mFit (mOkL C n (fun i => hi 172 (2 * i)) (fun i => hi 172 (2 * i + 1))) 60) (nI f) (nI (f + 1 + t))) ((mFit (mOkL C n (fun i => hi 172 (2 * i)) (fun i => hi 172 (2 * i + 1))) 60).length - (mForA (mFit (mOkL C n (fun i => hi 172 (2 * i)) (fun i => hi 172 (2 * i + 1))) 60) (nI f) (nI (f + 1 + t)))) < (mAskB (mFit (mOkL C n (fun i => hi 172 (2 * i)) (fun i => hi 172 (2 * i + 1))) 60).length (fun x z => mForA (mFit (mOkL C n (fun i => hi 172 (2 * i)) (fun i => hi 172 (2 * i + 1))) 60) (nI x) (nI z)) f (mAskA (mFit (mOkL C n (fun i => hi 172 (2 * i)) (fun i => hi 172 (2 * i + 1))) 60).length (fun x z => mForA (mFit (mOkL C n (fun i => hi 172 (2 * i)) (fun i => hi 172 (2 * i + 1))) 60) (nI x) (nI z)) C f) t).2 by omega), eg, show f + 1 + (t + 1) = f + 1 + t + 1 from rfl, nI_succ (f + 1 + t), show (10 : Int32) * nI f + nI (f + 1 + t) = nI (10 * f + (f + 1 + t)) from by rw [show (10 : Int32) = nI 10 from rfl, pk_mul, nI_add]]) (ih (t + 1) (by omega) (by omega) _ _)
        · rw [nI_leI (by omega) (by omega)] at h132
          refine S_iload_7 (pc := 135) dX8_ask_135 ?_
          refine J_goto (pc := 137) 141 dX8_ask_137 (by decide) ?_
          refine S_istore_3 (pc := 141) dX8_ask_141 (by decide) ?_
          refine S_inc_5 (pc := 142) (1) rfl dX8_ask_142 (by decide) ?_
          refine J_goto (pc := 145) 29 dX8_ask_145 (by decide) ?_
          first
          | (exfalso; omega)
          | exact svJ_ls (by rw [mAskB, mAskS, if_neg (show ¬ (max (mForA (mFit (mOkL C n (fun i => hi 172 (2 * i)) (fun i => hi 172 (2 * i + 1))) 60) (nI f) (nI (f + 1 + t))) ((mFit (mOkL C n (fun i => hi 172 (2 * i)) (fun i => hi 172 (2 * i + 1))) 60).length - (mForA (mFit (mOkL C n (fun i => hi 172 (2 * i)) (fun i => hi 172 (2 * i + 1))) 60) (nI f) (nI (f + 1 + t)))) < (mAskB (mFit (mOkL C n (fun i => hi 172 (2 * i)) (fun i => hi 172 (2 * i + 1))) 60).length (fun x z => mForA (mFit (mOkL C n (fun i => hi 172 (2 * i)) (fun i => hi 172 (2 * i + 1))) 60) (nI x) (nI z)) f (mAskA (mFit (mOkL C n (fun i => hi 172 (2 * i)) (fun i => hi 172 (2 * i + 1))) 60).length (fun x z => mForA (mFit (mOkL C n (fun i => hi 172 (2 * i)) (fun i => hi 172 (2 * i + 1))) 60) (nI x) (nI z)) C f) t).2) by omega), show f + 1 + (t + 1) = f + 1 + t + 1 from rfl, nI_succ (f + 1 + t)]) (ih (t + 1) (by omega) (by omega) _ _)
          | exact svJ_ls (by rw [mAskB, mAskS, if_pos (show max (mForA (mFit (mOkL C n (fun i => hi 172 (2 * i)) (fun i => hi 172 (2 * i + 1))) 60) (nI f) (nI (f + 1 + t))) ((mFit (mOkL C n (fun i => hi 172 (2 * i)) (fun i => hi 172 (2 * i + 1))) 60).length - (mForA (mFit (mOkL C n (fun i => hi 172 (2 * i)) (fun i => hi 172 (2 * i + 1))) 60) (nI f) (nI (f + 1 + t)))) < (mAskB (mFit (mOkL C n (fun i => hi 172 (2 * i)) (fun i => hi 172 (2 * i + 1))) 60).length (fun x z => mForA (mFit (mOkL C n (fun i => hi 172 (2 * i)) (fun i => hi 172 (2 * i + 1))) 60) (nI x) (nI z)) f (mAskA (mFit (mOkL C n (fun i => hi 172 (2 * i)) (fun i => hi 172 (2 * i + 1))) 60).length (fun x z => mForA (mFit (mOkL C n (fun i => hi 172 (2 * i)) (fun i => hi 172 (2 * i + 1))) 60) (nI x) (nI z)) C f) t).2 by omega), eg, show f + 1 + (t + 1) = f + 1 + t + 1 from rfl, nI_succ (f + 1 + t), show (10 : Int32) * nI f + nI (f + 1 + t) = nI (10 * f + (f + 1 + t)) from by rw [show (10 : Int32) = nI 10 from rfl, pk_mul, nI_add]]) (ih (t + 1) (by omega) (by omega) _ _)
    · rw [nI_leI (by omega) (by omega)] at h96
      have eg : max (mForA (mFit (mOkL C n (fun i => hi 172 (2 * i)) (fun i => hi 172 (2 * i + 1))) 60) (nI f) (nI (f + 1 + t))) ((mFit (mOkL C n (fun i => hi 172 (2 * i)) (fun i => hi 172 (2 * i + 1))) 60).length - (mForA (mFit (mOkL C n (fun i => hi 172 (2 * i)) (fun i => hi 172 (2 * i + 1))) 60) (nI f) (nI (f + 1 + t)))) = (mForA (mFit (mOkL C n (fun i => hi 172 (2 * i)) (fun i => hi 172 (2 * i + 1))) 60) (nI f) (nI (f + 1 + t))) := by omega
      refine S_iload_6 (pc := 99) dX8_ask_99 ?_
      refine J_goto (pc := 101) 108 dX8_ask_101 (by decide) ?_
      try rw [pk_sub hm2]
      refine S_istore_7 (pc := 108) dX8_ask_108 (by decide) ?_
      refine S_iload_7 (pc := 110) dX8_ask_110 ?_
      refine S_iload_3 (pc := 112) dX8_ask_112 ?_
      refine J_icmp_ge (pc := 113) 127 dX8_ask_113 (by decide) (fun h113 => ?_) (fun h113 => ?_)
      · rw [nI_leI (by omega) (by omega)] at h113
        refine S_iload_2 (pc := 127) dX8_ask_127 ?_
        refine S_istore_2 (pc := 128) dX8_ask_128 (by decide) ?_
        refine S_iload_7 (pc := 129) dX8_ask_129 ?_
        refine S_iload_3 (pc := 131) dX8_ask_131 ?_
        refine J_icmp_ge (pc := 132) 140 dX8_ask_132 (by decide) (fun h132 => ?_) (fun h132 => ?_)
        · rw [nI_leI (by omega) (by omega)] at h132
          refine S_iload_3 (pc := 140) dX8_ask_140 ?_
          refine S_istore_3 (pc := 141) dX8_ask_141 (by decide) ?_
          refine S_inc_5 (pc := 142) (1) rfl dX8_ask_142 (by decide) ?_
          refine J_goto (pc := 145) 29 dX8_ask_145 (by decide) ?_
          first
          | (exfalso; omega)
          | exact svJ_ls (by rw [mAskB, mAskS, if_neg (show ¬ (max (mForA (mFit (mOkL C n (fun i => hi 172 (2 * i)) (fun i => hi 172 (2 * i + 1))) 60) (nI f) (nI (f + 1 + t))) ((mFit (mOkL C n (fun i => hi 172 (2 * i)) (fun i => hi 172 (2 * i + 1))) 60).length - (mForA (mFit (mOkL C n (fun i => hi 172 (2 * i)) (fun i => hi 172 (2 * i + 1))) 60) (nI f) (nI (f + 1 + t)))) < (mAskB (mFit (mOkL C n (fun i => hi 172 (2 * i)) (fun i => hi 172 (2 * i + 1))) 60).length (fun x z => mForA (mFit (mOkL C n (fun i => hi 172 (2 * i)) (fun i => hi 172 (2 * i + 1))) 60) (nI x) (nI z)) f (mAskA (mFit (mOkL C n (fun i => hi 172 (2 * i)) (fun i => hi 172 (2 * i + 1))) 60).length (fun x z => mForA (mFit (mOkL C n (fun i => hi 172 (2 * i)) (fun i => hi 172 (2 * i + 1))) 60) (nI x) (nI z)) C f) t).2) by omega), show f + 1 + (t + 1) = f + 1 + t + 1 from rfl, nI_succ (f + 1 + t)]) (ih (t + 1) (by omega) (by omega) _ _)
          | exact svJ_ls (by rw [mAskB, mAskS, if_pos (show max (mForA (mFit (mOkL C n (fun i => hi 172 (2 * i)) (fun i => hi 172 (2 * i + 1))) 60) (nI f) (nI (f + 1 + t))) ((mFit (mOkL C n (fun i => hi 172 (2 * i)) (fun i => hi 172 (2 * i + 1))) 60).length - (mForA (mFit (mOkL C n (fun i => hi 172 (2 * i)) (fun i => hi 172 (2 * i + 1))) 60) (nI f) (nI (f + 1 + t)))) < (mAskB (mFit (mOkL C n (fun i => hi 172 (2 * i)) (fun i => hi 172 (2 * i + 1))) 60).length (fun x z => mForA (mFit (mOkL C n (fun i => hi 172 (2 * i)) (fun i => hi 172 (2 * i + 1))) 60) (nI x) (nI z)) f (mAskA (mFit (mOkL C n (fun i => hi 172 (2 * i)) (fun i => hi 172 (2 * i + 1))) 60).length (fun x z => mForA (mFit (mOkL C n (fun i => hi 172 (2 * i)) (fun i => hi 172 (2 * i + 1))) 60) (nI x) (nI z)) C f) t).2 by omega), eg, show f + 1 + (t + 1) = f + 1 + t + 1 from rfl, nI_succ (f + 1 + t), show (10 : Int32) * nI f + nI (f + 1 + t) = nI (10 * f + (f + 1 + t)) from by rw [show (10 : Int32) = nI 10 from rfl, pk_mul, nI_add]]) (ih (t + 1) (by omega) (by omega) _ _)
        · rw [nI_leI (by omega) (by omega)] at h132
          refine S_iload_7 (pc := 135) dX8_ask_135 ?_
          refine J_goto (pc := 137) 141 dX8_ask_137 (by decide) ?_
          refine S_istore_3 (pc := 141) dX8_ask_141 (by decide) ?_
          refine S_inc_5 (pc := 142) (1) rfl dX8_ask_142 (by decide) ?_
          refine J_goto (pc := 145) 29 dX8_ask_145 (by decide) ?_
          first
          | (exfalso; omega)
          | exact svJ_ls (by rw [mAskB, mAskS, if_neg (show ¬ (max (mForA (mFit (mOkL C n (fun i => hi 172 (2 * i)) (fun i => hi 172 (2 * i + 1))) 60) (nI f) (nI (f + 1 + t))) ((mFit (mOkL C n (fun i => hi 172 (2 * i)) (fun i => hi 172 (2 * i + 1))) 60).length - (mForA (mFit (mOkL C n (fun i => hi 172 (2 * i)) (fun i => hi 172 (2 * i + 1))) 60) (nI f) (nI (f + 1 + t)))) < (mAskB (mFit (mOkL C n (fun i => hi 172 (2 * i)) (fun i => hi 172 (2 * i + 1))) 60).length (fun x z => mForA (mFit (mOkL C n (fun i => hi 172 (2 * i)) (fun i => hi 172 (2 * i + 1))) 60) (nI x) (nI z)) f (mAskA (mFit (mOkL C n (fun i => hi 172 (2 * i)) (fun i => hi 172 (2 * i + 1))) 60).length (fun x z => mForA (mFit (mOkL C n (fun i => hi 172 (2 * i)) (fun i => hi 172 (2 * i + 1))) 60) (nI x) (nI z)) C f) t).2) by omega), show f + 1 + (t + 1) = f + 1 + t + 1 from rfl, nI_succ (f + 1 + t)]) (ih (t + 1) (by omega) (by omega) _ _)
          | exact svJ_ls (by rw [mAskB, mAskS, if_pos (show max (mForA (mFit (mOkL C n (fun i => hi 172 (2 * i)) (fun i => hi 172 (2 * i + 1))) 60) (nI f) (nI (f + 1 + t))) ((mFit (mOkL C n (fun i => hi 172 (2 * i)) (fun i => hi 172 (2 * i + 1))) 60).length - (mForA (mFit (mOkL C n (fun i => hi 172 (2 * i)) (fun i => hi 172 (2 * i + 1))) 60) (nI f) (nI (f + 1 + t)))) < (mAskB (mFit (mOkL C n (fun i => hi 172 (2 * i)) (fun i => hi 172 (2 * i + 1))) 60).length (fun x z => mForA (mFit (mOkL C n (fun i => hi 172 (2 * i)) (fun i => hi 172 (2 * i + 1))) 60) (nI x) (nI z)) f (mAskA (mFit (mOkL C n (fun i => hi 172 (2 * i)) (fun i => hi 172 (2 * i + 1))) 60).length (fun x z => mForA (mFit (mOkL C n (fun i => hi 172 (2 * i)) (fun i => hi 172 (2 * i + 1))) 60) (nI x) (nI z)) C f) t).2 by omega), eg, show f + 1 + (t + 1) = f + 1 + t + 1 from rfl, nI_succ (f + 1 + t), show (10 : Int32) * nI f + nI (f + 1 + t) = nI (10 * f + (f + 1 + t)) from by rw [show (10 : Int32) = nI 10 from rfl, pk_mul, nI_add]]) (ih (t + 1) (by omega) (by omega) _ _)
      · rw [nI_leI (by omega) (by omega)] at h113
        refine J_bipush (pc := 116) (10) rfl dX8_ask_116 ?_
        refine S_iload_4 (pc := 118) dX8_ask_118 ?_
        refine J_imul (pc := 120) dX8_ask_120 ?_
        refine S_iload_5 (pc := 121) dX8_ask_121 ?_
        refine J_iadd (pc := 123) dX8_ask_123 ?_
        refine J_goto (pc := 124) 128 dX8_ask_124 (by decide) ?_
        refine S_istore_2 (pc := 128) dX8_ask_128 (by decide) ?_
        refine S_iload_7 (pc := 129) dX8_ask_129 ?_
        refine S_iload_3 (pc := 131) dX8_ask_131 ?_
        refine J_icmp_ge (pc := 132) 140 dX8_ask_132 (by decide) (fun h132 => ?_) (fun h132 => ?_)
        · rw [nI_leI (by omega) (by omega)] at h132
          refine S_iload_3 (pc := 140) dX8_ask_140 ?_
          refine S_istore_3 (pc := 141) dX8_ask_141 (by decide) ?_
          refine S_inc_5 (pc := 142) (1) rfl dX8_ask_142 (by decide) ?_
          refine J_goto (pc := 145) 29 dX8_ask_145 (by decide) ?_
          first
          | (exfalso; omega)
          | exact svJ_ls (by rw [mAskB, mAskS, if_neg (show ¬ (max (mForA (mFit (mOkL C n (fun i => hi 172 (2 * i)) (fun i => hi 172 (2 * i + 1))) 60) (nI f) (nI (f + 1 + t))) ((mFit (mOkL C n (fun i => hi 172 (2 * i)) (fun i => hi 172 (2 * i + 1))) 60).length - (mForA (mFit (mOkL C n (fun i => hi 172 (2 * i)) (fun i => hi 172 (2 * i + 1))) 60) (nI f) (nI (f + 1 + t)))) < (mAskB (mFit (mOkL C n (fun i => hi 172 (2 * i)) (fun i => hi 172 (2 * i + 1))) 60).length (fun x z => mForA (mFit (mOkL C n (fun i => hi 172 (2 * i)) (fun i => hi 172 (2 * i + 1))) 60) (nI x) (nI z)) f (mAskA (mFit (mOkL C n (fun i => hi 172 (2 * i)) (fun i => hi 172 (2 * i + 1))) 60).length (fun x z => mForA (mFit (mOkL C n (fun i => hi 172 (2 * i)) (fun i => hi 172 (2 * i + 1))) 60) (nI x) (nI z)) C f) t).2) by omega), show f + 1 + (t + 1) = f + 1 + t + 1 from rfl, nI_succ (f + 1 + t)]) (ih (t + 1) (by omega) (by omega) _ _)
          | exact svJ_ls (by rw [mAskB, mAskS, if_pos (show max (mForA (mFit (mOkL C n (fun i => hi 172 (2 * i)) (fun i => hi 172 (2 * i + 1))) 60) (nI f) (nI (f + 1 + t))) ((mFit (mOkL C n (fun i => hi 172 (2 * i)) (fun i => hi 172 (2 * i + 1))) 60).length - (mForA (mFit (mOkL C n (fun i => hi 172 (2 * i)) (fun i => hi 172 (2 * i + 1))) 60) (nI f) (nI (f + 1 + t)))) < (mAskB (mFit (mOkL C n (fun i => hi 172 (2 * i)) (fun i => hi 172 (2 * i + 1))) 60).length (fun x z => mForA (mFit (mOkL C n (fun i => hi 172 (2 * i)) (fun i => hi 172 (2 * i + 1))) 60) (nI x) (nI z)) f (mAskA (mFit (mOkL C n (fun i => hi 172 (2 * i)) (fun i => hi 172 (2 * i + 1))) 60).length (fun x z => mForA (mFit (mOkL C n (fun i => hi 172 (2 * i)) (fun i => hi 172 (2 * i + 1))) 60) (nI x) (nI z)) C f) t).2 by omega), eg, show f + 1 + (t + 1) = f + 1 + t + 1 from rfl, nI_succ (f + 1 + t), show (10 : Int32) * nI f + nI (f + 1 + t) = nI (10 * f + (f + 1 + t)) from by rw [show (10 : Int32) = nI 10 from rfl, pk_mul, nI_add]]) (ih (t + 1) (by omega) (by omega) _ _)
        · rw [nI_leI (by omega) (by omega)] at h132
          refine S_iload_7 (pc := 135) dX8_ask_135 ?_
          refine J_goto (pc := 137) 141 dX8_ask_137 (by decide) ?_
          refine S_istore_3 (pc := 141) dX8_ask_141 (by decide) ?_
          refine S_inc_5 (pc := 142) (1) rfl dX8_ask_142 (by decide) ?_
          refine J_goto (pc := 145) 29 dX8_ask_145 (by decide) ?_
          first
          | (exfalso; omega)
          | exact svJ_ls (by rw [mAskB, mAskS, if_neg (show ¬ (max (mForA (mFit (mOkL C n (fun i => hi 172 (2 * i)) (fun i => hi 172 (2 * i + 1))) 60) (nI f) (nI (f + 1 + t))) ((mFit (mOkL C n (fun i => hi 172 (2 * i)) (fun i => hi 172 (2 * i + 1))) 60).length - (mForA (mFit (mOkL C n (fun i => hi 172 (2 * i)) (fun i => hi 172 (2 * i + 1))) 60) (nI f) (nI (f + 1 + t)))) < (mAskB (mFit (mOkL C n (fun i => hi 172 (2 * i)) (fun i => hi 172 (2 * i + 1))) 60).length (fun x z => mForA (mFit (mOkL C n (fun i => hi 172 (2 * i)) (fun i => hi 172 (2 * i + 1))) 60) (nI x) (nI z)) f (mAskA (mFit (mOkL C n (fun i => hi 172 (2 * i)) (fun i => hi 172 (2 * i + 1))) 60).length (fun x z => mForA (mFit (mOkL C n (fun i => hi 172 (2 * i)) (fun i => hi 172 (2 * i + 1))) 60) (nI x) (nI z)) C f) t).2) by omega), show f + 1 + (t + 1) = f + 1 + t + 1 from rfl, nI_succ (f + 1 + t)]) (ih (t + 1) (by omega) (by omega) _ _)
          | exact svJ_ls (by rw [mAskB, mAskS, if_pos (show max (mForA (mFit (mOkL C n (fun i => hi 172 (2 * i)) (fun i => hi 172 (2 * i + 1))) 60) (nI f) (nI (f + 1 + t))) ((mFit (mOkL C n (fun i => hi 172 (2 * i)) (fun i => hi 172 (2 * i + 1))) 60).length - (mForA (mFit (mOkL C n (fun i => hi 172 (2 * i)) (fun i => hi 172 (2 * i + 1))) 60) (nI f) (nI (f + 1 + t)))) < (mAskB (mFit (mOkL C n (fun i => hi 172 (2 * i)) (fun i => hi 172 (2 * i + 1))) 60).length (fun x z => mForA (mFit (mOkL C n (fun i => hi 172 (2 * i)) (fun i => hi 172 (2 * i + 1))) 60) (nI x) (nI z)) f (mAskA (mFit (mOkL C n (fun i => hi 172 (2 * i)) (fun i => hi 172 (2 * i + 1))) 60).length (fun x z => mForA (mFit (mOkL C n (fun i => hi 172 (2 * i)) (fun i => hi 172 (2 * i + 1))) 60) (nI x) (nI z)) C f) t).2 by omega), eg, show f + 1 + (t + 1) = f + 1 + t + 1 from rfl, nI_succ (f + 1 + t), show (10 : Int32) * nI f + nI (f + 1 + t) = nI (10 * f + (f + 1 + t)) from by rw [show (10 : Int32) = nI 10 from rfl, pk_mul, nI_add]]) (ih (t + 1) (by omega) (by omega) _ _)
set_option maxRecDepth 20000 in
set_option maxHeartbeats 2000000 in
theorem lo1_X8_ask {l : Launch} {G : svG} {hi : svH} {hl : svL} {tw dr : Nat} {pm : Nat → Nat} {C L T Gn : Nat} (hm : mT hi C L T Gn) {n : Nat} (hn : hi 164 11 = nI n) (hn2 : n ≤ 4) : ∀ f, f ≤ C → ∀ z5 z6 z7, svJ l G rX8_ask mX8_ask (sv_Fm G (fun v sh a b c => ∃ r, v = some (.int r) ∧ sh = svSH ∧ (((mAskA (mFit (mOkL C n (fun i => hi 172 (2 * i)) (fun i => hi 172 (2 * i + 1))) 60).length (fun x z => mForA (mFit (mOkL C n (fun i => hi 172 (2 * i)) (fun i => hi 172 (2 * i + 1))) 60) (nI x) (nI z)) C C).1) = r ∧ hi = a ∧ hl = b ∧ (sv_hr tw dr pm) = c)) 0 0) 0 0 14 [some (sv_rf G.1 164), some (.int (nI (mFit (mOkL C n (fun i => hi 172 (2 * i)) (fun i => hi 172 (2 * i + 1))) 60).length)), some (.int (mAskA (mFit (mOkL C n (fun i => hi 172 (2 * i)) (fun i => hi 172 (2 * i + 1))) 60).length (fun x z => mForA (mFit (mOkL C n (fun i => hi 172 (2 * i)) (fun i => hi 172 (2 * i + 1))) 60) (nI x) (nI z)) C f).1), some (.int (nI (mAskA (mFit (mOkL C n (fun i => hi 172 (2 * i)) (fun i => hi 172 (2 * i + 1))) 60).length (fun x z => mForA (mFit (mOkL C n (fun i => hi 172 (2 * i)) (fun i => hi 172 (2 * i + 1))) 60) (nI x) (nI z)) C f).2)), some (.int (nI f)), z5, z6, z7] [] svSH hi hl (sv_hr tw dr pm) := by
  obtain ⟨hCc, hLc, hT, hGn, hC2, hC6, hL1, hLC, hT8, hG6, hf, hs, hk⟩ := id hm
  refine sv_up (fun f hf ih z5 z6 z7 => ?_)
  refine S_iload_4 (pc := 14) dX8_ask_14 ?_
  refine S_aload_0 (pc := 16) dX8_ask_16 ?_
  refine fgX8_7 (pc := 17) sh_164 dX8_ask_17 ?_
  refine J_icmp_ge (pc := 20) 154 dX8_ask_20 (by decide) (fun h20 => ?_) (fun h20 => ?_)
  · rw [hCc, nI_leI (by omega) (by omega)] at h20
    obtain rfl : f = C := by omega
    refine S_iload_2 (pc := 154) dX8_ask_154 ?_
    exact J_ireturn (pc := 155) dX8_ask_155 rfl rfl ⟨_, rfl, rfl, ⟨rfl, rfl, rfl, rfl⟩⟩
  · rw [hCc, nI_leI (by omega) (by omega)] at h20
    refine S_iload_4 (pc := 23) dX8_ask_23 ?_
    refine J_iconst (pc := 25) (1) rfl dX8_ask_25 ?_
    refine J_iadd (pc := 26) dX8_ask_26 ?_
    refine S_istore_5 (pc := 27) dX8_ask_27 (by decide) ?_
    exact svJ_ls (by rw [mAskB, show nI (f + 1 + 0) = nI f + 1 from nI_succ f]) (lo2_X8_ask hm hn hn2 (by omega) (fun z5 z6 z7 => ih (f + 1) (by omega) (by omega) z5 z6 z7) 0 (Nat.zero_le _) z6 z7)
set_option maxRecDepth 20000 in
set_option maxHeartbeats 2000000 in
theorem t_X8_ask {l : Launch} {G : svG} {hi : svH} {hl : svL} {tw dr : Nat} {pm : Nat → Nat} {C L T Gn : Nat} (hm : mT hi C L T Gn) {n : Nat} (hn : hi 164 11 = nI n) (hn2 : n ≤ 4) : svIp l G yX8_ask mX8_ask rX8_ask [sv_rf G.1 164] hi hl (sv_hr tw dr pm) ((mAskA (mFit (mOkL C n (fun i => hi 172 (2 * i)) (fun i => hi 172 (2 * i + 1))) 60).length (fun x z => mForA (mFit (mOkL C n (fun i => hi 172 (2 * i)) (fun i => hi 172 (2 * i + 1))) 60) (nI x) (nI z)) C C).1) := by
  refine sv_entry (by decide +kernel) rfl rfl (Nat.le_of_ble_eq_true rfl) (by simp [Value.category, sv_rf]) [some (sv_rf G.1 164), none, none, none, none, none, none, none] rfl ?_
  refine S_aload_0 (pc := 0) dX8_ask_0 ?_
  refine J_iconst (pc := 1) (0) rfl dX8_ask_1 ?_
  refine caX8_217 (pc := 2) (t_X8_likings (l := l) (G := G) hm hn hn2) sh_164 (Nat.le_of_ble_eq_true rfl) ⟨rfl, rfl, ⟨by decide, by decide⟩, by decide, by decide⟩ dX8_ask_2 (fun r2 a2 b2 c2 p2 => ?_)
  obtain ⟨rfl, rfl, rfl, rfl⟩ := p2
  refine S_istore_1 (pc := 5) dX8_ask_5 (by decide) ?_
  refine J_bipush (pc := 6) (-9) rfl dX8_ask_6 ?_
  refine S_istore_2 (pc := 8) dX8_ask_8 (by decide) ?_
  refine S_iload_1 (pc := 9) dX8_ask_9 ?_
  refine S_istore_3 (pc := 10) dX8_ask_10 (by decide) ?_
  refine J_iconst (pc := 11) (0) rfl dX8_ask_11 ?_
  refine S_istore_4 (pc := 12) dX8_ask_12 (by decide) ?_
  
  exact svJ_ls (by rfl) (lo1_X8_ask hm hn hn2 0 (Nat.zero_le _) none none none)
