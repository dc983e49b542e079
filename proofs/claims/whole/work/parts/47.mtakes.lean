/-- the model has the token at p before it -/
def mLA (a : svH) (s : Nat → Int32) (n p : Nat) : Prop := a 164 16 = nI (tkN s n p) ∧ a 164 17 = nI (tkS s n p) ∧ a 164 18 = tkT s n p ∧ ((tkT s n p = 1 ∨ tkT s n p = 2) → a 164 19 = tkV s n p)
theorem mLA_of {hi a : svH} {s : Nat → Int32} {n p : Nat} (h : lxOut hi a 164 16 17 18 19 s n p) : mLA a s n p := by
  obtain ⟨h1, h2, h3, h4, h5, h6⟩ := h
  exact ⟨h3, h4, h5, fun z => h6 (by rw [h5]; exact z)⟩
def mFr (hi a : svH) : Prop := (∀ q, q ≠ 164 → a q = hi q) ∧ ∀ k, k < 16 ∨ 20 < k → a 164 k = hi 164 k
def mTook (hi a : svH) (s : Nat → Int32) (n p : Nat) (lo hh r : Int32) : Prop := (hi 164 20 = 0 ∧ num s n p lo hh = true ∧ r = tkV s n p ∧ a 164 20 = 0 ∧ mLA a s n (tkN s n p)) ∨ (¬ (hi 164 20 = 0 ∧ num s n p lo hh = true) ∧ r = 0 ∧ a 164 20 = 1 ∧ mLA a s n p)
theorem t_X8_in_r {l : Launch} {G : svG} {hi : svH} {hl : svL} {hr : svR} {x a0 b0 : Int32} : svIp l G yX8_in mX8_in rX8_in [.int x, .int a0, .int b0] hi hl hr (sv_b (a0 ≤ x ∧ x ≤ b0)) := t_X8_in
set_option maxRecDepth 20000 in
set_option maxHeartbeats 2000000 in
theorem t_X8_takesNumber {l : Launch} {G : svG} {hi : svH} {hl : svL} {tw dr : Nat} {pm : Nat → Nat} {n p : Nat} (hn2 : n ≤ 120) (hn : hi 164 15 = nI n) (hb : ∀ i, i < n → ∃ k, k < 256 ∧ hi 173 i = nI k) (hp : p ≤ n) (hla : mLA hi (hi 173) n p) {lo hh : Int32} : svI l G yX8_takesNumber mX8_takesNumber rX8_takesNumber [sv_rf G.1 164, .int lo, .int hh] hi hl (sv_hr tw dr pm) (fun r a b c => mFr hi a ∧ mTook hi a (hi 173) n p lo hh r ∧ hl = b ∧ sv_hr tw dr pm = c) := by
  refine sv_entry (by decide +kernel) rfl rfl (Nat.le_of_ble_eq_true rfl) (by simp [Value.category, sv_rf]) [some (sv_rf G.1 164), some (.int lo), some (.int hh), none, none] rfl ?_
  refine S_aload_0 (pc := 0) dX8_takesNumber_0 ?_
  refine fgX8_105 (pc := 1) sh_164 dX8_takesNumber_1 ?_
  refine J_if_ne (pc := 4) 31 dX8_takesNumber_4 (by decide) (fun h4 => ?_) (fun h4 => ?_)
  · refine J_iconst (pc := 31) (0) rfl dX8_takesNumber_31 ?_
    refine S_istore_3 (pc := 32) dX8_takesNumber_32 (by decide) ?_
    refine S_aload_0 (pc := 33) dX8_takesNumber_33 ?_
    refine S_iload_3 (pc := 34) dX8_takesNumber_34 ?_
    refine J_if_ne (pc := 35) 42 dX8_takesNumber_35 (by decide) (fun h35 => absurd h35 (by decide)) (fun h35 => ?_)
    refine J_iconst (pc := 38) (1) rfl dX8_takesNumber_38 ?_
    refine J_goto (pc := 39) 43 dX8_takesNumber_39 (by decide) ?_
    refine fpX8_105 (pc := 43) (Or.inr rfl) sh_164 dX8_takesNumber_43 ?_
    refine S_aload_0 (pc := 46) dX8_takesNumber_46 ?_
    refine fgX8_92 (pc := 47) sh_164 dX8_takesNumber_47 ?_
    refine S_istore_4 (pc := 50) dX8_takesNumber_50 (by decide) ?_
    refine S_iload_3 (pc := 52) dX8_takesNumber_52 ?_
    refine J_if_eq (pc := 53) 60 dX8_takesNumber_53 (by decide) (fun h53 => ?_) (fun h53 => absurd h53 (by decide))
    refine S_iload_3 (pc := 60) dX8_takesNumber_60 ?_
    refine J_if_eq (pc := 61) 69 dX8_takesNumber_61 (by decide) (fun h61 => ?_) (fun h61 => absurd h61 (by decide))
    refine J_iconst (pc := 69) (0) rfl dX8_takesNumber_69 ?_
    exact J_ireturn (pc := 70) dX8_takesNumber_70 rfl rfl ⟨_, rfl, rfl, ⟨⟨fun q g => by rw [sv_u2_off g], fun k g => by rw [sv_u2_k (by omega)]⟩, Or.inr ⟨fun q => h4 q.1, rfl, sv_u2_at, by
            obtain ⟨z1, z2, z3, z4⟩ := hla
            exact ⟨by rw [sv_u2_k (by decide)]; exact z1, by rw [sv_u2_k (by decide)]; exact z2, by rw [sv_u2_k (by decide)]; exact z3, fun z => by rw [sv_u2_k (by decide)]; exact z4 z⟩⟩, rfl, rfl⟩⟩
  · refine S_aload_0 (pc := 7) dX8_takesNumber_7 ?_
    refine fgX8_95 (pc := 8) sh_164 dX8_takesNumber_8 ?_
    refine J_iconst (pc := 11) (2) rfl dX8_takesNumber_11 ?_
    refine J_icmp_ne (pc := 12) 31 dX8_takesNumber_12 (by decide) (fun h12 => ?_) (fun h12 => ?_)
    · rw [hla.2.2.1] at h12
      refine J_iconst (pc := 31) (0) rfl dX8_takesNumber_31 ?_
      refine S_istore_3 (pc := 32) dX8_takesNumber_32 (by decide) ?_
      refine S_aload_0 (pc := 33) dX8_takesNumber_33 ?_
      refine S_iload_3 (pc := 34) dX8_takesNumber_34 ?_
      refine J_if_ne (pc := 35) 42 dX8_takesNumber_35 (by decide) (fun h35 => absurd h35 (by decide)) (fun h35 => ?_)
      refine J_iconst (pc := 38) (1) rfl dX8_takesNumber_38 ?_
      refine J_goto (pc := 39) 43 dX8_takesNumber_39 (by decide) ?_
      refine fpX8_105 (pc := 43) (Or.inr rfl) sh_164 dX8_takesNumber_43 ?_
      refine S_aload_0 (pc := 46) dX8_takesNumber_46 ?_
      refine fgX8_92 (pc := 47) sh_164 dX8_takesNumber_47 ?_
      refine S_istore_4 (pc := 50) dX8_takesNumber_50 (by decide) ?_
      refine S_iload_3 (pc := 52) dX8_takesNumber_52 ?_
      refine J_if_eq (pc := 53) 60 dX8_takesNumber_53 (by decide) (fun h53 => ?_) (fun h53 => absurd h53 (by decide))
      refine S_iload_3 (pc := 60) dX8_takesNumber_60 ?_
      refine J_if_eq (pc := 61) 69 dX8_takesNumber_61 (by decide) (fun h61 => ?_) (fun h61 => absurd h61 (by decide))
      refine J_iconst (pc := 69) (0) rfl dX8_takesNumber_69 ?_
      exact J_ireturn (pc := 70) dX8_takesNumber_70 rfl rfl ⟨_, rfl, rfl, ⟨⟨fun q g => by rw [sv_u2_off g], fun k g => by rw [sv_u2_k (by omega)]⟩, Or.inr ⟨fun q => h12 (num_v q.2).1, rfl, sv_u2_at, by
              obtain ⟨z1, z2, z3, z4⟩ := hla
              exact ⟨by rw [sv_u2_k (by decide)]; exact z1, by rw [sv_u2_k (by decide)]; exact z2, by rw [sv_u2_k (by decide)]; exact z3, fun z => by rw [sv_u2_k (by decide)]; exact z4 z⟩⟩, rfl, rfl⟩⟩
    · rw [hla.2.2.1] at h12
      have hv : hi 164 19 = tkV (hi 173) n p := hla.2.2.2 (Or.inr h12)
      refine S_aload_0 (pc := 15) dX8_takesNumber_15 ?_
      refine fgX8_92 (pc := 16) sh_164 dX8_takesNumber_16 ?_
      refine S_iload_1 (pc := 19) dX8_takesNumber_19 ?_
      refine S_iload_2 (pc := 20) dX8_takesNumber_20 ?_
      refine caX8_69 (pc := 21) (t_X8_in_r (l := l) (G := G)) (Nat.le_of_ble_eq_true rfl) ⟨rfl, rfl, ⟨by decide, by decide⟩, by decide, by decide⟩ dX8_takesNumber_21 (fun r21 a21 b21 c21 p21 => ?_)
      obtain ⟨rfl, rfl, rfl, rfl⟩ := p21
      refine J_if_eq_b (pc := 24) 31 dX8_takesNumber_24 (by decide) (fun h24 => ?_) (fun h24 => ?_)
      · rw [hv] at h24
        refine J_iconst (pc := 31) (0) rfl dX8_takesNumber_31 ?_
        refine S_istore_3 (pc := 32) dX8_takesNumber_32 (by decide) ?_
        refine S_aload_0 (pc := 33) dX8_takesNumber_33 ?_
        refine S_iload_3 (pc := 34) dX8_takesNumber_34 ?_
        refine J_if_ne (pc := 35) 42 dX8_takesNumber_35 (by decide) (fun h35 => absurd h35 (by decide)) (fun h35 => ?_)
        refine J_iconst (pc := 38) (1) rfl dX8_takesNumber_38 ?_
        refine J_goto (pc := 39) 43 dX8_takesNumber_39 (by decide) ?_
        refine fpX8_105 (pc := 43) (Or.inr rfl) sh_164 dX8_takesNumber_43 ?_
        refine S_aload_0 (pc := 46) dX8_takesNumber_46 ?_
        refine fgX8_92 (pc := 47) sh_164 dX8_takesNumber_47 ?_
        refine S_istore_4 (pc := 50) dX8_takesNumber_50 (by decide) ?_
        refine S_iload_3 (pc := 52) dX8_takesNumber_52 ?_
        refine J_if_eq (pc := 53) 60 dX8_takesNumber_53 (by decide) (fun h53 => ?_) (fun h53 => absurd h53 (by decide))
        refine S_iload_3 (pc := 60) dX8_takesNumber_60 ?_
        refine J_if_eq (pc := 61) 69 dX8_takesNumber_61 (by decide) (fun h61 => ?_) (fun h61 => absurd h61 (by decide))
        refine J_iconst (pc := 69) (0) rfl dX8_takesNumber_69 ?_
        exact J_ireturn (pc := 70) dX8_takesNumber_70 rfl rfl ⟨_, rfl, rfl, (by
              first
              | exact ⟨⟨fun q g => by rw [sv_u2_off g], fun k g => by rw [sv_u2_k (by omega)]⟩, Or.inr ⟨fun q => h24 (num_v q.2).2, rfl, sv_u2_at, by
                obtain ⟨z1, z2, z3, z4⟩ := hla
                exact ⟨by rw [sv_u2_k (by decide)]; exact z1, by rw [sv_u2_k (by decide)]; exact z2, by rw [sv_u2_k (by decide)]; exact z3, fun z => by rw [sv_u2_k (by decide)]; exact z4 z⟩⟩, rfl, rfl⟩
              | (refine ⟨⟨fun q g => by rw [lx.1 q g, sv_u2_off g], fun k g => by rw [lx.2.1 k (by omega) (by omega) (by omega) (by omega), sv_u2_k (by omega)]⟩, Or.inl ⟨h4, decide_eq_true ⟨h12, h24⟩, hv, by rw [lx.2.1 20 (by decide) (by decide) (by decide) (by decide)]; exact sv_u2_at, mLA_of lx⟩, rfl, rfl⟩))⟩
      · rw [hv] at h24
        refine J_iconst (pc := 27) (1) rfl dX8_takesNumber_27 ?_
        refine J_goto (pc := 28) 32 dX8_takesNumber_28 (by decide) ?_
        refine S_istore_3 (pc := 32) dX8_takesNumber_32 (by decide) ?_
        refine S_aload_0 (pc := 33) dX8_takesNumber_33 ?_
        refine S_iload_3 (pc := 34) dX8_takesNumber_34 ?_
        refine J_if_ne (pc := 35) 42 dX8_takesNumber_35 (by decide) (fun h35 => ?_) (fun h35 => absurd h35 (by decide))
        refine J_iconst (pc := 42) (0) rfl dX8_takesNumber_42 ?_
        refine fpX8_105 (pc := 43) (Or.inl rfl) sh_164 dX8_takesNumber_43 ?_
        refine S_aload_0 (pc := 46) dX8_takesNumber_46 ?_
        refine fgX8_92 (pc := 47) sh_164 dX8_takesNumber_47 ?_
        refine S_istore_4 (pc := 50) dX8_takesNumber_50 (by decide) ?_
        refine S_iload_3 (pc := 52) dX8_takesNumber_52 ?_
        refine J_if_eq (pc := 53) 60 dX8_takesNumber_53 (by decide) (fun h53 => absurd h53 (by decide)) (fun h53 => ?_)
        refine S_aload_0 (pc := 56) dX8_takesNumber_56 ?_
        refine caX8_109 (pc := 57) (t_X8_next (l := l) (G := G) (n := n) (p := tkN (hi 173) n p) hn2 (by rw [sv_u2_k (by decide)]; exact hn) (by rw [sv_u2_off (by decide)]; exact hb) (by rw [sv_u2_k (by decide)]; exact hla.1) (tk_le (s := hi 173) hp).2.2) sh_164 (Nat.le_of_ble_eq_true rfl) ⟨rfl, rfl, ⟨by decide, by decide⟩, by decide, by decide⟩ dX8_takesNumber_57 (fun a57 b57 c57 p57 => ?_)
        obtain ⟨lx, rfl, rfl⟩ := p57
        rw [sv_u2_off (show (173 : Nat) ≠ 164 by decide)] at lx
        refine S_iload_3 (pc := 60) dX8_takesNumber_60 ?_
        refine J_if_eq (pc := 61) 69 dX8_takesNumber_61 (by decide) (fun h61 => absurd h61 (by decide)) (fun h61 => ?_)
        refine S_iload_4 (pc := 64) dX8_takesNumber_64 ?_
        refine J_goto (pc := 66) 70 dX8_takesNumber_66 (by decide) ?_
        exact J_ireturn (pc := 70) dX8_takesNumber_70 rfl rfl ⟨_, rfl, rfl, (by
              first
              | exact ⟨⟨fun q g => by rw [sv_u2_off g], fun k g => by rw [sv_u2_k (by omega)]⟩, Or.inr ⟨fun q => h24 (num_v q.2).2, rfl, sv_u2_at, by
                obtain ⟨z1, z2, z3, z4⟩ := hla
                exact ⟨by rw [sv_u2_k (by decide)]; exact z1, by rw [sv_u2_k (by decide)]; exact z2, by rw [sv_u2_k (by decide)]; exact z3, fun z => by rw [sv_u2_k (by decide)]; exact z4 z⟩⟩, rfl, rfl⟩
              | (refine ⟨⟨fun q g => by rw [lx.1 q g, sv_u2_off g], fun k g => by rw [lx.2.1 k (by omega) (by omega) (by omega) (by omega), sv_u2_k (by omega)]⟩, Or.inl ⟨h4, decide_eq_true ⟨h12, h24⟩, hv, by rw [lx.2.1 20 (by decide) (by decide) (by decide) (by decide)]; exact sv_u2_at, mLA_of lx⟩, rfl, rfl⟩))⟩
