theorem rdStop_f {s : Nat → Int32} {n p f : Nat} {D : svH} (hp : p ≤ n) (h : rdStop s n D p = .inl f) : f ≤ n := by
  have t := tk_le (s := s) hp
  unfold rdStop at h
  split at h
  · cases h
  · cases h; omega
theorem rdChoice_f {s : Nat → Int32} {n p f : Nat} {D : svH} (hp : p ≤ n) (h : rdChoice s n D p = .inl f) : f ≤ n := by
  have t1 := tk_le (s := s) hp
  have t2 := tk_le (s := s) t1.2.2
  have t3 := tk_le (s := s) t2.2.2
  unfold rdChoice at h
  split at h
  · split at h
    · split at h
      · exact rdStop_f t3.2.2 h
      · cases h; omega
    · cases h; omega
  · cases h; omega
theorem rdTrain_f {s : Nat → Int32} {n p f : Nat} {D : svH} (hp : p ≤ n) (h : rdTrain s n D p = .inl f) : f ≤ n := by
  have t1 := tk_le (s := s) hp
  have t2 := tk_le (s := s) t1.2.2
  have t3 := tk_le (s := s) t2.2.2
  unfold rdTrain at h
  split at h
  · split at h
    · split at h
      · exact rdStop_f t3.2.2 h
      · cases h; omega
    · cases h; omega
  · cases h; omega
theorem rdGroup_f {s : Nat → Int32} {n p f : Nat} {D : svH} (hp : p ≤ n) (h : rdGroup s n D p = .inl f) : f ≤ n := by
  have t1 := tk_le (s := s) hp
  have t2 := tk_le (s := s) t1.2.2
  have t3 := tk_le (s := s) t2.2.2
  unfold rdGroup at h
  split at h
  · split at h
    · split at h
      · exact rdStop_f t3.2.2 h
      · cases h; omega
    · cases h; omega
  · cases h; omega
theorem rdItem_f {s : Nat → Int32} {n p items f : Nat} {D : svH} (hp : p ≤ n) (h : rdItem s n D items p = .inl f) : f ≤ n := by
  have t1 := tk_le (s := s) hp
  unfold rdItem at h
  split at h
  · exact rdChoice_f t1.2.2 h
  · split at h
    · exact rdTrain_f t1.2.2 h
    · split at h
      · exact rdGroup_f t1.2.2 h
      · cases h; omega
theorem rdAll_f {s : Nat → Int32} {n : Nat} : ∀ (d : Nat) (D : svH) (items p f : Nat), p ≤ n → rdAll s n d D items p = .inl f → f ≤ n := by
  intro d
  induction d with
  | zero => intro D items p f hp h; rw [rdAll] at h; cases h; omega
  | succ d ih =>
    intro D items p f hp h
    rw [rdAll] at h
    split at h
    · cases h
    · cases hI : rdItem s n D items p with
      | inl g => rw [hI] at h; cases h; exact rdItem_f hp hI
      | inr q =>
        obtain ⟨D', p'⟩ := q
        rw [hI] at h
        exact ih D' (items + 1) p' f (rdItem_ge hp hI).2 h
theorem hr_swap {tw dr : Nat} {pm : Nat → Nat} : sv_u2 (sv_u2 (sv_hr tw dr pm) 0 1 (some tw)) 0 0 (some dr) = sv_hr dr tw pm := by
  funext i k
  unfold sv_hr sv_u2
  by_cases h0 : i = 0 ∧ k = 0
  · rw [if_pos h0, if_pos h0]
  · rw [if_neg h0, if_neg h0]
    by_cases h1 : i = 0 ∧ k = 1
    · rw [if_pos h1, if_pos h1]
    · rw [if_neg h1, if_neg h1]
      simp only [if_neg h0, if_neg h1]
/-- the class's cells once a text has been told -/
def xSet (hi a : svH) (dr : Nat) (D : svH) : Prop := dRel D (fun i => a (dr + i)) ∧ (∀ q, q ≠ 15 → q ≠ 17 → q ≠ 18 → q ≠ 19 → q ≠ 20 → q ≠ 21 → q ≠ 66 → q ≠ 70 → q ≠ 117 → (q < dr ∨ dr + 6 < q) → a q = hi q) ∧ a 15 0 = 0 ∧ a 17 0 = 0 ∧ a 17 1 = a dr 2 ∧ a 17 2 = 0 ∧ a 17 3 = 0 ∧ a 17 4 = 0 ∧ (∀ k, k < 6 → a 18 k = 0) ∧ (∀ k, k < 8 → a 19 k = a (dr + 1) k) ∧ (∀ k, k < 8 → a 20 k = a (dr + 3) k) ∧ a 21 0 = 0 ∧ a 66 0 = 0 ∧ a 70 0 = 0 ∧ a 117 0 = 0
theorem neg10 {f : Nat} (h : f ≤ 120) : -10 - nI f < 0 := by
  rw [Int32.lt_iff_toInt_lt]
  have : ∀ f, f ≤ 120 → (-10 - nI f).toInt < (0 : Int32).toInt := by decide +kernel
  exact this f h
set_option maxRecDepth 20000 in
set_option maxHeartbeats 2000000 in
theorem t_X7_town {l : Launch} {G : svG} {hi : svH} {hl : svL} {tw dr : Nat} {pm : Nat → Nat} (htw : svSH[tw]? = some (0, 6)) (hdr : svSH[dr]? = some (0, 6)) {n : Nat} (hn2 : n ≤ 120) (hn : hi 15 0 = nI n) : svI l G yX7_town mX7_town rX7_town [sv_rf G.1 0] hi hl (sv_hr tw dr pm) (fun r a b c => ((∃ f, rdAll (hi 16) n 121 D0 0 0 = .inl f ∧ r = -10 - nI f ∧ (∀ q, q ≠ 15 → (q < dr ∨ dr + 6 < q) → a q = hi q) ∧ a 15 0 = hi 15 0 ∧ sv_hr tw dr pm = c) ∨ (∃ D' k, rdAll (hi 16) n 121 D0 0 0 = .inr (D', k) ∧ r = nI k ∧ xSet hi a dr D' ∧ sv_hr dr tw pm = c)) ∧ hl = b) := by
  have hdr2 := sv_dr hdr
  refine sv_entry (by decide +kernel) rfl rfl (Nat.le_of_ble_eq_true rfl) (by simp [Value.category, sv_rf]) [some (sv_rf G.1 0), none, none] rfl ?_
  refine S_aload_0 (pc := 0) dX7_town_0 ?_
  refine fgX7_22 (pc := 1) sh_0 hv_0_2 dX7_town_1 ?_
  refine S_aload_0 (pc := 4) dX7_town_4 ?_
  refine fgX7_16 (pc := 5) sh_0 hv_0_1 dX7_town_5 ?_
  refine caX7_80 (pc := 8) (t_X5_readInto (l := l) (G := G) hdr hn2 hn) sh_15 (Nat.le_of_ble_eq_true rfl) ⟨rfl, rfl, ⟨by decide, by decide⟩, by decide, by decide⟩ dX7_town_8 (fun r8 a8 b8 c8 p8 => ?_)
  obtain ⟨hX, rfl, rfl⟩ := p8
  refine S_istore_1 (pc := 11) dX7_town_11 (by decide) ?_
  refine S_iload_1 (pc := 12) dX7_town_12 ?_
  refine J_if_ge (pc := 13) 18 dX7_town_13 (by decide) (fun h13 => ?_) (fun h13 => ?_)
  · have hge := h13
    obtain ⟨D', k, hR, hk, hrk, hD⟩ : ∃ D' k, rdAll (hi 16) n 121 D0 0 0 = .inr (D', k) ∧ k ≤ 120 ∧ r8 = nI k ∧ dRel D' (fun i => a8 (dr + i)) := by
      cases hR : rdAll (hi 16) n 121 D0 0 0 with
      | inl f =>
        rw [hR] at hX
        have h1 : r8 = -10 - nI f := hX.2.2
        exfalso
        rw [h1] at hge
        exact Int32.not_le.mpr (neg10 (Nat.le_trans (rdAll_f _ _ _ _ _ (Nat.zero_le _) hR) hn2)) hge
      | inr q =>
        obtain ⟨D', k⟩ := q
        rw [hR] at hX
        exact ⟨D', k, rfl, hX.2.2.2.1, hX.2.2.1, hX.2.2.2.2⟩
    refine S_aload_0 (pc := 18) dX7_town_18 ?_
    refine fgX7_16 (pc := 19) sh_0 hv_0_1 dX7_town_19 ?_
    refine S_astore_2 (pc := 22) dX7_town_22 (by decide) ?_
    refine S_aload_0 (pc := 23) dX7_town_23 ?_
    refine S_aload_0 (pc := 24) dX7_town_24 ?_
    refine fgX7_10 (pc := 25) sh_0 hv_0_0 dX7_town_25 ?_
    refine fpX7_16 (pc := 28) sh_0 dX7_town_28 ?_
    refine S_aload_0 (pc := 31) dX7_town_31 ?_
    refine S_aload_2 (pc := 32) dX7_town_32 ?_
    refine fpX7_10 (pc := 33) sh_0 dX7_town_33 ?_
    rw [hr_swap]
    refine S_aload_0 (pc := 36) dX7_town_36 ?_
    refine fgX7_22 (pc := 37) sh_0 hv_0_2 dX7_town_37 ?_
    refine J_iconst (pc := 40) (0) rfl dX7_town_40 ?_
    refine fpX7_72 (pc := 41) sh_15 dX7_town_41 ?_
    refine S_aload_0 (pc := 44) dX7_town_44 ?_
    refine fgX7_29 (pc := 45) sh_0 hv_0_3 dX7_town_45 ?_
    refine S_aload_0 (pc := 48) dX7_town_48 ?_
    refine fgX7_10 (pc := 49) sh_0 hv_0_0 dX7_town_49 ?_
    refine caX7_84 (pc := 52) (t_X3_begin (l := l) (G := G) (tw := dr) (dq := tw) hdr) sh_17 (Nat.le_of_ble_eq_true rfl) ⟨rfl, rfl, ⟨by decide, by decide⟩, by decide, by decide⟩ dX7_town_52 (fun a52 b52 c52 p52 => ?_)
    obtain ⟨g1, g2, g3, g4, g5, g6, g7, g8, g9, rfl, rfl⟩ := p52
    refine S_aload_0 (pc := 55) dX7_town_55 ?_
    refine fgX7_36 (pc := 56) sh_0 hv_0_4 dX7_town_56 ?_
    refine J_iconst (pc := 59) (0) rfl dX7_town_59 ?_
    refine fpX7_88 (pc := 60) sh_21 dX7_town_60 ?_
    refine S_aload_0 (pc := 63) dX7_town_63 ?_
    refine fgX7_50 (pc := 64) sh_0 hv_0_6 dX7_town_64 ?_
    refine J_iconst (pc := 67) (0) rfl dX7_town_67 ?_
    refine fpX7_91 (pc := 68) sh_66 dX7_town_68 ?_
    refine S_aload_0 (pc := 71) dX7_town_71 ?_
    refine fgX7_57 (pc := 72) sh_0 hv_0_7 dX7_town_72 ?_
    refine J_iconst (pc := 75) (0) rfl dX7_town_75 ?_
    refine fpX7_94 (pc := 76) (Or.inl rfl) sh_70 dX7_town_76 ?_
    refine S_aload_0 (pc := 79) dX7_town_79 ?_
    refine fgX7_61 (pc := 80) sh_0 hv_0_8 dX7_town_80 ?_
    refine J_iconst (pc := 83) (0) rfl dX7_town_83 ?_
    refine fpX7_94 (pc := 84) (Or.inl rfl) sh_117 dX7_town_84 ?_
    have XS : xSet hi (sv_u2 (sv_u2 (sv_u2 (sv_u2 a52 21 0 0) 66 0 0) 70 0 0) 117 0 0) dr D' := by
      have hE : ∀ q, q ≠ 15 → (q < dr ∨ dr + 6 < q) → a8 q = hi q := hX.1
      have B : ∀ q, q ≠ 117 → q ≠ 70 → q ≠ 66 → q ≠ 21 → q < 17 ∨ 20 < q → sv_u2 (sv_u2 (sv_u2 (sv_u2 a52 21 0 0) 66 0 0) 70 0 0) 117 0 0 q = sv_u2 a8 15 0 0 q := fun q q1 q2 q3 q4 q5 => by rw [sv_u2_off q1, sv_u2_off q2, sv_u2_off q3, sv_u2_off q4]; exact g1 q q5
      have B2 : ∀ q, 17 ≤ q → q ≤ 20 → sv_u2 (sv_u2 (sv_u2 (sv_u2 a52 21 0 0) 66 0 0) 70 0 0) 117 0 0 q = a52 q := fun q q1 q2 => by rw [sv_u2_off (by omega), sv_u2_off (by omega), sv_u2_off (by omega), sv_u2_off (by omega)]
      have B3 : ∀ i, i < 7 → sv_u2 (sv_u2 (sv_u2 (sv_u2 a52 21 0 0) 66 0 0) 70 0 0) 117 0 0 (dr + i) = a8 (dr + i) := fun i hi2 => by rw [B _ (by omega) (by omega) (by omega) (by omega) (by omega), sv_u2_off (by omega)]
      have B4 : sv_u2 a8 15 0 0 dr = a8 dr := sv_u2_off (by omega)
      have B5 : ∀ i, i < 7 → sv_u2 a8 15 0 0 (dr + i) = a8 (dr + i) := fun i hi2 => sv_u2_off (by omega)
      refine ⟨dRel_congr hD B3, fun q e1 e2 e3 e4 e5 e6 e7 e8 e9 e10 => ?_, ?_, ?_, ?_, ?_, ?_, ?_, fun k2 hk2 => ?_, fun k2 hk2 => ?_, fun k2 hk2 => ?_, ?_, ?_, ?_, ?_⟩
      · rw [B q e9 e8 e7 e6 (by omega), sv_u2_off e1]; exact hE q e1 e10
      · rw [B 15 (by decide) (by decide) (by decide) (by decide) (by decide)]; exact sv_u2_at
      · rw [B2 17 (by decide) (by decide)]; exact g2
      · rw [B2 17 (by decide) (by decide), show sv_u2 (sv_u2 (sv_u2 (sv_u2 a52 21 0 0) 66 0 0) 70 0 0) 117 0 0 dr = a8 dr from B3 0 (by decide), g3, B4]
      · rw [B2 17 (by decide) (by decide)]; exact g4
      · rw [B2 17 (by decide) (by decide)]; exact g5
      · rw [B2 17 (by decide) (by decide)]; exact g6
      · rw [B2 18 (by decide) (by decide)]; exact g7 k2 hk2
      · rw [B2 19 (by decide) (by decide), B3 1 (by decide), g8 k2 hk2, B5 1 (by decide)]
      · rw [B2 20 (by decide) (by decide), B3 3 (by decide), g9 k2 hk2, B5 3 (by decide)]
      · rw [sv_u2_off (by decide), sv_u2_off (by decide), sv_u2_off (by decide)]; exact sv_u2_at
      · rw [sv_u2_off (by decide), sv_u2_off (by decide)]; exact sv_u2_at
      · rw [sv_u2_off (by decide)]; exact sv_u2_at
      · exact sv_u2_at
    refine S_iload_1 (pc := 87) dX7_town_87 ?_
    exact J_ireturn (pc := 88) dX7_town_88 rfl rfl ⟨_, rfl, rfl, ⟨Or.inr ⟨D', k, hR, hrk, XS, rfl⟩, rfl⟩⟩
  · have hlt := h13
    cases hR : rdAll (hi 16) n 121 D0 0 0 with
    | inr q =>
      obtain ⟨D', k⟩ := q
      rw [hR] at hX
      exfalso
      have h1 := hX.2.2.1
      rw [h1] at hlt
      have hk := hX.2.2.2.1
      exact nI_pos (by omega) (Int32.not_le.mp hlt)
    | inl f =>
    rw [hR] at hX
    refine S_iload_1 (pc := 16) dX7_town_16 ?_
    exact J_ireturn (pc := 17) dX7_town_17 rfl rfl ⟨_, rfl, rfl, ⟨Or.inl ⟨f, rfl, hX.2.2, hX.1, hX.2.1, rfl⟩, rfl⟩⟩
