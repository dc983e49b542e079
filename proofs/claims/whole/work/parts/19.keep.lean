set_option maxRecDepth 20000 in
set_option maxHeartbeats 2000000 in
theorem t_X7_keep {l : Launch} {G : svG} {hi : svH} {hl : svL} {tw dr : Nat} {pm : Nat → Nat} {K : Nat} {x : Int32} (hK : hi 21 0 = nI K) (hK10 : K ≤ 10) (hpm : pmok pm) : svI l G yX7_keep mX7_keep rX7_keep [sv_rf G.1 0, .int x] hi hl (sv_hr tw dr pm) (fun r a b c => (imgOf x = none ∧ r = -1 ∧ hi = a ∧ hl = b ∧ sv_hr tw dr pm = c) ∨ (∃ im, imgOf x = some im ∧ r = hi 17 0 ∧ a im 0 = 1 ∧ dy hi a 17 (im + 1) ∧ a (im + 5) 0 = nI K ∧ (∀ j, j < K → dy hi a (pm j) (im + 7 + 4 * j)) ∧ (∀ q, q < im ∨ im + 46 < q → a q = hi q) ∧ hl = b ∧ sv_hr tw dr pm = c)) := by
  refine sv_entry (by decide +kernel) rfl rfl (Nat.le_of_ble_eq_true rfl) (by simp [Value.category, sv_rf]) [some (sv_rf G.1 0), some (.int x), none] rfl ?_
  refine S_aload_0 (pc := 0) dX7_keep_0 ?_
  refine S_iload_1 (pc := 1) dX7_keep_1 ?_
  refine caX7_246 (pc := 2) (t_X7_imageOf (l := l) (G := G) (x := x)) sh_0 (Nat.le_of_ble_eq_true rfl) ⟨rfl, rfl, ⟨by decide, by decide⟩, by decide, by decide⟩ dX7_keep_2 (fun r2 a2 b2 c2 p2 => ?_)
  obtain ⟨rfl, rfl, rfl, rfl⟩ := p2
  
  cases hc : imgOf x with
  | none =>
    rw [show sv_rv G.1 none = Value.null from rfl]
    refine S_astoreN_2 (pc := 5) dX7_keep_5 (by decide) ?_
    refine S_aloadN_2 (pc := 6) dX7_keep_6 ?_
    refine J_ifnonnullN (pc := 7) dX7_keep_7 ?_
    refine J_iconst (pc := 10) (-1) rfl dX7_keep_10 ?_
    exact J_ireturn (pc := 11) dX7_keep_11 rfl rfl ⟨_, rfl, rfl, (Or.inl ⟨rfl, rfl, rfl, rfl, rfl⟩)⟩
  | some im =>
    rw [show sv_rv G.1 (some im) = sv_rf G.1 im from rfl]
    have him : im = 70 ∨ im = 117 := by unfold imgOf at hc; split at hc; (· cases hc; exact Or.inl rfl); split at hc; (· cases hc; exact Or.inr rfl); cases hc
    rcases him with rfl | rfl
    · refine S_astore_2 (pc := 5) dX7_keep_5 (by decide) ?_
      refine S_aload_2 (pc := 6) dX7_keep_6 ?_
      refine J_ifnonnull (pc := 7) 12 dX7_keep_7 (by decide) ?_
      refine S_aload_2 (pc := 12) dX7_keep_12 ?_
      refine J_iconst (pc := 13) (1) rfl dX7_keep_13 ?_
      refine fpX7_94 (pc := 14) (Or.inr rfl) sh_70 dX7_keep_14 ?_
      refine S_aload_2 (pc := 17) dX7_keep_17 ?_
      refine fgX7_250 (pc := 18) sh_70 hv_70_1 dX7_keep_18 ?_
      refine S_aload_0 (pc := 21) dX7_keep_21 ?_
      refine fgX7_29 (pc := 22) sh_0 hv_0_3 dX7_keep_22 ?_
      refine caX7_253 (pc := 25) (t_X3_copyFrom (l := l) (G := G) sh_17 sh_71 (by decide)) sh_71 (Nat.le_of_ble_eq_true rfl) ⟨rfl, rfl, ⟨by decide, by decide⟩, by decide, by decide⟩ dX7_keep_25 (fun a25 b25 c25 p25 => ?_)
      obtain ⟨k0, rfl, rfl⟩ := p25
      refine S_aload_2 (pc := 28) dX7_keep_28 ?_
      refine fgX7_256 (pc := 29) sh_70 hv_70_2 dX7_keep_29 ?_
      refine S_aload_0 (pc := 32) dX7_keep_32 ?_
      refine fgX7_36 (pc := 33) sh_0 hv_0_4 dX7_keep_33 ?_
      refine caX7_257 (pc := 36) (t_X4_copyFrom (l := l) (G := G) (K := K) past75 (past21 hpm) (by decide) (by rw [k0.1 21 (by decide), sv_u2_off (by decide)]; exact hK) hK10) sh_75 (Nat.le_of_ble_eq_true rfl) ⟨rfl, rfl, ⟨by decide, by decide⟩, by decide, by decide⟩ dX7_keep_36 (fun a36 b36 c36 p36 => ?_)
      obtain ⟨m1, m2, m3, rfl, rfl⟩ := p36
      refine S_aload_0 (pc := 39) dX7_keep_39 ?_
      refine fgX7_29 (pc := 40) sh_0 hv_0_3 dX7_keep_40 ?_
      refine fgX7_150 (pc := 43) sh_17 dX7_keep_43 ?_
      exact J_ireturn (pc := 46) dX7_keep_46 rfl rfl ⟨_, rfl, rfl, (Or.inr ⟨70, rfl, by rw [m3 17 (by decide) (by decide), k0.1 17 (by decide), sv_u2_off (by decide)], by rw [m3 70 (by decide) (by decide), k0.1 70 (by decide), sv_u2_at], k0.dy.of (fun q h1 h2 => (sv_u2_off (by omega)).symm) (fun q h1 h2 => m3 q (by omega) (by omega)), m1, fun j hj => (m2 j hj).of (fun q h1 h2 => by have := hpm.1 j (by omega); rw [k0.1 q (by omega), sv_u2_off (by omega)]) (fun q h1 h2 => by congr 1 <;> omega), fun q hq => by rw [m3 q (by omega) (by omega), k0.1 q (by omega), sv_u2_off (by omega)], rfl, rfl⟩)⟩
    · refine S_astore_2 (pc := 5) dX7_keep_5 (by decide) ?_
      refine S_aload_2 (pc := 6) dX7_keep_6 ?_
      refine J_ifnonnull (pc := 7) 12 dX7_keep_7 (by decide) ?_
      refine S_aload_2 (pc := 12) dX7_keep_12 ?_
      refine J_iconst (pc := 13) (1) rfl dX7_keep_13 ?_
      refine fpX7_94 (pc := 14) (Or.inr rfl) sh_117 dX7_keep_14 ?_
      refine S_aload_2 (pc := 17) dX7_keep_17 ?_
      refine fgX7_250 (pc := 18) sh_117 hv_117_1 dX7_keep_18 ?_
      refine S_aload_0 (pc := 21) dX7_keep_21 ?_
      refine fgX7_29 (pc := 22) sh_0 hv_0_3 dX7_keep_22 ?_
      refine caX7_253 (pc := 25) (t_X3_copyFrom (l := l) (G := G) sh_17 sh_118 (by decide)) sh_118 (Nat.le_of_ble_eq_true rfl) ⟨rfl, rfl, ⟨by decide, by decide⟩, by decide, by decide⟩ dX7_keep_25 (fun a25 b25 c25 p25 => ?_)
      obtain ⟨k0, rfl, rfl⟩ := p25
      refine S_aload_2 (pc := 28) dX7_keep_28 ?_
      refine fgX7_256 (pc := 29) sh_117 hv_117_2 dX7_keep_29 ?_
      refine S_aload_0 (pc := 32) dX7_keep_32 ?_
      refine fgX7_36 (pc := 33) sh_0 hv_0_4 dX7_keep_33 ?_
      refine caX7_257 (pc := 36) (t_X4_copyFrom (l := l) (G := G) (K := K) past122 (past21 hpm) (by decide) (by rw [k0.1 21 (by decide), sv_u2_off (by decide)]; exact hK) hK10) sh_122 (Nat.le_of_ble_eq_true rfl) ⟨rfl, rfl, ⟨by decide, by decide⟩, by decide, by decide⟩ dX7_keep_36 (fun a36 b36 c36 p36 => ?_)
      obtain ⟨m1, m2, m3, rfl, rfl⟩ := p36
      refine S_aload_0 (pc := 39) dX7_keep_39 ?_
      refine fgX7_29 (pc := 40) sh_0 hv_0_3 dX7_keep_40 ?_
      refine fgX7_150 (pc := 43) sh_17 dX7_keep_43 ?_
      exact J_ireturn (pc := 46) dX7_keep_46 rfl rfl ⟨_, rfl, rfl, (Or.inr ⟨117, rfl, by rw [m3 17 (by decide) (by decide), k0.1 17 (by decide), sv_u2_off (by decide)], by rw [m3 117 (by decide) (by decide), k0.1 117 (by decide), sv_u2_at], k0.dy.of (fun q h1 h2 => (sv_u2_off (by omega)).symm) (fun q h1 h2 => m3 q (by omega) (by omega)), m1, fun j hj => (m2 j hj).of (fun q h1 h2 => by have := hpm.1 j (by omega); rw [k0.1 q (by omega), sv_u2_off (by omega)]) (fun q h1 h2 => by congr 1 <;> omega), fun q hq => by rw [m3 q (by omega) (by omega), k0.1 q (by omega), sv_u2_off (by omega)], rfl, rfl⟩)⟩

set_option maxRecDepth 20000 in
set_option maxHeartbeats 2000000 in
theorem t_X7_back {l : Launch} {G : svG} {hi : svH} {hl : svL} {tw dr : Nat} {pm : Nat → Nat} {x : Int32} (hpm : pmok pm) (hkp : ∀ im, imgOf x = some im → ∃ K, K ≤ 10 ∧ hi (im + 5) 0 = nI K) : svI l G yX7_back mX7_back rX7_back [sv_rf G.1 0, .int x] hi hl (sv_hr tw dr pm) (fun r a b c => (imgOf x = none ∧ r = -1 ∧ hi = a ∧ hl = b ∧ sv_hr tw dr pm = c) ∨ (∃ im, imgOf x = some im ∧ hi im 0 = 0 ∧ r = -2 ∧ hi = a ∧ hl = b ∧ sv_hr tw dr pm = c) ∨ (∃ im, imgOf x = some im ∧ ¬ hi im 0 = 0 ∧ r = hi (im + 1) 0 ∧ dy hi a (im + 1) 17 ∧ (∀ K, K ≤ 10 → hi (im + 5) 0 = nI K → a 21 0 = nI K ∧ ∀ j, j < K → dy hi a (im + 7 + 4 * j) (pm j)) ∧ (∀ q, q < 17 ∨ 62 < q → a q = hi q) ∧ hl = b ∧ sv_hr tw dr pm = c)) := by
  refine sv_entry (by decide +kernel) rfl rfl (Nat.le_of_ble_eq_true rfl) (by simp [Value.category, sv_rf]) [some (sv_rf G.1 0), some (.int x), none] rfl ?_
  refine S_aload_0 (pc := 0) dX7_back_0 ?_
  refine S_iload_1 (pc := 1) dX7_back_1 ?_
  refine caX7_246 (pc := 2) (t_X7_imageOf (l := l) (G := G) (x := x)) sh_0 (Nat.le_of_ble_eq_true rfl) ⟨rfl, rfl, ⟨by decide, by decide⟩, by decide, by decide⟩ dX7_back_2 (fun r2 a2 b2 c2 p2 => ?_)
  obtain ⟨rfl, rfl, rfl, rfl⟩ := p2
  
  cases hc : imgOf x with
  | none =>
    rw [show sv_rv G.1 none = Value.null from rfl]
    refine S_astoreN_2 (pc := 5) dX7_back_5 (by decide) ?_
    refine S_aloadN_2 (pc := 6) dX7_back_6 ?_
    refine J_ifnonnullN (pc := 7) dX7_back_7 ?_
    refine J_iconst (pc := 10) (-1) rfl dX7_back_10 ?_
    exact J_ireturn (pc := 11) dX7_back_11 rfl rfl ⟨_, rfl, rfl, (Or.inl ⟨rfl, rfl, rfl, rfl, rfl⟩)⟩
  | some im =>
    rw [show sv_rv G.1 (some im) = sv_rf G.1 im from rfl]
    have him : im = 70 ∨ im = 117 := by unfold imgOf at hc; split at hc; (· cases hc; exact Or.inl rfl); split at hc; (· cases hc; exact Or.inr rfl); cases hc
    rcases him with rfl | rfl
    · refine S_astore_2 (pc := 5) dX7_back_5 (by decide) ?_
      refine S_aload_2 (pc := 6) dX7_back_6 ?_
      refine J_ifnonnull (pc := 7) 12 dX7_back_7 (by decide) ?_
      refine S_aload_2 (pc := 12) dX7_back_12 ?_
      refine fgX7_94 (pc := 13) sh_70 dX7_back_13 ?_
      refine J_if_ne (pc := 16) 22 dX7_back_16 (by decide) (fun h16 => ?_) (fun h16 => ?_)
      · refine S_aload_0 (pc := 22) dX7_back_22 ?_
        refine fgX7_29 (pc := 23) sh_0 hv_0_3 dX7_back_23 ?_
        refine S_aload_2 (pc := 26) dX7_back_26 ?_
        refine fgX7_250 (pc := 27) sh_70 hv_70_1 dX7_back_27 ?_
        refine caX7_253 (pc := 30) (t_X3_copyFrom (l := l) (G := G) sh_71 sh_17 (by decide)) sh_17 (Nat.le_of_ble_eq_true rfl) ⟨rfl, rfl, ⟨by decide, by decide⟩, by decide, by decide⟩ dX7_back_30 (fun a30 b30 c30 p30 => ?_)
        obtain ⟨k0, rfl, rfl⟩ := p30
        obtain ⟨K, hK10, hK⟩ := hkp 70 hc
        refine S_aload_0 (pc := 33) dX7_back_33 ?_
        refine fgX7_36 (pc := 34) sh_0 hv_0_4 dX7_back_34 ?_
        refine S_aload_2 (pc := 37) dX7_back_37 ?_
        refine fgX7_256 (pc := 38) sh_70 hv_70_2 dX7_back_38 ?_
        refine caX7_257 (pc := 41) (t_X4_copyFrom (l := l) (G := G) (K := K) (past21 hpm) past75 (by decide) (by rw [k0.1 75 (by decide)]; exact hK) hK10) sh_21 (Nat.le_of_ble_eq_true rfl) ⟨rfl, rfl, ⟨by decide, by decide⟩, by decide, by decide⟩ dX7_back_41 (fun a41 b41 c41 p41 => ?_)
        obtain ⟨m1, m2, m3, rfl, rfl⟩ := p41
        refine S_aload_0 (pc := 44) dX7_back_44 ?_
        refine fgX7_29 (pc := 45) sh_0 hv_0_3 dX7_back_45 ?_
        refine fgX7_150 (pc := 48) sh_17 dX7_back_48 ?_
        exact J_ireturn (pc := 51) dX7_back_51 rfl rfl ⟨_, rfl, rfl, (Or.inr (Or.inr ⟨70, rfl, h16, by rw [m3 17 (by decide) (by decide)]; exact k0.2.1 0 (by decide), k0.dy.of (fun _ _ _ => rfl) (fun q h1 h2 => m3 q (by omega) (by omega)), fun K2 hK2 e2 => by
                    have e3 := hK.symm.trans e2
                    rw [nI_eq (by omega) (by omega)] at e3
                    subst e3
                    exact ⟨m1, fun j hj => (m2 j hj).of (fun q h1 h2 => (k0.1 q (by omega)).symm) (fun _ _ _ => rfl)⟩, fun q hq => by rw [m3 q (by omega) (by omega), k0.1 q (by omega)], rfl, rfl⟩))⟩
      · refine J_bipush (pc := 19) (-2) rfl dX7_back_19 ?_
        exact J_ireturn (pc := 21) dX7_back_21 rfl rfl ⟨_, rfl, rfl, (Or.inr (Or.inl ⟨70, rfl, h16, rfl, rfl, rfl, rfl⟩))⟩
    · refine S_astore_2 (pc := 5) dX7_back_5 (by decide) ?_
      refine S_aload_2 (pc := 6) dX7_back_6 ?_
      refine J_ifnonnull (pc := 7) 12 dX7_back_7 (by decide) ?_
      refine S_aload_2 (pc := 12) dX7_back_12 ?_
      refine fgX7_94 (pc := 13) sh_117 dX7_back_13 ?_
      refine J_if_ne (pc := 16) 22 dX7_back_16 (by decide) (fun h16 => ?_) (fun h16 => ?_)
      · refine S_aload_0 (pc := 22) dX7_back_22 ?_
        refine fgX7_29 (pc := 23) sh_0 hv_0_3 dX7_back_23 ?_
        refine S_aload_2 (pc := 26) dX7_back_26 ?_
        refine fgX7_250 (pc := 27) sh_117 hv_117_1 dX7_back_27 ?_
        refine caX7_253 (pc := 30) (t_X3_copyFrom (l := l) (G := G) sh_118 sh_17 (by decide)) sh_17 (Nat.le_of_ble_eq_true rfl) ⟨rfl, rfl, ⟨by decide, by decide⟩, by decide, by decide⟩ dX7_back_30 (fun a30 b30 c30 p30 => ?_)
        obtain ⟨k0, rfl, rfl⟩ := p30
        obtain ⟨K, hK10, hK⟩ := hkp 117 hc
        refine S_aload_0 (pc := 33) dX7_back_33 ?_
        refine fgX7_36 (pc := 34) sh_0 hv_0_4 dX7_back_34 ?_
        refine S_aload_2 (pc := 37) dX7_back_37 ?_
        refine fgX7_256 (pc := 38) sh_117 hv_117_2 dX7_back_38 ?_
        refine caX7_257 (pc := 41) (t_X4_copyFrom (l := l) (G := G) (K := K) (past21 hpm) past122 (by decide) (by rw [k0.1 122 (by decide)]; exact hK) hK10) sh_21 (Nat.le_of_ble_eq_true rfl) ⟨rfl, rfl, ⟨by decide, by decide⟩, by decide, by decide⟩ dX7_back_41 (fun a41 b41 c41 p41 => ?_)
        obtain ⟨m1, m2, m3, rfl, rfl⟩ := p41
        refine S_aload_0 (pc := 44) dX7_back_44 ?_
        refine fgX7_29 (pc := 45) sh_0 hv_0_3 dX7_back_45 ?_
        refine fgX7_150 (pc := 48) sh_17 dX7_back_48 ?_
        exact J_ireturn (pc := 51) dX7_back_51 rfl rfl ⟨_, rfl, rfl, (Or.inr (Or.inr ⟨117, rfl, h16, by rw [m3 17 (by decide) (by decide)]; exact k0.2.1 0 (by decide), k0.dy.of (fun _ _ _ => rfl) (fun q h1 h2 => m3 q (by omega) (by omega)), fun K2 hK2 e2 => by
                    have e3 := hK.symm.trans e2
                    rw [nI_eq (by omega) (by omega)] at e3
                    subst e3
                    exact ⟨m1, fun j hj => (m2 j hj).of (fun q h1 h2 => (k0.1 q (by omega)).symm) (fun _ _ _ => rfl)⟩, fun q hq => by rw [m3 q (by omega) (by omega), k0.1 q (by omega)], rfl, rfl⟩))⟩
      · refine J_bipush (pc := 19) (-2) rfl dX7_back_19 ?_
        exact J_ireturn (pc := 21) dX7_back_21 rfl rfl ⟨_, rfl, rfl, (Or.inr (Or.inl ⟨117, rfl, h16, rfl, rfl, rfl, rfl⟩))⟩

