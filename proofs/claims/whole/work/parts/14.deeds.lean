def mStop (hours likes crowds : Nat → Int32) (hour s0 : Int32) (v0 : Nat → Int32) : Nat → Int32 × (Nat → Int32) × Nat
  | 0 => (s0, v0, 0)
  | t + 1 => if bt (mStop hours likes crowds hour s0 v0 t).1 t = true ∨ ¬ hours t = hour then mStop hours likes crowds hour s0 v0 t else ((mStop hours likes crowds hour s0 v0 t).1 ||| (1 <<< (nI t &&& 31)), upd (mStop hours likes crowds hour s0 v0 t).2.1 (likes t).toNatClampNeg ((mStop hours likes crowds hour s0 v0 t).2.1 (likes t).toNatClampNeg + crowds t), (mStop hours likes crowds hour s0 v0 t).2.2 + 1)
theorem us3 {f : Nat → Int32} {k : Nat} {x : Int32} : upd f k x k = x := by simp [upd]
theorem un3 {f : Nat → Int32} {k j : Nat} {x : Int32} (h : j ≠ k) : upd f k x j = f j := by simp [upd, h]
theorem uu {f : Nat → Int32} {k : Nat} {x z : Int32} : upd (upd f k x) k z = upd f k z := by
  funext j
  by_cases h : j = k <;> simp [upd, h]
set_option maxRecDepth 20000 in
set_option maxHeartbeats 2000000 in
theorem lo_X7_stopTrains {l : Launch} {G : svG} {hi : svH} {hl : svL} {tw dr : Nat} {pm : Nat → Nat} {T : Nat} (htw : svSH[tw]? = some (0, 6)) (hT : hi tw 3 = nI T) (hT8 : T ≤ 8) (hk6 : ∀ t, t < T → ∃ j, j < 6 ∧ hi 20 t = nI j) : ∀ t, t ≤ T → ∀ (h' : svH), (∀ q, q ≠ 17 → q ≠ 18 → h' q = hi q) → h' 17 = upd (hi 17) 3 (mStop (hi 19) (hi 20) (hi (tw + 2)) (hi 17 0) (hi 17 3) (hi 18) t).1 → h' 18 = (mStop (hi 19) (hi 20) (hi (tw + 2)) (hi 17 0) (hi 17 3) (hi 18) t).2.1 → svJ l G rX7_stopTrains mX7_stopTrains (sv_Fm G (fun v sh a b c => ∃ r, v = some (.int r) ∧ sh = svSH ∧ ((fun r a b c => nI (mStop (hi 19) (hi 20) (hi (tw + 2)) (hi 17 0) (hi 17 3) (hi 18) T).2.2 = r ∧ (∀ q, q ≠ 17 → q ≠ 18 → a q = hi q) ∧ a 17 = upd (hi 17) 3 (mStop (hi 19) (hi 20) (hi (tw + 2)) (hi 17 0) (hi 17 3) (hi 18) T).1 ∧ a 18 = (mStop (hi 19) (hi 20) (hi (tw + 2)) (hi 17 0) (hi 17 3) (hi 18) T).2.1 ∧ hl = b ∧ sv_hr tw dr pm = c)) r a b c) 0 0) 0 0 4 [some (sv_rf G.1 0), some (.int (nI (mStop (hi 19) (hi 20) (hi (tw + 2)) (hi 17 0) (hi 17 3) (hi 18) t).2.2)), some (.int (nI t))] [] svSH h' hl (sv_hr tw dr pm) := by
  have htw2 := sv_tw htw
  refine sv_up (fun t ht ih h' i1 i2 i3 => ?_)
  have s3 : h' 17 3 = (mStop (hi 19) (hi 20) (hi (tw + 2)) (hi 17 0) (hi 17 3) (hi 18) t).1 := by rw [i2, us3]
  have s0 : h' 17 0 = hi 17 0 := by rw [i2, un3 (by decide)]
  refine S_iload_2 (pc := 4) dX7_stopTrains_4 ?_
  refine S_aload_0 (pc := 5) dX7_stopTrains_5 ?_
  refine fgX7_10 (pc := 6) sh_0 hv_0_0 dX7_stopTrains_6 ?_
  refine fgX7_98 (pc := 9) htw dX7_stopTrains_9 ?_
  refine J_icmp_ge (pc := 12) 110 dX7_stopTrains_12 (by decide) (fun h12 => ?_) (fun h12 => ?_)
  · rw [i1 tw (by omega) (by omega), hT, nI_leI (by omega) (by omega)] at h12
    obtain rfl : t = T := by omega
    refine S_iload_1 (pc := 110) dX7_stopTrains_110 ?_
    exact J_ireturn (pc := 111) dX7_stopTrains_111 rfl rfl ⟨_, rfl, rfl, ⟨rfl, i1, i2, i3, rfl, rfl⟩⟩
  · rw [i1 tw (by omega) (by omega), hT, nI_leI (by omega) (by omega)] at h12
    obtain ⟨j, hj, hx20⟩ := hk6 t (by omega)
    refine S_aload_0 (pc := 15) dX7_stopTrains_15 ?_
    refine fgX7_29 (pc := 16) sh_0 hv_0_3 dX7_stopTrains_16 ?_
    refine fgX7_115 (pc := 19) sh_17 dX7_stopTrains_19 ?_
    refine S_iload_2 (pc := 22) dX7_stopTrains_22 ?_
    refine caX7_118 (pc := 23) (t_X7_bit_n (l := l) (G := G) (k := t) (by omega)) (Nat.le_of_ble_eq_true rfl) ⟨rfl, rfl, ⟨by decide, by decide⟩, by decide, by decide⟩ dX7_stopTrains_23 (fun r23 a23 b23 c23 p23 => ?_)
    obtain ⟨rfl, rfl, rfl, rfl⟩ := p23
    refine J_iconst (pc := 26) (1) rfl dX7_stopTrains_26 ?_
    refine J_icmp_eq (pc := 27) 104 dX7_stopTrains_27 (by decide) (fun h27 => ?_) (fun h27 => ?_)
    · rw [sv_b_1, s3] at h27
      refine S_inc_2 (pc := 104) (1) rfl dX7_stopTrains_104 (by decide) ?_
      refine J_goto (pc := 107) 4 dX7_stopTrains_107 (by decide) ?_
      exact svJ_ls (by rw [mStop, if_pos (Or.inl h27), nI_succ]) (ih (t + 1) (by omega) (by omega) _ i1 (by rw [mStop, if_pos (Or.inl h27)]; exact i2) (by rw [mStop, if_pos (Or.inl h27)]; exact i3))
    · rw [sv_b_1, s3] at h27
      refine S_aload_0 (pc := 30) dX7_stopTrains_30 ?_
      refine fgX7_29 (pc := 31) sh_0 hv_0_3 dX7_stopTrains_31 ?_
      refine fgX7_101 (pc := 34) sh_17 hv_17_6 dX7_stopTrains_34 ?_
      refine S_iload_2 (pc := 37) dX7_stopTrains_37 ?_
      refine caX7_105 (pc := 38) (t_X7_at_n (l := l) (G := G) (j := t) sh_19 (by omega) (by decide)) (Nat.le_of_ble_eq_true rfl) ⟨rfl, rfl, ⟨by decide, by decide⟩, by decide, by decide⟩ dX7_stopTrains_38 (fun r38 a38 b38 c38 p38 => ?_)
      obtain ⟨rfl, rfl, rfl, rfl⟩ := p38
      refine S_aload_0 (pc := 41) dX7_stopTrains_41 ?_
      refine fgX7_29 (pc := 42) sh_0 hv_0_3 dX7_stopTrains_42 ?_
      refine fgX7_150 (pc := 45) sh_17 dX7_stopTrains_45 ?_
      refine J_icmp_eq (pc := 48) 54 dX7_stopTrains_48 (by decide) (fun h48 => ?_) (fun h48 => ?_)
      · rw [s0, i1 19 (by decide) (by decide)] at h48
        refine S_aload_0 (pc := 54) dX7_stopTrains_54 ?_
        refine fgX7_29 (pc := 55) sh_0 hv_0_3 dX7_stopTrains_55 ?_
        refine fgX7_179 (pc := 58) sh_17 hv_17_5 dX7_stopTrains_58 ?_
        refine S_aload_0 (pc := 61) dX7_stopTrains_61 ?_
        refine fgX7_29 (pc := 62) sh_0 hv_0_3 dX7_stopTrains_62 ?_
        refine fgX7_112 (pc := 65) sh_17 hv_17_7 dX7_stopTrains_65 ?_
        refine S_iload_2 (pc := 68) dX7_stopTrains_68 ?_
        refine caX7_105 (pc := 69) (t_X7_at_n (l := l) (G := G) (j := t) sh_20 (by omega) (by decide)) (Nat.le_of_ble_eq_true rfl) ⟨rfl, rfl, ⟨by decide, by decide⟩, by decide, by decide⟩ dX7_stopTrains_69 (fun r69 a69 b69 c69 p69 => ?_)
        obtain ⟨rfl, rfl, rfl, rfl⟩ := p69
        refine S_aload_0 (pc := 72) dX7_stopTrains_72 ?_
        refine fgX7_10 (pc := 73) sh_0 hv_0_0 dX7_stopTrains_73 ?_
        refine fgX7_109 (pc := 76) htw (hv_T6 htw) dX7_stopTrains_76 ?_
        refine S_iload_2 (pc := 79) dX7_stopTrains_79 ?_
        refine caX7_105 (pc := 80) (t_X7_at_n (l := l) (G := G) (j := t) (ar_T6 htw) (by omega) (by decide)) (Nat.le_of_ble_eq_true rfl) ⟨rfl, rfl, ⟨by decide, by decide⟩, by decide, by decide⟩ dX7_stopTrains_80 (fun r80 a80 b80 c80 p80 => ?_)
        obtain ⟨rfl, rfl, rfl, rfl⟩ := p80
        refine caX7_163 (pc := 83) (t_X7_raise_x (l := l) (G := G) j (by rw [i1 20 (by decide) (by decide)]; exact hx20) sh_18 hj (by decide)) (Nat.le_of_ble_eq_true rfl) ⟨rfl, rfl, ⟨by decide, by decide⟩, by decide, by decide⟩ dX7_stopTrains_83 (fun a83 b83 c83 p83 => ?_)
        obtain ⟨rfl, rfl, rfl⟩ := p83
        refine S_aload_0 (pc := 86) dX7_stopTrains_86 ?_
        refine fgX7_29 (pc := 87) sh_0 hv_0_3 dX7_stopTrains_87 ?_
        refine J_dup (pc := 90) rfl dX7_stopTrains_90 ?_
        refine fgX7_115 (pc := 91) sh_17 dX7_stopTrains_91 ?_
        refine J_iconst (pc := 94) (1) rfl dX7_stopTrains_94 ?_
        refine S_iload_2 (pc := 95) dX7_stopTrains_95 ?_
        refine J_ishl (pc := 96) dX7_stopTrains_96 ?_
        refine J_ior (pc := 97) dX7_stopTrains_97 ?_
        refine fpX7_115 (pc := 98) sh_17 dX7_stopTrains_98 ?_
        refine S_inc_1 (pc := 101) (1) rfl dX7_stopTrains_101 (by decide) ?_
        refine S_inc_2 (pc := 104) (1) rfl dX7_stopTrains_104 (by decide) ?_
        refine J_goto (pc := 107) 4 dX7_stopTrains_107 (by decide) ?_
        first
        | exact svJ_ls (by rw [mStop, if_pos (Or.inr h48), nI_succ]) (ih (t + 1) (by omega) (by omega) _ i1 (by rw [mStop, if_pos (Or.inr h48)]; exact i2) (by rw [mStop, if_pos (Or.inr h48)]; exact i3))
        | exact svJ_ls (by rw [mStop, if_neg (by simp only [not_or, Classical.not_not]; exact ⟨h27, h48⟩), nI_succ, nI_succ]) (ih (t + 1) (by omega) (by omega) _ (fun q g1 g2 => by rw [sv_u2_off g1, sv_u2_off g2]; exact i1 q g1 g2) (by
            rw [mStop, if_neg (by simp only [not_or, Classical.not_not]; exact ⟨h27, h48⟩), sv_u2_row, sv_u2_off (by decide), i2, us3, uu]) (by
            rw [mStop, if_neg (by simp only [not_or, Classical.not_not]; exact ⟨h27, h48⟩), sv_u2_off (by decide), sv_u2_row, i3, hx20, nI_clamp (by omega), i1 (tw + 2) (by omega) (by omega)]))
      · rw [s0, i1 19 (by decide) (by decide)] at h48
        refine J_goto (pc := 51) 104 dX7_stopTrains_51 (by decide) ?_
        refine S_inc_2 (pc := 104) (1) rfl dX7_stopTrains_104 (by decide) ?_
        refine J_goto (pc := 107) 4 dX7_stopTrains_107 (by decide) ?_
        first
        | exact svJ_ls (by rw [mStop, if_pos (Or.inr h48), nI_succ]) (ih (t + 1) (by omega) (by omega) _ i1 (by rw [mStop, if_pos (Or.inr h48)]; exact i2) (by rw [mStop, if_pos (Or.inr h48)]; exact i3))
        | exact svJ_ls (by rw [mStop, if_neg (by simp only [not_or, Classical.not_not]; exact ⟨h27, h48⟩), nI_succ, nI_succ]) (ih (t + 1) (by omega) (by omega) _ (fun q g1 g2 => by rw [sv_u2_off g1, sv_u2_off g2]; exact i1 q g1 g2) (by
            rw [mStop, if_neg (by simp only [not_or, Classical.not_not]; exact ⟨h27, h48⟩), sv_u2_row, sv_u2_off (by decide), i2, us3, uu]) (by
            rw [mStop, if_neg (by simp only [not_or, Classical.not_not]; exact ⟨h27, h48⟩), sv_u2_off (by decide), sv_u2_row, i3, hx20, nI_clamp (by omega), i1 (tw + 2) (by omega) (by omega)]))
set_option maxRecDepth 20000 in
set_option maxHeartbeats 2000000 in
theorem t_X7_stopTrains {l : Launch} {G : svG} {hi : svH} {hl : svL} {tw dr : Nat} {pm : Nat → Nat} {T : Nat} (htw : svSH[tw]? = some (0, 6)) (hT : hi tw 3 = nI T) (hT8 : T ≤ 8) (hk6 : ∀ t, t < T → ∃ j, j < 6 ∧ hi 20 t = nI j) : svI l G yX7_stopTrains mX7_stopTrains rX7_stopTrains [sv_rf G.1 0] hi hl (sv_hr tw dr pm) (fun r a b c => nI (mStop (hi 19) (hi 20) (hi (tw + 2)) (hi 17 0) (hi 17 3) (hi 18) T).2.2 = r ∧ (∀ q, q ≠ 17 → q ≠ 18 → a q = hi q) ∧ a 17 = upd (hi 17) 3 (mStop (hi 19) (hi 20) (hi (tw + 2)) (hi 17 0) (hi 17 3) (hi 18) T).1 ∧ a 18 = (mStop (hi 19) (hi 20) (hi (tw + 2)) (hi 17 0) (hi 17 3) (hi 18) T).2.1 ∧ hl = b ∧ sv_hr tw dr pm = c) := by
  refine sv_entry (by decide +kernel) rfl rfl (Nat.le_of_ble_eq_true rfl) (by simp [Value.category, sv_rf]) [some (sv_rf G.1 0), none, none] rfl ?_
  refine J_iconst (pc := 0) (0) rfl dX7_stopTrains_0 ?_
  refine S_istore_1 (pc := 1) dX7_stopTrains_1 (by decide) ?_
  refine J_iconst (pc := 2) (0) rfl dX7_stopTrains_2 ?_
  refine S_istore_2 (pc := 3) dX7_stopTrains_3 (by decide) ?_
  
  exact lo_X7_stopTrains htw hT hT8 hk6 0 (Nat.zero_le _) hi (fun _ _ _ => rfl) (by funext k; by_cases h : k = 3 <;> simp [upd, h, mStop]) rfl
/-- a deed: the day ahead of it is known, and the day is now this -/
def xDeed (hi a : svH) (tw dr : Nat) (pm : Nat → Nat) (K : Nat) (c : svR) (d17 d18 d19 d20 : Nat → Int32) : Prop := ∃ (pm' : Nat → Nat) (n : Nat), n ≤ 9 ∧ pmok pm' ∧ ((n = K ∧ pm' = pm) ∨ (K = 10 ∧ n = 9 ∧ rot pm pm')) ∧ a 21 0 = nI (n + 1) ∧ (∀ q, q ≠ 21 → q < pm' n ∨ pm' n + 3 < q → q < 17 ∨ 20 < q → a q = hi q) ∧ (∀ k, k < 5 → a (pm' n) k = hi 17 k) ∧ (∀ k, k < 6 → a (pm' n + 1) k = hi 18 k) ∧ (∀ k, k < 8 → a (pm' n + 2) k = hi 19 k) ∧ (∀ k, k < 8 → a (pm' n + 3) k = hi 20 k) ∧ a 17 = d17 ∧ a 18 = d18 ∧ a 19 = d19 ∧ a 20 = d20 ∧ sv_hr tw dr pm' = c
theorem xDeed_of {hi h1 a : svH} {tw dr : Nat} {pm pm' : Nat → Nat} {K n : Nat} {d17 d18 d19 d20 : Nat → Int32} (hn : n ≤ 9) (hpm : pmok pm') (hor : (n = K ∧ pm' = pm) ∨ (K = 10 ∧ n = 9 ∧ rot pm pm')) (hp : pushed hi h1 (pm' n) n) (ha : ∀ q, q < 17 ∨ 20 < q → a q = h1 q) (e17 : a 17 = d17) (e18 : a 18 = d18) (e19 : a 19 = d19) (e20 : a 20 = d20) : xDeed hi a tw dr pm K (sv_hr tw dr pm') d17 d18 d19 d20 := by
  have hq := hpm.1 n (by omega)
  obtain ⟨p1, p2, p3, p4, p5, p6⟩ := hp
  exact ⟨pm', n, hn, hpm, hor, by rw [ha 21 (by omega), p1], fun q g1 g2 g3 => by rw [ha q g3, p2 q g1 g2], fun k hk => by rw [ha _ (by omega), p3 k hk], fun k hk => by rw [ha _ (by omega), p4 k hk], fun k hk => by rw [ha _ (by omega), p5 k hk], fun k hk => by rw [ha _ (by omega), p6 k hk], e17, e18, e19, e20, rfl⟩
def xHour (hi : svH) (tw T : Nat) : Int32 × (Nat → Int32) × Nat := if hi 17 2 = 1 then (hi 17 3, hi 18, 0) else mStop (hi 19) (hi 20) (hi (tw + 2)) (hi 17 0) (hi 17 3) (hi 18) T
set_option maxRecDepth 20000 in
set_option maxHeartbeats 2000000 in
theorem t_X7_hour {l : Launch} {G : svG} {hi : svH} {hl : svL} {tw dr : Nat} {pm : Nat → Nat} {C L T Gn : Nat} (hx : xT hi tw C L T Gn) {K : Nat} (hK : hi 21 0 = nI K) (hK10 : K ≤ 10) (hpm : pmok pm)  : svI l G yX7_hour mX7_hour rX7_hour [sv_rf G.1 0] hi hl (sv_hr tw dr pm) (fun r a b c => (¬ (hi 17 0 ≤ 23) ∧ r = -2 ∧ hi = a ∧ hl = b ∧ sv_hr tw dr pm = c) ∨ ((hi 17 0 ≤ 23) ∧ r = nI (xHour hi tw T).2.2 ∧ xDeed hi a tw dr pm K c (upd (upd (hi 17) 3 (xHour hi tw T).1) 0 (hi 17 0 + 1)) (xHour hi tw T).2.1 (hi 19) (hi 20) ∧ hl = b)) := by
  obtain ⟨htw, hCc, hLc, hT, hGn, hC2, hC6, hL1, hLC, hT8, hG6, hf, hs, hk⟩ := id hx
  have htw2 := sv_tw htw
  have hk6 : ∀ t, t < T → ∃ j, j < 6 ∧ hi 20 t = nI j := fun t ht => (hk t ht).elim fun j h => ⟨j, by omega, h.2⟩
  have hf6 : ∀ r, r < Gn → ∃ j, j < 6 ∧ hi (tw + 5) r = nI j := fun r hr => (hf r hr).elim fun j h => ⟨j, by omega, h.2⟩
  have hs6 : ∀ r, r < Gn → ∃ j, j < 6 ∧ hi (tw + 6) r = nI j := fun r hr => (hs r hr).elim fun j h => ⟨j, by omega, h.2⟩
  refine sv_entry (by decide +kernel) rfl rfl (Nat.le_of_ble_eq_true rfl) (by simp [Value.category, sv_rf]) [some (sv_rf G.1 0), none] rfl ?_
  refine S_aload_0 (pc := 0) dX7_hour_0 ?_
  refine fgX7_29 (pc := 1) sh_0 hv_0_3 dX7_hour_1 ?_
  refine fgX7_150 (pc := 4) sh_17 dX7_hour_4 ?_
  refine J_bipush (pc := 7) (23) rfl dX7_hour_7 ?_
  refine J_icmp_le (pc := 9) 15 dX7_hour_9 (by decide) (fun h9 => ?_) (fun h9 => ?_)
  · refine S_aload_0 (pc := 15) dX7_hour_15 ?_
    refine fgX7_36 (pc := 16) sh_0 hv_0_4 dX7_hour_16 ?_
    refine S_aload_0 (pc := 19) dX7_hour_19 ?_
    refine fgX7_29 (pc := 20) sh_0 hv_0_3 dX7_hour_20 ?_
    refine caX7_153 (pc := 23) (t_X4_push (l := l) (G := G) hK hK10 hpm) sh_21 (Nat.le_of_ble_eq_true rfl) ⟨rfl, rfl, ⟨by decide, by decide⟩, by decide, by decide⟩ dX7_hour_23 (fun a23 b23 c23 p23 => ?_)
    obtain ⟨pm', n, hn, hpm', hor, hp, rfl, rfl⟩ := p23
    have hq := hpm'.1 n (by omega)
    have e17 : a23 17 = hi 17 := hp.2.1 17 (by decide) (by omega)
    have e18 : a23 18 = hi 18 := hp.2.1 18 (by decide) (by omega)
    have e19 : a23 19 = hi 19 := hp.2.1 19 (by decide) (by omega)
    have e20 : a23 20 = hi 20 := hp.2.1 20 (by decide) (by omega)
    have et : ∀ k, k < 7 → a23 (tw + k) = hi (tw + k) := fun k hk => hp.2.1 _ (by omega) (by omega)
    refine S_aload_0 (pc := 26) dX7_hour_26 ?_
    refine fgX7_29 (pc := 27) sh_0 hv_0_3 dX7_hour_27 ?_
    refine fgX7_157 (pc := 30) sh_17 dX7_hour_30 ?_
    refine J_iconst (pc := 33) (1) rfl dX7_hour_33 ?_
    refine J_icmp_ne (pc := 34) 41 dX7_hour_34 (by decide) (fun h34 => ?_) (fun h34 => ?_)
    · rw [e17] at h34
      refine S_aload_0 (pc := 41) dX7_hour_41 ?_
      refine caX7_160 (pc := 42) (t_X7_stopTrains (l := l) (G := G) (T := T) htw (by rw [show a23 tw = hi tw from et 0 (by omega)]; exact hT) hT8 (by rw [e20]; exact hk6)) sh_0 (Nat.le_of_ble_eq_true rfl) ⟨rfl, rfl, ⟨by decide, by decide⟩, by decide, by decide⟩ dX7_hour_42 (fun r42 a42 b42 c42 p42 => ?_)
      obtain ⟨rfl, j1, j2, j3, rfl, rfl⟩ := p42
      refine S_istore_1 (pc := 45) dX7_hour_45 (by decide) ?_
      refine S_aload_0 (pc := 46) dX7_hour_46 ?_
      refine fgX7_29 (pc := 47) sh_0 hv_0_3 dX7_hour_47 ?_
      refine J_dup (pc := 50) rfl dX7_hour_50 ?_
      refine fgX7_150 (pc := 51) sh_17 dX7_hour_51 ?_
      refine J_iconst (pc := 54) (1) rfl dX7_hour_54 ?_
      refine J_iadd (pc := 55) dX7_hour_55 ?_
      refine fpX7_150 (pc := 56) sh_17 dX7_hour_56 ?_
      refine S_iload_1 (pc := 59) dX7_hour_59 ?_
      exact J_ireturn (pc := 60) dX7_hour_60 rfl rfl ⟨_, rfl, rfl, (Or.inr ⟨h9, by unfold xHour; first | (rw [if_neg h34]; simp only [e17, e18, e19, e20, et 2 (by omega)]; done) | (rw [if_pos h34]; rfl), xDeed_of hn hpm' hor hp (fun q hq => by rw [sv_u2_off (by omega)]; try exact j1 q (by omega) (by omega)) (by unfold xHour; first | (rw [if_neg h34, sv_u2_row, j2, un3 (by decide), e17]; done) | (rw [if_neg h34, sv_u2_row, j2, un3 (by decide)]; simp only [e17, e18, e19, e20, et 2 (by omega)]; done) | (rw [if_pos h34, sv_u2_row, e17]; congr 1; funext k; by_cases h : k = 3 <;> simp [upd, h])) (by unfold xHour; first | (rw [if_neg h34, sv_u2_off (by decide), j3]; simp only [e17, e18, e19, e20, et 2 (by omega)]; done) | (rw [if_pos h34, sv_u2_off (by decide), e18])) (by rw [sv_u2_off (by decide)]; first | exact e19 | (rw [j1 19 (by decide) (by decide)]; exact e19)) (by rw [sv_u2_off (by decide)]; first | exact e20 | (rw [j1 20 (by decide) (by decide)]; exact e20)), rfl⟩)⟩
    · rw [e17] at h34
      refine J_iconst (pc := 37) (0) rfl dX7_hour_37 ?_
      refine J_goto (pc := 38) 45 dX7_hour_38 (by decide) ?_
      refine S_istore_1 (pc := 45) dX7_hour_45 (by decide) ?_
      refine S_aload_0 (pc := 46) dX7_hour_46 ?_
      refine fgX7_29 (pc := 47) sh_0 hv_0_3 dX7_hour_47 ?_
      refine J_dup (pc := 50) rfl dX7_hour_50 ?_
      refine fgX7_150 (pc := 51) sh_17 dX7_hour_51 ?_
      refine J_iconst (pc := 54) (1) rfl dX7_hour_54 ?_
      refine J_iadd (pc := 55) dX7_hour_55 ?_
      refine fpX7_150 (pc := 56) sh_17 dX7_hour_56 ?_
      refine S_iload_1 (pc := 59) dX7_hour_59 ?_
      exact J_ireturn (pc := 60) dX7_hour_60 rfl rfl ⟨_, rfl, rfl, (Or.inr ⟨h9, by unfold xHour; first | (rw [if_neg h34]; simp only [e17, e18, e19, e20, et 2 (by omega)]; done) | (rw [if_pos h34]; rfl), xDeed_of hn hpm' hor hp (fun q hq => by rw [sv_u2_off (by omega)]; try exact j1 q (by omega) (by omega)) (by unfold xHour; first | (rw [if_neg h34, sv_u2_row, j2, un3 (by decide), e17]; done) | (rw [if_neg h34, sv_u2_row, j2, un3 (by decide)]; simp only [e17, e18, e19, e20, et 2 (by omega)]; done) | (rw [if_pos h34, sv_u2_row, e17]; congr 1; funext k; by_cases h : k = 3 <;> simp [upd, h])) (by unfold xHour; first | (rw [if_neg h34, sv_u2_off (by decide), j3]; simp only [e17, e18, e19, e20, et 2 (by omega)]; done) | (rw [if_pos h34, sv_u2_off (by decide), e18])) (by rw [sv_u2_off (by decide)]; first | exact e19 | (rw [j1 19 (by decide) (by decide)]; exact e19)) (by rw [sv_u2_off (by decide)]; first | exact e20 | (rw [j1 20 (by decide) (by decide)]; exact e20)), rfl⟩)⟩
  · refine J_bipush (pc := 12) (-2) rfl dX7_hour_12 ?_
    exact J_ireturn (pc := 14) dX7_hour_14 rfl rfl ⟨_, rfl, rfl, (Or.inl ⟨h9, rfl, rfl, rfl, rfl⟩)⟩
set_option maxRecDepth 20000 in
set_option maxHeartbeats 2000000 in
theorem t_X7_holds {l : Launch} {G : svG} {hi : svH} {hl : svL} {tw dr : Nat} {pm : Nat → Nat} {C L T Gn : Nat} (hx : xT hi tw C L T Gn) {K : Nat} (hK : hi 21 0 = nI K) (hK10 : K ≤ 10) (hpm : pmok pm) {x : Int32} : svI l G yX7_holds mX7_holds rX7_holds [sv_rf G.1 0, .int x] hi hl (sv_hr tw dr pm) (fun r a b c => (¬ (0 ≤ x ∧ x < nI T) ∧ r = -1 ∧ hi = a ∧ hl = b ∧ sv_hr tw dr pm = c) ∨ ((0 ≤ x ∧ x < nI T) ∧ ¬ (bt (mOpen (hi 17 3) (hi 17 0) (hi 19) T) x.toNatClampNeg = true ∧ hi 19 x.toNatClampNeg < 23) ∧ r = -2 ∧ hi = a ∧ hl = b ∧ sv_hr tw dr pm = c) ∨ ((0 ≤ x ∧ x < nI T) ∧ (bt (mOpen (hi 17 3) (hi 17 0) (hi 19) T) x.toNatClampNeg = true ∧ hi 19 x.toNatClampNeg < 23) ∧ r = hi 19 x.toNatClampNeg + 1 ∧ xDeed hi a tw dr pm K c (hi 17) (hi 18) (upd (hi 19) x.toNatClampNeg (hi 19 x.toNatClampNeg + 1)) (hi 20) ∧ hl = b)) := by
  obtain ⟨htw, hCc, hLc, hT, hGn, hC2, hC6, hL1, hLC, hT8, hG6, hf, hs, hk⟩ := id hx
  have htw2 := sv_tw htw
  have hk6 : ∀ t, t < T → ∃ j, j < 6 ∧ hi 20 t = nI j := fun t ht => (hk t ht).elim fun j h => ⟨j, by omega, h.2⟩
  have hf6 : ∀ r, r < Gn → ∃ j, j < 6 ∧ hi (tw + 5) r = nI j := fun r hr => (hf r hr).elim fun j h => ⟨j, by omega, h.2⟩
  have hs6 : ∀ r, r < Gn → ∃ j, j < 6 ∧ hi (tw + 6) r = nI j := fun r hr => (hs r hr).elim fun j h => ⟨j, by omega, h.2⟩
  refine sv_entry (by decide +kernel) rfl rfl (Nat.le_of_ble_eq_true rfl) (by simp [Value.category, sv_rf]) [some (sv_rf G.1 0), some (.int x)] rfl ?_
  refine S_iload_1 (pc := 0) dX7_holds_0 ?_
  refine S_aload_0 (pc := 1) dX7_holds_1 ?_
  refine fgX7_10 (pc := 2) sh_0 hv_0_0 dX7_holds_2 ?_
  refine fgX7_98 (pc := 5) htw dX7_holds_5 ?_
  refine caX7_68 (pc := 8) (t_X7_isIn (l := l) (G := G)) (Nat.le_of_ble_eq_true rfl) ⟨rfl, rfl, ⟨by decide, by decide⟩, by decide, by decide⟩ dX7_holds_8 (fun r8 a8 b8 c8 p8 => ?_)
  obtain ⟨rfl, rfl, rfl, rfl⟩ := p8
  refine J_if_ne_b (pc := 11) 16 dX7_holds_11 (by decide) (fun h11 => ?_) (fun h11 => ?_)
  · rw [hT] at h11
    obtain ⟨j, hj, rfl⟩ := sv_ix h11 (by omega)
    have hcl : (nI j).toNatClampNeg = j := nI_clamp (by omega)
    refine S_aload_0 (pc := 16) dX7_holds_16 ?_
    refine caX7_140 (pc := 17) (t_X7_openTrains (l := l) (G := G) htw hT hT8) sh_0 (Nat.le_of_ble_eq_true rfl) ⟨rfl, rfl, ⟨by decide, by decide⟩, by decide, by decide⟩ dX7_holds_17 (fun r17 a17 b17 c17 p17 => ?_)
    obtain ⟨rfl, rfl, rfl, rfl⟩ := p17
    refine S_iload_1 (pc := 20) dX7_holds_20 ?_
    refine caX7_118 (pc := 21) (t_X7_bit_n (l := l) (G := G) (k := j) (by omega)) (Nat.le_of_ble_eq_true rfl) ⟨rfl, rfl, ⟨by decide, by decide⟩, by decide, by decide⟩ dX7_holds_21 (fun r21 a21 b21 c21 p21 => ?_)
    obtain ⟨rfl, rfl, rfl, rfl⟩ := p21
    refine J_if_eq_b (pc := 24) 43 dX7_holds_24 (by decide) (fun h24 => ?_) (fun h24 => ?_)
    · refine J_bipush (pc := 43) (-2) rfl dX7_holds_43 ?_
      exact J_ireturn (pc := 45) dX7_holds_45 rfl rfl ⟨_, rfl, rfl, (Or.inr (Or.inl ⟨h11, by rw [hcl]; exact fun z => h24 z.1, rfl, rfl, rfl, rfl⟩))⟩
    · refine S_aload_0 (pc := 27) dX7_holds_27 ?_
      refine fgX7_29 (pc := 28) sh_0 hv_0_3 dX7_holds_28 ?_
      refine fgX7_101 (pc := 31) sh_17 hv_17_6 dX7_holds_31 ?_
      refine S_iload_1 (pc := 34) dX7_holds_34 ?_
      refine caX7_105 (pc := 35) (t_X7_at_n (l := l) (G := G) (j := j) sh_19 (by omega) (by decide)) (Nat.le_of_ble_eq_true rfl) ⟨rfl, rfl, ⟨by decide, by decide⟩, by decide, by decide⟩ dX7_holds_35 (fun r35 a35 b35 c35 p35 => ?_)
      obtain ⟨rfl, rfl, rfl, rfl⟩ := p35
      refine J_bipush (pc := 38) (23) rfl dX7_holds_38 ?_
      refine J_icmp_lt (pc := 40) 46 dX7_holds_40 (by decide) (fun h40 => ?_) (fun h40 => ?_)
      · refine S_aload_0 (pc := 46) dX7_holds_46 ?_
        refine fgX7_36 (pc := 47) sh_0 hv_0_4 dX7_holds_47 ?_
        refine S_aload_0 (pc := 50) dX7_holds_50 ?_
        refine fgX7_29 (pc := 51) sh_0 hv_0_3 dX7_holds_51 ?_
        refine caX7_153 (pc := 54) (t_X4_push (l := l) (G := G) hK hK10 hpm) sh_21 (Nat.le_of_ble_eq_true rfl) ⟨rfl, rfl, ⟨by decide, by decide⟩, by decide, by decide⟩ dX7_holds_54 (fun a54 b54 c54 p54 => ?_)
        obtain ⟨pm', n, hn, hpm', hor, hp, rfl, rfl⟩ := p54
        have hq := hpm'.1 n (by omega)
        have e17 : a54 17 = hi 17 := hp.2.1 17 (by decide) (by omega)
        have e18 : a54 18 = hi 18 := hp.2.1 18 (by decide) (by omega)
        have e19 : a54 19 = hi 19 := hp.2.1 19 (by decide) (by omega)
        have e20 : a54 20 = hi 20 := hp.2.1 20 (by decide) (by omega)
        have et : ∀ k, k < 7 → a54 (tw + k) = hi (tw + k) := fun k hk => hp.2.1 _ (by omega) (by omega)
        refine S_aload_0 (pc := 57) dX7_holds_57 ?_
        refine fgX7_29 (pc := 58) sh_0 hv_0_3 dX7_holds_58 ?_
        refine fgX7_101 (pc := 61) sh_17 hv_17_6 dX7_holds_61 ?_
        refine S_iload_1 (pc := 64) dX7_holds_64 ?_
        refine J_iconst (pc := 65) (1) rfl dX7_holds_65 ?_
        refine caX7_163 (pc := 66) (t_X7_raise_x (l := l) (G := G) j rfl sh_19 (by omega) (by decide)) (Nat.le_of_ble_eq_true rfl) ⟨rfl, rfl, ⟨by decide, by decide⟩, by decide, by decide⟩ dX7_holds_66 (fun a66 b66 c66 p66 => ?_)
        obtain ⟨rfl, rfl, rfl⟩ := p66
        refine S_aload_0 (pc := 69) dX7_holds_69 ?_
        refine fgX7_29 (pc := 70) sh_0 hv_0_3 dX7_holds_70 ?_
        refine fgX7_101 (pc := 73) sh_17 hv_17_6 dX7_holds_73 ?_
        refine S_iload_1 (pc := 76) dX7_holds_76 ?_
        refine caX7_105 (pc := 77) (t_X7_at_n (l := l) (G := G) (j := j) sh_19 (by omega) (by decide)) (Nat.le_of_ble_eq_true rfl) ⟨rfl, rfl, ⟨by decide, by decide⟩, by decide, by decide⟩ dX7_holds_77 (fun r77 a77 b77 c77 p77 => ?_)
        obtain ⟨rfl, rfl, rfl, rfl⟩ := p77
        exact J_ireturn (pc := 80) dX7_holds_80 rfl rfl ⟨_, rfl, rfl, (by
              rw [hcl]
              first
              | exact Or.inr (Or.inl ⟨h11, fun z => h40 z.2, rfl, rfl, rfl, rfl⟩)
              | exact Or.inr (Or.inr ⟨h11, ⟨h24, h40⟩, by rw [sv_u2_row, e19, us3], xDeed_of hn hpm' hor hp (fun q hq => sv_u2_off (by omega)) (by rw [sv_u2_off (by decide), e17]) (by rw [sv_u2_off (by decide), e18]) (by rw [sv_u2_row, e19]) (by rw [sv_u2_off (by decide), e20]), rfl⟩))⟩
      · refine J_bipush (pc := 43) (-2) rfl dX7_holds_43 ?_
        exact J_ireturn (pc := 45) dX7_holds_45 rfl rfl ⟨_, rfl, rfl, (by
              rw [hcl]
              first
              | exact Or.inr (Or.inl ⟨h11, fun z => h40 z.2, rfl, rfl, rfl, rfl⟩)
              | exact Or.inr (Or.inr ⟨h11, ⟨h24, h40⟩, by rw [sv_u2_row, e19, us3], xDeed_of hn hpm' hor hp (fun q hq => sv_u2_off (by omega)) (by rw [sv_u2_off (by decide), e17]) (by rw [sv_u2_off (by decide), e18]) (by rw [sv_u2_row, e19]) (by rw [sv_u2_off (by decide), e20]), rfl⟩))⟩
  · refine J_iconst (pc := 14) (-1) rfl dX7_holds_14 ?_
    exact J_ireturn (pc := 15) dX7_holds_15 rfl rfl ⟨_, rfl, rfl, (Or.inl ⟨by rw [← hT]; exact h11, rfl, rfl, rfl, rfl⟩)⟩
set_option maxRecDepth 20000 in
set_option maxHeartbeats 2000000 in
theorem t_X7_canvasses {l : Launch} {G : svG} {hi : svH} {hl : svL} {tw dr : Nat} {pm : Nat → Nat} {C L T Gn : Nat} (hx : xT hi tw C L T Gn) {K : Nat} (hK : hi 21 0 = nI K) (hK10 : K ≤ 10) (hpm : pmok pm) {x z : Int32} : svI l G yX7_canvasses mX7_canvasses rX7_canvasses [sv_rf G.1 0, .int x, .int z] hi hl (sv_hr tw dr pm) (fun r a b c => (¬ ((0 ≤ x ∧ x < nI T) ∧ 0 ≤ z ∧ z < nI C) ∧ r = -1 ∧ hi = a ∧ hl = b ∧ sv_hr tw dr pm = c) ∨ (((0 ≤ x ∧ x < nI T) ∧ 0 ≤ z ∧ z < nI C) ∧ ¬ (¬ bt (hi 17 3) x.toNatClampNeg = true ∧ ¬ hi 20 x.toNatClampNeg = z ∧ 0 < hi 17 1) ∧ r = -2 ∧ hi = a ∧ hl = b ∧ sv_hr tw dr pm = c) ∨ (((0 ≤ x ∧ x < nI T) ∧ 0 ≤ z ∧ z < nI C) ∧ (¬ bt (hi 17 3) x.toNatClampNeg = true ∧ ¬ hi 20 x.toNatClampNeg = z ∧ 0 < hi 17 1) ∧ r = hi 17 1 - 1 ∧ xDeed hi a tw dr pm K c (upd (hi 17) 1 (hi 17 1 - 1)) (hi 18) (hi 19) (upd (hi 20) x.toNatClampNeg z) ∧ hl = b)) := by
  obtain ⟨htw, hCc, hLc, hT, hGn, hC2, hC6, hL1, hLC, hT8, hG6, hf, hs, hk⟩ := id hx
  have htw2 := sv_tw htw
  have hk6 : ∀ t, t < T → ∃ j, j < 6 ∧ hi 20 t = nI j := fun t ht => (hk t ht).elim fun j h => ⟨j, by omega, h.2⟩
  have hf6 : ∀ r, r < Gn → ∃ j, j < 6 ∧ hi (tw + 5) r = nI j := fun r hr => (hf r hr).elim fun j h => ⟨j, by omega, h.2⟩
  have hs6 : ∀ r, r < Gn → ∃ j, j < 6 ∧ hi (tw + 6) r = nI j := fun r hr => (hs r hr).elim fun j h => ⟨j, by omega, h.2⟩
  refine sv_entry (by decide +kernel) rfl rfl (Nat.le_of_ble_eq_true rfl) (by simp [Value.category, sv_rf]) [some (sv_rf G.1 0), some (.int x), some (.int z)] rfl ?_
  refine S_iload_1 (pc := 0) dX7_canvasses_0 ?_
  refine S_aload_0 (pc := 1) dX7_canvasses_1 ?_
  refine fgX7_10 (pc := 2) sh_0 hv_0_0 dX7_canvasses_2 ?_
  refine fgX7_98 (pc := 5) htw dX7_canvasses_5 ?_
  refine caX7_68 (pc := 8) (t_X7_isIn (l := l) (G := G)) (Nat.le_of_ble_eq_true rfl) ⟨rfl, rfl, ⟨by decide, by decide⟩, by decide, by decide⟩ dX7_canvasses_8 (fun r8 a8 b8 c8 p8 => ?_)
  obtain ⟨rfl, rfl, rfl, rfl⟩ := p8
  refine J_if_eq_b (pc := 11) 28 dX7_canvasses_11 (by decide) (fun h11 => ?_) (fun h11 => ?_)
  · refine J_iconst (pc := 28) (-1) rfl dX7_canvasses_28 ?_
    exact J_ireturn (pc := 29) dX7_canvasses_29 rfl rfl ⟨_, rfl, rfl, (Or.inl ⟨fun q => h11 (by rw [hT]; exact q.1), rfl, rfl, rfl, rfl⟩)⟩
  · rw [hT] at h11
    obtain ⟨j, hj, rfl⟩ := sv_ix h11 (by omega)
    have hcl : (nI j).toNatClampNeg = j := nI_clamp (by omega)
    refine S_iload_2 (pc := 14) dX7_canvasses_14 ?_
    refine S_aload_0 (pc := 15) dX7_canvasses_15 ?_
    refine fgX7_10 (pc := 16) sh_0 hv_0_0 dX7_canvasses_16 ?_
    refine fgX7_137 (pc := 19) htw dX7_canvasses_19 ?_
    refine caX7_68 (pc := 22) (t_X7_isIn (l := l) (G := G)) (Nat.le_of_ble_eq_true rfl) ⟨rfl, rfl, ⟨by decide, by decide⟩, by decide, by decide⟩ dX7_canvasses_22 (fun r22 a22 b22 c22 p22 => ?_)
    obtain ⟨rfl, rfl, rfl, rfl⟩ := p22
    refine J_if_ne_b (pc := 25) 30 dX7_canvasses_25 (by decide) (fun h25 => ?_) (fun h25 => ?_)
    · rw [hCc] at h25
      refine S_aload_0 (pc := 30) dX7_canvasses_30 ?_
      refine fgX7_29 (pc := 31) sh_0 hv_0_3 dX7_canvasses_31 ?_
      refine fgX7_115 (pc := 34) sh_17 dX7_canvasses_34 ?_
      refine S_iload_1 (pc := 37) dX7_canvasses_37 ?_
      refine caX7_118 (pc := 38) (t_X7_bit_n (l := l) (G := G) (k := j) (by omega)) (Nat.le_of_ble_eq_true rfl) ⟨rfl, rfl, ⟨by decide, by decide⟩, by decide, by decide⟩ dX7_canvasses_38 (fun r38 a38 b38 c38 p38 => ?_)
      obtain ⟨rfl, rfl, rfl, rfl⟩ := p38
      refine J_iconst (pc := 41) (1) rfl dX7_canvasses_41 ?_
      refine J_icmp_eq (pc := 42) 70 dX7_canvasses_42 (by decide) (fun h42 => ?_) (fun h42 => ?_)
      · rw [sv_b_1] at h42
        refine J_bipush (pc := 70) (-2) rfl dX7_canvasses_70 ?_
        exact J_ireturn (pc := 72) dX7_canvasses_72 rfl rfl ⟨_, rfl, rfl, (Or.inr (Or.inl ⟨⟨h11, h25⟩, by rw [hcl]; exact fun q => q.1 h42, rfl, rfl, rfl, rfl⟩))⟩
      · rw [sv_b_1] at h42
        refine S_aload_0 (pc := 45) dX7_canvasses_45 ?_
        refine fgX7_29 (pc := 46) sh_0 hv_0_3 dX7_canvasses_46 ?_
        refine fgX7_112 (pc := 49) sh_17 hv_17_7 dX7_canvasses_49 ?_
        refine S_iload_1 (pc := 52) dX7_canvasses_52 ?_
        refine caX7_105 (pc := 53) (t_X7_at_n (l := l) (G := G) (j := j) sh_20 (by omega) (by decide)) (Nat.le_of_ble_eq_true rfl) ⟨rfl, rfl, ⟨by decide, by decide⟩, by decide, by decide⟩ dX7_canvasses_53 (fun r53 a53 b53 c53 p53 => ?_)
        obtain ⟨rfl, rfl, rfl, rfl⟩ := p53
        refine S_iload_2 (pc := 56) dX7_canvasses_56 ?_
        refine J_icmp_eq (pc := 57) 70 dX7_canvasses_57 (by decide) (fun h57 => ?_) (fun h57 => ?_)
        · refine J_bipush (pc := 70) (-2) rfl dX7_canvasses_70 ?_
          exact J_ireturn (pc := 72) dX7_canvasses_72 rfl rfl ⟨_, rfl, rfl, (Or.inr (Or.inl ⟨⟨h11, h25⟩, by rw [hcl]; exact fun q => q.2.1 h57, rfl, rfl, rfl, rfl⟩))⟩
        · refine S_aload_0 (pc := 60) dX7_canvasses_60 ?_
          refine fgX7_29 (pc := 61) sh_0 hv_0_3 dX7_canvasses_61 ?_
          refine fgX7_167 (pc := 64) sh_17 dX7_canvasses_64 ?_
          refine J_if_gt (pc := 67) 73 dX7_canvasses_67 (by decide) (fun h67 => ?_) (fun h67 => ?_)
          · refine S_aload_0 (pc := 73) dX7_canvasses_73 ?_
            refine fgX7_36 (pc := 74) sh_0 hv_0_4 dX7_canvasses_74 ?_
            refine S_aload_0 (pc := 77) dX7_canvasses_77 ?_
            refine fgX7_29 (pc := 78) sh_0 hv_0_3 dX7_canvasses_78 ?_
            refine caX7_153 (pc := 81) (t_X4_push (l := l) (G := G) hK hK10 hpm) sh_21 (Nat.le_of_ble_eq_true rfl) ⟨rfl, rfl, ⟨by decide, by decide⟩, by decide, by decide⟩ dX7_canvasses_81 (fun a81 b81 c81 p81 => ?_)
            obtain ⟨pm', n, hn, hpm', hor, hp, rfl, rfl⟩ := p81
            have hq := hpm'.1 n (by omega)
            have e17 : a81 17 = hi 17 := hp.2.1 17 (by decide) (by omega)
            have e18 : a81 18 = hi 18 := hp.2.1 18 (by decide) (by omega)
            have e19 : a81 19 = hi 19 := hp.2.1 19 (by decide) (by omega)
            have e20 : a81 20 = hi 20 := hp.2.1 20 (by decide) (by omega)
            have et : ∀ k, k < 7 → a81 (tw + k) = hi (tw + k) := fun k hk => hp.2.1 _ (by omega) (by omega)
            refine S_aload_0 (pc := 84) dX7_canvasses_84 ?_
            refine fgX7_29 (pc := 85) sh_0 hv_0_3 dX7_canvasses_85 ?_
            refine fgX7_112 (pc := 88) sh_17 hv_17_7 dX7_canvasses_88 ?_
            refine S_iload_1 (pc := 91) dX7_canvasses_91 ?_
            refine S_iload_2 (pc := 92) dX7_canvasses_92 ?_
            refine caX7_170 (pc := 93) (t_X7_set_x (l := l) (G := G) j rfl sh_20 (by omega) (by decide)) (Nat.le_of_ble_eq_true rfl) ⟨rfl, rfl, ⟨by decide, by decide⟩, by decide, by decide⟩ dX7_canvasses_93 (fun a93 b93 c93 p93 => ?_)
            obtain ⟨rfl, rfl, rfl⟩ := p93
            refine S_aload_0 (pc := 96) dX7_canvasses_96 ?_
            refine fgX7_29 (pc := 97) sh_0 hv_0_3 dX7_canvasses_97 ?_
            refine J_dup (pc := 100) rfl dX7_canvasses_100 ?_
            refine fgX7_167 (pc := 101) sh_17 dX7_canvasses_101 ?_
            refine J_iconst (pc := 104) (1) rfl dX7_canvasses_104 ?_
            refine J_isub (pc := 105) dX7_canvasses_105 ?_
            refine fpX7_167 (pc := 106) sh_17 dX7_canvasses_106 ?_
            refine S_aload_0 (pc := 109) dX7_canvasses_109 ?_
            refine fgX7_29 (pc := 110) sh_0 hv_0_3 dX7_canvasses_110 ?_
            refine fgX7_167 (pc := 113) sh_17 dX7_canvasses_113 ?_
            exact J_ireturn (pc := 116) dX7_canvasses_116 rfl rfl ⟨_, rfl, rfl, (by
                  rw [hcl]
                  first
                  | exact Or.inr (Or.inl ⟨⟨h11, h25⟩, fun q => h67 q.2.2, rfl, rfl, rfl, rfl⟩)
                  | exact Or.inr (Or.inr ⟨⟨h11, h25⟩, ⟨h42, h57, h67⟩, by rw [sv_u2_at, sv_u2_off (by decide), e17], xDeed_of hn hpm' hor hp (fun q hq => by rw [sv_u2_off (by omega), sv_u2_off (by omega)]) (by rw [sv_u2_row, sv_u2_off (by decide), e17]) (by rw [sv_u2_off (by decide), sv_u2_off (by decide), e18]) (by rw [sv_u2_off (by decide), sv_u2_off (by decide), e19]) (by rw [sv_u2_off (by decide), sv_u2_row, e20]), rfl⟩))⟩
          · refine J_bipush (pc := 70) (-2) rfl dX7_canvasses_70 ?_
            exact J_ireturn (pc := 72) dX7_canvasses_72 rfl rfl ⟨_, rfl, rfl, (by
                  rw [hcl]
                  first
                  | exact Or.inr (Or.inl ⟨⟨h11, h25⟩, fun q => h67 q.2.2, rfl, rfl, rfl, rfl⟩)
                  | exact Or.inr (Or.inr ⟨⟨h11, h25⟩, ⟨h42, h57, h67⟩, by rw [sv_u2_at, sv_u2_off (by decide), e17], xDeed_of hn hpm' hor hp (fun q hq => by rw [sv_u2_off (by omega), sv_u2_off (by omega)]) (by rw [sv_u2_row, sv_u2_off (by decide), e17]) (by rw [sv_u2_off (by decide), sv_u2_off (by decide), e18]) (by rw [sv_u2_off (by decide), sv_u2_off (by decide), e19]) (by rw [sv_u2_off (by decide), sv_u2_row, e20]), rfl⟩))⟩
    · refine J_iconst (pc := 28) (-1) rfl dX7_canvasses_28 ?_
      exact J_ireturn (pc := 29) dX7_canvasses_29 rfl rfl ⟨_, rfl, rfl, (Or.inl ⟨fun q => h25 (by rw [hCc]; exact q.2), rfl, rfl, rfl, rfl⟩)⟩
set_option maxRecDepth 20000 in
set_option maxHeartbeats 2000000 in
theorem t_X7_fog {l : Launch} {G : svG} {hi : svH} {hl : svL} {tw dr : Nat} {pm : Nat → Nat} {C L T Gn : Nat} (hx : xT hi tw C L T Gn) {K : Nat} (hK : hi 21 0 = nI K) (hK10 : K ≤ 10) (hpm : pmok pm) {x : Int32} : svI l G yX7_fog mX7_fog rX7_fog [sv_rf G.1 0, .int x] hi hl (sv_hr tw dr pm) (fun r a b c => (¬ (0 ≤ x ∧ x < 2) ∧ r = -1 ∧ hi = a ∧ hl = b ∧ sv_hr tw dr pm = c) ∨ ((0 ≤ x ∧ x < 2) ∧ ¬ (¬ hi 17 2 = x) ∧ r = -2 ∧ hi = a ∧ hl = b ∧ sv_hr tw dr pm = c) ∨ ((0 ≤ x ∧ x < 2) ∧ (¬ hi 17 2 = x) ∧ r = nI T - sv_bc (hi 17 3) ∧ xDeed hi a tw dr pm K c (upd (hi 17) 2 x) (hi 18) (hi 19) (hi 20) ∧ hl = b)) := by
  obtain ⟨htw, hCc, hLc, hT, hGn, hC2, hC6, hL1, hLC, hT8, hG6, hf, hs, hk⟩ := id hx
  have htw2 := sv_tw htw
  have hk6 : ∀ t, t < T → ∃ j, j < 6 ∧ hi 20 t = nI j := fun t ht => (hk t ht).elim fun j h => ⟨j, by omega, h.2⟩
  have hf6 : ∀ r, r < Gn → ∃ j, j < 6 ∧ hi (tw + 5) r = nI j := fun r hr => (hf r hr).elim fun j h => ⟨j, by omega, h.2⟩
  have hs6 : ∀ r, r < Gn → ∃ j, j < 6 ∧ hi (tw + 6) r = nI j := fun r hr => (hs r hr).elim fun j h => ⟨j, by omega, h.2⟩
  refine sv_entry (by decide +kernel) rfl rfl (Nat.le_of_ble_eq_true rfl) (by simp [Value.category, sv_rf]) [some (sv_rf G.1 0), some (.int x)] rfl ?_
  refine S_iload_1 (pc := 0) dX7_fog_0 ?_
  refine J_iconst (pc := 1) (2) rfl dX7_fog_1 ?_
  refine caX7_68 (pc := 2) (t_X7_isIn (l := l) (G := G)) (Nat.le_of_ble_eq_true rfl) ⟨rfl, rfl, ⟨by decide, by decide⟩, by decide, by decide⟩ dX7_fog_2 (fun r2 a2 b2 c2 p2 => ?_)
  obtain ⟨rfl, rfl, rfl, rfl⟩ := p2
  refine J_if_ne_b (pc := 5) 10 dX7_fog_5 (by decide) (fun h5 => ?_) (fun h5 => ?_)
  · refine S_aload_0 (pc := 10) dX7_fog_10 ?_
    refine fgX7_29 (pc := 11) sh_0 hv_0_3 dX7_fog_11 ?_
    refine fgX7_157 (pc := 14) sh_17 dX7_fog_14 ?_
    refine S_iload_1 (pc := 17) dX7_fog_17 ?_
    refine J_icmp_ne (pc := 18) 24 dX7_fog_18 (by decide) (fun h18 => ?_) (fun h18 => ?_)
    · refine S_aload_0 (pc := 24) dX7_fog_24 ?_
      refine fgX7_36 (pc := 25) sh_0 hv_0_4 dX7_fog_25 ?_
      refine S_aload_0 (pc := 28) dX7_fog_28 ?_
      refine fgX7_29 (pc := 29) sh_0 hv_0_3 dX7_fog_29 ?_
      refine caX7_153 (pc := 32) (t_X4_push (l := l) (G := G) hK hK10 hpm) sh_21 (Nat.le_of_ble_eq_true rfl) ⟨rfl, rfl, ⟨by decide, by decide⟩, by decide, by decide⟩ dX7_fog_32 (fun a32 b32 c32 p32 => ?_)
      obtain ⟨pm', n, hn, hpm', hor, hp, rfl, rfl⟩ := p32
      have hq := hpm'.1 n (by omega)
      have e17 : a32 17 = hi 17 := hp.2.1 17 (by decide) (by omega)
      have e18 : a32 18 = hi 18 := hp.2.1 18 (by decide) (by omega)
      have e19 : a32 19 = hi 19 := hp.2.1 19 (by decide) (by omega)
      have e20 : a32 20 = hi 20 := hp.2.1 20 (by decide) (by omega)
      have et : ∀ k, k < 7 → a32 (tw + k) = hi (tw + k) := fun k hk => hp.2.1 _ (by omega) (by omega)
      refine S_aload_0 (pc := 35) dX7_fog_35 ?_
      refine fgX7_29 (pc := 36) sh_0 hv_0_3 dX7_fog_36 ?_
      refine S_iload_1 (pc := 39) dX7_fog_39 ?_
      refine fpX7_157 (pc := 40) sh_17 dX7_fog_40 ?_
      refine S_aload_0 (pc := 43) dX7_fog_43 ?_
      refine fgX7_10 (pc := 44) sh_0 hv_0_0 dX7_fog_44 ?_
      refine fgX7_98 (pc := 47) htw dX7_fog_47 ?_
      refine S_aload_0 (pc := 50) dX7_fog_50 ?_
      refine fgX7_29 (pc := 51) sh_0 hv_0_3 dX7_fog_51 ?_
      refine fgX7_115 (pc := 54) sh_17 dX7_fog_54 ?_
      refine caX7_173 (pc := 57) (t_J6_bitCount_0f7a4 (l := l) (G := G)) (Nat.le_of_ble_eq_true rfl) ⟨rfl, rfl, ⟨by decide, by decide⟩, by decide, by decide⟩ dX7_fog_57 (fun r57 a57 b57 c57 p57 => ?_)
      obtain ⟨rfl, rfl, rfl, rfl⟩ := p57
      refine J_isub (pc := 60) dX7_fog_60 ?_
      exact J_ireturn (pc := 61) dX7_fog_61 rfl rfl ⟨_, rfl, rfl, (by
            first
            | exact Or.inr (Or.inl ⟨h5, fun q => q h18, rfl, rfl, rfl, rfl⟩)
            | exact Or.inr (Or.inr ⟨h5, h18, by rw [sv_u2_off (by omega), sv_u2_row, un3 (by decide), e17, show a32 tw = hi tw from et 0 (by omega), hT], xDeed_of hn hpm' hor hp (fun q hq => by rw [sv_u2_off (by omega)]) (by rw [sv_u2_row, e17]) (by rw [sv_u2_off (by decide), e18]) (by rw [sv_u2_off (by decide), e19]) (by rw [sv_u2_off (by decide), e20]), rfl⟩))⟩
    · refine J_bipush (pc := 21) (-2) rfl dX7_fog_21 ?_
      exact J_ireturn (pc := 23) dX7_fog_23 rfl rfl ⟨_, rfl, rfl, (by
            first
            | exact Or.inr (Or.inl ⟨h5, fun q => q h18, rfl, rfl, rfl, rfl⟩)
            | exact Or.inr (Or.inr ⟨h5, h18, by rw [sv_u2_off (by omega), sv_u2_row, un3 (by decide), e17, show a32 tw = hi tw from et 0 (by omega), hT], xDeed_of hn hpm' hor hp (fun q hq => by rw [sv_u2_off (by omega)]) (by rw [sv_u2_row, e17]) (by rw [sv_u2_off (by decide), e18]) (by rw [sv_u2_off (by decide), e19]) (by rw [sv_u2_off (by decide), e20]), rfl⟩))⟩
  · refine J_iconst (pc := 8) (-1) rfl dX7_fog_8 ?_
    exact J_ireturn (pc := 9) dX7_fog_9 rfl rfl ⟨_, rfl, rfl, (Or.inl ⟨h5, rfl, rfl, rfl, rfl⟩)⟩
set_option maxRecDepth 20000 in
set_option maxHeartbeats 2000000 in
theorem t_X7_rugs {l : Launch} {G : svG} {hi : svH} {hl : svL} {tw dr : Nat} {pm : Nat → Nat} {C L T Gn : Nat} (hx : xT hi tw C L T Gn) {K : Nat} (hK : hi 21 0 = nI K) (hK10 : K ≤ 10) (hpm : pmok pm) {x : Int32} : svI l G yX7_rugs mX7_rugs rX7_rugs [sv_rf G.1 0, .int x] hi hl (sv_hr tw dr pm) (fun r a b c => (¬ (0 ≤ x ∧ x < nI Gn) ∧ r = -1 ∧ hi = a ∧ hl = b ∧ sv_hr tw dr pm = c) ∨ ((0 ≤ x ∧ x < nI Gn) ∧ ¬ (¬ bt (hi 17 4) x.toNatClampNeg = true) ∧ r = -2 ∧ hi = a ∧ hl = b ∧ sv_hr tw dr pm = c) ∨ ((0 ≤ x ∧ x < nI Gn) ∧ (¬ bt (hi 17 4) x.toNatClampNeg = true) ∧ r = hi 18 (hi (tw + 5) x.toNatClampNeg).toNatClampNeg + hi (tw + 4) x.toNatClampNeg ∧ xDeed hi a tw dr pm K c (upd (hi 17) 4 (hi 17 4 ||| (1 <<< (x &&& 31)))) (upd (hi 18) (hi (tw + 5) x.toNatClampNeg).toNatClampNeg (hi 18 (hi (tw + 5) x.toNatClampNeg).toNatClampNeg + hi (tw + 4) x.toNatClampNeg)) (hi 19) (hi 20) ∧ hl = b)) := by
  obtain ⟨htw, hCc, hLc, hT, hGn, hC2, hC6, hL1, hLC, hT8, hG6, hf, hs, hk⟩ := id hx
  have htw2 := sv_tw htw
  have hk6 : ∀ t, t < T → ∃ j, j < 6 ∧ hi 20 t = nI j := fun t ht => (hk t ht).elim fun j h => ⟨j, by omega, h.2⟩
  have hf6 : ∀ r, r < Gn → ∃ j, j < 6 ∧ hi (tw + 5) r = nI j := fun r hr => (hf r hr).elim fun j h => ⟨j, by omega, h.2⟩
  have hs6 : ∀ r, r < Gn → ∃ j, j < 6 ∧ hi (tw + 6) r = nI j := fun r hr => (hs r hr).elim fun j h => ⟨j, by omega, h.2⟩
  refine sv_entry (by decide +kernel) rfl rfl (Nat.le_of_ble_eq_true rfl) (by simp [Value.category, sv_rf]) [some (sv_rf G.1 0), some (.int x), none] rfl ?_
  refine S_iload_1 (pc := 0) dX7_rugs_0 ?_
  refine S_aload_0 (pc := 1) dX7_rugs_1 ?_
  refine fgX7_10 (pc := 2) sh_0 hv_0_0 dX7_rugs_2 ?_
  refine fgX7_122 (pc := 5) htw dX7_rugs_5 ?_
  refine caX7_68 (pc := 8) (t_X7_isIn (l := l) (G := G)) (Nat.le_of_ble_eq_true rfl) ⟨rfl, rfl, ⟨by decide, by decide⟩, by decide, by decide⟩ dX7_rugs_8 (fun r8 a8 b8 c8 p8 => ?_)
  obtain ⟨rfl, rfl, rfl, rfl⟩ := p8
  refine J_if_ne_b (pc := 11) 16 dX7_rugs_11 (by decide) (fun h11 => ?_) (fun h11 => ?_)
  · rw [hGn] at h11
    obtain ⟨j, hj, rfl⟩ := sv_ix h11 (by omega)
    have hcl : (nI j).toNatClampNeg = j := nI_clamp (by omega)
    obtain ⟨f, hf6, e5⟩ := hf6 j hj
    have hcf : (hi (tw + 5) j).toNatClampNeg = f := by rw [e5]; exact nI_clamp (by omega)
    refine S_aload_0 (pc := 16) dX7_rugs_16 ?_
    refine fgX7_29 (pc := 17) sh_0 hv_0_3 dX7_rugs_17 ?_
    refine fgX7_134 (pc := 20) sh_17 dX7_rugs_20 ?_
    refine S_iload_1 (pc := 23) dX7_rugs_23 ?_
    refine caX7_118 (pc := 24) (t_X7_bit_n (l := l) (G := G) (k := j) (by omega)) (Nat.le_of_ble_eq_true rfl) ⟨rfl, rfl, ⟨by decide, by decide⟩, by decide, by decide⟩ dX7_rugs_24 (fun r24 a24 b24 c24 p24 => ?_)
    obtain ⟨rfl, rfl, rfl, rfl⟩ := p24
    refine J_iconst (pc := 27) (1) rfl dX7_rugs_27 ?_
    refine J_icmp_ne (pc := 28) 34 dX7_rugs_28 (by decide) (fun h28 => ?_) (fun h28 => ?_)
    · rw [sv_b_1] at h28
      refine S_aload_0 (pc := 34) dX7_rugs_34 ?_
      refine fgX7_36 (pc := 35) sh_0 hv_0_4 dX7_rugs_35 ?_
      refine S_aload_0 (pc := 38) dX7_rugs_38 ?_
      refine fgX7_29 (pc := 39) sh_0 hv_0_3 dX7_rugs_39 ?_
      refine caX7_153 (pc := 42) (t_X4_push (l := l) (G := G) hK hK10 hpm) sh_21 (Nat.le_of_ble_eq_true rfl) ⟨rfl, rfl, ⟨by decide, by decide⟩, by decide, by decide⟩ dX7_rugs_42 (fun a42 b42 c42 p42 => ?_)
      obtain ⟨pm', n, hn, hpm', hor, hp, rfl, rfl⟩ := p42
      have hq := hpm'.1 n (by omega)
      have e17 : a42 17 = hi 17 := hp.2.1 17 (by decide) (by omega)
      have e18 : a42 18 = hi 18 := hp.2.1 18 (by decide) (by omega)
      have e19 : a42 19 = hi 19 := hp.2.1 19 (by decide) (by omega)
      have e20 : a42 20 = hi 20 := hp.2.1 20 (by decide) (by omega)
      have et : ∀ k, k < 7 → a42 (tw + k) = hi (tw + k) := fun k hk => hp.2.1 _ (by omega) (by omega)
      refine S_aload_0 (pc := 45) dX7_rugs_45 ?_
      refine fgX7_10 (pc := 46) sh_0 hv_0_0 dX7_rugs_46 ?_
      refine fgX7_128 (pc := 49) htw (hv_T9 htw) dX7_rugs_49 ?_
      refine S_iload_1 (pc := 52) dX7_rugs_52 ?_
      refine caX7_105 (pc := 53) (t_X7_at_n (l := l) (G := G) (j := j) (ar_T9 htw) (by omega) (by decide)) (Nat.le_of_ble_eq_true rfl) ⟨rfl, rfl, ⟨by decide, by decide⟩, by decide, by decide⟩ dX7_rugs_53 (fun r53 a53 b53 c53 p53 => ?_)
      obtain ⟨rfl, rfl, rfl, rfl⟩ := p53
      refine S_istore_2 (pc := 56) dX7_rugs_56 (by decide) ?_
      refine S_aload_0 (pc := 57) dX7_rugs_57 ?_
      refine fgX7_29 (pc := 58) sh_0 hv_0_3 dX7_rugs_58 ?_
      refine fgX7_179 (pc := 61) sh_17 hv_17_5 dX7_rugs_61 ?_
      refine S_iload_2 (pc := 64) dX7_rugs_64 ?_
      refine S_aload_0 (pc := 65) dX7_rugs_65 ?_
      refine fgX7_10 (pc := 66) sh_0 hv_0_0 dX7_rugs_66 ?_
      refine fgX7_125 (pc := 69) htw (hv_T8 htw) dX7_rugs_69 ?_
      refine S_iload_1 (pc := 72) dX7_rugs_72 ?_
      refine caX7_105 (pc := 73) (t_X7_at_n (l := l) (G := G) (j := j) (ar_T8 htw) (by omega) (by decide)) (Nat.le_of_ble_eq_true rfl) ⟨rfl, rfl, ⟨by decide, by decide⟩, by decide, by decide⟩ dX7_rugs_73 (fun r73 a73 b73 c73 p73 => ?_)
      obtain ⟨rfl, rfl, rfl, rfl⟩ := p73
      refine caX7_163 (pc := 76) (t_X7_raise_x (l := l) (G := G) f (by rw [et 5 (by omega)]; exact e5) sh_18 hf6 (by decide)) (Nat.le_of_ble_eq_true rfl) ⟨rfl, rfl, ⟨by decide, by decide⟩, by decide, by decide⟩ dX7_rugs_76 (fun a76 b76 c76 p76 => ?_)
      obtain ⟨rfl, rfl, rfl⟩ := p76
      refine S_aload_0 (pc := 79) dX7_rugs_79 ?_
      refine fgX7_29 (pc := 80) sh_0 hv_0_3 dX7_rugs_80 ?_
      refine J_dup (pc := 83) rfl dX7_rugs_83 ?_
      refine fgX7_134 (pc := 84) sh_17 dX7_rugs_84 ?_
      refine J_iconst (pc := 87) (1) rfl dX7_rugs_87 ?_
      refine S_iload_1 (pc := 88) dX7_rugs_88 ?_
      refine J_ishl (pc := 89) dX7_rugs_89 ?_
      refine J_ior (pc := 90) dX7_rugs_90 ?_
      refine fpX7_134 (pc := 91) sh_17 dX7_rugs_91 ?_
      refine S_aload_0 (pc := 94) dX7_rugs_94 ?_
      refine fgX7_29 (pc := 95) sh_0 hv_0_3 dX7_rugs_95 ?_
      refine fgX7_179 (pc := 98) sh_17 hv_17_5 dX7_rugs_98 ?_
      refine S_iload_2 (pc := 101) dX7_rugs_101 ?_
      refine caX7_105 (pc := 102) (t_X7_at_x (l := l) (G := G) f (by rw [et 5 (by omega)]; exact e5) sh_18 hf6 (by decide)) (Nat.le_of_ble_eq_true rfl) ⟨rfl, rfl, ⟨by decide, by decide⟩, by decide, by decide⟩ dX7_rugs_102 (fun r102 a102 b102 c102 p102 => ?_)
      obtain ⟨rfl, rfl, rfl, rfl⟩ := p102
      exact J_ireturn (pc := 105) dX7_rugs_105 rfl rfl ⟨_, rfl, rfl, (by
            rw [hcl, hcf]
            first
            | exact Or.inr (Or.inl ⟨h11, fun q => q h28, rfl, rfl, rfl, rfl⟩)
            | exact Or.inr (Or.inr ⟨h11, h28, by rw [sv_u2_off (by decide), sv_u2_row, us3, e18, et 4 (by omega)], xDeed_of hn hpm' hor hp (fun q hq => by rw [sv_u2_off (by omega), sv_u2_off (by omega)]) (by rw [sv_u2_row, sv_u2_off (by decide), e17]) (by rw [sv_u2_off (by decide), sv_u2_row, e18, et 4 (by omega)]) (by rw [sv_u2_off (by decide), sv_u2_off (by decide), e19]) (by rw [sv_u2_off (by decide), sv_u2_off (by decide), e20]), rfl⟩))⟩
    · rw [sv_b_1] at h28
      refine J_bipush (pc := 31) (-2) rfl dX7_rugs_31 ?_
      exact J_ireturn (pc := 33) dX7_rugs_33 rfl rfl ⟨_, rfl, rfl, (by
            rw [hcl, hcf]
            first
            | exact Or.inr (Or.inl ⟨h11, fun q => q h28, rfl, rfl, rfl, rfl⟩)
            | exact Or.inr (Or.inr ⟨h11, h28, by rw [sv_u2_off (by decide), sv_u2_row, us3, e18, et 4 (by omega)], xDeed_of hn hpm' hor hp (fun q hq => by rw [sv_u2_off (by omega), sv_u2_off (by omega)]) (by rw [sv_u2_row, sv_u2_off (by decide), e17]) (by rw [sv_u2_off (by decide), sv_u2_row, e18, et 4 (by omega)]) (by rw [sv_u2_off (by decide), sv_u2_off (by decide), e19]) (by rw [sv_u2_off (by decide), sv_u2_off (by decide), e20]), rfl⟩))⟩
  · refine J_iconst (pc := 14) (-1) rfl dX7_rugs_14 ?_
    exact J_ireturn (pc := 15) dX7_rugs_15 rfl rfl ⟨_, rfl, rfl, (Or.inl ⟨by rw [← hGn]; exact h11, rfl, rfl, rfl, rfl⟩)⟩
set_option maxRecDepth 20000 in
set_option maxHeartbeats 2000000 in
theorem t_X7_undo {l : Launch} {G : svG} {hi : svH} {hl : svL} {tw dr : Nat} {pm : Nat → Nat} {K : Nat} (hK : hi 21 0 = nI K) (hK10 : K ≤ 10) (hpm : pmok pm) : svI l G yX7_undo mX7_undo rX7_undo [sv_rf G.1 0] hi hl (sv_hr tw dr pm) (fun r a b c => (K = 0 ∧ r = -2 ∧ hi = a ∧ hl = b ∧ sv_hr tw dr pm = c) ∨ (∃ n, K = n + 1 ∧ r = nI n ∧ a 21 0 = nI n ∧ (∀ q, q ≠ 21 → q < 17 ∨ 20 < q → a q = hi q) ∧ (∀ k, k < 5 → a 17 k = hi (pm n) k) ∧ (∀ k, k < 6 → a 18 k = hi (pm n + 1) k) ∧ (∀ k, k < 8 → a 19 k = hi (pm n + 2) k) ∧ (∀ k, k < 8 → a 20 k = hi (pm n + 3) k) ∧ hl = b ∧ sv_hr tw dr pm = c)) := by
  refine sv_entry (by decide +kernel) rfl rfl (Nat.le_of_ble_eq_true rfl) (by simp [Value.category, sv_rf]) [some (sv_rf G.1 0)] rfl ?_
  refine S_aload_0 (pc := 0) dX7_undo_0 ?_
  refine fgX7_36 (pc := 1) sh_0 hv_0_4 dX7_undo_1 ?_
  refine fgX7_88 (pc := 4) sh_21 dX7_undo_4 ?_
  refine J_if_gt (pc := 7) 13 dX7_undo_7 (by decide) (fun h7 => ?_) (fun h7 => ?_)
  · rw [hK, show (0 : Int32) = nI 0 from rfl, nI_ltI (by omega) (by omega)] at h7
    obtain ⟨n, rfl⟩ : ∃ n, K = n + 1 := ⟨K - 1, by omega⟩
    refine S_aload_0 (pc := 13) dX7_undo_13 ?_
    refine fgX7_36 (pc := 14) sh_0 hv_0_4 dX7_undo_14 ?_
    refine S_aload_0 (pc := 17) dX7_undo_17 ?_
    refine fgX7_29 (pc := 18) sh_0 hv_0_3 dX7_undo_18 ?_
    refine caX7_182 (pc := 21) (t_X4_popInto (l := l) (G := G) (n := n) (by omega) hK hpm) sh_21 (Nat.le_of_ble_eq_true rfl) ⟨rfl, rfl, ⟨by decide, by decide⟩, by decide, by decide⟩ dX7_undo_21 (fun a21 b21 c21 p21 => ?_)
    obtain ⟨j1, j2, j3, j4, j5, j6, rfl, rfl⟩ := p21
    refine S_aload_0 (pc := 24) dX7_undo_24 ?_
    refine fgX7_36 (pc := 25) sh_0 hv_0_4 dX7_undo_25 ?_
    refine fgX7_88 (pc := 28) sh_21 dX7_undo_28 ?_
    exact J_ireturn (pc := 31) dX7_undo_31 rfl rfl ⟨_, rfl, rfl, (by first | exact Or.inl ⟨by omega, rfl, rfl, rfl, rfl⟩ | exact Or.inr ⟨n, rfl, j1, j1, j2, j3, j4, j5, j6, rfl, rfl⟩)⟩
  · rw [hK, show (0 : Int32) = nI 0 from rfl, nI_ltI (by omega) (by omega)] at h7
    refine J_bipush (pc := 10) (-2) rfl dX7_undo_10 ?_
    exact J_ireturn (pc := 12) dX7_undo_12 rfl rfl ⟨_, rfl, rfl, (by first | exact Or.inl ⟨by omega, rfl, rfl, rfl, rfl⟩ | exact Or.inr ⟨n, rfl, j1, j1, j2, j3, j4, j5, j6, rfl, rfl⟩)⟩
