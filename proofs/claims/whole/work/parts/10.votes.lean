theorem sv_tw {i : Nat} (h : svSH[i]? = some (0, 6)) : i = 1 ∨ i = 8 := by
  have h1 := sv_all (P := fun i => !(decide (svSH[i]? = some (0, 6))) || (decide (i = 1) || decide (i = 8))) (by decide +kernel) (sv_lt h)
  simpa [h] using h1
theorem t_X7_at_n {l : Launch} {G : svG} {hi : svH} {hl : svL} {hr : svR} {i n j : Nat} (hsh : svSH[i]? = some (1, n)) (hj : j < n) (hn : n < 2 ^ 31) : svIp l G yX7_at mX7_at rX7_at [sv_rf G.1 i, .int (nI j)] hi hl hr (hi i j) := by
  have h := t_X7_at (l := l) (G := G) (hi := hi) (hl := hl) (hr := hr) (x := nI j) hsh hn
  rw [sv_at_n hj hn] at h
  exact h
theorem t_X7_bit_n {l : Launch} {G : svG} {hi : svH} {hl : svL} {hr : svR} {b : Int32} {k : Nat} (hk : k < 32) : svIp l G yX7_bit mX7_bit rX7_bit [.int b, .int (nI k)] hi hl hr (sv_b (bt b k = true)) := by
  have h := t_X7_bit (l := l) (G := G) (hi := hi) (hl := hl) (hr := hr) (b := b) (i := nI k)
  rw [sv_bit_n b hk] at h
  exact h
theorem t_X7_at_x {l : Launch} {G : svG} {hi : svH} {hl : svL} {hr : svR} {i n : Nat} {x : Int32} (j : Nat) (hx : x = nI j) (hsh : svSH[i]? = some (1, n)) (hj : j < n) (hn : n < 2 ^ 31) : svIp l G yX7_at mX7_at rX7_at [sv_rf G.1 i, .int x] hi hl hr (hi i j) := by
  subst hx
  exact t_X7_at_n hsh hj hn
theorem t_X7_bit_x {l : Launch} {G : svG} {hi : svH} {hl : svL} {hr : svR} {b x : Int32} (k : Nat) (hx : x = nI k) (hk : k < 32) : svIp l G yX7_bit mX7_bit rX7_bit [.int b, .int x] hi hl hr (sv_b (bt b k = true)) := by
  subst hx
  exact t_X7_bit_n hk
theorem t_X7_set_x {l : Launch} {G : svG} {hi : svH} {hl : svL} {hr : svR} {i n : Nat} {x v : Int32} (j : Nat) (hx : x = nI j) (hsh : svSH[i]? = some (1, n)) (hj : j < n) (hn : n < 2 ^ 31) : svVh l G yX7_set mX7_set rX7_set [sv_rf G.1 i, .int x, .int v] hi hl hr (sv_u2 hi i j v) := by
  subst hx
  have h := t_X7_set (l := l) (G := G) (hi := hi) (hl := hl) (hr := hr) (x := nI j) (v := v) hsh hn
  unfold sv_set at h
  rw [if_pos ⟨nI_pos' (by omega), nI_lt hj hn⟩, nI_clamp (by omega)] at h
  exact h
theorem t_X7_raise_x {l : Launch} {G : svG} {hi : svH} {hl : svL} {hr : svR} {i n : Nat} {x v : Int32} (j : Nat) (hx : x = nI j) (hsh : svSH[i]? = some (1, n)) (hj : j < n) (hn : n < 2 ^ 31) : svVh l G yX7_raise mX7_raise rX7_raise [sv_rf G.1 i, .int x, .int v] hi hl hr (sv_u2 hi i j (hi i j + v)) := by
  subst hx
  have h := t_X7_raise (l := l) (G := G) (hi := hi) (hl := hl) (hr := hr) (x := nI j) (v := v) hsh hn
  unfold sv_set at h
  rw [if_pos ⟨nI_pos' (by omega), nI_lt hj hn⟩, nI_clamp (by omega)] at h
  exact h
set_option maxRecDepth 20000 in
set_option maxHeartbeats 2000000 in
theorem lo_X7_openTrains {l : Launch} {G : svG} {hi : svH} {hl : svL} {tw dr : Nat} {pm : Nat → Nat} {T : Nat} (htw : svSH[tw]? = some (0, 6)) (hT : hi tw 3 = nI T) (hT8 : T ≤ 8) : ∀ t, t ≤ T → svJ l G rX7_openTrains mX7_openTrains (sv_Fm G (fun v sh a b c => ∃ r, v = some (.int r) ∧ sh = svSH ∧ ((mOpen (hi 17 3) (hi 17 0) (hi 19) T) = r ∧ hi = a ∧ hl = b ∧ (sv_hr tw dr pm) = c)) 0 0) 0 0 4 [some (sv_rf G.1 0), some (.int (mOpen (hi 17 3) (hi 17 0) (hi 19) t)), some (.int (nI t))] [] svSH hi hl (sv_hr tw dr pm) := by
  refine sv_up (fun t ht ih => ?_)
  refine S_iload_2 (pc := 4) dX7_openTrains_4 ?_
  refine S_aload_0 (pc := 5) dX7_openTrains_5 ?_
  refine fgX7_10 (pc := 6) sh_0 hv_0_0 dX7_openTrains_6 ?_
  refine fgX7_98 (pc := 9) htw dX7_openTrains_9 ?_
  refine J_icmp_ge (pc := 12) 62 dX7_openTrains_12 (by decide) (fun h12 => ?_) (fun h12 => ?_)
  · rw [hT, nI_leI (by omega) (by omega)] at h12
    obtain rfl : t = T := by omega
    refine S_iload_1 (pc := 62) dX7_openTrains_62 ?_
    exact J_ireturn (pc := 63) dX7_openTrains_63 rfl rfl ⟨_, rfl, rfl, ⟨rfl, rfl, rfl, rfl⟩⟩
  · rw [hT, nI_leI (by omega) (by omega)] at h12
    refine S_aload_0 (pc := 15) dX7_openTrains_15 ?_
    refine fgX7_29 (pc := 16) sh_0 hv_0_3 dX7_openTrains_16 ?_
    refine fgX7_115 (pc := 19) sh_17 dX7_openTrains_19 ?_
    refine S_iload_2 (pc := 22) dX7_openTrains_22 ?_
    refine caX7_118 (pc := 23) (t_X7_bit_n (l := l) (G := G) (k := t) (by omega)) (Nat.le_of_ble_eq_true rfl) ⟨rfl, rfl, ⟨by decide, by decide⟩, by decide, by decide⟩ dX7_openTrains_23 (fun r23 a23 b23 c23 p23 => ?_)
    obtain ⟨rfl, rfl, rfl, rfl⟩ := p23
    refine J_if_ne_b (pc := 26) 56 dX7_openTrains_26 (by decide) (fun h26 => ?_) (fun h26 => ?_)
    · refine S_inc_2 (pc := 56) (1) rfl dX7_openTrains_56 (by decide) ?_
      refine J_goto (pc := 59) 4 dX7_openTrains_59 (by decide) ?_
      exact svJ_ls (by simp [mOpen, nI_succ, h12, h26]) (ih (t + 1) (by omega) (by omega))
    · refine S_aload_0 (pc := 29) dX7_openTrains_29 ?_
      refine fgX7_29 (pc := 30) sh_0 hv_0_3 dX7_openTrains_30 ?_
      refine fgX7_101 (pc := 33) sh_17 hv_17_6 dX7_openTrains_33 ?_
      refine S_iload_2 (pc := 36) dX7_openTrains_36 ?_
      refine caX7_105 (pc := 37) (t_X7_at_n (l := l) (G := G) (j := t) sh_19 (by omega) (by decide)) (Nat.le_of_ble_eq_true rfl) ⟨rfl, rfl, ⟨by decide, by decide⟩, by decide, by decide⟩ dX7_openTrains_37 (fun r37 a37 b37 c37 p37 => ?_)
      obtain ⟨rfl, rfl, rfl, rfl⟩ := p37
      refine S_aload_0 (pc := 40) dX7_openTrains_40 ?_
      refine fgX7_29 (pc := 41) sh_0 hv_0_3 dX7_openTrains_41 ?_
      refine fgX7_150 (pc := 44) sh_17 dX7_openTrains_44 ?_
      refine J_icmp_lt (pc := 47) 56 dX7_openTrains_47 (by decide) (fun h47 => ?_) (fun h47 => ?_)
      · refine S_inc_2 (pc := 56) (1) rfl dX7_openTrains_56 (by decide) ?_
        refine J_goto (pc := 59) 4 dX7_openTrains_59 (by decide) ?_
        exact svJ_ls (by simp [mOpen, nI_succ, h12, h26, h47]) (ih (t + 1) (by omega) (by omega))
      · refine S_iload_1 (pc := 50) dX7_openTrains_50 ?_
        refine J_iconst (pc := 51) (1) rfl dX7_openTrains_51 ?_
        refine S_iload_2 (pc := 52) dX7_openTrains_52 ?_
        refine J_ishl (pc := 53) dX7_openTrains_53 ?_
        refine J_ior (pc := 54) dX7_openTrains_54 ?_
        refine S_istore_1 (pc := 55) dX7_openTrains_55 (by decide) ?_
        refine S_inc_2 (pc := 56) (1) rfl dX7_openTrains_56 (by decide) ?_
        refine J_goto (pc := 59) 4 dX7_openTrains_59 (by decide) ?_
        exact svJ_ls (by simp [mOpen, nI_succ, h12, h26, h47]) (ih (t + 1) (by omega) (by omega))
set_option maxRecDepth 20000 in
set_option maxHeartbeats 2000000 in
theorem t_X7_openTrains {l : Launch} {G : svG} {hi : svH} {hl : svL} {tw dr : Nat} {pm : Nat → Nat} {T : Nat} (htw : svSH[tw]? = some (0, 6)) (hT : hi tw 3 = nI T) (hT8 : T ≤ 8) : svIp l G yX7_openTrains mX7_openTrains rX7_openTrains [sv_rf G.1 0] hi hl (sv_hr tw dr pm) (mOpen (hi 17 3) (hi 17 0) (hi 19) T) := by
  refine sv_entry (by decide +kernel) rfl rfl (Nat.le_of_ble_eq_true rfl) (by simp [Value.category, sv_rf]) [some (sv_rf G.1 0), none, none] rfl ?_
  refine J_iconst (pc := 0) (0) rfl dX7_openTrains_0 ?_
  refine S_istore_1 (pc := 1) dX7_openTrains_1 (by decide) ?_
  refine J_iconst (pc := 2) (0) rfl dX7_openTrains_2 ?_
  refine S_istore_2 (pc := 3) dX7_openTrains_3 (by decide) ?_
  
  exact lo_X7_openTrains htw hT hT8 0 (Nat.zero_le _)
set_option maxRecDepth 20000 in
set_option maxHeartbeats 2000000 in
theorem lo_X7_trainsFor {l : Launch} {G : svG} {hi : svH} {hl : svL} {tw dr : Nat} {pm : Nat → Nat} {T : Nat} (htw : svSH[tw]? = some (0, 6)) (hT : hi tw 3 = nI T) (hT8 : T ≤ 8) {cd : Int32} : ∀ t, t ≤ T → svJ l G rX7_trainsFor mX7_trainsFor (sv_Fm G (fun v sh a b c => ∃ r, v = some (.int r) ∧ sh = svSH ∧ ((mFor (hi 20) cd T) = r ∧ hi = a ∧ hl = b ∧ (sv_hr tw dr pm) = c)) 0 0) 0 0 4 [some (sv_rf G.1 0), some (.int cd), some (.int (mFor (hi 20) cd t)), some (.int (nI t))] [] svSH hi hl (sv_hr tw dr pm) := by
  refine sv_up (fun t ht ih => ?_)
  refine S_iload_3 (pc := 4) dX7_trainsFor_4 ?_
  refine S_aload_0 (pc := 5) dX7_trainsFor_5 ?_
  refine fgX7_10 (pc := 6) sh_0 hv_0_0 dX7_trainsFor_6 ?_
  refine fgX7_98 (pc := 9) htw dX7_trainsFor_9 ?_
  refine J_icmp_ge (pc := 12) 42 dX7_trainsFor_12 (by decide) (fun h12 => ?_) (fun h12 => ?_)
  · rw [hT, nI_leI (by omega) (by omega)] at h12
    obtain rfl : t = T := by omega
    refine S_iload_2 (pc := 42) dX7_trainsFor_42 ?_
    exact J_ireturn (pc := 43) dX7_trainsFor_43 rfl rfl ⟨_, rfl, rfl, ⟨rfl, rfl, rfl, rfl⟩⟩
  · rw [hT, nI_leI (by omega) (by omega)] at h12
    refine S_aload_0 (pc := 15) dX7_trainsFor_15 ?_
    refine fgX7_29 (pc := 16) sh_0 hv_0_3 dX7_trainsFor_16 ?_
    refine fgX7_112 (pc := 19) sh_17 hv_17_7 dX7_trainsFor_19 ?_
    refine S_iload_3 (pc := 22) dX7_trainsFor_22 ?_
    refine caX7_105 (pc := 23) (t_X7_at_n (l := l) (G := G) (j := t) sh_20 (by omega) (by decide)) (Nat.le_of_ble_eq_true rfl) ⟨rfl, rfl, ⟨by decide, by decide⟩, by decide, by decide⟩ dX7_trainsFor_23 (fun r23 a23 b23 c23 p23 => ?_)
    obtain ⟨rfl, rfl, rfl, rfl⟩ := p23
    refine S_iload_1 (pc := 26) dX7_trainsFor_26 ?_
    refine J_icmp_ne (pc := 27) 36 dX7_trainsFor_27 (by decide) (fun h27 => ?_) (fun h27 => ?_)
    · refine S_inc_3 (pc := 36) (1) rfl dX7_trainsFor_36 (by decide) ?_
      refine J_goto (pc := 39) 4 dX7_trainsFor_39 (by decide) ?_
      exact svJ_ls (by simp [mFor, nI_succ, h12, h27]) (ih (t + 1) (by omega) (by omega))
    · refine S_iload_2 (pc := 30) dX7_trainsFor_30 ?_
      refine J_iconst (pc := 31) (1) rfl dX7_trainsFor_31 ?_
      refine S_iload_3 (pc := 32) dX7_trainsFor_32 ?_
      refine J_ishl (pc := 33) dX7_trainsFor_33 ?_
      refine J_ior (pc := 34) dX7_trainsFor_34 ?_
      refine S_istore_2 (pc := 35) dX7_trainsFor_35 (by decide) ?_
      refine S_inc_3 (pc := 36) (1) rfl dX7_trainsFor_36 (by decide) ?_
      refine J_goto (pc := 39) 4 dX7_trainsFor_39 (by decide) ?_
      exact svJ_ls (by simp [mFor, nI_succ, h12, h27]) (ih (t + 1) (by omega) (by omega))
set_option maxRecDepth 20000 in
set_option maxHeartbeats 2000000 in
theorem t_X7_trainsFor {l : Launch} {G : svG} {hi : svH} {hl : svL} {tw dr : Nat} {pm : Nat → Nat} {T : Nat} (htw : svSH[tw]? = some (0, 6)) (hT : hi tw 3 = nI T) (hT8 : T ≤ 8) {cd : Int32} : svIp l G yX7_trainsFor mX7_trainsFor rX7_trainsFor [sv_rf G.1 0, .int cd] hi hl (sv_hr tw dr pm) (mFor (hi 20) cd T) := by
  refine sv_entry (by decide +kernel) rfl rfl (Nat.le_of_ble_eq_true rfl) (by simp [Value.category, sv_rf]) [some (sv_rf G.1 0), some (.int cd), none, none] rfl ?_
  refine J_iconst (pc := 0) (0) rfl dX7_trainsFor_0 ?_
  refine S_istore_2 (pc := 1) dX7_trainsFor_1 (by decide) ?_
  refine J_iconst (pc := 2) (0) rfl dX7_trainsFor_2 ?_
  refine S_istore_3 (pc := 3) dX7_trainsFor_3 (by decide) ?_
  
  exact lo_X7_trainsFor htw hT hT8 0 (Nat.zero_le _)
set_option maxRecDepth 20000 in
set_option maxHeartbeats 2000000 in
theorem t_X0_open {l : Launch} {G : svG} {hi : svH} {hl : svL} {tw dr : Nat} {pm : Nat → Nat} : svVh l G yX0_open mX0_open rX0_open [sv_rf G.1 63, sv_rf G.1 18] hi hl (sv_hr tw dr pm) (sv_cp hi 18 64 6) := by
  refine sv_entry (by decide +kernel) rfl rfl (Nat.le_of_ble_eq_true rfl) (by simp [Value.category, sv_rf]) [some (sv_rf G.1 63), some (sv_rf G.1 18)] rfl ?_
  refine S_aload_1 (pc := 0) dX0_open_0 ?_
  refine S_aload_0 (pc := 1) dX0_open_1 ?_
  refine fgX0_9 (pc := 2) sh_63 hv_63_0 dX0_open_2 ?_
  refine caX0_18 (pc := 5) (t_X7_copy (l := l) (G := G) sh_18 sh_64 (by decide)) (Nat.le_of_ble_eq_true rfl) ⟨rfl, rfl, ⟨by decide, by decide⟩, by decide, by decide⟩ dX0_open_5 (fun a5 b5 c5 p5 => ?_)
  obtain ⟨rfl, rfl, rfl⟩ := p5
  exact J_return (pc := 8) dX0_open_8 rfl ⟨rfl, rfl, ⟨rfl, rfl, rfl⟩⟩
set_option maxRecDepth 20000 in
set_option maxHeartbeats 2000000 in
theorem lo_X7_castCanvassed {l : Launch} {G : svG} {hi : svH} {hl : svL} {tw dr : Nat} {pm : Nat → Nat} {T : Nat} (htw : svSH[tw]? = some (0, 6)) (hT : hi tw 3 = nI T) (hT8 : T ≤ 8) {stops canv by' : Int32} (hto : ∀ t, t < T → (if bt canv t = true then by' else hi 20 t) = nI (mTo canv by' (hi 20) t) ∧ mTo canv by' (hi 20) t < 6) : ∀ t, t ≤ T → ∀ (h' : svH) (z : Option Value), (∀ q, q ≠ 64 → h' q = hi q) → (∀ k, k < 6 → h' 64 k = mCast (hi 18) (hi (tw + 2)) (hi 20) stops canv by' t k) → svJ l G rX7_castCanvassed mX7_castCanvassed (sv_Fm G (fun v sh a b c => v = none ∧ sh = svSH ∧ ((fun a b c => (∀ q, q ≠ 64 → a q = hi q) ∧ (∀ k, k < 6 → a 64 k = mCast (hi 18) (hi (tw + 2)) (hi 20) stops canv by' T k) ∧ hl = b ∧ sv_hr tw dr pm = c)) a b c) 0 0) 0 0 17 [some (sv_rf G.1 0), some (.int stops), some (.int canv), some (.int by'), some (.int (nI t)), z] [] svSH h' hl (sv_hr tw dr pm) := by
  have htw2 := sv_tw htw
  refine sv_up (fun t ht ih h' z i1 i2 => ?_)
  refine S_iload_4 (pc := 17) dX7_castCanvassed_17 ?_
  refine S_aload_0 (pc := 19) dX7_castCanvassed_19 ?_
  refine fgX7_10 (pc := 20) sh_0 hv_0_0 dX7_castCanvassed_20 ?_
  refine fgX7_98 (pc := 23) htw dX7_castCanvassed_23 ?_
  refine J_icmp_ge (pc := 26) 99 dX7_castCanvassed_26 (by decide) (fun h26 => ?_) (fun h26 => ?_)
  · rw [i1 tw (by omega), hT, nI_leI (by omega) (by omega)] at h26
    obtain rfl : t = T := by omega
    exact J_return (pc := 99) dX7_castCanvassed_99 rfl ⟨rfl, rfl, ⟨i1, i2, rfl, rfl⟩⟩
  · rw [i1 tw (by omega), hT, nI_leI (by omega) (by omega)] at h26
    refine S_iload_1 (pc := 29) dX7_castCanvassed_29 ?_
    refine S_iload_4 (pc := 30) dX7_castCanvassed_30 ?_
    refine caX7_118 (pc := 32) (t_X7_bit_n (l := l) (G := G) (k := t) (by omega)) (Nat.le_of_ble_eq_true rfl) ⟨rfl, rfl, ⟨by decide, by decide⟩, by decide, by decide⟩ dX7_castCanvassed_32 (fun r32 a32 b32 c32 p32 => ?_)
    obtain ⟨rfl, rfl, rfl, rfl⟩ := p32
    refine J_if_ne_b (pc := 35) 41 dX7_castCanvassed_35 (by decide) (fun h35 => ?_) (fun h35 => ?_)
    · refine S_iload_2 (pc := 41) dX7_castCanvassed_41 ?_
      refine S_iload_4 (pc := 42) dX7_castCanvassed_42 ?_
      refine caX7_118 (pc := 44) (t_X7_bit_n (l := l) (G := G) (k := t) (by omega)) (Nat.le_of_ble_eq_true rfl) ⟨rfl, rfl, ⟨by decide, by decide⟩, by decide, by decide⟩ dX7_castCanvassed_44 (fun r44 a44 b44 c44 p44 => ?_)
      obtain ⟨rfl, rfl, rfl, rfl⟩ := p44
      refine J_iconst (pc := 47) (1) rfl dX7_castCanvassed_47 ?_
      refine J_icmp_ne (pc := 48) 55 dX7_castCanvassed_48 (by decide) (fun h48 => ?_) (fun h48 => ?_)
      · rw [sv_b_1] at h48
        refine S_aload_0 (pc := 55) dX7_castCanvassed_55 ?_
        refine fgX7_29 (pc := 56) sh_0 hv_0_3 dX7_castCanvassed_56 ?_
        refine fgX7_112 (pc := 59) sh_17 hv_17_7 dX7_castCanvassed_59 ?_
        refine S_iload_4 (pc := 62) dX7_castCanvassed_62 ?_
        refine caX7_105 (pc := 64) (t_X7_at_n (l := l) (G := G) (j := t) sh_20 (by omega) (by decide)) (Nat.le_of_ble_eq_true rfl) ⟨rfl, rfl, ⟨by decide, by decide⟩, by decide, by decide⟩ dX7_castCanvassed_64 (fun r64 a64 b64 c64 p64 => ?_)
        obtain ⟨rfl, rfl, rfl, rfl⟩ := p64
        refine S_istore_5 (pc := 67) dX7_castCanvassed_67 (by decide) ?_
        refine S_aload_0 (pc := 69) dX7_castCanvassed_69 ?_
        refine fgX7_43 (pc := 70) sh_0 hv_0_5 dX7_castCanvassed_70 ?_
        refine fgX7_147 (pc := 73) sh_63 hv_63_0 dX7_castCanvassed_73 ?_
        refine S_iload_5 (pc := 76) dX7_castCanvassed_76 ?_
        refine S_aload_0 (pc := 78) dX7_castCanvassed_78 ?_
        refine fgX7_10 (pc := 79) sh_0 hv_0_0 dX7_castCanvassed_79 ?_
        refine fgX7_109 (pc := 82) htw (hv_T6 htw) dX7_castCanvassed_82 ?_
        refine S_iload_4 (pc := 85) dX7_castCanvassed_85 ?_
        refine caX7_105 (pc := 87) (t_X7_at_n (l := l) (G := G) (j := t) (ar_T6 htw) (by omega) (by decide)) (Nat.le_of_ble_eq_true rfl) ⟨rfl, rfl, ⟨by decide, by decide⟩, by decide, by decide⟩ dX7_castCanvassed_87 (fun r87 a87 b87 c87 p87 => ?_)
        obtain ⟨rfl, rfl, rfl, rfl⟩ := p87
        refine caX7_163 (pc := 90) (t_X7_raise_x (l := l) (G := G) (mTo canv by' (hi 20) t) (by have := (hto t (by omega)).1; first | (rw [if_pos h48] at this; exact this) | (rw [if_neg h48] at this; rw [i1 20 (by decide)]; exact this)) sh_64 (hto t (by omega)).2 (by decide)) (Nat.le_of_ble_eq_true rfl) ⟨rfl, rfl, ⟨by decide, by decide⟩, by decide, by decide⟩ dX7_castCanvassed_90 (fun a90 b90 c90 p90 => ?_)
        obtain ⟨rfl, rfl, rfl⟩ := p90
        refine S_inc_4 (pc := 93) (1) rfl dX7_castCanvassed_93 (by decide) ?_
        refine J_goto (pc := 96) 17 dX7_castCanvassed_96 (by decide) ?_
        refine svJ_ls (by rw [nI_succ]) (ih (t + 1) (by omega) (by omega) _ _ (fun q hq => (sv_u2_off hq).trans (i1 q hq)) (fun k hk => ?_))
        rw [mCast, if_pos h35, sv_u2_row]
        unfold upd
        rw [i1 (tw + 2) (by omega), i2 _ (hto t (by omega)).2]
        by_cases hkk : k = mTo canv by' (hi 20) t
        · rw [if_pos hkk, if_pos hkk]
        · rw [if_neg hkk, if_neg hkk]; exact i2 k hk
      · rw [sv_b_1] at h48
        refine S_iload_3 (pc := 51) dX7_castCanvassed_51 ?_
        refine J_goto (pc := 52) 67 dX7_castCanvassed_52 (by decide) ?_
        refine S_istore_5 (pc := 67) dX7_castCanvassed_67 (by decide) ?_
        refine S_aload_0 (pc := 69) dX7_castCanvassed_69 ?_
        refine fgX7_43 (pc := 70) sh_0 hv_0_5 dX7_castCanvassed_70 ?_
        refine fgX7_147 (pc := 73) sh_63 hv_63_0 dX7_castCanvassed_73 ?_
        refine S_iload_5 (pc := 76) dX7_castCanvassed_76 ?_
        refine S_aload_0 (pc := 78) dX7_castCanvassed_78 ?_
        refine fgX7_10 (pc := 79) sh_0 hv_0_0 dX7_castCanvassed_79 ?_
        refine fgX7_109 (pc := 82) htw (hv_T6 htw) dX7_castCanvassed_82 ?_
        refine S_iload_4 (pc := 85) dX7_castCanvassed_85 ?_
        refine caX7_105 (pc := 87) (t_X7_at_n (l := l) (G := G) (j := t) (ar_T6 htw) (by omega) (by decide)) (Nat.le_of_ble_eq_true rfl) ⟨rfl, rfl, ⟨by decide, by decide⟩, by decide, by decide⟩ dX7_castCanvassed_87 (fun r87 a87 b87 c87 p87 => ?_)
        obtain ⟨rfl, rfl, rfl, rfl⟩ := p87
        refine caX7_163 (pc := 90) (t_X7_raise_x (l := l) (G := G) (mTo canv by' (hi 20) t) (by have := (hto t (by omega)).1; first | (rw [if_pos h48] at this; exact this) | (rw [if_neg h48] at this; rw [i1 20 (by decide)]; exact this)) sh_64 (hto t (by omega)).2 (by decide)) (Nat.le_of_ble_eq_true rfl) ⟨rfl, rfl, ⟨by decide, by decide⟩, by decide, by decide⟩ dX7_castCanvassed_90 (fun a90 b90 c90 p90 => ?_)
        obtain ⟨rfl, rfl, rfl⟩ := p90
        refine S_inc_4 (pc := 93) (1) rfl dX7_castCanvassed_93 (by decide) ?_
        refine J_goto (pc := 96) 17 dX7_castCanvassed_96 (by decide) ?_
        refine svJ_ls (by rw [nI_succ]) (ih (t + 1) (by omega) (by omega) _ _ (fun q hq => (sv_u2_off hq).trans (i1 q hq)) (fun k hk => ?_))
        rw [mCast, if_pos h35, sv_u2_row]
        unfold upd
        rw [i1 (tw + 2) (by omega), i2 _ (hto t (by omega)).2]
        by_cases hkk : k = mTo canv by' (hi 20) t
        · rw [if_pos hkk, if_pos hkk]
        · rw [if_neg hkk, if_neg hkk]; exact i2 k hk
    · refine J_goto (pc := 38) 93 dX7_castCanvassed_38 (by decide) ?_
      refine S_inc_4 (pc := 93) (1) rfl dX7_castCanvassed_93 (by decide) ?_
      refine J_goto (pc := 96) 17 dX7_castCanvassed_96 (by decide) ?_
      exact svJ_ls (by rw [nI_succ]) (ih (t + 1) (by omega) (by omega) _ _ i1 (fun k hk => by rw [mCast, if_neg h35]; exact i2 k hk))
set_option maxRecDepth 20000 in
set_option maxHeartbeats 2000000 in
theorem t_X7_castCanvassed {l : Launch} {G : svG} {hi : svH} {hl : svL} {tw dr : Nat} {pm : Nat → Nat} {T : Nat} (htw : svSH[tw]? = some (0, 6)) (hT : hi tw 3 = nI T) (hT8 : T ≤ 8) {stops canv by' : Int32} (hto : ∀ t, t < T → (if bt canv t = true then by' else hi 20 t) = nI (mTo canv by' (hi 20) t) ∧ mTo canv by' (hi 20) t < 6) : svV l G yX7_castCanvassed mX7_castCanvassed rX7_castCanvassed [sv_rf G.1 0, .int stops, .int canv, .int by'] hi hl (sv_hr tw dr pm) (fun a b c => (∀ q, q ≠ 64 → a q = hi q) ∧ (∀ k, k < 6 → a 64 k = mCast (hi 18) (hi (tw + 2)) (hi 20) stops canv by' T k) ∧ hl = b ∧ sv_hr tw dr pm = c) := by
  refine sv_entry (by decide +kernel) rfl rfl (Nat.le_of_ble_eq_true rfl) (by simp [Value.category, sv_rf]) [some (sv_rf G.1 0), some (.int stops), some (.int canv), some (.int by'), none, none] rfl ?_
  refine S_aload_0 (pc := 0) dX7_castCanvassed_0 ?_
  refine fgX7_43 (pc := 1) sh_0 hv_0_5 dX7_castCanvassed_1 ?_
  refine S_aload_0 (pc := 4) dX7_castCanvassed_4 ?_
  refine fgX7_29 (pc := 5) sh_0 hv_0_3 dX7_castCanvassed_5 ?_
  refine fgX7_179 (pc := 8) sh_17 hv_17_5 dX7_castCanvassed_8 ?_
  refine caX7_260 (pc := 11) (t_X0_open (l := l) (G := G)) sh_63 (Nat.le_of_ble_eq_true rfl) ⟨rfl, rfl, ⟨by decide, by decide⟩, by decide, by decide⟩ dX7_castCanvassed_11 (fun a11 b11 c11 p11 => ?_)
  obtain ⟨rfl, rfl, rfl⟩ := p11
  refine J_iconst (pc := 14) (0) rfl dX7_castCanvassed_14 ?_
  refine S_istore_4 (pc := 15) dX7_castCanvassed_15 (by decide) ?_
  
  refine lo_X7_castCanvassed htw hT hT8 hto 0 (Nat.zero_le _) _ _ (fun q hq => by simp [sv_cp, hq]) (fun k hk => by simp [sv_cp, mCast, hk])
theorem mTo_0 {likes : Nat → Int32} {by' : Int32} {t j : Nat} (h : likes t = nI j) (hj : j < 6) : (if bt 0 t = true then by' else likes t) = nI (mTo 0 by' likes t) ∧ mTo 0 by' likes t < 6 := by
  unfold mTo
  simp only [b_0, Bool.false_eq_true, if_false, h, nI_clamp (show j < 2 ^ 31 by omega)]
  exact ⟨trivial, hj⟩
set_option maxRecDepth 20000 in
set_option maxHeartbeats 2000000 in
theorem t_X7_castFor {l : Launch} {G : svG} {hi : svH} {hl : svL} {tw dr : Nat} {pm : Nat → Nat} {T : Nat} (htw : svSH[tw]? = some (0, 6)) (hT : hi tw 3 = nI T) (hT8 : T ≤ 8) {stops : Int32} (hlk : ∀ t, t < T → ∃ j, j < 6 ∧ hi 20 t = nI j) : svV l G yX7_castFor mX7_castFor rX7_castFor [sv_rf G.1 0, .int stops] hi hl (sv_hr tw dr pm) (fun a b c => (∀ q, q ≠ 64 → a q = hi q) ∧ (∀ k, k < 6 → a 64 k = mCast (hi 18) (hi (tw + 2)) (hi 20) stops 0 0 T k) ∧ hl = b ∧ sv_hr tw dr pm = c) := by
  have hto : ∀ t, t < T → (if bt 0 t = true then 0 else hi 20 t) = nI (mTo 0 0 (hi 20) t) ∧ mTo 0 0 (hi 20) t < 6 := fun t ht => by
    obtain ⟨j, hj, e⟩ := hlk t ht
    exact mTo_0 e hj
  refine sv_entry (by decide +kernel) rfl rfl (Nat.le_of_ble_eq_true rfl) (by simp [Value.category, sv_rf]) [some (sv_rf G.1 0), some (.int stops)] rfl ?_
  refine S_aload_0 (pc := 0) dX7_castFor_0 ?_
  refine S_iload_1 (pc := 1) dX7_castFor_1 ?_
  refine J_iconst (pc := 2) (0) rfl dX7_castFor_2 ?_
  refine J_iconst (pc := 3) (0) rfl dX7_castFor_3 ?_
  refine caX7_197 (pc := 4) (t_X7_castCanvassed (l := l) (G := G) htw hT hT8 hto) sh_0 (Nat.le_of_ble_eq_true rfl) ⟨rfl, rfl, ⟨by decide, by decide⟩, by decide, by decide⟩ dX7_castFor_4 (fun a4 b4 c4 p4 => ?_)
  obtain ⟨i1, i2, rfl, rfl⟩ := p4
  exact J_return (pc := 7) dX7_castFor_7 rfl ⟨rfl, rfl, ⟨i1, i2, rfl, rfl⟩⟩
