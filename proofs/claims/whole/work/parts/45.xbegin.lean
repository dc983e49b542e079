set_option maxRecDepth 20000 in
set_option maxHeartbeats 2000000 in
theorem t_X5_readInto {l : Launch} {G : svG} {hi : svH} {hl : svL} {tw dr : Nat} {pm : Nat → Nat} {n : Nat} (hdr : svSH[dr]? = some (0, 6)) (hn2 : n ≤ 120) (hn : hi 15 0 = nI n) : svI l G yX5_readInto mX5_readInto rX5_readInto [sv_rf G.1 15, sv_rf G.1 dr] hi hl (sv_hr tw dr pm) (fun r a b c => rdX hi a dr r (rdAll (hi 16) n 121 D0 0 0) ∧ hl = b ∧ sv_hr tw dr pm = c) := by
  have hdr2 := sv_dr hdr
  refine sv_entry (by decide +kernel) rfl rfl (Nat.le_of_ble_eq_true rfl) (by simp [Value.category, sv_rf]) [some (sv_rf G.1 15), some (sv_rf G.1 dr), none] rfl ?_
  refine S_aload_1 (pc := 0) dX5_readInto_0 ?_
  refine caX5_35 (pc := 1) (t_X6_reset (l := l) (G := G) hdr) hdr (Nat.le_of_ble_eq_true rfl) ⟨rfl, rfl, ⟨by decide, by decide⟩, by decide, by decide⟩ dX5_readInto_1 (fun a1 b1 c1 p1 => ?_)
  obtain ⟨rfl, rfl, rfl⟩ := p1
  refine S_aload_0 (pc := 4) dX5_readInto_4 ?_
  refine J_iconst (pc := 5) (0) rfl dX5_readInto_5 ?_
  refine fpX5_19 (pc := 6) sh_15 dX5_readInto_6 ?_
  refine J_iconst (pc := 9) (0) rfl dX5_readInto_9 ?_
  refine S_istore_2 (pc := 10) dX5_readInto_10 (by decide) ?_
  exact svJ_ls (by rfl) (lo_X5_readInto hdr hn2 hn 121 D0 0 0 (sv_u2 (sv_u2 (sv_u2 (sv_u2 (sv_u2 (sv_u2 hi dr 0 3) dr 1 2) dr 2 3) dr 3 0) dr 4 0) 15 2 0) rfl (by omega) (Nat.zero_le _) (fun q g1 g2 => by rw [sv_u2_off g1, sv_u2_off (by omega), sv_u2_off (by omega), sv_u2_off (by omega), sv_u2_off (by omega), sv_u2_off (by omega)]) (by rw [sv_u2_k (by decide), sv_u2_off (by omega), sv_u2_off (by omega), sv_u2_off (by omega), sv_u2_off (by omega), sv_u2_off (by omega)]; exact hn) sv_u2_at (dRel_0 (by
      show (sv_u2 (sv_u2 (sv_u2 (sv_u2 (sv_u2 (sv_u2 hi dr 0 3) dr 1 2) dr 2 3) dr 3 0) dr 4 0) 15 2 0) dr 0 = 3
      rw [sv_u2_off (by omega)]; simp [u2e]) (by
      show (sv_u2 (sv_u2 (sv_u2 (sv_u2 (sv_u2 (sv_u2 hi dr 0 3) dr 1 2) dr 2 3) dr 3 0) dr 4 0) 15 2 0) dr 1 = 2
      rw [sv_u2_off (by omega)]; simp [u2e]) (by
      show (sv_u2 (sv_u2 (sv_u2 (sv_u2 (sv_u2 (sv_u2 hi dr 0 3) dr 1 2) dr 2 3) dr 3 0) dr 4 0) 15 2 0) dr 2 = 3
      rw [sv_u2_off (by omega)]; simp [u2e]) (by
      show (sv_u2 (sv_u2 (sv_u2 (sv_u2 (sv_u2 (sv_u2 hi dr 0 3) dr 1 2) dr 2 3) dr 3 0) dr 4 0) 15 2 0) dr 3 = 0
      rw [sv_u2_off (by omega)]; simp [u2e]) (by
      show (sv_u2 (sv_u2 (sv_u2 (sv_u2 (sv_u2 (sv_u2 hi dr 0 3) dr 1 2) dr 2 3) dr 3 0) dr 4 0) 15 2 0) dr 4 = 0
      rw [sv_u2_off (by omega)]; simp [u2e])) (fun _ => ⟨rfl, rfl⟩))
set_option maxRecDepth 20000 in
set_option maxHeartbeats 2000000 in
theorem lo_X3_begin {l : Launch} {G : svG} {hi : svH} {hl : svL} {tw dq dr : Nat} {pm : Nat → Nat} (hdr : svSH[dr]? = some (0, 6)) : ∀ t, t ≤ 6 → ∀ h' : svH, (∀ q, q ≠ 17 → q ≠ 18 → h' q = hi q) → h' 17 0 = 0 → h' 17 1 = hi dr 2 → h' 17 2 = 0 → h' 17 3 = 0 → h' 17 4 = 0 → (∀ k, k < t → h' 18 k = 0) → svJ l G rX3_begin mX3_begin (sv_Fm G (fun v sh a b c => v = none ∧ sh = svSH ∧ ((fun a b c => (∀ q, q < 17 ∨ 20 < q → a q = hi q) ∧ a 17 0 = 0 ∧ a 17 1 = hi dr 2 ∧ a 17 2 = 0 ∧ a 17 3 = 0 ∧ a 17 4 = 0 ∧ (∀ k, k < 6 → a 18 k = 0) ∧ (∀ k, k < 8 → a 19 k = hi (dr + 1) k) ∧ (∀ k, k < 8 → a 20 k = hi (dr + 3) k) ∧ hl = b ∧ sv_hr tw dq pm = c)) a b c) 0 0) 0 0 30 [some (sv_rf G.1 17), some (sv_rf G.1 dr), some (.int (nI t))] [] svSH h' hl (sv_hr tw dq pm) := by
  have hdr2 := sv_dr hdr
  refine sv_up (fun t ht ih h' i1 j0 j1 j2 j3 j4 i2 => ?_)
  refine S_iload_2 (pc := 30) dX3_begin_30 ?_
  refine S_aload_0 (pc := 31) dX3_begin_31 ?_
  refine fgX3_27 (pc := 32) sh_17 hv_17_5 dX3_begin_32 ?_
  refine J_alen1 (pc := 35) (6) sh_18 rfl dX3_begin_35 ?_
  refine J_icmp_ge (pc := 36) 52 dX3_begin_36 (by decide) (fun h36 => ?_) (fun h36 => ?_)
  · rw [show (6 : Int32) = nI 6 from rfl, nI_leI (by omega) (by omega)] at h36
    obtain rfl : t = 6 := by omega
    refine S_aload_1 (pc := 52) dX3_begin_52 ?_
    refine fgX3_40 (pc := 53) hdr (hv_T5 hdr) dX3_begin_53 ?_
    refine S_aload_0 (pc := 56) dX3_begin_56 ?_
    refine fgX3_31 (pc := 57) sh_17 hv_17_6 dX3_begin_57 ?_
    refine caX3_41 (pc := 60) (t_X7_copy (l := l) (G := G) (ar_T5 hdr) sh_19 (by decide)) (Nat.le_of_ble_eq_true rfl) ⟨rfl, rfl, ⟨by decide, by decide⟩, by decide, by decide⟩ dX3_begin_60 (fun a60 b60 c60 p60 => ?_)
    obtain ⟨rfl, rfl, rfl⟩ := p60
    refine S_aload_1 (pc := 63) dX3_begin_63 ?_
    refine fgX3_45 (pc := 64) hdr (hv_T7 hdr) dX3_begin_64 ?_
    refine S_aload_0 (pc := 67) dX3_begin_67 ?_
    refine fgX3_34 (pc := 68) sh_17 hv_17_7 dX3_begin_68 ?_
    refine caX3_41 (pc := 71) (t_X7_copy (l := l) (G := G) (ar_T7 hdr) sh_20 (by decide)) (Nat.le_of_ble_eq_true rfl) ⟨rfl, rfl, ⟨by decide, by decide⟩, by decide, by decide⟩ dX3_begin_71 (fun a71 b71 c71 p71 => ?_)
    obtain ⟨rfl, rfl, rfl⟩ := p71
    exact J_return (pc := 74) dX3_begin_74 rfl ⟨rfl, rfl, ⟨fun q hq => by rw [sv_cp_ne (by omega), sv_cp_ne (by omega)]; exact i1 q (by omega) (by omega), by rw [sv_cp_ne (by decide), sv_cp_ne (by decide)]; exact j0, by rw [sv_cp_ne (by decide), sv_cp_ne (by decide)]; exact j1, by rw [sv_cp_ne (by decide), sv_cp_ne (by decide)]; exact j2, by rw [sv_cp_ne (by decide), sv_cp_ne (by decide)]; exact j3, by rw [sv_cp_ne (by decide), sv_cp_ne (by decide)]; exact j4, fun k hk => by rw [sv_cp_ne (by decide), sv_cp_ne (by decide)]; exact i2 k hk, fun k hk => by rw [sv_cp_ne (by decide), sv_cp_eq hk, i1 (dr + 1) (by omega) (by omega)], fun k hk => by rw [sv_cp_eq hk, sv_cp_ne (by omega), i1 (dr + 3) (by omega) (by omega)], rfl, rfl⟩⟩
  · rw [show (6 : Int32) = nI 6 from rfl, nI_leI (by omega) (by omega)] at h36
    refine S_aload_0 (pc := 39) dX3_begin_39 ?_
    refine fgX3_27 (pc := 40) sh_17 hv_17_5 dX3_begin_40 ?_
    refine S_iload_2 (pc := 43) dX3_begin_43 ?_
    refine J_iconst (pc := 44) (0) rfl dX3_begin_44 ?_
    refine J_iast_n (pc := 45) t sh_18 rfl (by omega) (by decide) dX3_begin_45 ?_
    refine S_inc_2 (pc := 46) (1) rfl dX3_begin_46 (by decide) ?_
    refine J_goto (pc := 49) 30 dX3_begin_49 (by decide) ?_
    refine svJ_ls (by rw [nI_succ]) (ih (t + 1) (by omega) (by omega) _ (fun q g1 g2 => by rw [sv_u2_off g2]; exact i1 q g1 g2) (by rw [sv_u2_off (by decide)]; exact j0) (by rw [sv_u2_off (by decide)]; exact j1) (by rw [sv_u2_off (by decide)]; exact j2) (by rw [sv_u2_off (by decide)]; exact j3) (by rw [sv_u2_off (by decide)]; exact j4) (fun k hk => ?_))
    by_cases e : k = t
    · rw [e]; exact sv_u2_at
    · rw [sv_u2_k e]; exact i2 k (by omega)
set_option maxRecDepth 20000 in
set_option maxHeartbeats 2000000 in
theorem t_X3_begin {l : Launch} {G : svG} {hi : svH} {hl : svL} {tw dq dr : Nat} {pm : Nat → Nat} (hdr : svSH[dr]? = some (0, 6)) : svV l G yX3_begin mX3_begin rX3_begin [sv_rf G.1 17, sv_rf G.1 dr] hi hl (sv_hr tw dq pm) (fun a b c => (∀ q, q < 17 ∨ 20 < q → a q = hi q) ∧ a 17 0 = 0 ∧ a 17 1 = hi dr 2 ∧ a 17 2 = 0 ∧ a 17 3 = 0 ∧ a 17 4 = 0 ∧ (∀ k, k < 6 → a 18 k = 0) ∧ (∀ k, k < 8 → a 19 k = hi (dr + 1) k) ∧ (∀ k, k < 8 → a 20 k = hi (dr + 3) k) ∧ hl = b ∧ sv_hr tw dq pm = c) := by
  have hdr2 := sv_dr hdr
  refine sv_entry (by decide +kernel) rfl rfl (Nat.le_of_ble_eq_true rfl) (by simp [Value.category, sv_rf]) [some (sv_rf G.1 17), some (sv_rf G.1 dr), none] rfl ?_
  refine S_aload_0 (pc := 0) dX3_begin_0 ?_
  refine J_iconst (pc := 1) (0) rfl dX3_begin_1 ?_
  refine fpX3_9 (pc := 2) sh_17 dX3_begin_2 ?_
  refine S_aload_0 (pc := 5) dX3_begin_5 ?_
  refine S_aload_1 (pc := 6) dX3_begin_6 ?_
  refine fgX3_37 (pc := 7) hdr dX3_begin_7 ?_
  refine fpX3_15 (pc := 10) sh_17 dX3_begin_10 ?_
  refine S_aload_0 (pc := 13) dX3_begin_13 ?_
  refine J_iconst (pc := 14) (0) rfl dX3_begin_14 ?_
  refine fpX3_18 (pc := 15) sh_17 dX3_begin_15 ?_
  refine S_aload_0 (pc := 18) dX3_begin_18 ?_
  refine J_iconst (pc := 19) (0) rfl dX3_begin_19 ?_
  refine fpX3_21 (pc := 20) sh_17 dX3_begin_20 ?_
  refine S_aload_0 (pc := 23) dX3_begin_23 ?_
  refine J_iconst (pc := 24) (0) rfl dX3_begin_24 ?_
  refine fpX3_24 (pc := 25) sh_17 dX3_begin_25 ?_
  refine J_iconst (pc := 28) (0) rfl dX3_begin_28 ?_
  refine S_istore_2 (pc := 29) dX3_begin_29 (by decide) ?_
  
  exact svJ_ls (by rfl) (lo_X3_begin hdr 0 (Nat.zero_le _) _ (fun q g1 g2 => by rw [sv_u2_off g1, sv_u2_off g1, sv_u2_off g1, sv_u2_off g1, sv_u2_off g1]) (by simp [u2e]) (by simp [u2e]) (by simp [u2e]) (by simp [u2e]) (by simp [u2e]) (fun k hk => by omega))
