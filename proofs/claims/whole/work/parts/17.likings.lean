theorem cast_byte : ∀ k, k < 256 → ((nI k).toUInt32 % 65536).toInt32 = nI k ∧ vp_nar .char (nI k) = nI k := by decide +kernel
set_option maxRecDepth 20000 in
set_option maxHeartbeats 2000000 in
theorem t_X5_append {l : Launch} {G : svG} {hi : svH} {hl : svL} {tw dr : Nat} {pm : Nat → Nat} {n k : Nat} (hn : hi 15 0 = nI n) (hn2 : n < 120) (hk : k < 256) : svVh l G yX5_append mX5_append rX5_append [sv_rf G.1 15, .int (nI k)] hi hl (sv_hr tw dr pm) (sv_u2 (sv_u2 hi 16 n (nI k)) 15 0 (nI (n + 1))) := by
  have hc := cast_byte k hk
  refine sv_entry (by decide +kernel) rfl rfl (Nat.le_of_ble_eq_true rfl) (by simp [Value.category, sv_rf]) [some (sv_rf G.1 15), some (.int (nI k))] rfl ?_
  refine S_aload_0 (pc := 0) dX5_append_0 ?_
  refine fgX5_9 (pc := 1) sh_15 dX5_append_1 ?_
  refine S_aload_0 (pc := 4) dX5_append_4 ?_
  refine fgX5_15 (pc := 5) sh_15 hv_15_1 dX5_append_5 ?_
  refine J_alen2 (pc := 8) (120) sh_16 rfl dX5_append_8 ?_
  refine caX5_31 (pc := 9) (t_X7_isIn (l := l) (G := G)) (Nat.le_of_ble_eq_true rfl) ⟨rfl, rfl, ⟨by decide, by decide⟩, by decide, by decide⟩ dX5_append_9 (fun r9 a9 b9 c9 p9 => ?_)
  obtain ⟨rfl, rfl, rfl, rfl⟩ := p9
  refine J_if_ne_b (pc := 12) 16 dX5_append_12 (by decide) (fun h12 => ?_) (fun h12 => ?_)
  · refine S_aload_0 (pc := 16) dX5_append_16 ?_
    refine fgX5_15 (pc := 17) sh_15 hv_15_1 dX5_append_17 ?_
    refine S_aload_0 (pc := 20) dX5_append_20 ?_
    refine fgX5_9 (pc := 21) sh_15 dX5_append_21 ?_
    refine S_iload_1 (pc := 24) dX5_append_24 ?_
    
    refine J_i2c (pc := 25) rfl dX5_append_25 ?_
    refine J_cast_n (pc := 26) n sh_16 hn hn2 (by decide) (by rw [hc.1]; exact hc.2) dX5_append_26 ?_
    refine S_aload_0 (pc := 27) dX5_append_27 ?_
    refine J_dup (pc := 28) rfl dX5_append_28 ?_
    refine fgX5_9 (pc := 29) sh_15 dX5_append_29 ?_
    refine J_iconst (pc := 32) (1) rfl dX5_append_32 ?_
    refine J_iadd (pc := 33) dX5_append_33 ?_
    refine fpX5_9 (pc := 34) sh_15 dX5_append_34 ?_
    exact J_return (pc := 37) dX5_append_37 rfl ⟨rfl, rfl, ⟨by rw [hc.1, sv_u2_off (by decide), hn, nI_succ], rfl, rfl⟩⟩
  · exact absurd ⟨by rw [hn]; exact nI_pos' (by omega), by rw [hn]; exact nI_lt hn2 (by decide)⟩ h12
def fType (n : Nat) (x : Int32) : Int32 := if 0 ≤ x ∧ x < 256 then (if n < 120 then nI (n + 1) else -3) else -1
def hType (hi : svH) (rw' ln n : Nat) (k : Nat) (x : Int32) : svH := if (0 ≤ x ∧ x < 256) ∧ n < 120 then sv_u2 (sv_u2 hi rw' n x) ln k (nI (n + 1)) else hi
set_option maxRecDepth 20000 in
set_option maxHeartbeats 2000000 in
theorem t_X7_type {l : Launch} {G : svG} {hi : svH} {hl : svL} {tw dr : Nat} {pm : Nat → Nat} {n : Nat} {x : Int32} (hn : hi 15 0 = nI n) (hn2 : n ≤ 120) : svIh l G yX7_type mX7_type rX7_type [sv_rf G.1 0, .int x] hi hl (sv_hr tw dr pm) (fType n x) (hType hi 16 15 n 0 x) := by
  refine sv_entry (by decide +kernel) rfl rfl (Nat.le_of_ble_eq_true rfl) (by simp [Value.category, sv_rf]) [some (sv_rf G.1 0), some (.int x)] rfl ?_
  refine S_iload_1 (pc := 0) dX7_type_0 ?_
  refine J_sipush (pc := 1) (256) rfl dX7_type_1 ?_
  refine caX7_68 (pc := 4) (t_X7_isIn (l := l) (G := G)) (Nat.le_of_ble_eq_true rfl) ⟨rfl, rfl, ⟨by decide, by decide⟩, by decide, by decide⟩ dX7_type_4 (fun r4 a4 b4 c4 p4 => ?_)
  obtain ⟨rfl, rfl, rfl, rfl⟩ := p4
  refine J_if_ne_b (pc := 7) 12 dX7_type_7 (by decide) (fun h7 => ?_) (fun h7 => ?_)
  · have h7' := h7
    rw [show (256 : Int32) = nI 256 from rfl] at h7'
    obtain ⟨k, hk, rfl⟩ := sv_ix h7' (by decide)
    refine S_aload_0 (pc := 12) dX7_type_12 ?_
    refine fgX7_22 (pc := 13) sh_0 hv_0_2 dX7_type_13 ?_
    refine fgX7_72 (pc := 16) sh_15 dX7_type_16 ?_
    refine J_bipush (pc := 19) (120) rfl dX7_type_19 ?_
    refine J_icmp_lt (pc := 21) 27 dX7_type_21 (by decide) (fun h21 => ?_) (fun h21 => ?_)
    · rw [hn, show (120 : Int32) = nI 120 from rfl, nI_ltI (by omega) (by omega)] at h21
      refine S_aload_0 (pc := 27) dX7_type_27 ?_
      refine fgX7_22 (pc := 28) sh_0 hv_0_2 dX7_type_28 ?_
      refine S_iload_1 (pc := 31) dX7_type_31 ?_
      refine caX7_76 (pc := 32) (t_X5_append (l := l) (G := G) hn h21 hk) sh_15 (Nat.le_of_ble_eq_true rfl) ⟨rfl, rfl, ⟨by decide, by decide⟩, by decide, by decide⟩ dX7_type_32 (fun a32 b32 c32 p32 => ?_)
      obtain ⟨rfl, rfl, rfl⟩ := p32
      refine S_aload_0 (pc := 35) dX7_type_35 ?_
      refine fgX7_22 (pc := 36) sh_0 hv_0_2 dX7_type_36 ?_
      refine fgX7_72 (pc := 39) sh_15 dX7_type_39 ?_
      exact J_ireturn (pc := 42) dX7_type_42 rfl rfl ⟨_, rfl, rfl, (by unfold fType hType; first | (rw [if_neg h7, if_neg (fun z => h7 z.1)]; exact ⟨rfl, rfl, rfl, rfl⟩) | (rw [if_pos h7, if_neg h21, if_neg (fun z => h21 z.2)]; exact ⟨rfl, rfl, rfl, rfl⟩) | (rw [if_pos h7, if_pos h21, if_pos ⟨h7, h21⟩]; exact ⟨sv_u2_at.symm, rfl, rfl, rfl⟩))⟩
    · rw [hn, show (120 : Int32) = nI 120 from rfl, nI_ltI (by omega) (by omega)] at h21
      refine J_bipush (pc := 24) (-3) rfl dX7_type_24 ?_
      exact J_ireturn (pc := 26) dX7_type_26 rfl rfl ⟨_, rfl, rfl, (by unfold fType hType; first | (rw [if_neg h7, if_neg (fun z => h7 z.1)]; exact ⟨rfl, rfl, rfl, rfl⟩) | (rw [if_pos h7, if_neg h21, if_neg (fun z => h21 z.2)]; exact ⟨rfl, rfl, rfl, rfl⟩) | (rw [if_pos h7, if_pos h21, if_pos ⟨h7, h21⟩]; exact ⟨sv_u2_at.symm, rfl, rfl, rfl⟩))⟩
  · refine J_iconst (pc := 10) (-1) rfl dX7_type_10 ?_
    exact J_ireturn (pc := 11) dX7_type_11 rfl rfl ⟨_, rfl, rfl, (by unfold fType hType; first | (rw [if_neg h7, if_neg (fun z => h7 z.1)]; exact ⟨rfl, rfl, rfl, rfl⟩) | (rw [if_pos h7, if_neg h21, if_neg (fun z => h21 z.2)]; exact ⟨rfl, rfl, rfl, rfl⟩) | (rw [if_pos h7, if_pos h21, if_pos ⟨h7, h21⟩]; exact ⟨sv_u2_at.symm, rfl, rfl, rfl⟩))⟩
set_option maxRecDepth 20000 in
set_option maxHeartbeats 2000000 in
theorem t_X1_append {l : Launch} {G : svG} {hi : svH} {hl : svL} {tw dr : Nat} {pm : Nat → Nat} {n : Nat} {x z : Int32} (hn : hi 66 0 = nI n) (hn2 : n < 4) : svVh l G yX1_append mX1_append rX1_append [sv_rf G.1 66, .int x, .int z] hi hl (sv_hr tw dr pm) (sv_u2 (sv_u2 (sv_u2 hi 67 n x) 68 n z) 66 0 (nI (n + 1))) := by
  refine sv_entry (by decide +kernel) rfl rfl (Nat.le_of_ble_eq_true rfl) (by simp [Value.category, sv_rf]) [some (sv_rf G.1 66), some (.int x), some (.int z)] rfl ?_
  refine S_aload_0 (pc := 0) dX1_append_0 ?_
  refine fgX1_18 (pc := 1) sh_66 hv_66_2 dX1_append_1 ?_
  refine S_aload_0 (pc := 4) dX1_append_4 ?_
  refine fgX1_9 (pc := 5) sh_66 dX1_append_5 ?_
  refine S_iload_1 (pc := 8) dX1_append_8 ?_
  refine caX1_28 (pc := 9) (t_X7_set_x (l := l) (G := G) n hn sh_67 hn2 (by decide)) (Nat.le_of_ble_eq_true rfl) ⟨rfl, rfl, ⟨by decide, by decide⟩, by decide, by decide⟩ dX1_append_9 (fun a9 b9 c9 p9 => ?_)
  obtain ⟨rfl, rfl, rfl⟩ := p9
  refine S_aload_0 (pc := 12) dX1_append_12 ?_
  refine fgX1_22 (pc := 13) sh_66 hv_66_3 dX1_append_13 ?_
  refine S_aload_0 (pc := 16) dX1_append_16 ?_
  refine fgX1_9 (pc := 17) sh_66 dX1_append_17 ?_
  refine S_iload_2 (pc := 20) dX1_append_20 ?_
  refine caX1_28 (pc := 21) (t_X7_set_x (l := l) (G := G) n (by rw [sv_u2_off (by decide)]; exact hn) sh_68 hn2 (by decide)) (Nat.le_of_ble_eq_true rfl) ⟨rfl, rfl, ⟨by decide, by decide⟩, by decide, by decide⟩ dX1_append_21 (fun a21 b21 c21 p21 => ?_)
  obtain ⟨rfl, rfl, rfl⟩ := p21
  refine S_aload_0 (pc := 24) dX1_append_24 ?_
  refine J_dup (pc := 25) rfl dX1_append_25 ?_
  refine fgX1_9 (pc := 26) sh_66 dX1_append_26 ?_
  refine J_iconst (pc := 29) (1) rfl dX1_append_29 ?_
  refine J_iadd (pc := 30) dX1_append_30 ?_
  refine fpX1_9 (pc := 31) sh_66 dX1_append_31 ?_
  exact J_return (pc := 34) dX1_append_34 rfl ⟨rfl, rfl, ⟨by rw [sv_u2_off (by decide), sv_u2_off (by decide), hn, nI_succ], rfl, rfl⟩⟩
def fHears (C n : Nat) (x z : Int32) : Int32 := if ((0 ≤ x ∧ x < nI C) ∧ 0 ≤ z ∧ z < nI C) ∧ ¬ x = z then (if n < 4 then nI (n + 1) else -3) else -1
def xHears (hi : svH) (C n : Nat) (x z : Int32) : svH := if (((0 ≤ x ∧ x < nI C) ∧ 0 ≤ z ∧ z < nI C) ∧ ¬ x = z) ∧ n < 4 then sv_u2 (sv_u2 (sv_u2 hi 67 n x) 68 n z) 66 0 (nI (n + 1)) else hi
set_option maxRecDepth 20000 in
set_option maxHeartbeats 2000000 in
theorem t_X7_hears {l : Launch} {G : svG} {hi : svH} {hl : svL} {tw dr : Nat} {pm : Nat → Nat} {C L T Gn : Nat} (hx : xT hi tw C L T Gn) {n : Nat} {x z : Int32} (hn : hi 66 0 = nI n) (hn2 : n ≤ 4) : svIh l G yX7_hears mX7_hears rX7_hears [sv_rf G.1 0, .int x, .int z] hi hl (sv_hr tw dr pm) (fHears C n x z) (xHears hi C n x z) := by
  obtain ⟨htw, hCc, hLc, hT, hGn, hC2, hC6, hL1, hLC, hT8, hG6, hf, hs, hk⟩ := id hx
  have htw2 := sv_tw htw
  have hk6 : ∀ t, t < T → ∃ j, j < 6 ∧ hi 20 t = nI j := fun t ht => (hk t ht).elim fun j h => ⟨j, by omega, h.2⟩
  have hf6 : ∀ r, r < Gn → ∃ j, j < 6 ∧ hi (tw + 5) r = nI j := fun r hr => (hf r hr).elim fun j h => ⟨j, by omega, h.2⟩
  have hs6 : ∀ r, r < Gn → ∃ j, j < 6 ∧ hi (tw + 6) r = nI j := fun r hr => (hs r hr).elim fun j h => ⟨j, by omega, h.2⟩
  refine sv_entry (by decide +kernel) rfl rfl (Nat.le_of_ble_eq_true rfl) (by simp [Value.category, sv_rf]) [some (sv_rf G.1 0), some (.int x), some (.int z)] rfl ?_
  refine S_iload_1 (pc := 0) dX7_hears_0 ?_
  refine S_aload_0 (pc := 1) dX7_hears_1 ?_
  refine fgX7_10 (pc := 2) sh_0 hv_0_0 dX7_hears_2 ?_
  refine fgX7_137 (pc := 5) htw dX7_hears_5 ?_
  refine caX7_68 (pc := 8) (t_X7_isIn (l := l) (G := G)) (Nat.le_of_ble_eq_true rfl) ⟨rfl, rfl, ⟨by decide, by decide⟩, by decide, by decide⟩ dX7_hears_8 (fun r8 a8 b8 c8 p8 => ?_)
  obtain ⟨rfl, rfl, rfl, rfl⟩ := p8
  refine J_if_eq_b (pc := 11) 33 dX7_hears_11 (by decide) (fun h11 => ?_) (fun h11 => ?_)
  · refine J_iconst (pc := 33) (-1) rfl dX7_hears_33 ?_
    exact J_ireturn (pc := 34) dX7_hears_34 rfl rfl ⟨_, rfl, rfl, (by unfold fHears xHears; rw [if_neg (fun q => h11 (by rw [hCc]; exact q.1.1)), if_neg (fun q => (fun q => h11 (by rw [hCc]; exact q.1.1)) q.1)]; exact ⟨rfl, rfl, rfl, rfl⟩)⟩
  · refine S_iload_2 (pc := 14) dX7_hears_14 ?_
    refine S_aload_0 (pc := 15) dX7_hears_15 ?_
    refine fgX7_10 (pc := 16) sh_0 hv_0_0 dX7_hears_16 ?_
    refine fgX7_137 (pc := 19) htw dX7_hears_19 ?_
    refine caX7_68 (pc := 22) (t_X7_isIn (l := l) (G := G)) (Nat.le_of_ble_eq_true rfl) ⟨rfl, rfl, ⟨by decide, by decide⟩, by decide, by decide⟩ dX7_hears_22 (fun r22 a22 b22 c22 p22 => ?_)
    obtain ⟨rfl, rfl, rfl, rfl⟩ := p22
    refine J_if_eq_b (pc := 25) 33 dX7_hears_25 (by decide) (fun h25 => ?_) (fun h25 => ?_)
    · refine J_iconst (pc := 33) (-1) rfl dX7_hears_33 ?_
      exact J_ireturn (pc := 34) dX7_hears_34 rfl rfl ⟨_, rfl, rfl, (by unfold fHears xHears; rw [if_neg (fun q => h25 (by rw [hCc]; exact q.1.2)), if_neg (fun q => (fun q => h25 (by rw [hCc]; exact q.1.2)) q.1)]; exact ⟨rfl, rfl, rfl, rfl⟩)⟩
    · refine S_iload_1 (pc := 28) dX7_hears_28 ?_
      refine S_iload_2 (pc := 29) dX7_hears_29 ?_
      refine J_icmp_ne (pc := 30) 35 dX7_hears_30 (by decide) (fun h30 => ?_) (fun h30 => ?_)
      · refine S_aload_0 (pc := 35) dX7_hears_35 ?_
        refine fgX7_50 (pc := 36) sh_0 hv_0_6 dX7_hears_36 ?_
        refine fgX7_91 (pc := 39) sh_66 dX7_hears_39 ?_
        refine J_iconst (pc := 42) (4) rfl dX7_hears_42 ?_
        refine J_icmp_lt (pc := 43) 49 dX7_hears_43 (by decide) (fun h43 => ?_) (fun h43 => ?_)
        · rw [hn, show (4 : Int32) = nI 4 from rfl, nI_ltI (by omega) (by omega)] at h43
          refine S_aload_0 (pc := 49) dX7_hears_49 ?_
          refine fgX7_50 (pc := 50) sh_0 hv_0_6 dX7_hears_50 ?_
          refine S_iload_1 (pc := 53) dX7_hears_53 ?_
          refine S_iload_2 (pc := 54) dX7_hears_54 ?_
          refine caX7_212 (pc := 55) (t_X1_append (l := l) (G := G) hn h43) sh_66 (Nat.le_of_ble_eq_true rfl) ⟨rfl, rfl, ⟨by decide, by decide⟩, by decide, by decide⟩ dX7_hears_55 (fun a55 b55 c55 p55 => ?_)
          obtain ⟨rfl, rfl, rfl⟩ := p55
          refine S_aload_0 (pc := 58) dX7_hears_58 ?_
          refine fgX7_50 (pc := 59) sh_0 hv_0_6 dX7_hears_59 ?_
          refine fgX7_91 (pc := 62) sh_66 dX7_hears_62 ?_
          exact J_ireturn (pc := 65) dX7_hears_65 rfl rfl ⟨_, rfl, rfl, (by
                rw [hCc] at h11 h25
                unfold fHears xHears
                rw [if_pos ⟨⟨h11, h25⟩, h30⟩]
                first
                | (rw [if_neg h43, if_neg (fun q => h43 q.2)]; exact ⟨rfl, rfl, rfl, rfl⟩)
                | (rw [if_pos h43, if_pos ⟨⟨⟨h11, h25⟩, h30⟩, h43⟩]; exact ⟨sv_u2_at.symm, rfl, rfl, rfl⟩))⟩
        · rw [hn, show (4 : Int32) = nI 4 from rfl, nI_ltI (by omega) (by omega)] at h43
          refine J_bipush (pc := 46) (-3) rfl dX7_hears_46 ?_
          exact J_ireturn (pc := 48) dX7_hears_48 rfl rfl ⟨_, rfl, rfl, (by
                rw [hCc] at h11 h25
                unfold fHears xHears
                rw [if_pos ⟨⟨h11, h25⟩, h30⟩]
                first
                | (rw [if_neg h43, if_neg (fun q => h43 q.2)]; exact ⟨rfl, rfl, rfl, rfl⟩)
                | (rw [if_pos h43, if_pos ⟨⟨⟨h11, h25⟩, h30⟩, h43⟩]; exact ⟨sv_u2_at.symm, rfl, rfl, rfl⟩))⟩
      · refine J_iconst (pc := 33) (-1) rfl dX7_hears_33 ?_
        exact J_ireturn (pc := 34) dX7_hears_34 rfl rfl ⟨_, rfl, rfl, (by
              first
              | (unfold fHears xHears; rw [if_neg (fun q => q.2 h30), if_neg (fun q => q.1.2 h30)]; exact ⟨rfl, rfl, rfl, rfl⟩))⟩
theorem sv_min_le (x z : Int32) : (if z ≤ x then z else x) = if z < x then z else x := by
  by_cases h : z < x
  · rw [if_pos h, if_pos (Int32.le_of_lt h)]
  · rw [if_neg h]
    by_cases h2 : z ≤ x
    · rw [if_pos h2]; exact Int32.le_antisymm h2 (Int32.not_lt.mp h)
    · rw [if_neg h2]
set_option maxRecDepth 20000 in
set_option maxHeartbeats 2000000 in
theorem t_X1_choice {l : Launch} {G : svG} {hi : svH} {hl : svL} {hr : svR} {f s x z : Int32} : svIp l G yX1_choice mX1_choice rX1_choice [.int f, .int s, .int x, .int z] hi hl hr (sv_cho f s x z) := by
  refine sv_entry (by decide +kernel) rfl rfl (Nat.le_of_ble_eq_true rfl) (by simp [Value.category, sv_rf]) [some (.int f), some (.int s), some (.int x), some (.int z)] rfl ?_
  refine S_iload_0 (pc := 0) dX1_choice_0 ?_
  refine S_iload_2 (pc := 1) dX1_choice_1 ?_
  refine J_icmp_eq (pc := 2) 10 dX1_choice_2 (by decide) (fun h2 => ?_) (fun h2 => ?_)
  · refine S_iload_0 (pc := 10) dX1_choice_10 ?_
    exact J_ireturn (pc := 11) dX1_choice_11 rfl rfl ⟨_, rfl, rfl, ⟨by simp only [sv_cho, h2, true_or, or_true, or_self, not_false_eq_true, ↓reduceIte]; try exact sv_min_le x z, rfl, rfl, rfl⟩⟩
  · refine S_iload_0 (pc := 5) dX1_choice_5 ?_
    refine S_iload_3 (pc := 6) dX1_choice_6 ?_
    refine J_icmp_ne (pc := 7) 12 dX1_choice_7 (by decide) (fun h7 => ?_) (fun h7 => ?_)
    · refine S_iload_1 (pc := 12) dX1_choice_12 ?_
      refine S_iload_2 (pc := 13) dX1_choice_13 ?_
      refine J_icmp_eq (pc := 14) 22 dX1_choice_14 (by decide) (fun h14 => ?_) (fun h14 => ?_)
      · refine S_iload_1 (pc := 22) dX1_choice_22 ?_
        exact J_ireturn (pc := 23) dX1_choice_23 rfl rfl ⟨_, rfl, rfl, ⟨by simp only [sv_cho, h2, h7, h14, true_or, or_true, or_self, not_false_eq_true, ↓reduceIte]; try exact sv_min_le x z, rfl, rfl, rfl⟩⟩
      · refine S_iload_1 (pc := 17) dX1_choice_17 ?_
        refine S_iload_3 (pc := 18) dX1_choice_18 ?_
        refine J_icmp_ne (pc := 19) 24 dX1_choice_19 (by decide) (fun h19 => ?_) (fun h19 => ?_)
        · refine S_iload_2 (pc := 24) dX1_choice_24 ?_
          refine S_iload_3 (pc := 25) dX1_choice_25 ?_
          refine maX1_53 (pc := 26) (by decide) (Nat.le_of_ble_eq_true rfl) (by decide) (by decide) dX1_choice_26 ?_
          exact J_ireturn (pc := 29) dX1_choice_29 rfl rfl ⟨_, rfl, rfl, ⟨by simp only [sv_cho, h2, h7, h14, h19, true_or, or_true, or_self, not_false_eq_true, ↓reduceIte]; try exact sv_min_le x z, rfl, rfl, rfl⟩⟩
        · refine S_iload_1 (pc := 22) dX1_choice_22 ?_
          exact J_ireturn (pc := 23) dX1_choice_23 rfl rfl ⟨_, rfl, rfl, ⟨by simp only [sv_cho, h2, h7, h14, h19, true_or, or_true, or_self, not_false_eq_true, ↓reduceIte]; try exact sv_min_le x z, rfl, rfl, rfl⟩⟩
    · refine S_iload_0 (pc := 10) dX1_choice_10 ?_
      exact J_ireturn (pc := 11) dX1_choice_11 rfl rfl ⟨_, rfl, rfl, ⟨by simp only [sv_cho, h2, h7, true_or, or_true, or_self, not_false_eq_true, ↓reduceIte]; try exact sv_min_le x z, rfl, rfl, rfl⟩⟩
/-- by these likings all that was heard is so -/
def mSoUp (chosen other : Nat → Int32) (f s : Int32) : Nat → Bool
  | 0 => true
  | n + 1 => mSoUp chosen other f s n && decide (sv_cho f s (chosen n) (other n) = chosen n)
theorem mSoUp_no {chosen other : Nat → Int32} {f s : Int32} {k : Nat} (h : ¬ sv_cho f s (chosen k) (other k) = chosen k) : ∀ n, k < n → mSoUp chosen other f s n = false := by
  intro n
  induction n with
  | zero => intro h; omega
  | succ n ih =>
    intro hk
    rw [mSoUp]
    by_cases e : k = n
    · subst e; simp [h]
    · rw [ih (by omega)]; rfl
set_option maxRecDepth 20000 in
set_option maxHeartbeats 2000000 in
theorem lo_X1_isSo {l : Launch} {G : svG} {hi : svH} {hl : svL} {tw dr : Nat} {pm : Nat → Nat} {n : Nat} {f s : Int32} (hn : hi 66 0 = nI n) (hn2 : n ≤ 4) : ∀ t, t ≤ n → mSoUp (hi 67) (hi 68) f s t = true → svJ l G rX1_isSo mX1_isSo (sv_Fm G (fun v sh a b c => ∃ r, v = some (.int r) ∧ sh = svSH ∧ ((sv_b (mSoUp (hi 67) (hi 68) f s n = true)) = r ∧ hi = a ∧ hl = b ∧ (sv_hr tw dr pm) = c)) 0 0) 0 0 2 [some (sv_rf G.1 66), some (.int f), some (.int s), some (.int (nI t))] [] svSH hi hl (sv_hr tw dr pm) := by
  refine sv_up (fun t ht ih i1 => ?_)
  refine S_iload_3 (pc := 2) dX1_isSo_2 ?_
  refine S_aload_0 (pc := 3) dX1_isSo_3 ?_
  refine fgX1_9 (pc := 4) sh_66 dX1_isSo_4 ?_
  refine J_icmp_ge (pc := 7) 50 dX1_isSo_7 (by decide) (fun h7 => ?_) (fun h7 => ?_)
  · rw [hn, nI_leI (by omega) (by omega)] at h7
    obtain rfl : t = n := by omega
    refine J_iconst (pc := 50) (1) rfl dX1_isSo_50 ?_
    exact J_ireturn (pc := 51) dX1_isSo_51 rfl rfl ⟨_, rfl, rfl, ⟨by first | exact sv_b_t i1 | exact sv_b_f (by rw [mSoUp_no h39 n (by omega)]; decide), rfl, rfl, rfl⟩⟩
  · rw [hn, nI_leI (by omega) (by omega)] at h7
    refine S_iload_1 (pc := 10) dX1_isSo_10 ?_
    refine S_iload_2 (pc := 11) dX1_isSo_11 ?_
    refine S_aload_0 (pc := 12) dX1_isSo_12 ?_
    refine fgX1_18 (pc := 13) sh_66 hv_66_2 dX1_isSo_13 ?_
    refine S_iload_3 (pc := 16) dX1_isSo_16 ?_
    refine caX1_36 (pc := 17) (t_X7_at_n (l := l) (G := G) (j := t) sh_67 (by omega) (by decide)) (Nat.le_of_ble_eq_true rfl) ⟨rfl, rfl, ⟨by decide, by decide⟩, by decide, by decide⟩ dX1_isSo_17 (fun r17 a17 b17 c17 p17 => ?_)
    obtain ⟨rfl, rfl, rfl, rfl⟩ := p17
    refine S_aload_0 (pc := 20) dX1_isSo_20 ?_
    refine fgX1_22 (pc := 21) sh_66 hv_66_3 dX1_isSo_21 ?_
    refine S_iload_3 (pc := 24) dX1_isSo_24 ?_
    refine caX1_36 (pc := 25) (t_X7_at_n (l := l) (G := G) (j := t) sh_68 (by omega) (by decide)) (Nat.le_of_ble_eq_true rfl) ⟨rfl, rfl, ⟨by decide, by decide⟩, by decide, by decide⟩ dX1_isSo_25 (fun r25 a25 b25 c25 p25 => ?_)
    obtain ⟨rfl, rfl, rfl, rfl⟩ := p25
    refine caX1_49 (pc := 28) (t_X1_choice (l := l) (G := G)) (Nat.le_of_ble_eq_true rfl) ⟨rfl, rfl, ⟨by decide, by decide⟩, by decide, by decide⟩ dX1_isSo_28 (fun r28 a28 b28 c28 p28 => ?_)
    obtain ⟨rfl, rfl, rfl, rfl⟩ := p28
    refine S_aload_0 (pc := 31) dX1_isSo_31 ?_
    refine fgX1_18 (pc := 32) sh_66 hv_66_2 dX1_isSo_32 ?_
    refine S_iload_3 (pc := 35) dX1_isSo_35 ?_
    refine caX1_36 (pc := 36) (t_X7_at_n (l := l) (G := G) (j := t) sh_67 (by omega) (by decide)) (Nat.le_of_ble_eq_true rfl) ⟨rfl, rfl, ⟨by decide, by decide⟩, by decide, by decide⟩ dX1_isSo_36 (fun r36 a36 b36 c36 p36 => ?_)
    obtain ⟨rfl, rfl, rfl, rfl⟩ := p36
    refine J_icmp_eq (pc := 39) 44 dX1_isSo_39 (by decide) (fun h39 => ?_) (fun h39 => ?_)
    · refine S_inc_3 (pc := 44) (1) rfl dX1_isSo_44 (by decide) ?_
      refine J_goto (pc := 47) 2 dX1_isSo_47 (by decide) ?_
      exact svJ_ls (by rw [nI_succ]) (ih (t + 1) (by omega) (by omega) (by rw [mSoUp, i1, decide_eq_true h39]; rfl))
    · refine J_iconst (pc := 42) (0) rfl dX1_isSo_42 ?_
      exact J_ireturn (pc := 43) dX1_isSo_43 rfl rfl ⟨_, rfl, rfl, ⟨by first | exact sv_b_t i1 | exact sv_b_f (by rw [mSoUp_no h39 n (by omega)]; decide), rfl, rfl, rfl⟩⟩
set_option maxRecDepth 20000 in
set_option maxHeartbeats 2000000 in
theorem t_X1_isSo {l : Launch} {G : svG} {hi : svH} {hl : svL} {tw dr : Nat} {pm : Nat → Nat} {n : Nat} {f s : Int32} (hn : hi 66 0 = nI n) (hn2 : n ≤ 4) : svIp l G yX1_isSo mX1_isSo rX1_isSo [sv_rf G.1 66, .int f, .int s] hi hl (sv_hr tw dr pm) (sv_b (mSoUp (hi 67) (hi 68) f s n = true)) := by
  refine sv_entry (by decide +kernel) rfl rfl (Nat.le_of_ble_eq_true rfl) (by simp [Value.category, sv_rf]) [some (sv_rf G.1 66), some (.int f), some (.int s), none] rfl ?_
  refine J_iconst (pc := 0) (0) rfl dX1_isSo_0 ?_
  refine S_istore_3 (pc := 1) dX1_isSo_1 (by decide) ?_
  
  exact lo_X1_isSo hn hn2 0 (Nat.zero_le _) rfl
/-- whether a liking (ten times the first, and the second) there can be, and is as all that was heard -/
def mOkL (C n : Nat) (chosen other : Nat → Int32) (u : Nat) : Bool := decide (u / 10 < C) && decide (u % 10 < C) && !(decide (u / 10 = u % 10)) && mSoUp chosen other (nI (u / 10)) (nI (u % 10)) n
def mFit (ok : Nat → Bool) (u : Nat) : List Nat := (List.range u).filter ok
theorem mFit_t {ok : Nat → Bool} {u : Nat} (h : ok u = true) : mFit ok (u + 1) = mFit ok u ++ [u] := by simp [mFit, List.range_succ, List.filter_append, h]
theorem mFit_f {ok : Nat → Bool} {u : Nat} (h : ok u = false) : mFit ok (u + 1) = mFit ok u := by simp [mFit, List.range_succ, List.filter_append, h]
theorem mFit_more {ok : Nat → Bool} {u : Nat} : ∀ d, (∀ k, k < d → ok (u + k) = false) → mFit ok (u + d) = mFit ok u := by
  intro d
  induction d with
  | zero => intro _; rfl
  | succ d ih => intro h; rw [← Nat.add_assoc, mFit_f (h d (by omega)), ih (fun k hk => h k (by omega))]
/-- the list as the class's row holds it -/
def fitR (hi : svH) (L : List Nat) : Prop := hi 66 1 = nI L.length ∧ ∀ i u, L[i]? = some u → hi 69 i = nI u
theorem fitR_push {hi : svH} {L : List Nat} {u : Nat} (h : fitR hi L) : fitR (sv_u2 (sv_u2 hi 69 L.length (nI u)) 66 1 (nI (L.length + 1))) (L ++ [u]) := by
  refine ⟨by rw [sv_u2_at, List.length_append]; rfl, fun i v hv => ?_⟩
  rw [sv_u2_off (by decide), sv_u2_row]
  by_cases hl : i < L.length
  · rw [List.getElem?_append_left hl] at hv
    unfold upd
    rw [if_neg (by omega)]
    exact h.2 i v hv
  · rw [List.getElem?_append_right (by omega)] at hv
    have hz : i - L.length < 1 := (List.getElem?_eq_some_iff.mp hv).1
    have e : i = L.length := by omega
    subst e
    rw [Nat.sub_self] at hv
    cases hv
    simp [upd]
theorem ts_nt {x : Bool} (h : ¬ x = true) : x = false := by cases x <;> first | rfl | exact absurd rfl h
set_option maxRecDepth 20000 in
set_option maxHeartbeats 2000000 in
theorem lo2_X1_fit {l : Launch} {G : svG} {hi : svH} {hl : svL} {tw dr : Nat} {pm : Nat → Nat} {C n : Nat} (hC : C ≤ 6) (hn : hi 66 0 = nI n) (hn2 : n ≤ 4) {f : Nat} (hf : f < C) (hout : (∀ h' z, fitR h' (mFit (mOkL C n (hi 67) (hi 68)) (10 * (f + 1))) → (mFit (mOkL C n (hi 67) (hi 68)) (10 * (f + 1))).length ≤ 6 * (f + 1) → (∀ q, q ≠ 66 → q ≠ 69 → h' q = hi q) → (∀ k, k ≠ 1 → h' 66 k = hi 66 k) → svJ l G rX1_fit mX1_fit (sv_Fm G (fun v sh a b c => v = none ∧ sh = svSH ∧ ((fun a b c => fitR a (mFit (mOkL C n (hi 67) (hi 68)) 60) ∧ (∀ q, q ≠ 66 → q ≠ 69 → a q = hi q) ∧ (∀ k, k ≠ 1 → a 66 k = hi 66 k) ∧ hl = b ∧ sv_hr tw dr pm = c)) a b c) 0 0) 0 0 7 [some (sv_rf G.1 66), some (.int (nI C)), some (.int (nI (f + 1))), z] [] svSH h' hl (sv_hr tw dr pm))) : ∀ t, t ≤ C → ∀ h', fitR h' (mFit (mOkL C n (hi 67) (hi 68)) (10 * f + t)) → (mFit (mOkL C n (hi 67) (hi 68)) (10 * f + t)).length ≤ 6 * f + t → (∀ q, q ≠ 66 → q ≠ 69 → h' q = hi q) → (∀ k, k ≠ 1 → h' 66 k = hi 66 k) → svJ l G rX1_fit mX1_fit (sv_Fm G (fun v sh a b c => v = none ∧ sh = svSH ∧ ((fun a b c => fitR a (mFit (mOkL C n (hi 67) (hi 68)) 60) ∧ (∀ q, q ≠ 66 → q ≠ 69 → a q = hi q) ∧ (∀ k, k ≠ 1 → a 66 k = hi 66 k) ∧ hl = b ∧ sv_hr tw dr pm = c)) a b c) 0 0) 0 0 14 [some (sv_rf G.1 66), some (.int (nI C)), some (.int (nI f)), some (.int (nI t))] [] svSH h' hl (sv_hr tw dr pm) := by
  refine sv_up (fun t ht ih h' i1 i2 i3 i4 => ?_)
  have e66 : h' 66 0 = nI n := by rw [i4 0 (by decide)]; exact hn
  have e67 : h' 67 = hi 67 := i3 67 (by decide) (by decide)
  have e68 : h' 68 = hi 68 := i3 68 (by decide) (by decide)
  refine S_iload_3 (pc := 14) dX1_fit_14 ?_
  refine S_iload_1 (pc := 15) dX1_fit_15 ?_
  refine J_icmp_ge (pc := 16) 69 dX1_fit_16 (by decide) (fun h16 => ?_) (fun h16 => ?_)
  · rw [nI_leI (by omega) (by omega)] at h16
    obtain rfl : t = C := by omega
    have em : mFit (mOkL t n (hi 67) (hi 68)) (10 * (f + 1)) = mFit (mOkL t n (hi 67) (hi 68)) (10 * f + t) := by
      rw [show 10 * (f + 1) = 10 * f + t + (10 - t) from by omega]
      refine mFit_more _ (fun k hk => ?_)
      unfold mOkL
      rw [show (10 * f + t + k) % 10 = t + k from by omega, decide_eq_false (show ¬ t + k < t by omega)]
      simp
    refine S_inc_2 (pc := 69) (1) rfl dX1_fit_69 (by decide) ?_
    refine J_goto (pc := 72) 7 dX1_fit_72 (by decide) ?_
    exact svJ_ls (by rw [nI_succ]) (hout h' _ (by rw [em]; exact i1) (by rw [em]; omega) i3 i4)
  · rw [nI_leI (by omega) (by omega)] at h16
    have e1 : (10 * f + t) / 10 = f := by omega
    have e2 : (10 * f + t) % 10 = t := by omega
    refine S_iload_2 (pc := 19) dX1_fit_19 ?_
    refine S_iload_3 (pc := 20) dX1_fit_20 ?_
    refine J_icmp_eq (pc := 21) 63 dX1_fit_21 (by decide) (fun h21 => ?_) (fun h21 => ?_)
    · rw [nI_eq (by omega) (by omega)] at h21
      refine S_inc_3 (pc := 63) (1) rfl dX1_fit_63 (by decide) ?_
      refine J_goto (pc := 66) 14 dX1_fit_66 (by decide) ?_
      exact svJ_ls (by rw [nI_succ]) (ih (t + 1) (by omega) (by omega) _ (by rw [show 10 * f + (t + 1) = 10 * f + t + 1 from rfl, mFit_f (by unfold mOkL; rw [e1, e2, decide_eq_true h21]; simp)]; exact i1) (by rw [show 10 * f + (t + 1) = 10 * f + t + 1 from rfl, mFit_f (by unfold mOkL; rw [e1, e2, decide_eq_true h21]; simp)]; omega) i3 i4)
    · rw [nI_eq (by omega) (by omega)] at h21
      refine S_aload_0 (pc := 24) dX1_fit_24 ?_
      refine S_iload_2 (pc := 25) dX1_fit_25 ?_
      refine S_iload_3 (pc := 26) dX1_fit_26 ?_
      refine caX1_32 (pc := 27) (by have h := t_X1_isSo (l := l) (G := G) (hi := h') (hl := hl) (tw := tw) (dr := dr) (pm := pm) (f := nI f) (s := nI t) e66 hn2; rw [e67, e68] at h; exact h) sh_66 (Nat.le_of_ble_eq_true rfl) ⟨rfl, rfl, ⟨by decide, by decide⟩, by decide, by decide⟩ dX1_fit_27 (fun r27 a27 b27 c27 p27 => ?_)
      obtain ⟨rfl, rfl, rfl, rfl⟩ := p27
      refine J_if_ne_b (pc := 30) 36 dX1_fit_30 (by decide) (fun h30 => ?_) (fun h30 => ?_)
      · refine S_aload_0 (pc := 36) dX1_fit_36 ?_
        refine fgX1_25 (pc := 37) sh_66 hv_66_4 dX1_fit_37 ?_
        refine S_aload_0 (pc := 40) dX1_fit_40 ?_
        refine fgX1_15 (pc := 41) sh_66 dX1_fit_41 ?_
        refine J_bipush (pc := 44) (10) rfl dX1_fit_44 ?_
        refine S_iload_2 (pc := 46) dX1_fit_46 ?_
        refine J_imul (pc := 47) dX1_fit_47 ?_
        refine S_iload_3 (pc := 48) dX1_fit_48 ?_
        refine J_iadd (pc := 49) dX1_fit_49 ?_
        refine caX1_28 (pc := 50) (t_X7_set_x (l := l) (G := G) (mFit (mOkL C n (hi 67) (hi 68)) (10 * f + t)).length i1.1 sh_69 (by omega) (by decide)) (Nat.le_of_ble_eq_true rfl) ⟨rfl, rfl, ⟨by decide, by decide⟩, by decide, by decide⟩ dX1_fit_50 (fun a50 b50 c50 p50 => ?_)
        obtain ⟨rfl, rfl, rfl⟩ := p50
        refine S_aload_0 (pc := 53) dX1_fit_53 ?_
        refine J_dup (pc := 54) rfl dX1_fit_54 ?_
        refine fgX1_15 (pc := 55) sh_66 dX1_fit_55 ?_
        refine J_iconst (pc := 58) (1) rfl dX1_fit_58 ?_
        refine J_iadd (pc := 59) dX1_fit_59 ?_
        refine fpX1_15 (pc := 60) sh_66 dX1_fit_60 ?_
        refine S_inc_3 (pc := 63) (1) rfl dX1_fit_63 (by decide) ?_
        refine J_goto (pc := 66) 14 dX1_fit_66 (by decide) ?_
        first
        | exact svJ_ls (by rw [nI_succ]) (ih (t + 1) (by omega) (by omega) _ (by rw [show 10 * f + (t + 1) = 10 * f + t + 1 from rfl, mFit_f (by unfold mOkL; rw [e1, e2, ts_nt h30]; simp)]; exact i1) (by rw [show 10 * f + (t + 1) = 10 * f + t + 1 from rfl, mFit_f (by unfold mOkL; rw [e1, e2, ts_nt h30]; simp)]; omega) i3 i4)
        | exact svJ_ls (by rw [nI_succ]) (ih (t + 1) (by omega) (by omega) _ (by
            rw [show 10 * f + (t + 1) = 10 * f + t + 1 from rfl, mFit_t (by unfold mOkL; rw [e1, e2, h30, decide_eq_true hf, decide_eq_true (show t < C by omega), decide_eq_false h21]; rfl)]
            rw [sv_u2_off (by decide), i1.1, ← nI_succ, show (10 : Int32) * nI f + nI t = nI (10 * f + t) from by rw [show (10 : Int32) = nI 10 from rfl, pk_mul, nI_add]]
            exact fitR_push i1) (by
            rw [show 10 * f + (t + 1) = 10 * f + t + 1 from rfl, mFit_t (by unfold mOkL; rw [e1, e2, h30, decide_eq_true hf, decide_eq_true (show t < C by omega), decide_eq_false h21]; rfl), List.length_append, List.length_singleton]; omega) (fun q g1 g2 => by rw [sv_u2_off g1, sv_u2_off g2]; exact i3 q g1 g2) (fun k hk => by rw [sv_u2_k hk, sv_u2_off (by decide)]; exact i4 k hk))
      · refine J_goto (pc := 33) 63 dX1_fit_33 (by decide) ?_
        refine S_inc_3 (pc := 63) (1) rfl dX1_fit_63 (by decide) ?_
        refine J_goto (pc := 66) 14 dX1_fit_66 (by decide) ?_
        first
        | exact svJ_ls (by rw [nI_succ]) (ih (t + 1) (by omega) (by omega) _ (by rw [show 10 * f + (t + 1) = 10 * f + t + 1 from rfl, mFit_f (by unfold mOkL; rw [e1, e2, ts_nt h30]; simp)]; exact i1) (by rw [show 10 * f + (t + 1) = 10 * f + t + 1 from rfl, mFit_f (by unfold mOkL; rw [e1, e2, ts_nt h30]; simp)]; omega) i3 i4)
        | exact svJ_ls (by rw [nI_succ]) (ih (t + 1) (by omega) (by omega) _ (by
            rw [show 10 * f + (t + 1) = 10 * f + t + 1 from rfl, mFit_t (by unfold mOkL; rw [e1, e2, h30, decide_eq_true hf, decide_eq_true (show t < C by omega), decide_eq_false h21]; rfl)]
            rw [sv_u2_off (by decide), i1.1, ← nI_succ, show (10 : Int32) * nI f + nI t = nI (10 * f + t) from by rw [show (10 : Int32) = nI 10 from rfl, pk_mul, nI_add]]
            exact fitR_push i1) (by
            rw [show 10 * f + (t + 1) = 10 * f + t + 1 from rfl, mFit_t (by unfold mOkL; rw [e1, e2, h30, decide_eq_true hf, decide_eq_true (show t < C by omega), decide_eq_false h21]; rfl), List.length_append, List.length_singleton]; omega) (fun q g1 g2 => by rw [sv_u2_off g1, sv_u2_off g2]; exact i3 q g1 g2) (fun k hk => by rw [sv_u2_k hk, sv_u2_off (by decide)]; exact i4 k hk))
set_option maxRecDepth 20000 in
set_option maxHeartbeats 2000000 in
theorem lo1_X1_fit {l : Launch} {G : svG} {hi : svH} {hl : svL} {tw dr : Nat} {pm : Nat → Nat} {C n : Nat} (hC : C ≤ 6) (hn : hi 66 0 = nI n) (hn2 : n ≤ 4) : ∀ f, f ≤ C → ∀ h' z, fitR h' (mFit (mOkL C n (hi 67) (hi 68)) (10 * f)) → (mFit (mOkL C n (hi 67) (hi 68)) (10 * f)).length ≤ 6 * f → (∀ q, q ≠ 66 → q ≠ 69 → h' q = hi q) → (∀ k, k ≠ 1 → h' 66 k = hi 66 k) → svJ l G rX1_fit mX1_fit (sv_Fm G (fun v sh a b c => v = none ∧ sh = svSH ∧ ((fun a b c => fitR a (mFit (mOkL C n (hi 67) (hi 68)) 60) ∧ (∀ q, q ≠ 66 → q ≠ 69 → a q = hi q) ∧ (∀ k, k ≠ 1 → a 66 k = hi 66 k) ∧ hl = b ∧ sv_hr tw dr pm = c)) a b c) 0 0) 0 0 7 [some (sv_rf G.1 66), some (.int (nI C)), some (.int (nI f)), z] [] svSH h' hl (sv_hr tw dr pm) := by
  refine sv_up (fun f hf ih h' z i1 i2 i3 i4 => ?_)
  refine S_iload_2 (pc := 7) dX1_fit_7 ?_
  refine S_iload_1 (pc := 8) dX1_fit_8 ?_
  refine J_icmp_ge (pc := 9) 75 dX1_fit_9 (by decide) (fun h9 => ?_) (fun h9 => ?_)
  · rw [nI_leI (by omega) (by omega)] at h9
    obtain rfl : f = C := by omega
    exact J_return (pc := 75) dX1_fit_75 rfl ⟨rfl, rfl, ⟨by
          rw [show 60 = 10 * f + (60 - 10 * f) from by omega, mFit_more _ (fun k hk => by
            unfold mOkL
            rw [decide_eq_false (show ¬ (10 * f + k) / 10 < f by omega)]
            rfl)]
          exact i1, i3, i4, rfl, rfl⟩⟩
  · rw [nI_leI (by omega) (by omega)] at h9
    refine J_iconst (pc := 12) (0) rfl dX1_fit_12 ?_
    refine S_istore_3 (pc := 13) dX1_fit_13 (by decide) ?_
    exact lo2_X1_fit hC hn hn2 (by omega) (fun h' z => ih (f + 1) (by omega) (by omega) h' z) 0 (Nat.zero_le _) _ i1 (by omega) i3 i4
set_option maxRecDepth 20000 in
set_option maxHeartbeats 2000000 in
theorem t_X1_fit {l : Launch} {G : svG} {hi : svH} {hl : svL} {tw dr : Nat} {pm : Nat → Nat} {C n : Nat} (hC : C ≤ 6) (hn : hi 66 0 = nI n) (hn2 : n ≤ 4) : svV l G yX1_fit mX1_fit rX1_fit [sv_rf G.1 66, .int (nI C)] hi hl (sv_hr tw dr pm) (fun a b c => fitR a (mFit (mOkL C n (hi 67) (hi 68)) 60) ∧ (∀ q, q ≠ 66 → q ≠ 69 → a q = hi q) ∧ (∀ k, k ≠ 1 → a 66 k = hi 66 k) ∧ hl = b ∧ sv_hr tw dr pm = c) := by
  refine sv_entry (by decide +kernel) rfl rfl (Nat.le_of_ble_eq_true rfl) (by simp [Value.category, sv_rf]) [some (sv_rf G.1 66), some (.int (nI C)), none, none] rfl ?_
  refine S_aload_0 (pc := 0) dX1_fit_0 ?_
  refine J_iconst (pc := 1) (0) rfl dX1_fit_1 ?_
  refine fpX1_15 (pc := 2) sh_66 dX1_fit_2 ?_
  refine J_iconst (pc := 5) (0) rfl dX1_fit_5 ?_
  refine S_istore_2 (pc := 6) dX1_fit_6 (by decide) ?_
  
  exact lo1_X1_fit hC hn hn2 0 (Nat.zero_le _) _ none ⟨sv_u2_at, fun i u h => by simp [mFit] at h⟩ (by simp [mFit]) (fun q g1 _ => sv_u2_off g1) (fun k hk => sv_u2_k hk)
def mForA (L : List Nat) (x z : Int32) : Nat := L.countP (fun u => decide (sv_cho (nI (u / 10)) (nI (u % 10)) x z = x))
theorem mForA_le (L : List Nat) (x z : Int32) : mForA L x z ≤ L.length := List.countP_le_length
theorem mForA_step {L : List Nat} {x z : Int32} {t u : Nat} (h : L[t]? = some u) : mForA (L.take (t + 1)) x z = mForA (L.take t) x z + (if sv_cho (nI (u / 10)) (nI (u % 10)) x z = x then 1 else 0) := by
  unfold mForA
  rw [List.take_succ, h, List.countP_append]
  congr 1
  simp [List.countP_cons]
set_option maxRecDepth 20000 in
set_option maxHeartbeats 2000000 in
theorem lo_X1_countFor {l : Launch} {G : svG} {hi : svH} {hl : svL} {tw dr : Nat} {pm : Nat → Nat} {L : List Nat} {x z : Int32} (hL : fitR hi L) (hl60 : ∀ u, u ∈ L → u < 60) (hlen : L.length ≤ 36) : ∀ t, t ≤ L.length → svJ l G rX1_countFor mX1_countFor (sv_Fm G (fun v sh a b c => ∃ r, v = some (.int r) ∧ sh = svSH ∧ ((nI (mForA L x z)) = r ∧ hi = a ∧ hl = b ∧ (sv_hr tw dr pm) = c)) 0 0) 0 0 5 [some (sv_rf G.1 66), some (.int x), some (.int z), some (.int (nI (mForA (L.take t) x z))), some (.int (nI t))] [] svSH hi hl (sv_hr tw dr pm) := by
  refine sv_up (fun t ht ih => ?_)
  refine S_iload_4 (pc := 5) dX1_countFor_5 ?_
  refine S_aload_0 (pc := 7) dX1_countFor_7 ?_
  refine fgX1_15 (pc := 8) sh_66 dX1_countFor_8 ?_
  refine J_icmp_ge (pc := 11) 56 dX1_countFor_11 (by decide) (fun h11 => ?_) (fun h11 => ?_)
  · rw [hL.1, nI_leI (by omega) (by omega)] at h11
    obtain rfl : t = L.length := by omega
    refine S_iload_3 (pc := 56) dX1_countFor_56 ?_
    exact J_ireturn (pc := 57) dX1_countFor_57 rfl rfl ⟨_, rfl, rfl, ⟨by rw [List.take_length], rfl, rfl, rfl⟩⟩
  · rw [hL.1, nI_leI (by omega) (by omega)] at h11
    obtain ⟨u, hu⟩ : ∃ u, L[t]? = some u := ⟨_, List.getElem?_eq_getElem (show t < L.length by omega)⟩
    have hu60 := hl60 u (List.mem_of_getElem? hu)
    have e69 : hi 69 t = nI u := hL.2 t u hu
    refine S_aload_0 (pc := 14) dX1_countFor_14 ?_
    refine fgX1_25 (pc := 15) sh_66 hv_66_4 dX1_countFor_15 ?_
    refine S_iload_4 (pc := 18) dX1_countFor_18 ?_
    refine caX1_36 (pc := 20) (t_X7_at_n (l := l) (G := G) (j := t) sh_69 (by omega) (by decide)) (Nat.le_of_ble_eq_true rfl) ⟨rfl, rfl, ⟨by decide, by decide⟩, by decide, by decide⟩ dX1_countFor_20 (fun r20 a20 b20 c20 p20 => ?_)
    obtain ⟨rfl, rfl, rfl, rfl⟩ := p20
    refine J_bipush (pc := 23) (10) rfl dX1_countFor_23 ?_
    refine J_idiv (pc := 25) (by decide) dX1_countFor_25 ?_
    refine S_aload_0 (pc := 26) dX1_countFor_26 ?_
    refine fgX1_25 (pc := 27) sh_66 hv_66_4 dX1_countFor_27 ?_
    refine S_iload_4 (pc := 30) dX1_countFor_30 ?_
    refine caX1_36 (pc := 32) (t_X7_at_n (l := l) (G := G) (j := t) sh_69 (by omega) (by decide)) (Nat.le_of_ble_eq_true rfl) ⟨rfl, rfl, ⟨by decide, by decide⟩, by decide, by decide⟩ dX1_countFor_32 (fun r32 a32 b32 c32 p32 => ?_)
    obtain ⟨rfl, rfl, rfl, rfl⟩ := p32
    refine J_bipush (pc := 35) (10) rfl dX1_countFor_35 ?_
    refine J_irem (pc := 37) (by decide) dX1_countFor_37 ?_
    refine S_iload_1 (pc := 38) dX1_countFor_38 ?_
    refine S_iload_2 (pc := 39) dX1_countFor_39 ?_
    refine caX1_49 (pc := 40) (by rw [e69, show (10 : Int32) = nI 10 from rfl, pk_div (by omega) (by decide) (by decide), pk_mul, show nI (u / 10 * 10) = nI (10 * (u / 10)) from by rw [Nat.mul_comm], show nI u - nI (10 * (u / 10)) = nI (u % 10) from by rw [pk_sub (by omega)]; congr 1; omega]; exact t_X1_choice) (Nat.le_of_ble_eq_true rfl) ⟨rfl, rfl, ⟨by decide, by decide⟩, by decide, by decide⟩ dX1_countFor_40 (fun r40 a40 b40 c40 p40 => ?_)
    obtain ⟨rfl, rfl, rfl, rfl⟩ := p40
    refine S_iload_1 (pc := 43) dX1_countFor_43 ?_
    refine J_icmp_ne (pc := 44) 50 dX1_countFor_44 (by decide) (fun h44 => ?_) (fun h44 => ?_)
    · refine S_inc_4 (pc := 50) (1) rfl dX1_countFor_50 (by decide) ?_
      refine J_goto (pc := 53) 5 dX1_countFor_53 (by decide) ?_
      first
      | exact svJ_ls (by rw [nI_succ, mForA_step hu, if_neg h44]; rfl) (ih (t + 1) (by omega) (by omega))
      | exact svJ_ls (by rw [nI_succ, mForA_step hu, if_pos h44, nI_succ]) (ih (t + 1) (by omega) (by omega))
    · refine S_inc_3 (pc := 47) (1) rfl dX1_countFor_47 (by decide) ?_
      refine S_inc_4 (pc := 50) (1) rfl dX1_countFor_50 (by decide) ?_
      refine J_goto (pc := 53) 5 dX1_countFor_53 (by decide) ?_
      first
      | exact svJ_ls (by rw [nI_succ, mForA_step hu, if_neg h44]; rfl) (ih (t + 1) (by omega) (by omega))
      | exact svJ_ls (by rw [nI_succ, mForA_step hu, if_pos h44, nI_succ]) (ih (t + 1) (by omega) (by omega))
set_option maxRecDepth 20000 in
set_option maxHeartbeats 2000000 in
theorem t_X1_countFor {l : Launch} {G : svG} {hi : svH} {hl : svL} {tw dr : Nat} {pm : Nat → Nat} {L : List Nat} {x z : Int32} (hL : fitR hi L) (hl60 : ∀ u, u ∈ L → u < 60) (hlen : L.length ≤ 36) : svIp l G yX1_countFor mX1_countFor rX1_countFor [sv_rf G.1 66, .int x, .int z] hi hl (sv_hr tw dr pm) (nI (mForA L x z)) := by
  refine sv_entry (by decide +kernel) rfl rfl (Nat.le_of_ble_eq_true rfl) (by simp [Value.category, sv_rf]) [some (sv_rf G.1 66), some (.int x), some (.int z), none, none] rfl ?_
  refine J_iconst (pc := 0) (0) rfl dX1_countFor_0 ?_
  refine S_istore_3 (pc := 1) dX1_countFor_1 (by decide) ?_
  refine J_iconst (pc := 2) (0) rfl dX1_countFor_2 ?_
  refine S_istore_4 (pc := 3) dX1_countFor_3 (by decide) ?_
  
  exact svJ_ls (by rfl) (lo_X1_countFor hL hl60 hlen 0 (Nat.zero_le _))
/-- asking: of two, the greater part; the best two so far, and the least part -/
def mAskS (all : Nat) (cnt : Nat → Nat → Nat) (x z : Nat) (q : Int32 × Nat) : Int32 × Nat := if max (cnt x z) (all - cnt x z) < q.2 then (nI (10 * x + z), max (cnt x z) (all - cnt x z)) else q
def mAskB (all : Nat) (cnt : Nat → Nat → Nat) (x : Nat) (q : Int32 × Nat) : Nat → Int32 × Nat
  | 0 => q
  | n + 1 => mAskS all cnt x (x + 1 + n) (mAskB all cnt x q n)
def mAskA (all : Nat) (cnt : Nat → Nat → Nat) (C : Nat) : Nat → Int32 × Nat
  | 0 => (-9, all)
  | x + 1 => mAskB all cnt x (mAskA all cnt C x) (C - (x + 1))
theorem mAskS_le {all : Nat} {cnt : Nat → Nat → Nat} {x z : Nat} {q : Int32 × Nat} (h : q.2 ≤ all) : (mAskS all cnt x z q).2 ≤ all := by
  unfold mAskS
  split
  · show max _ _ ≤ all; omega
  · exact h
theorem mAskB_le {all : Nat} {cnt : Nat → Nat → Nat} {x : Nat} {q : Int32 × Nat} (h : q.2 ≤ all) : ∀ n, (mAskB all cnt x q n).2 ≤ all := by
  intro n
  induction n with
  | zero => exact h
  | succ n ih => exact mAskS_le ih
theorem mAskA_le {all : Nat} {cnt : Nat → Nat → Nat} {C : Nat} : ∀ x, (mAskA all cnt C x).2 ≤ all := by
  intro x
  induction x with
  | zero => exact Nat.le_refl _
  | succ x ih => exact mAskB_le ih _
theorem max_sub {n all : Nat} (h : n ≤ all) (h2 : all < 2 ^ 31) : (if nI n < nI all - nI n then nI all - nI n else nI n) = nI (max n (all - n)) := by
  rw [pk_sub h]
  by_cases h3 : n < all - n
  · rw [if_pos ((nI_ltI (by omega) (by omega)).mpr h3)]; congr 1; omega
  · rw [if_neg (fun q => h3 ((nI_ltI (by omega) (by omega)).mp q))]; congr 1; omega
set_option maxRecDepth 20000 in
set_option maxHeartbeats 2000000 in
theorem lo2_X1_question {l : Launch} {G : svG} {hi : svH} {hl : svL} {tw dr : Nat} {pm : Nat → Nat} {C : Nat} {L : List Nat} (hC : C ≤ 6) (hL : fitR hi L) (hl60 : ∀ u, u ∈ L → u < 60) (hlen : L.length ≤ 36) {f : Nat} (hf : f < C) (hout : (∀ z0 z1 z2, svJ l G rX1_question mX1_question (sv_Fm G (fun v sh a b c => ∃ r, v = some (.int r) ∧ sh = svSH ∧ (((mAskA L.length (fun x z => mForA L (nI x) (nI z)) C C).1) = r ∧ hi = a ∧ hl = b ∧ (sv_hr tw dr pm) = c)) 0 0) 0 0 11 [some (sv_rf G.1 66), some (.int (nI C)), some (.int (mAskA L.length (fun x z => mForA L (nI x) (nI z)) C (f + 1)).1), some (.int (nI (mAskA L.length (fun x z => mForA L (nI x) (nI z)) C (f + 1)).2)), some (.int (nI (f + 1))), z0, z1, z2] [] svSH hi hl (sv_hr tw dr pm))) : ∀ t, t ≤ C - (f + 1) → ∀ z1 z2, svJ l G rX1_question mX1_question (sv_Fm G (fun v sh a b c => ∃ r, v = some (.int r) ∧ sh = svSH ∧ (((mAskA L.length (fun x z => mForA L (nI x) (nI z)) C C).1) = r ∧ hi = a ∧ hl = b ∧ (sv_hr tw dr pm) = c)) 0 0) 0 0 23 [some (sv_rf G.1 66), some (.int (nI C)), some (.int (mAskB L.length (fun x z => mForA L (nI x) (nI z)) f (mAskA L.length (fun x z => mForA L (nI x) (nI z)) C f) t).1), some (.int (nI (mAskB L.length (fun x z => mForA L (nI x) (nI z)) f (mAskA L.length (fun x z => mForA L (nI x) (nI z)) C f) t).2)), some (.int (nI f)), some (.int (nI (f + 1 + t))), z1, z2] [] svSH hi hl (sv_hr tw dr pm) := by
  refine sv_up (fun t ht ih z1 z2 => ?_)
  have hle : (mAskB L.length (fun x z => mForA L (nI x) (nI z)) f (mAskA L.length (fun x z => mForA L (nI x) (nI z)) C f) t).2 ≤ L.length := mAskB_le (mAskA_le f) t
  refine S_iload_5 (pc := 23) dX1_question_23 ?_
  refine S_iload_1 (pc := 25) dX1_question_25 ?_
  refine J_icmp_ge (pc := 26) 80 dX1_question_26 (by decide) (fun h26 => ?_) (fun h26 => ?_)
  · rw [nI_leI (by omega) (by omega)] at h26
    obtain rfl : t = C - (f + 1) := by omega
    refine S_inc_4 (pc := 80) (1) rfl dX1_question_80 (by decide) ?_
    refine J_goto (pc := 83) 11 dX1_question_83 (by decide) ?_
    exact svJ_ls (by rw [mAskA, nI_succ]) (hout _ _ _)
  · rw [nI_leI (by omega) (by omega)] at h26
    have hm := mForA_le L (nI f) (nI (f + 1 + t))
    refine S_aload_0 (pc := 29) dX1_question_29 ?_
    refine S_iload_4 (pc := 30) dX1_question_30 ?_
    refine S_iload_5 (pc := 32) dX1_question_32 ?_
    refine caX1_40 (pc := 34) (t_X1_countFor (l := l) (G := G) hL hl60 hlen) sh_66 (Nat.le_of_ble_eq_true rfl) ⟨rfl, rfl, ⟨by decide, by decide⟩, by decide, by decide⟩ dX1_question_34 (fun r34 a34 b34 c34 p34 => ?_)
    obtain ⟨rfl, rfl, rfl, rfl⟩ := p34
    refine S_istore_6 (pc := 37) dX1_question_37 (by decide) ?_
    refine S_iload_6 (pc := 39) dX1_question_39 ?_
    refine S_aload_0 (pc := 41) dX1_question_41 ?_
    refine fgX1_15 (pc := 42) sh_66 dX1_question_42 ?_
    refine S_iload_6 (pc := 45) dX1_question_45 ?_
    refine J_isub (pc := 47) dX1_question_47 ?_
    refine maX1_44 (pc := 48) (by decide) (Nat.le_of_ble_eq_true rfl) (by decide) (by decide) dX1_question_48 ?_
    refine S_istore_7 (pc := 51) dX1_question_51 (by decide) ?_
    refine S_iload_7 (pc := 53) dX1_question_53 ?_
    refine S_iload_3 (pc := 55) dX1_question_55 ?_
    refine J_icmp_lt (pc := 56) 62 dX1_question_56 (by decide) (fun h56 => ?_) (fun h56 => ?_)
    · rw [hL.1, max_sub hm (by omega), nI_ltI (by omega) (by omega)] at h56
      refine S_iload_7 (pc := 62) dX1_question_62 ?_
      refine S_istore_3 (pc := 64) dX1_question_64 (by decide) ?_
      refine J_bipush (pc := 65) (10) rfl dX1_question_65 ?_
      refine S_iload_4 (pc := 67) dX1_question_67 ?_
      refine J_imul (pc := 69) dX1_question_69 ?_
      refine S_iload_5 (pc := 70) dX1_question_70 ?_
      refine J_iadd (pc := 72) dX1_question_72 ?_
      refine S_istore_2 (pc := 73) dX1_question_73 (by decide) ?_
      refine S_inc_5 (pc := 74) (1) rfl dX1_question_74 (by decide) ?_
      refine J_goto (pc := 77) 23 dX1_question_77 (by decide) ?_
      first
      | exact svJ_ls (by rw [mAskB, mAskS, if_neg h56, show f + 1 + (t + 1) = f + 1 + t + 1 from rfl, nI_succ (f + 1 + t) ]) (ih (t + 1) (by omega) (by omega) _ _)
      | exact svJ_ls (by rw [mAskB, mAskS, if_pos h56, hL.1, max_sub hm (by omega), show f + 1 + (t + 1) = f + 1 + t + 1 from rfl, nI_succ (f + 1 + t), show (10 : Int32) * nI f + nI (f + 1 + t) = nI (10 * f + (f + 1 + t)) from by rw [show (10 : Int32) = nI 10 from rfl, pk_mul, nI_add]]) (ih (t + 1) (by omega) (by omega) _ _)
    · rw [hL.1, max_sub hm (by omega), nI_ltI (by omega) (by omega)] at h56
      refine J_goto (pc := 59) 74 dX1_question_59 (by decide) ?_
      refine S_inc_5 (pc := 74) (1) rfl dX1_question_74 (by decide) ?_
      refine J_goto (pc := 77) 23 dX1_question_77 (by decide) ?_
      first
      | exact svJ_ls (by rw [mAskB, mAskS, if_neg h56, show f + 1 + (t + 1) = f + 1 + t + 1 from rfl, nI_succ (f + 1 + t) ]) (ih (t + 1) (by omega) (by omega) _ _)
      | exact svJ_ls (by rw [mAskB, mAskS, if_pos h56, hL.1, max_sub hm (by omega), show f + 1 + (t + 1) = f + 1 + t + 1 from rfl, nI_succ (f + 1 + t), show (10 : Int32) * nI f + nI (f + 1 + t) = nI (10 * f + (f + 1 + t)) from by rw [show (10 : Int32) = nI 10 from rfl, pk_mul, nI_add]]) (ih (t + 1) (by omega) (by omega) _ _)
set_option maxRecDepth 20000 in
set_option maxHeartbeats 2000000 in
theorem lo1_X1_question {l : Launch} {G : svG} {hi : svH} {hl : svL} {tw dr : Nat} {pm : Nat → Nat} {C : Nat} {L : List Nat} (hC : C ≤ 6) (hL : fitR hi L) (hl60 : ∀ u, u ∈ L → u < 60) (hlen : L.length ≤ 36) : ∀ f, f ≤ C → ∀ z0 z1 z2, svJ l G rX1_question mX1_question (sv_Fm G (fun v sh a b c => ∃ r, v = some (.int r) ∧ sh = svSH ∧ (((mAskA L.length (fun x z => mForA L (nI x) (nI z)) C C).1) = r ∧ hi = a ∧ hl = b ∧ (sv_hr tw dr pm) = c)) 0 0) 0 0 11 [some (sv_rf G.1 66), some (.int (nI C)), some (.int (mAskA L.length (fun x z => mForA L (nI x) (nI z)) C f).1), some (.int (nI (mAskA L.length (fun x z => mForA L (nI x) (nI z)) C f).2)), some (.int (nI f)), z0, z1, z2] [] svSH hi hl (sv_hr tw dr pm) := by
  refine sv_up (fun f hf ih z0 z1 z2 => ?_)
  refine S_iload_4 (pc := 11) dX1_question_11 ?_
  refine S_iload_1 (pc := 13) dX1_question_13 ?_
  refine J_icmp_ge (pc := 14) 86 dX1_question_14 (by decide) (fun h14 => ?_) (fun h14 => ?_)
  · rw [nI_leI (by omega) (by omega)] at h14
    obtain rfl : f = C := by omega
    refine S_iload_2 (pc := 86) dX1_question_86 ?_
    exact J_ireturn (pc := 87) dX1_question_87 rfl rfl ⟨_, rfl, rfl, ⟨rfl, rfl, rfl, rfl⟩⟩
  · rw [nI_leI (by omega) (by omega)] at h14
    refine S_iload_4 (pc := 17) dX1_question_17 ?_
    refine J_iconst (pc := 19) (1) rfl dX1_question_19 ?_
    refine J_iadd (pc := 20) dX1_question_20 ?_
    refine S_istore_5 (pc := 21) dX1_question_21 (by decide) ?_
    exact svJ_ls (by rw [mAskB, show nI (f + 1 + 0) = nI f + 1 from nI_succ f]) (lo2_X1_question hC hL hl60 hlen (by omega) (fun z0 z1 z2 => ih (f + 1) (by omega) (by omega) z0 z1 z2) 0 (Nat.zero_le _) z1 z2)
set_option maxRecDepth 20000 in
set_option maxHeartbeats 2000000 in
theorem t_X1_question {l : Launch} {G : svG} {hi : svH} {hl : svL} {tw dr : Nat} {pm : Nat → Nat} {C : Nat} {L : List Nat} (hC : C ≤ 6) (hL : fitR hi L) (hl60 : ∀ u, u ∈ L → u < 60) (hlen : L.length ≤ 36) : svIp l G yX1_question mX1_question rX1_question [sv_rf G.1 66, .int (nI C)] hi hl (sv_hr tw dr pm) ((mAskA L.length (fun x z => mForA L (nI x) (nI z)) C C).1) := by
  refine sv_entry (by decide +kernel) rfl rfl (Nat.le_of_ble_eq_true rfl) (by simp [Value.category, sv_rf]) [some (sv_rf G.1 66), some (.int (nI C)), none, none, none, none, none, none] rfl ?_
  refine J_bipush (pc := 0) (-9) rfl dX1_question_0 ?_
  refine S_istore_2 (pc := 2) dX1_question_2 (by decide) ?_
  refine S_aload_0 (pc := 3) dX1_question_3 ?_
  refine fgX1_15 (pc := 4) sh_66 dX1_question_4 ?_
  refine S_istore_3 (pc := 7) dX1_question_7 (by decide) ?_
  refine J_iconst (pc := 8) (0) rfl dX1_question_8 ?_
  refine S_istore_4 (pc := 9) dX1_question_9 (by decide) ?_
  
  exact svJ_ls (by rw [hL.1]; rfl) (lo1_X1_question hC hL hl60 hlen 0 (Nat.zero_le _) none none none)
theorem mFit_lt {ok : Nat → Bool} {u : Nat} : ∀ v, v ∈ mFit ok u → v < u := fun v h => List.mem_range.mp (List.mem_filter.mp h).1
theorem mFit_len {C n : Nat} {ch ot : Nat → Int32} (hC : C ≤ 6) : (mFit (mOkL C n ch ot) 60).length ≤ 36 := by
  have h : (mFit (mOkL C n ch ot) 60).length ≤ ((List.range 60).filter (fun u => decide (u % 10 < 6))).length := by
    unfold mFit
    rw [← List.countP_eq_length_filter, ← List.countP_eq_length_filter]
    refine List.countP_mono_left (fun u _ hu => ?_)
    unfold mOkL at hu
    simp only [Bool.and_eq_true, decide_eq_true_eq] at hu
    simp only [decide_eq_true_eq]
    omega
  exact Nat.le_trans h (by decide +kernel)
def fHead : List Nat → Int32
  | [] => -9
  | u :: _ => nI u
def fLik (L : List Nat) (what : Int32) : Int32 := if 0 ≤ what ∧ what < 2 then (if what = 0 then nI L.length else fHead L) else -1
theorem mFit_first {hi : svH} {L : List Nat} (hlen : L.length ≤ 36) (h : fitR hi L) : (if 0 < nI L.length then hi 69 0 else -9) = fHead L := by
  cases L with
  | nil => rfl
  | cons u t =>
    rw [if_pos (by rw [show (0 : Int32) = nI 0 from rfl, nI_ltI (by decide) (by omega)]; simp)]
    exact h.2 0 u rfl
set_option maxRecDepth 20000 in
set_option maxHeartbeats 2000000 in
theorem t_X1_firstFit {l : Launch} {G : svG} {hi : svH} {hl : svL} {tw dr : Nat} {pm : Nat → Nat} {L : List Nat} (hL : fitR hi L) (hlen : L.length ≤ 36) : svIp l G yX1_firstFit mX1_firstFit rX1_firstFit [sv_rf G.1 66] hi hl (sv_hr tw dr pm) (fHead L) := by
  refine sv_entry (by decide +kernel) rfl rfl (Nat.le_of_ble_eq_true rfl) (by simp [Value.category, sv_rf]) [some (sv_rf G.1 66)] rfl ?_
  refine S_aload_0 (pc := 0) dX1_firstFit_0 ?_
  refine fgX1_15 (pc := 1) sh_66 dX1_firstFit_1 ?_
  refine J_if_le (pc := 4) 18 dX1_firstFit_4 (by decide) (fun h4 => ?_) (fun h4 => ?_)
  · refine J_bipush (pc := 18) (-9) rfl dX1_firstFit_18 ?_
    exact J_ireturn (pc := 20) dX1_firstFit_20 rfl rfl ⟨_, rfl, rfl, ⟨by rw [← mFit_first hlen hL]; first | exact (if_pos (by rw [← hL.1]; exact Int32.not_le.mp h4)) | exact if_neg (by rw [← hL.1]; exact fun q => Int32.not_le.mpr q h4), rfl, rfl, rfl⟩⟩
  · refine S_aload_0 (pc := 7) dX1_firstFit_7 ?_
    refine fgX1_25 (pc := 8) sh_66 hv_66_4 dX1_firstFit_8 ?_
    refine J_iconst (pc := 11) (0) rfl dX1_firstFit_11 ?_
    refine caX1_36 (pc := 12) (t_X7_at_x (l := l) (G := G) 0 rfl sh_69 (by decide) (by decide)) (Nat.le_of_ble_eq_true rfl) ⟨rfl, rfl, ⟨by decide, by decide⟩, by decide, by decide⟩ dX1_firstFit_12 (fun r12 a12 b12 c12 p12 => ?_)
    obtain ⟨rfl, rfl, rfl, rfl⟩ := p12
    refine J_goto (pc := 15) 20 dX1_firstFit_15 (by decide) ?_
    exact J_ireturn (pc := 20) dX1_firstFit_20 rfl rfl ⟨_, rfl, rfl, ⟨by rw [← mFit_first hlen hL]; first | exact (if_pos (by rw [← hL.1]; exact Int32.not_le.mp h4)) | exact if_neg (by rw [← hL.1]; exact fun q => Int32.not_le.mpr q h4), rfl, rfl, rfl⟩⟩
set_option maxRecDepth 20000 in
set_option maxHeartbeats 2000000 in
theorem t_X7_likings {l : Launch} {G : svG} {hi : svH} {hl : svL} {tw dr : Nat} {pm : Nat → Nat} {C L T Gn : Nat} (hx : xT hi tw C L T Gn) {n : Nat} {what : Int32} (hn : hi 66 0 = nI n) (hn2 : n ≤ 4) : svI l G yX7_likings mX7_likings rX7_likings [sv_rf G.1 0, .int what] hi hl (sv_hr tw dr pm) (fun r a b c => fLik (mFit (mOkL C n (hi 67) (hi 68)) 60) what = r ∧ (∀ q, q ≠ 66 → q ≠ 69 → a q = hi q) ∧ (∀ k, k ≠ 1 → a 66 k = hi 66 k) ∧ hl = b ∧ sv_hr tw dr pm = c) := by
  obtain ⟨htw, hCc, hLc, hT, hGn, hC2, hC6, hL1, hLC, hT8, hG6, hf, hs, hk⟩ := id hx
  have htw2 := sv_tw htw
  have hk6 : ∀ t, t < T → ∃ j, j < 6 ∧ hi 20 t = nI j := fun t ht => (hk t ht).elim fun j h => ⟨j, by omega, h.2⟩
  have hf6 : ∀ r, r < Gn → ∃ j, j < 6 ∧ hi (tw + 5) r = nI j := fun r hr => (hf r hr).elim fun j h => ⟨j, by omega, h.2⟩
  have hs6 : ∀ r, r < Gn → ∃ j, j < 6 ∧ hi (tw + 6) r = nI j := fun r hr => (hs r hr).elim fun j h => ⟨j, by omega, h.2⟩
  refine sv_entry (by decide +kernel) rfl rfl (Nat.le_of_ble_eq_true rfl) (by simp [Value.category, sv_rf]) [some (sv_rf G.1 0), some (.int what)] rfl ?_
  refine S_iload_1 (pc := 0) dX7_likings_0 ?_
  refine J_iconst (pc := 1) (2) rfl dX7_likings_1 ?_
  refine caX7_68 (pc := 2) (t_X7_isIn (l := l) (G := G)) (Nat.le_of_ble_eq_true rfl) ⟨rfl, rfl, ⟨by decide, by decide⟩, by decide, by decide⟩ dX7_likings_2 (fun r2 a2 b2 c2 p2 => ?_)
  obtain ⟨rfl, rfl, rfl, rfl⟩ := p2
  refine J_if_ne_b (pc := 5) 10 dX7_likings_5 (by decide) (fun h5 => ?_) (fun h5 => ?_)
  · refine S_aload_0 (pc := 10) dX7_likings_10 ?_
    refine fgX7_50 (pc := 11) sh_0 hv_0_6 dX7_likings_11 ?_
    refine S_aload_0 (pc := 14) dX7_likings_14 ?_
    refine fgX7_10 (pc := 15) sh_0 hv_0_0 dX7_likings_15 ?_
    refine fgX7_137 (pc := 18) htw dX7_likings_18 ?_
    refine caX7_215 (pc := 21) (by have h := t_X1_fit (l := l) (G := G) (hl := hl) (tw := tw) (dr := dr) (pm := pm) hC6 hn hn2; rw [← hCc] at h; exact h) sh_66 (Nat.le_of_ble_eq_true rfl) ⟨rfl, rfl, ⟨by decide, by decide⟩, by decide, by decide⟩ dX7_likings_21 (fun a21 b21 c21 p21 => ?_)
    obtain ⟨i1, i2, i3, rfl, rfl⟩ := p21
    have hlen : (mFit (mOkL C n (hi 67) (hi 68)) 60).length ≤ 36 := mFit_len hC6
    refine S_iload_1 (pc := 24) dX7_likings_24 ?_
    refine J_if_ne (pc := 25) 38 dX7_likings_25 (by decide) (fun h25 => ?_) (fun h25 => ?_)
    · refine S_aload_0 (pc := 38) dX7_likings_38 ?_
      refine fgX7_50 (pc := 39) sh_0 hv_0_6 dX7_likings_39 ?_
      refine caX7_221 (pc := 42) (t_X1_firstFit (l := l) (G := G) i1 hlen) sh_66 (Nat.le_of_ble_eq_true rfl) ⟨rfl, rfl, ⟨by decide, by decide⟩, by decide, by decide⟩ dX7_likings_42 (fun r42 a42 b42 c42 p42 => ?_)
      obtain ⟨rfl, rfl, rfl, rfl⟩ := p42
      exact J_ireturn (pc := 45) dX7_likings_45 rfl rfl ⟨_, rfl, rfl, (by unfold fLik; first | (rw [if_neg h5]; exact ⟨rfl, fun _ _ _ => rfl, fun _ _ => rfl, rfl, rfl⟩) | (rw [if_pos h5, if_pos h25]; exact ⟨i1.1.symm, i2, i3, rfl, rfl⟩) | (rw [if_pos h5, if_neg h25]; exact ⟨rfl, i2, i3, rfl, rfl⟩))⟩
    · refine S_aload_0 (pc := 28) dX7_likings_28 ?_
      refine fgX7_50 (pc := 29) sh_0 hv_0_6 dX7_likings_29 ?_
      refine fgX7_218 (pc := 32) sh_66 dX7_likings_32 ?_
      refine J_goto (pc := 35) 45 dX7_likings_35 (by decide) ?_
      exact J_ireturn (pc := 45) dX7_likings_45 rfl rfl ⟨_, rfl, rfl, (by unfold fLik; first | (rw [if_neg h5]; exact ⟨rfl, fun _ _ _ => rfl, fun _ _ => rfl, rfl, rfl⟩) | (rw [if_pos h5, if_pos h25]; exact ⟨i1.1.symm, i2, i3, rfl, rfl⟩) | (rw [if_pos h5, if_neg h25]; exact ⟨rfl, i2, i3, rfl, rfl⟩))⟩
  · refine J_iconst (pc := 8) (-1) rfl dX7_likings_8 ?_
    exact J_ireturn (pc := 9) dX7_likings_9 rfl rfl ⟨_, rfl, rfl, (by unfold fLik; first | (rw [if_neg h5]; exact ⟨rfl, fun _ _ _ => rfl, fun _ _ => rfl, rfl, rfl⟩) | (rw [if_pos h5, if_pos h25]; exact ⟨i1.1.symm, i2, i3, rfl, rfl⟩) | (rw [if_pos h5, if_neg h25]; exact ⟨rfl, i2, i3, rfl, rfl⟩))⟩
set_option maxRecDepth 20000 in
set_option maxHeartbeats 2000000 in
theorem t_X7_ask {l : Launch} {G : svG} {hi : svH} {hl : svL} {tw dr : Nat} {pm : Nat → Nat} {C L T Gn : Nat} (hx : xT hi tw C L T Gn) {n : Nat} (hn : hi 66 0 = nI n) (hn2 : n ≤ 4) : svI l G yX7_ask mX7_ask rX7_ask [sv_rf G.1 0] hi hl (sv_hr tw dr pm) (fun r a b c => (mAskA (mFit (mOkL C n (hi 67) (hi 68)) 60).length (fun x z => mForA (mFit (mOkL C n (hi 67) (hi 68)) 60) (nI x) (nI z)) C C).1 = r ∧ (∀ q, q ≠ 66 → q ≠ 69 → a q = hi q) ∧ (∀ k, k ≠ 1 → a 66 k = hi 66 k) ∧ hl = b ∧ sv_hr tw dr pm = c) := by
  obtain ⟨htw, hCc, hLc, hT, hGn, hC2, hC6, hL1, hLC, hT8, hG6, hf, hs, hk⟩ := id hx
  have htw2 := sv_tw htw
  have hk6 : ∀ t, t < T → ∃ j, j < 6 ∧ hi 20 t = nI j := fun t ht => (hk t ht).elim fun j h => ⟨j, by omega, h.2⟩
  have hf6 : ∀ r, r < Gn → ∃ j, j < 6 ∧ hi (tw + 5) r = nI j := fun r hr => (hf r hr).elim fun j h => ⟨j, by omega, h.2⟩
  have hs6 : ∀ r, r < Gn → ∃ j, j < 6 ∧ hi (tw + 6) r = nI j := fun r hr => (hs r hr).elim fun j h => ⟨j, by omega, h.2⟩
  refine sv_entry (by decide +kernel) rfl rfl (Nat.le_of_ble_eq_true rfl) (by simp [Value.category, sv_rf]) [some (sv_rf G.1 0)] rfl ?_
  refine S_aload_0 (pc := 0) dX7_ask_0 ?_
  refine fgX7_50 (pc := 1) sh_0 hv_0_6 dX7_ask_1 ?_
  refine S_aload_0 (pc := 4) dX7_ask_4 ?_
  refine fgX7_10 (pc := 5) sh_0 hv_0_0 dX7_ask_5 ?_
  refine fgX7_137 (pc := 8) htw dX7_ask_8 ?_
  refine caX7_215 (pc := 11) (by have h := t_X1_fit (l := l) (G := G) (hl := hl) (tw := tw) (dr := dr) (pm := pm) hC6 hn hn2; rw [← hCc] at h; exact h) sh_66 (Nat.le_of_ble_eq_true rfl) ⟨rfl, rfl, ⟨by decide, by decide⟩, by decide, by decide⟩ dX7_ask_11 (fun a11 b11 c11 p11 => ?_)
  obtain ⟨i1, i2, i3, rfl, rfl⟩ := p11
  have hlen : (mFit (mOkL C n (hi 67) (hi 68)) 60).length ≤ 36 := mFit_len hC6
  refine S_aload_0 (pc := 14) dX7_ask_14 ?_
  refine fgX7_50 (pc := 15) sh_0 hv_0_6 dX7_ask_15 ?_
  refine S_aload_0 (pc := 18) dX7_ask_18 ?_
  refine fgX7_10 (pc := 19) sh_0 hv_0_0 dX7_ask_19 ?_
  refine fgX7_137 (pc := 22) htw dX7_ask_22 ?_
  refine caX7_224 (pc := 25) (by have h := t_X1_question (l := l) (G := G) (hi := a11) (hl := hl) (tw := tw) (dr := dr) (pm := pm) hC6 i1 (fun u h => mFit_lt u h) hlen; rw [← hCc, ← i2 tw (by omega) (by omega)] at h; exact h) sh_66 (Nat.le_of_ble_eq_true rfl) ⟨rfl, rfl, ⟨by decide, by decide⟩, by decide, by decide⟩ dX7_ask_25 (fun r25 a25 b25 c25 p25 => ?_)
  obtain ⟨rfl, rfl, rfl, rfl⟩ := p25
  exact J_ireturn (pc := 28) dX7_ask_28 rfl rfl ⟨_, rfl, rfl, ⟨rfl, i2, i3, rfl, rfl⟩⟩
