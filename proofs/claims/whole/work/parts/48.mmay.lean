set_option maxRecDepth 20000 in
set_option maxHeartbeats 2000000 in
theorem t_X8_mayBegin {l : Launch} {G : svG} {hi : svH} {hl : svL} {tw dr : Nat} {pm : Nat → Nat} {x : Int32} : svIp l G yX8_mayBegin mX8_mayBegin rX8_mayBegin [sv_rf G.1 164, .int x] hi hl (sv_hr tw dr pm) (sv_b (x = 99 ∧ hi 164 21 = 0 ∨ x = 116 ∧ hi 164 25 < 8 ∨ x = 114 ∧ hi 164 29 < 6)) := by
  refine sv_entry (by decide +kernel) rfl rfl (Nat.le_of_ble_eq_true rfl) (by simp [Value.category, sv_rf]) [some (sv_rf G.1 164), some (.int x)] rfl ?_
  refine S_iload_1 (pc := 0) dX8_mayBegin_0 ?_
  rcases look3 x with rfl | rfl | rfl | hw
  · refine J_lookup (pc := 1) (off := 35) 36 dX8_mayBegin_1 (by decide) (by decide) (by decide) ?_
    refine S_aload_0 (pc := 36) dX8_mayBegin_36 ?_
    refine fgX8_112 (pc := 37) sh_164 dX8_mayBegin_37 ?_
    refine J_if_ne (pc := 40) 47 dX8_mayBegin_40 (by decide) (fun h40 => ?_) (fun h40 => ?_)
    · refine J_iconst (pc := 47) (0) rfl dX8_mayBegin_47 ?_
      exact J_ireturn (pc := 48) dX8_mayBegin_48 rfl rfl ⟨_, rfl, rfl, ⟨by first | exact sv_b_t (Or.inl ⟨rfl, h40⟩) | exact sv_b_f (fun q => by rcases q with q | q | q; exact h40 q.2; exact absurd q.1 (by decide); exact absurd q.1 (by decide)), rfl, rfl, rfl⟩⟩
    · refine J_iconst (pc := 43) (1) rfl dX8_mayBegin_43 ?_
      refine J_goto (pc := 44) 48 dX8_mayBegin_44 (by decide) ?_
      exact J_ireturn (pc := 48) dX8_mayBegin_48 rfl rfl ⟨_, rfl, rfl, ⟨by first | exact sv_b_t (Or.inl ⟨rfl, h40⟩) | exact sv_b_f (fun q => by rcases q with q | q | q; exact h40 q.2; exact absurd q.1 (by decide); exact absurd q.1 (by decide)), rfl, rfl, rfl⟩⟩
  · refine J_lookup (pc := 1) (off := 63) 64 dX8_mayBegin_1 (by decide) (by decide) (by decide) ?_
    refine S_aload_0 (pc := 64) dX8_mayBegin_64 ?_
    refine fgX8_118 (pc := 65) sh_164 dX8_mayBegin_65 ?_
    refine J_bipush (pc := 68) (6) rfl dX8_mayBegin_68 ?_
    refine J_icmp_ge (pc := 70) 77 dX8_mayBegin_70 (by decide) (fun h70 => ?_) (fun h70 => ?_)
    · refine J_iconst (pc := 77) (0) rfl dX8_mayBegin_77 ?_
      exact J_ireturn (pc := 78) dX8_mayBegin_78 rfl rfl ⟨_, rfl, rfl, ⟨by first | exact sv_b_t (Or.inr (Or.inr ⟨rfl, Int32.not_le.mp h70⟩)) | exact sv_b_f (fun q => by rcases q with q | q | q; exact absurd q.1 (by decide); exact absurd q.1 (by decide); exact Int32.not_lt.mpr h70 q.2), rfl, rfl, rfl⟩⟩
    · refine J_iconst (pc := 73) (1) rfl dX8_mayBegin_73 ?_
      refine J_goto (pc := 74) 78 dX8_mayBegin_74 (by decide) ?_
      exact J_ireturn (pc := 78) dX8_mayBegin_78 rfl rfl ⟨_, rfl, rfl, ⟨by first | exact sv_b_t (Or.inr (Or.inr ⟨rfl, Int32.not_le.mp h70⟩)) | exact sv_b_f (fun q => by rcases q with q | q | q; exact absurd q.1 (by decide); exact absurd q.1 (by decide); exact Int32.not_lt.mpr h70 q.2), rfl, rfl, rfl⟩⟩
  · refine J_lookup (pc := 1) (off := 48) 49 dX8_mayBegin_1 (by decide) (by decide) (by decide) ?_
    refine S_aload_0 (pc := 49) dX8_mayBegin_49 ?_
    refine fgX8_115 (pc := 50) sh_164 dX8_mayBegin_50 ?_
    refine J_bipush (pc := 53) (8) rfl dX8_mayBegin_53 ?_
    refine J_icmp_ge (pc := 55) 62 dX8_mayBegin_55 (by decide) (fun h55 => ?_) (fun h55 => ?_)
    · refine J_iconst (pc := 62) (0) rfl dX8_mayBegin_62 ?_
      exact J_ireturn (pc := 63) dX8_mayBegin_63 rfl rfl ⟨_, rfl, rfl, ⟨by first | exact sv_b_t (Or.inr (Or.inl ⟨rfl, Int32.not_le.mp h55⟩)) | exact sv_b_f (fun q => by rcases q with q | q | q; exact absurd q.1 (by decide); exact Int32.not_lt.mpr h55 q.2; exact absurd q.1 (by decide)), rfl, rfl, rfl⟩⟩
    · refine J_iconst (pc := 58) (1) rfl dX8_mayBegin_58 ?_
      refine J_goto (pc := 59) 63 dX8_mayBegin_59 (by decide) ?_
      exact J_ireturn (pc := 63) dX8_mayBegin_63 rfl rfl ⟨_, rfl, rfl, ⟨by first | exact sv_b_t (Or.inr (Or.inl ⟨rfl, Int32.not_le.mp h55⟩)) | exact sv_b_f (fun q => by rcases q with q | q | q; exact absurd q.1 (by decide); exact Int32.not_lt.mpr h55 q.2; exact absurd q.1 (by decide)), rfl, rfl, rfl⟩⟩
  · refine J_lookup (pc := 1) (off := 78) 79 dX8_mayBegin_1 (by decide) (look_out hw.1 hw.2.1 hw.2.2) (by decide) ?_
    refine J_iconst (pc := 79) (0) rfl dX8_mayBegin_79 ?_
    exact J_ireturn (pc := 80) dX8_mayBegin_80 rfl rfl ⟨_, rfl, rfl, ⟨sv_b_f (fun q => by rcases q with q | q | q; exact hw.1 q.1; exact hw.2.2 q.1; exact hw.2.1 q.1), rfl, rfl, rfl⟩⟩
