theorem toInt_ne {x k : Int32} (h : ¬ x = k) : ¬ x.toInt = k.toInt := fun z => h (Int32.toInt_inj.mp z)
theorem look_out {x : Int32} (h1 : ¬ x = 99) (h2 : ¬ x = 114) (h3 : ¬ x = 116) {o1 o2 o3 d : Int} : Op.lookupswitch.offset (#[(99, o1), (114, o2), (116, o3)] : Array (Int × Int)).toList d x.toInt = d := by
  have e1 : ¬ x.toInt = 99 := toInt_ne h1
  have e2 : ¬ x.toInt = 114 := toInt_ne h2
  have e3 : ¬ x.toInt = 116 := toInt_ne h3
  have e1' : ¬ 99 = x.toInt := fun z => e1 z.symm
  have e2' : ¬ 114 = x.toInt := fun z => e2 z.symm
  have e3' : ¬ 116 = x.toInt := fun z => e3 z.symm
  simp [Op.lookupswitch.offset, e1, e2, e3, e1', e2', e3']
theorem look3 (x : Int32) : x = 99 ∨ x = 114 ∨ x = 116 ∨ (¬ x = 99 ∧ ¬ x = 114 ∧ ¬ x = 116) := by
  by_cases h1 : x = 99
  · exact Or.inl h1
  · by_cases h2 : x = 114
    · exact Or.inr (Or.inl h2)
    · by_cases h3 : x = 116
      · exact Or.inr (Or.inr (Or.inl h3))
      · exact Or.inr (Or.inr (Or.inr ⟨h1, h2, h3⟩))
theorem rdF_01 {hi a : svH} {dr n : Nat} {r : Int32} {R : Nat ⊕ (svH × Nat)} (h : rdF hi a dr n r R) : r = 0 ∨ r = 1 := by
  have h3 := h.2.2
  unfold rdOut at h3
  cases R with
  | inl f => exact Or.inl h3.1
  | inr q => exact Or.inr h3.1
theorem rdF_no {hi : svH} {dr n f : Nat} (h : hi 15 3 = nI f) : rdF hi hi dr n 0 (.inl f) := ⟨fun _ _ _ => rfl, rfl, rfl, h⟩
set_option maxRecDepth 20000 in
set_option maxHeartbeats 2000000 in
theorem t_X5_readItem {l : Launch} {G : svG} {hi : svH} {hl : svL} {tw dr : Nat} {pm : Nat → Nat} {n p items : Nat} (hdr : svSH[dr]? = some (0, 6)) (hn2 : n ≤ 120) (hn : hi 15 0 = nI n) (hp : p ≤ n) {D : svH} (hD : dRel D (fun i => hi (dr + i))) (t2 : hi 15 2 = nI (tkN (hi 16) n p)) (t3 : hi 15 3 = nI (tkS (hi 16) n p)) (t4 : hi 15 4 = tkT (hi 16) n p) (t5 : (tkT (hi 16) n p = 1 ∨ tkT (hi 16) n p = 2) → hi 15 5 = tkV (hi 16) n p) (hi120 : items ≤ 120) (h0 : items = 0 → D 0 3 = 0 ∧ D 0 4 = 0) : svI l G yX5_readItem mX5_readItem rX5_readItem [sv_rf G.1 15, sv_rf G.1 dr, .int (nI items)] hi hl (sv_hr tw dr pm) (fun r a b c => rdF hi a dr n r (rdItem (hi 16) n D items p) ∧ hl = b ∧ sv_hr tw dr pm = c) := by
  have hdr2 := sv_dr hdr
  refine sv_entry (by decide +kernel) rfl rfl (Nat.le_of_ble_eq_true rfl) (by simp [Value.category, sv_rf]) [some (sv_rf G.1 15), some (sv_rf G.1 dr), some (.int (nI items))] rfl ?_
  refine S_aload_0 (pc := 0) dX5_readItem_0 ?_
  refine fgX5_25 (pc := 1) sh_15 dX5_readItem_1 ?_
  refine J_iconst (pc := 4) (1) rfl dX5_readItem_4 ?_
  refine J_icmp_eq (pc := 5) 10 dX5_readItem_5 (by decide) (fun h5 => ?_) (fun h5 => ?_)
  · rw [t4] at h5
    have e5 := t5 (Or.inl h5)
    refine S_aload_0 (pc := 10) dX5_readItem_10 ?_
    refine fgX5_28 (pc := 11) sh_15 dX5_readItem_11 ?_
    rw [e5]
    rcases look3 (tkV (hi 16) n p) with hw | hw | hw | hw
    · refine J_lookup (pc := 14) (off := 34) 48 dX5_readItem_14 (by decide) (by rw [hw]; decide) (by decide) ?_
      refine S_iload_2 (pc := 48) dX5_readItem_48 ?_
      refine J_if_ne (pc := 49) 64 dX5_readItem_49 (by decide) (fun h49 => ?_) (fun h49 => ?_)
      · refine J_iconst (pc := 64) (0) rfl dX5_readItem_64 ?_
        exact J_ireturn (pc := 65) dX5_readItem_65 rfl rfl ⟨_, rfl, rfl, ⟨by unfold rdItem; rw [if_neg (fun q => h49 (by rw [q.2.2]; rfl)), if_neg (fun q => absurd (hw.symm.trans q.2.1) (by decide)), if_neg (fun q => absurd (hw.symm.trans q.2.1) (by decide))]; exact rdF_no t3, rfl, rfl⟩⟩
      · have hz : items = 0 := (nI_eq (by omega) (by decide)).mp h49
        refine S_aload_0 (pc := 52) dX5_readItem_52 ?_
        refine S_aload_1 (pc := 53) dX5_readItem_53 ?_
        refine caX5_47 (pc := 54) (t_X5_readChoice (l := l) (G := G) (n := n) hdr hn2 hn t2 (tk_le (s := hi 16) hp).2.2 hD (h0 hz).1 (h0 hz).2) sh_15 (Nat.le_of_ble_eq_true rfl) ⟨rfl, rfl, ⟨by decide, by decide⟩, by decide, by decide⟩ dX5_readItem_54 (fun r54 a54 b54 c54 p54 => ?_)
        obtain ⟨hF, rfl, rfl⟩ := p54
        refine J_if_eq (pc := 57) 64 dX5_readItem_57 (by decide) (fun h57 => ?_) (fun h57 => ?_)
        · refine J_iconst (pc := 64) (0) rfl dX5_readItem_64 ?_
          exact J_ireturn (pc := 65) dX5_readItem_65 rfl rfl ⟨_, rfl, rfl, ⟨by
                unfold rdItem
                rw [if_pos ⟨h5, hw, hz⟩]
                first
                | (rw [h57] at hF; exact hF)
                | (rw [(rdF_01 hF).resolve_left h57] at hF; exact hF), rfl, rfl⟩⟩
        · refine J_iconst (pc := 60) (1) rfl dX5_readItem_60 ?_
          refine J_goto (pc := 61) 65 dX5_readItem_61 (by decide) ?_
          exact J_ireturn (pc := 65) dX5_readItem_65 rfl rfl ⟨_, rfl, rfl, ⟨by
                unfold rdItem
                rw [if_pos ⟨h5, hw, hz⟩]
                first
                | (rw [h57] at hF; exact hF)
                | (rw [(rdF_01 hF).resolve_left h57] at hF; exact hF), rfl, rfl⟩⟩
    · refine J_lookup (pc := 14) (off := 75) 89 dX5_readItem_14 (by decide) (by rw [hw]; decide) (by decide) ?_
      refine S_aload_1 (pc := 89) dX5_readItem_89 ?_
      refine fgX5_57 (pc := 90) hdr dX5_readItem_90 ?_
      refine J_bipush (pc := 93) (6) rfl dX5_readItem_93 ?_
      refine J_icmp_ge (pc := 95) 110 dX5_readItem_95 (by decide) (fun h95 => ?_) (fun h95 => ?_)
      · rw [show hi dr 4 = D 0 4 from hD.1 4 (by decide)] at h95
        have h95 : ¬ D 0 4 < 6 := Int32.not_lt.mpr h95
        refine J_iconst (pc := 110) (0) rfl dX5_readItem_110 ?_
        exact J_ireturn (pc := 111) dX5_readItem_111 rfl rfl ⟨_, rfl, rfl, ⟨by unfold rdItem; rw [if_neg (fun q => absurd (hw.symm.trans q.2.1) (by decide)), if_neg (fun q => absurd (hw.symm.trans q.2.1) (by decide)), if_neg (fun q => h95 q.2.2)]; exact rdF_no t3, rfl, rfl⟩⟩
      · rw [show hi dr 4 = D 0 4 from hD.1 4 (by decide)] at h95
        have h95 : D 0 4 < 6 := Int32.not_le.mp h95
        obtain ⟨T, hT, hT8⟩ : ∃ T, D 0 4 = nI T ∧ T < 6 := by
          obtain ⟨_, C, L, B, T, Gn, _, _, _, _, g4, _, _, _, _, _, _, c7, _⟩ := hD
          refine ⟨Gn, g4, ?_⟩
          rw [g4, show (6 : Int32) = nI 6 from rfl, nI_ltI (by omega) (by omega)] at h95
          exact h95
        refine S_aload_0 (pc := 98) dX5_readItem_98 ?_
        refine S_aload_1 (pc := 99) dX5_readItem_99 ?_
        refine caX5_60 (pc := 100) (t_X5_readGroup (l := l) (G := G) (n := n) hdr hn2 hn t2 (tk_le (s := hi 16) hp).2.2 hD hT hT8) sh_15 (Nat.le_of_ble_eq_true rfl) ⟨rfl, rfl, ⟨by decide, by decide⟩, by decide, by decide⟩ dX5_readItem_100 (fun r100 a100 b100 c100 p100 => ?_)
        obtain ⟨hF, rfl, rfl⟩ := p100
        refine J_if_eq (pc := 103) 110 dX5_readItem_103 (by decide) (fun h103 => ?_) (fun h103 => ?_)
        · refine J_iconst (pc := 110) (0) rfl dX5_readItem_110 ?_
          exact J_ireturn (pc := 111) dX5_readItem_111 rfl rfl ⟨_, rfl, rfl, ⟨by
                unfold rdItem
                rw [if_neg (fun q => absurd (hw.symm.trans q.2.1) (by decide)), if_neg (fun q => absurd (hw.symm.trans q.2.1) (by decide)), if_pos ⟨h5, hw, h95⟩]
                first
                | (rw [h103] at hF; exact hF)
                | (rw [(rdF_01 hF).resolve_left h103] at hF; exact hF), rfl, rfl⟩⟩
        · refine J_iconst (pc := 106) (1) rfl dX5_readItem_106 ?_
          refine J_goto (pc := 107) 111 dX5_readItem_107 (by decide) ?_
          exact J_ireturn (pc := 111) dX5_readItem_111 rfl rfl ⟨_, rfl, rfl, ⟨by
                unfold rdItem
                rw [if_neg (fun q => absurd (hw.symm.trans q.2.1) (by decide)), if_neg (fun q => absurd (hw.symm.trans q.2.1) (by decide)), if_pos ⟨h5, hw, h95⟩]
                first
                | (rw [h103] at hF; exact hF)
                | (rw [(rdF_01 hF).resolve_left h103] at hF; exact hF), rfl, rfl⟩⟩
    · refine J_lookup (pc := 14) (off := 52) 66 dX5_readItem_14 (by decide) (by rw [hw]; decide) (by decide) ?_
      refine S_aload_1 (pc := 66) dX5_readItem_66 ?_
      refine fgX5_51 (pc := 67) hdr dX5_readItem_67 ?_
      refine J_bipush (pc := 70) (8) rfl dX5_readItem_70 ?_
      refine J_icmp_ge (pc := 72) 87 dX5_readItem_72 (by decide) (fun h72 => ?_) (fun h72 => ?_)
      · rw [show hi dr 3 = D 0 3 from hD.1 3 (by decide)] at h72
        have h72 : ¬ D 0 3 < 8 := Int32.not_lt.mpr h72
        refine J_iconst (pc := 87) (0) rfl dX5_readItem_87 ?_
        exact J_ireturn (pc := 88) dX5_readItem_88 rfl rfl ⟨_, rfl, rfl, ⟨by unfold rdItem; rw [if_neg (fun q => absurd (hw.symm.trans q.2.1) (by decide)), if_neg (fun q => h72 q.2.2), if_neg (fun q => absurd (hw.symm.trans q.2.1) (by decide))]; exact rdF_no t3, rfl, rfl⟩⟩
      · rw [show hi dr 3 = D 0 3 from hD.1 3 (by decide)] at h72
        have h72 : D 0 3 < 8 := Int32.not_le.mp h72
        obtain ⟨T, hT, hT8⟩ : ∃ T, D 0 3 = nI T ∧ T < 8 := by
          obtain ⟨_, C, L, B, T, Gn, _, _, _, g3, _, _, _, _, _, _, c6, _⟩ := hD
          refine ⟨T, g3, ?_⟩
          rw [g3, show (8 : Int32) = nI 8 from rfl, nI_ltI (by omega) (by omega)] at h72
          exact h72
        refine S_aload_0 (pc := 75) dX5_readItem_75 ?_
        refine S_aload_1 (pc := 76) dX5_readItem_76 ?_
        refine caX5_54 (pc := 77) (t_X5_readTrain (l := l) (G := G) (n := n) hdr hn2 hn t2 (tk_le (s := hi 16) hp).2.2 hD hT hT8) sh_15 (Nat.le_of_ble_eq_true rfl) ⟨rfl, rfl, ⟨by decide, by decide⟩, by decide, by decide⟩ dX5_readItem_77 (fun r77 a77 b77 c77 p77 => ?_)
        obtain ⟨hF, rfl, rfl⟩ := p77
        refine J_if_eq (pc := 80) 87 dX5_readItem_80 (by decide) (fun h80 => ?_) (fun h80 => ?_)
        · refine J_iconst (pc := 87) (0) rfl dX5_readItem_87 ?_
          exact J_ireturn (pc := 88) dX5_readItem_88 rfl rfl ⟨_, rfl, rfl, ⟨by
                unfold rdItem
                rw [if_neg (fun q => absurd (hw.symm.trans q.2.1) (by decide)), if_pos ⟨h5, hw, h72⟩]
                first
                | (rw [h80] at hF; exact hF)
                | (rw [(rdF_01 hF).resolve_left h80] at hF; exact hF), rfl, rfl⟩⟩
        · refine J_iconst (pc := 83) (1) rfl dX5_readItem_83 ?_
          refine J_goto (pc := 84) 88 dX5_readItem_84 (by decide) ?_
          exact J_ireturn (pc := 88) dX5_readItem_88 rfl rfl ⟨_, rfl, rfl, ⟨by
                unfold rdItem
                rw [if_neg (fun q => absurd (hw.symm.trans q.2.1) (by decide)), if_pos ⟨h5, hw, h72⟩]
                first
                | (rw [h80] at hF; exact hF)
                | (rw [(rdF_01 hF).resolve_left h80] at hF; exact hF), rfl, rfl⟩⟩
    · refine J_lookup (pc := 14) (off := 98) 112 dX5_readItem_14 (by decide) (look_out hw.1 hw.2.1 hw.2.2) (by decide) ?_
      refine J_iconst (pc := 112) (0) rfl dX5_readItem_112 ?_
      exact J_ireturn (pc := 113) dX5_readItem_113 rfl rfl ⟨_, rfl, rfl, ⟨by unfold rdItem; rw [if_neg (fun q => hw.1 q.2.1), if_neg (fun q => hw.2.2 q.2.1), if_neg (fun q => hw.2.1 q.2.1)]; exact rdF_no t3, rfl, rfl⟩⟩
  · rw [t4] at h5
    refine J_iconst (pc := 8) (0) rfl dX5_readItem_8 ?_
    exact J_ireturn (pc := 9) dX5_readItem_9 rfl rfl ⟨_, rfl, rfl, ⟨by unfold rdItem; rw [if_neg (fun q => h5 q.1), if_neg (fun q => h5 q.1), if_neg (fun q => h5 q.1)]; exact rdF_no t3, rfl, rfl⟩⟩
