set_option maxRecDepth 20000 in
set_option maxHeartbeats 2000000 in
theorem t_X5_stepWord {l : Launch} {G : svG} {hi : svH} {hl : svL} {tw dr : Nat} {pm : Nat → Nat} {n st : Nat} (hn2 : n ≤ 120) (hst : st < n) {Q : svH → Prop} (hn : hi 15 0 = nI n) (h3 : hi 15 3 = nI st) (h2 : hi 15 2 = nI st) (hQ : ∀ a, (∀ q, q ≠ 15 → a q = hi q) → (∀ k, k < 2 ∨ 6 ≤ k → a 15 k = hi 15 k) → a 15 2 = nI (rE (lxL (hi 16)) n st) → a 15 3 = hi 15 3 → a 15 4 = 1 → a 15 5 = (if rE (lxL (hi 16)) n st - st = 1 then hi 16 st else 0) → Q a) : svV l G yX5_stepWord mX5_stepWord rX5_stepWord [sv_rf G.1 15] hi hl (sv_hr tw dr pm) (fun a b c => Q a ∧ hl = b ∧ sv_hr tw dr pm = c) := by
  refine sv_entry (by decide +kernel) rfl rfl (Nat.le_of_ble_eq_true rfl) (by simp [Value.category, sv_rf]) [some (sv_rf G.1 15)] rfl ?_
  exact lo_X5_stepWord hn2 hst hn h3 hQ st (by omega) hi (Nat.le_refl _) (fun _ _ => rfl) (fun _ _ => rfl) h2 rfl
set_option maxRecDepth 20000 in
set_option maxHeartbeats 2000000 in
theorem lo_X5_stepNumber {l : Launch} {G : svG} {hi : svH} {hl : svL} {tw dr : Nat} {pm : Nat → Nat} {n st : Nat} (hn2 : n ≤ 120) (hst : st < n) {Q : svH → Prop} (hn : hi 15 0 = nI n) (h3 : hi 15 3 = nI st) (hQ : ∀ a, (∀ q, q ≠ 15 → a q = hi q) → (∀ k, k < 2 ∨ 6 ≤ k → a 15 k = hi 15 k) → a 15 2 = nI (rE (lxD (hi 16)) n st) → a 15 3 = hi 15 3 → a 15 4 = (if (hi 16 st = 48 ∧ 1 < rE (lxD (hi 16)) n st - st) ∨ 99 < vE (lxD (hi 16)) (hi 16) n st 0 then 4 else 2) → a 15 5 = nI (vE (lxD (hi 16)) (hi 16) n st 0) → Q a) : ∀ q, q ≤ n → ∀ (h' : svH) (v : Nat), st ≤ q → v < 1000 → (∀ q, q ≠ 15 → h' q = hi q) → (∀ k, k ≠ 2 → k ≠ 5 → h' 15 k = hi 15 k) → h' 15 2 = nI q → h' 15 5 = nI v → rE (lxD (hi 16)) n q = rE (lxD (hi 16)) n st → vE (lxD (hi 16)) (hi 16) n q v = vE (lxD (hi 16)) (hi 16) n st 0 → svJ l G rX5_stepNumber mX5_stepNumber (sv_Fm G (fun v sh a b c => v = none ∧ sh = svSH ∧ ((fun a b c => Q a ∧ hl = b ∧ sv_hr tw dr pm = c)) a b c) 0 0) 0 0 5 [some (sv_rf G.1 15), none] [] svSH h' hl (sv_hr tw dr pm) := by
  refine sv_up (fun q hq ih h' v hsq hv i1 ik i2 i5 ie iv => ?_)
  have i0 : h' 15 0 = nI n := by rw [ik 0 (by decide) (by decide)]; exact hn
  have i3 : h' 15 3 = nI st := by rw [ik 3 (by decide) (by decide)]; exact h3
  have i16 : h' 16 = hi 16 := i1 16 (by decide)
  have hle := rE_le (P := lxD (hi 16)) (n := n) (p := st) (by omega)
  refine S_aload_0 (pc := 5) dX5_stepNumber_5 ?_
  refine fgX5_19 (pc := 6) sh_15 dX5_stepNumber_6 ?_
  refine S_aload_0 (pc := 9) dX5_stepNumber_9 ?_
  refine fgX5_9 (pc := 10) sh_15 dX5_stepNumber_10 ?_
  refine J_icmp_ge (pc := 13) 75 dX5_stepNumber_13 (by decide) (fun h13 => ?_) (fun h13 => ?_)
  · rw [i2, i0, nI_leI (by omega) (by omega)] at h13
    have eE : rE (lxD (hi 16)) n st = q := by rw [← ie]; exact rE_stop (Or.inl h13)
    have eV : vE (lxD (hi 16)) (hi 16) n st 0 = v := by rw [← iv]; exact vE_stop (Or.inl h13)
    have i5' : nI v ≤ 99 ↔ ¬ 99 < v := by rw [show (99 : Int32) = nI 99 from rfl, nI_leI (by omega) (by omega)]; omega
    refine S_aload_0 (pc := 75) dX5_stepNumber_75 ?_
    refine S_aload_0 (pc := 76) dX5_stepNumber_76 ?_
    refine fgX5_22 (pc := 77) sh_15 dX5_stepNumber_77 ?_
    refine caX5_86 (pc := 80) (t_X5_byteAt (l := l) (G := G) (j := st) i0 hn2 hst i3 (congrFun i16 _)) sh_15 (Nat.le_of_ble_eq_true rfl) ⟨rfl, rfl, ⟨by decide, by decide⟩, by decide, by decide⟩ dX5_stepNumber_80 (fun r80 a80 b80 c80 p80 => ?_)
    obtain ⟨rfl, rfl, rfl, rfl⟩ := p80
    refine J_bipush (pc := 83) (48) rfl dX5_stepNumber_83 ?_
    refine J_icmp_ne (pc := 85) 105 dX5_stepNumber_85 (by decide) (fun h85 => ?_) (fun h85 => ?_)
    · refine J_iconst (pc := 105) (0) rfl dX5_stepNumber_105 ?_
      refine S_istore_1 (pc := 106) dX5_stepNumber_106 (by decide) ?_
      refine S_aload_0 (pc := 107) dX5_stepNumber_107 ?_
      refine S_iload_1 (pc := 108) dX5_stepNumber_108 ?_
      refine J_if_ne (pc := 109) 121 dX5_stepNumber_109 (by decide) (fun h109 => absurd h109 (by decide)) (fun h109 => ?_)
      refine S_aload_0 (pc := 112) dX5_stepNumber_112 ?_
      refine fgX5_28 (pc := 113) sh_15 dX5_stepNumber_113 ?_
      refine J_bipush (pc := 116) (99) rfl dX5_stepNumber_116 ?_
      refine J_icmp_le (pc := 118) 125 dX5_stepNumber_118 (by decide) (fun h118 => ?_) (fun h118 => ?_)
      · rw [i5, i5'] at h118
        refine J_iconst (pc := 125) (2) rfl dX5_stepNumber_125 ?_
        refine fpX5_25 (pc := 126) sh_15 dX5_stepNumber_126 ?_
        exact J_return (pc := 129) dX5_stepNumber_129 rfl ⟨rfl, rfl, ⟨hQ _ (fun q g => by rw [sv_u2_off g]; exact i1 q g) (fun k hk => by rw [sv_u2_k (by omega)]; exact ik k (by omega) (by omega)) (by rw [sv_u2_k (by decide), i2, eE]) (by rw [sv_u2_k (by decide)]; exact ik 3 (by decide) (by decide)) (by
            rw [sv_u2_at, eE, eV]
            first
            | (rw [if_pos (Or.inl ⟨h85, by omega⟩)]; done)
            | (rw [if_pos (Or.inr (Classical.not_not.mp h118))]; done)
            | (rw [if_neg]
               intro z
               rcases z with z | z
               · first | exact h85 z.1 | exact absurd z.2 (by omega)
               · exact h118 z)) (by rw [sv_u2_k (by decide), i5, eV]), rfl, rfl⟩⟩
      · rw [i5, i5'] at h118
        refine J_iconst (pc := 121) (4) rfl dX5_stepNumber_121 ?_
        refine J_goto (pc := 122) 126 dX5_stepNumber_122 (by decide) ?_
        refine fpX5_25 (pc := 126) sh_15 dX5_stepNumber_126 ?_
        exact J_return (pc := 129) dX5_stepNumber_129 rfl ⟨rfl, rfl, ⟨hQ _ (fun q g => by rw [sv_u2_off g]; exact i1 q g) (fun k hk => by rw [sv_u2_k (by omega)]; exact ik k (by omega) (by omega)) (by rw [sv_u2_k (by decide), i2, eE]) (by rw [sv_u2_k (by decide)]; exact ik 3 (by decide) (by decide)) (by
            rw [sv_u2_at, eE, eV]
            first
            | (rw [if_pos (Or.inl ⟨h85, by omega⟩)]; done)
            | (rw [if_pos (Or.inr (Classical.not_not.mp h118))]; done)
            | (rw [if_neg]
               intro z
               rcases z with z | z
               · first | exact h85 z.1 | exact absurd z.2 (by omega)
               · exact h118 z)) (by rw [sv_u2_k (by decide), i5, eV]), rfl, rfl⟩⟩
    · refine S_aload_0 (pc := 88) dX5_stepNumber_88 ?_
      refine fgX5_19 (pc := 89) sh_15 dX5_stepNumber_89 ?_
      refine S_aload_0 (pc := 92) dX5_stepNumber_92 ?_
      refine fgX5_22 (pc := 93) sh_15 dX5_stepNumber_93 ?_
      refine J_isub (pc := 96) dX5_stepNumber_96 ?_
      refine J_iconst (pc := 97) (1) rfl dX5_stepNumber_97 ?_
      refine J_icmp_le (pc := 98) 105 dX5_stepNumber_98 (by decide) (fun h98 => ?_) (fun h98 => ?_)
      · rw [i2, i3, pk_sub (by omega), show (1 : Int32) = nI 1 from rfl, nI_leI (by omega) (by omega)] at h98
        refine J_iconst (pc := 105) (0) rfl dX5_stepNumber_105 ?_
        refine S_istore_1 (pc := 106) dX5_stepNumber_106 (by decide) ?_
        refine S_aload_0 (pc := 107) dX5_stepNumber_107 ?_
        refine S_iload_1 (pc := 108) dX5_stepNumber_108 ?_
        refine J_if_ne (pc := 109) 121 dX5_stepNumber_109 (by decide) (fun h109 => absurd h109 (by decide)) (fun h109 => ?_)
        refine S_aload_0 (pc := 112) dX5_stepNumber_112 ?_
        refine fgX5_28 (pc := 113) sh_15 dX5_stepNumber_113 ?_
        refine J_bipush (pc := 116) (99) rfl dX5_stepNumber_116 ?_
        refine J_icmp_le (pc := 118) 125 dX5_stepNumber_118 (by decide) (fun h118 => ?_) (fun h118 => ?_)
        · rw [i5, i5'] at h118
          refine J_iconst (pc := 125) (2) rfl dX5_stepNumber_125 ?_
          refine fpX5_25 (pc := 126) sh_15 dX5_stepNumber_126 ?_
          exact J_return (pc := 129) dX5_stepNumber_129 rfl ⟨rfl, rfl, ⟨hQ _ (fun q g => by rw [sv_u2_off g]; exact i1 q g) (fun k hk => by rw [sv_u2_k (by omega)]; exact ik k (by omega) (by omega)) (by rw [sv_u2_k (by decide), i2, eE]) (by rw [sv_u2_k (by decide)]; exact ik 3 (by decide) (by decide)) (by
              rw [sv_u2_at, eE, eV]
              first
              | (rw [if_pos (Or.inl ⟨h85, by omega⟩)]; done)
              | (rw [if_pos (Or.inr (Classical.not_not.mp h118))]; done)
              | (rw [if_neg]
                 intro z
                 rcases z with z | z
                 · first | exact h85 z.1 | exact absurd z.2 (by omega)
                 · exact h118 z)) (by rw [sv_u2_k (by decide), i5, eV]), rfl, rfl⟩⟩
        · rw [i5, i5'] at h118
          refine J_iconst (pc := 121) (4) rfl dX5_stepNumber_121 ?_
          refine J_goto (pc := 122) 126 dX5_stepNumber_122 (by decide) ?_
          refine fpX5_25 (pc := 126) sh_15 dX5_stepNumber_126 ?_
          exact J_return (pc := 129) dX5_stepNumber_129 rfl ⟨rfl, rfl, ⟨hQ _ (fun q g => by rw [sv_u2_off g]; exact i1 q g) (fun k hk => by rw [sv_u2_k (by omega)]; exact ik k (by omega) (by omega)) (by rw [sv_u2_k (by decide), i2, eE]) (by rw [sv_u2_k (by decide)]; exact ik 3 (by decide) (by decide)) (by
              rw [sv_u2_at, eE, eV]
              first
              | (rw [if_pos (Or.inl ⟨h85, by omega⟩)]; done)
              | (rw [if_pos (Or.inr (Classical.not_not.mp h118))]; done)
              | (rw [if_neg]
                 intro z
                 rcases z with z | z
                 · first | exact h85 z.1 | exact absurd z.2 (by omega)
                 · exact h118 z)) (by rw [sv_u2_k (by decide), i5, eV]), rfl, rfl⟩⟩
      · rw [i2, i3, pk_sub (by omega), show (1 : Int32) = nI 1 from rfl, nI_leI (by omega) (by omega)] at h98
        refine J_iconst (pc := 101) (1) rfl dX5_stepNumber_101 ?_
        refine J_goto (pc := 102) 106 dX5_stepNumber_102 (by decide) ?_
        refine S_istore_1 (pc := 106) dX5_stepNumber_106 (by decide) ?_
        refine S_aload_0 (pc := 107) dX5_stepNumber_107 ?_
        refine S_iload_1 (pc := 108) dX5_stepNumber_108 ?_
        refine J_if_ne (pc := 109) 121 dX5_stepNumber_109 (by decide) (fun h109 => ?_) (fun h109 => absurd h109 (by decide))
        refine J_iconst (pc := 121) (4) rfl dX5_stepNumber_121 ?_
        refine J_goto (pc := 122) 126 dX5_stepNumber_122 (by decide) ?_
        refine fpX5_25 (pc := 126) sh_15 dX5_stepNumber_126 ?_
        exact J_return (pc := 129) dX5_stepNumber_129 rfl ⟨rfl, rfl, ⟨hQ _ (fun q g => by rw [sv_u2_off g]; exact i1 q g) (fun k hk => by rw [sv_u2_k (by omega)]; exact ik k (by omega) (by omega)) (by rw [sv_u2_k (by decide), i2, eE]) (by rw [sv_u2_k (by decide)]; exact ik 3 (by decide) (by decide)) (by
            rw [sv_u2_at, eE, eV]
            first
            | (rw [if_pos (Or.inl ⟨h85, by omega⟩)]; done)
            | (rw [if_pos (Or.inr (Classical.not_not.mp h118))]; done)
            | (rw [if_neg]
               intro z
               rcases z with z | z
               · first | exact h85 z.1 | exact absurd z.2 (by omega)
               · exact h118 z)) (by rw [sv_u2_k (by decide), i5, eV]), rfl, rfl⟩⟩
  · rw [i2, i0, nI_leI (by omega) (by omega)] at h13
    refine S_aload_0 (pc := 16) dX5_stepNumber_16 ?_
    refine S_aload_0 (pc := 17) dX5_stepNumber_17 ?_
    refine fgX5_19 (pc := 18) sh_15 dX5_stepNumber_18 ?_
    refine caX5_86 (pc := 21) (t_X5_byteAt (l := l) (G := G) (j := q) i0 hn2 (by omega) i2 (congrFun i16 _)) sh_15 (Nat.le_of_ble_eq_true rfl) ⟨rfl, rfl, ⟨by decide, by decide⟩, by decide, by decide⟩ dX5_stepNumber_21 (fun r21 a21 b21 c21 p21 => ?_)
    obtain ⟨rfl, rfl, rfl, rfl⟩ := p21
    refine caX5_97 (pc := 24) (t_X5_isDigit (l := l) (G := G)) (Nat.le_of_ble_eq_true rfl) ⟨rfl, rfl, ⟨by decide, by decide⟩, by decide, by decide⟩ dX5_stepNumber_24 (fun r24 a24 b24 c24 p24 => ?_)
    obtain ⟨rfl, rfl, rfl, rfl⟩ := p24
    refine J_if_eq_b (pc := 27) 75 dX5_stepNumber_27 (by decide) (fun h27 => ?_) (fun h27 => ?_)
    · have eE : rE (lxD (hi 16)) n st = q := by rw [← ie]; exact rE_stop (Or.inr (decide_eq_false h27))
      have eV : vE (lxD (hi 16)) (hi 16) n st 0 = v := by rw [← iv]; exact vE_stop (Or.inr (decide_eq_false h27))
      have i5' : nI v ≤ 99 ↔ ¬ 99 < v := by rw [show (99 : Int32) = nI 99 from rfl, nI_leI (by omega) (by omega)]; omega
      refine S_aload_0 (pc := 75) dX5_stepNumber_75 ?_
      refine S_aload_0 (pc := 76) dX5_stepNumber_76 ?_
      refine fgX5_22 (pc := 77) sh_15 dX5_stepNumber_77 ?_
      refine caX5_86 (pc := 80) (t_X5_byteAt (l := l) (G := G) (j := st) i0 hn2 hst i3 (congrFun i16 _)) sh_15 (Nat.le_of_ble_eq_true rfl) ⟨rfl, rfl, ⟨by decide, by decide⟩, by decide, by decide⟩ dX5_stepNumber_80 (fun r80 a80 b80 c80 p80 => ?_)
      obtain ⟨rfl, rfl, rfl, rfl⟩ := p80
      refine J_bipush (pc := 83) (48) rfl dX5_stepNumber_83 ?_
      refine J_icmp_ne (pc := 85) 105 dX5_stepNumber_85 (by decide) (fun h85 => ?_) (fun h85 => ?_)
      · refine J_iconst (pc := 105) (0) rfl dX5_stepNumber_105 ?_
        refine S_istore_1 (pc := 106) dX5_stepNumber_106 (by decide) ?_
        refine S_aload_0 (pc := 107) dX5_stepNumber_107 ?_
        refine S_iload_1 (pc := 108) dX5_stepNumber_108 ?_
        refine J_if_ne (pc := 109) 121 dX5_stepNumber_109 (by decide) (fun h109 => absurd h109 (by decide)) (fun h109 => ?_)
        refine S_aload_0 (pc := 112) dX5_stepNumber_112 ?_
        refine fgX5_28 (pc := 113) sh_15 dX5_stepNumber_113 ?_
        refine J_bipush (pc := 116) (99) rfl dX5_stepNumber_116 ?_
        refine J_icmp_le (pc := 118) 125 dX5_stepNumber_118 (by decide) (fun h118 => ?_) (fun h118 => ?_)
        · rw [i5, i5'] at h118
          refine J_iconst (pc := 125) (2) rfl dX5_stepNumber_125 ?_
          refine fpX5_25 (pc := 126) sh_15 dX5_stepNumber_126 ?_
          exact J_return (pc := 129) dX5_stepNumber_129 rfl ⟨rfl, rfl, ⟨hQ _ (fun q g => by rw [sv_u2_off g]; exact i1 q g) (fun k hk => by rw [sv_u2_k (by omega)]; exact ik k (by omega) (by omega)) (by rw [sv_u2_k (by decide), i2, eE]) (by rw [sv_u2_k (by decide)]; exact ik 3 (by decide) (by decide)) (by
              rw [sv_u2_at, eE, eV]
              first
              | (rw [if_pos (Or.inl ⟨h85, by omega⟩)]; done)
              | (rw [if_pos (Or.inr (Classical.not_not.mp h118))]; done)
              | (rw [if_neg]
                 intro z
                 rcases z with z | z
                 · first | exact h85 z.1 | exact absurd z.2 (by omega)
                 · exact h118 z)) (by rw [sv_u2_k (by decide), i5, eV]), rfl, rfl⟩⟩
        · rw [i5, i5'] at h118
          refine J_iconst (pc := 121) (4) rfl dX5_stepNumber_121 ?_
          refine J_goto (pc := 122) 126 dX5_stepNumber_122 (by decide) ?_
          refine fpX5_25 (pc := 126) sh_15 dX5_stepNumber_126 ?_
          exact J_return (pc := 129) dX5_stepNumber_129 rfl ⟨rfl, rfl, ⟨hQ _ (fun q g => by rw [sv_u2_off g]; exact i1 q g) (fun k hk => by rw [sv_u2_k (by omega)]; exact ik k (by omega) (by omega)) (by rw [sv_u2_k (by decide), i2, eE]) (by rw [sv_u2_k (by decide)]; exact ik 3 (by decide) (by decide)) (by
              rw [sv_u2_at, eE, eV]
              first
              | (rw [if_pos (Or.inl ⟨h85, by omega⟩)]; done)
              | (rw [if_pos (Or.inr (Classical.not_not.mp h118))]; done)
              | (rw [if_neg]
                 intro z
                 rcases z with z | z
                 · first | exact h85 z.1 | exact absurd z.2 (by omega)
                 · exact h118 z)) (by rw [sv_u2_k (by decide), i5, eV]), rfl, rfl⟩⟩
      · refine S_aload_0 (pc := 88) dX5_stepNumber_88 ?_
        refine fgX5_19 (pc := 89) sh_15 dX5_stepNumber_89 ?_
        refine S_aload_0 (pc := 92) dX5_stepNumber_92 ?_
        refine fgX5_22 (pc := 93) sh_15 dX5_stepNumber_93 ?_
        refine J_isub (pc := 96) dX5_stepNumber_96 ?_
        refine J_iconst (pc := 97) (1) rfl dX5_stepNumber_97 ?_
        refine J_icmp_le (pc := 98) 105 dX5_stepNumber_98 (by decide) (fun h98 => ?_) (fun h98 => ?_)
        · rw [i2, i3, pk_sub (by omega), show (1 : Int32) = nI 1 from rfl, nI_leI (by omega) (by omega)] at h98
          refine J_iconst (pc := 105) (0) rfl dX5_stepNumber_105 ?_
          refine S_istore_1 (pc := 106) dX5_stepNumber_106 (by decide) ?_
          refine S_aload_0 (pc := 107) dX5_stepNumber_107 ?_
          refine S_iload_1 (pc := 108) dX5_stepNumber_108 ?_
          refine J_if_ne (pc := 109) 121 dX5_stepNumber_109 (by decide) (fun h109 => absurd h109 (by decide)) (fun h109 => ?_)
          refine S_aload_0 (pc := 112) dX5_stepNumber_112 ?_
          refine fgX5_28 (pc := 113) sh_15 dX5_stepNumber_113 ?_
          refine J_bipush (pc := 116) (99) rfl dX5_stepNumber_116 ?_
          refine J_icmp_le (pc := 118) 125 dX5_stepNumber_118 (by decide) (fun h118 => ?_) (fun h118 => ?_)
          · rw [i5, i5'] at h118
            refine J_iconst (pc := 125) (2) rfl dX5_stepNumber_125 ?_
            refine fpX5_25 (pc := 126) sh_15 dX5_stepNumber_126 ?_
            exact J_return (pc := 129) dX5_stepNumber_129 rfl ⟨rfl, rfl, ⟨hQ _ (fun q g => by rw [sv_u2_off g]; exact i1 q g) (fun k hk => by rw [sv_u2_k (by omega)]; exact ik k (by omega) (by omega)) (by rw [sv_u2_k (by decide), i2, eE]) (by rw [sv_u2_k (by decide)]; exact ik 3 (by decide) (by decide)) (by
                rw [sv_u2_at, eE, eV]
                first
                | (rw [if_pos (Or.inl ⟨h85, by omega⟩)]; done)
                | (rw [if_pos (Or.inr (Classical.not_not.mp h118))]; done)
                | (rw [if_neg]
                   intro z
                   rcases z with z | z
                   · first | exact h85 z.1 | exact absurd z.2 (by omega)
                   · exact h118 z)) (by rw [sv_u2_k (by decide), i5, eV]), rfl, rfl⟩⟩
          · rw [i5, i5'] at h118
            refine J_iconst (pc := 121) (4) rfl dX5_stepNumber_121 ?_
            refine J_goto (pc := 122) 126 dX5_stepNumber_122 (by decide) ?_
            refine fpX5_25 (pc := 126) sh_15 dX5_stepNumber_126 ?_
            exact J_return (pc := 129) dX5_stepNumber_129 rfl ⟨rfl, rfl, ⟨hQ _ (fun q g => by rw [sv_u2_off g]; exact i1 q g) (fun k hk => by rw [sv_u2_k (by omega)]; exact ik k (by omega) (by omega)) (by rw [sv_u2_k (by decide), i2, eE]) (by rw [sv_u2_k (by decide)]; exact ik 3 (by decide) (by decide)) (by
                rw [sv_u2_at, eE, eV]
                first
                | (rw [if_pos (Or.inl ⟨h85, by omega⟩)]; done)
                | (rw [if_pos (Or.inr (Classical.not_not.mp h118))]; done)
                | (rw [if_neg]
                   intro z
                   rcases z with z | z
                   · first | exact h85 z.1 | exact absurd z.2 (by omega)
                   · exact h118 z)) (by rw [sv_u2_k (by decide), i5, eV]), rfl, rfl⟩⟩
        · rw [i2, i3, pk_sub (by omega), show (1 : Int32) = nI 1 from rfl, nI_leI (by omega) (by omega)] at h98
          refine J_iconst (pc := 101) (1) rfl dX5_stepNumber_101 ?_
          refine J_goto (pc := 102) 106 dX5_stepNumber_102 (by decide) ?_
          refine S_istore_1 (pc := 106) dX5_stepNumber_106 (by decide) ?_
          refine S_aload_0 (pc := 107) dX5_stepNumber_107 ?_
          refine S_iload_1 (pc := 108) dX5_stepNumber_108 ?_
          refine J_if_ne (pc := 109) 121 dX5_stepNumber_109 (by decide) (fun h109 => ?_) (fun h109 => absurd h109 (by decide))
          refine J_iconst (pc := 121) (4) rfl dX5_stepNumber_121 ?_
          refine J_goto (pc := 122) 126 dX5_stepNumber_122 (by decide) ?_
          refine fpX5_25 (pc := 126) sh_15 dX5_stepNumber_126 ?_
          exact J_return (pc := 129) dX5_stepNumber_129 rfl ⟨rfl, rfl, ⟨hQ _ (fun q g => by rw [sv_u2_off g]; exact i1 q g) (fun k hk => by rw [sv_u2_k (by omega)]; exact ik k (by omega) (by omega)) (by rw [sv_u2_k (by decide), i2, eE]) (by rw [sv_u2_k (by decide)]; exact ik 3 (by decide) (by decide)) (by
              rw [sv_u2_at, eE, eV]
              first
              | (rw [if_pos (Or.inl ⟨h85, by omega⟩)]; done)
              | (rw [if_pos (Or.inr (Classical.not_not.mp h118))]; done)
              | (rw [if_neg]
                 intro z
                 rcases z with z | z
                 · first | exact h85 z.1 | exact absurd z.2 (by omega)
                 · exact h118 z)) (by rw [sv_u2_k (by decide), i5, eV]), rfl, rfl⟩⟩
    · have hP : lxD (hi 16) q = true := decide_eq_true h27
      obtain ⟨v1, v2, v3⟩ := lxV_dig (v := v) hv h27
      refine S_aload_0 (pc := 30) dX5_stepNumber_30 ?_
      refine fgX5_28 (pc := 31) sh_15 dX5_stepNumber_31 ?_
      refine J_bipush (pc := 34) (100) rfl dX5_stepNumber_34 ?_
      refine J_icmp_ge (pc := 36) 62 dX5_stepNumber_36 (by decide) (fun h36 => ?_) (fun h36 => ?_)
      · rw [i5, show (100 : Int32) = nI 100 from rfl, nI_leI (by omega) (by omega)] at h36
        refine S_aload_0 (pc := 62) dX5_stepNumber_62 ?_
        refine J_dup (pc := 63) rfl dX5_stepNumber_63 ?_
        refine fgX5_19 (pc := 64) sh_15 dX5_stepNumber_64 ?_
        refine J_iconst (pc := 67) (1) rfl dX5_stepNumber_67 ?_
        refine J_iadd (pc := 68) dX5_stepNumber_68 ?_
        refine fpX5_19 (pc := 69) sh_15 dX5_stepNumber_69 ?_
        refine J_goto (pc := 72) 5 dX5_stepNumber_72 (by decide) ?_
        first
        | (refine ih (q + 1) (by omega) (by omega) _ (lxV v (hi 16 q)) (by omega) v1 (fun q g => ?_) (fun k g1 g2 => ?_) ?_ ?_ (by rw [← ie]; exact (rE_step (by omega) hP).symm) (by rw [← iv]; exact (vE_step (by omega) hP).symm)
           · rw [sv_u2_off g]; exact i1 q g
           · rw [sv_u2_k g1]; exact ik k g1 g2
           · rw [sv_u2_at, i2, nI_succ]
           · rw [sv_u2_k (by decide), i5, v3 (by omega)])
        | (refine ih (q + 1) (by omega) (by omega) _ (lxV v (hi 16 q)) (by omega) v1 (fun q g => ?_) (fun k g1 g2 => ?_) ?_ ?_ (by rw [← ie]; exact (rE_step (by omega) hP).symm) (by rw [← iv]; exact (vE_step (by omega) hP).symm)
           · rw [sv_u2_off g, sv_u2_off g]; exact i1 q g
           · rw [sv_u2_k g1, sv_u2_k g2]; exact ik k g1 g2
           · rw [sv_u2_at, sv_u2_k (by decide), i2, nI_succ]
           · rw [sv_u2_k (by decide), sv_u2_at, i5]; exact (v2 (by omega)).1)
      · rw [i5, show (100 : Int32) = nI 100 from rfl, nI_leI (by omega) (by omega)] at h36
        refine S_aload_0 (pc := 39) dX5_stepNumber_39 ?_
        refine S_aload_0 (pc := 40) dX5_stepNumber_40 ?_
        refine fgX5_28 (pc := 41) sh_15 dX5_stepNumber_41 ?_
        refine J_bipush (pc := 44) (10) rfl dX5_stepNumber_44 ?_
        refine J_imul (pc := 46) dX5_stepNumber_46 ?_
        refine S_aload_0 (pc := 47) dX5_stepNumber_47 ?_
        refine S_aload_0 (pc := 48) dX5_stepNumber_48 ?_
        refine fgX5_19 (pc := 49) sh_15 dX5_stepNumber_49 ?_
        refine caX5_86 (pc := 52) (t_X5_byteAt (l := l) (G := G) (j := q) i0 hn2 (by omega) i2 (congrFun i16 _)) sh_15 (Nat.le_of_ble_eq_true rfl) ⟨rfl, rfl, ⟨by decide, by decide⟩, by decide, by decide⟩ dX5_stepNumber_52 (fun r52 a52 b52 c52 p52 => ?_)
        obtain ⟨rfl, rfl, rfl, rfl⟩ := p52
        refine J_iadd (pc := 55) dX5_stepNumber_55 ?_
        refine J_bipush (pc := 56) (48) rfl dX5_stepNumber_56 ?_
        refine J_isub (pc := 58) dX5_stepNumber_58 ?_
        refine fpX5_28 (pc := 59) sh_15 dX5_stepNumber_59 ?_
        refine S_aload_0 (pc := 62) dX5_stepNumber_62 ?_
        refine J_dup (pc := 63) rfl dX5_stepNumber_63 ?_
        refine fgX5_19 (pc := 64) sh_15 dX5_stepNumber_64 ?_
        refine J_iconst (pc := 67) (1) rfl dX5_stepNumber_67 ?_
        refine J_iadd (pc := 68) dX5_stepNumber_68 ?_
        refine fpX5_19 (pc := 69) sh_15 dX5_stepNumber_69 ?_
        refine J_goto (pc := 72) 5 dX5_stepNumber_72 (by decide) ?_
        first
        | (refine ih (q + 1) (by omega) (by omega) _ (lxV v (hi 16 q)) (by omega) v1 (fun q g => ?_) (fun k g1 g2 => ?_) ?_ ?_ (by rw [← ie]; exact (rE_step (by omega) hP).symm) (by rw [← iv]; exact (vE_step (by omega) hP).symm)
           · rw [sv_u2_off g]; exact i1 q g
           · rw [sv_u2_k g1]; exact ik k g1 g2
           · rw [sv_u2_at, i2, nI_succ]
           · rw [sv_u2_k (by decide), i5, v3 (by omega)])
        | (refine ih (q + 1) (by omega) (by omega) _ (lxV v (hi 16 q)) (by omega) v1 (fun q g => ?_) (fun k g1 g2 => ?_) ?_ ?_ (by rw [← ie]; exact (rE_step (by omega) hP).symm) (by rw [← iv]; exact (vE_step (by omega) hP).symm)
           · rw [sv_u2_off g, sv_u2_off g]; exact i1 q g
           · rw [sv_u2_k g1, sv_u2_k g2]; exact ik k g1 g2
           · rw [sv_u2_at, sv_u2_k (by decide), i2, nI_succ]
           · rw [sv_u2_k (by decide), sv_u2_at, i5]; exact (v2 (by omega)).1)
set_option maxRecDepth 20000 in
set_option maxHeartbeats 2000000 in
theorem t_X5_stepNumber {l : Launch} {G : svG} {hi : svH} {hl : svL} {tw dr : Nat} {pm : Nat → Nat} {n st : Nat} (hn2 : n ≤ 120) (hst : st < n) {Q : svH → Prop} (hn : hi 15 0 = nI n) (h3 : hi 15 3 = nI st) (h2 : hi 15 2 = nI st) (hQ : ∀ a, (∀ q, q ≠ 15 → a q = hi q) → (∀ k, k < 2 ∨ 6 ≤ k → a 15 k = hi 15 k) → a 15 2 = nI (rE (lxD (hi 16)) n st) → a 15 3 = hi 15 3 → a 15 4 = (if (hi 16 st = 48 ∧ 1 < rE (lxD (hi 16)) n st - st) ∨ 99 < vE (lxD (hi 16)) (hi 16) n st 0 then 4 else 2) → a 15 5 = nI (vE (lxD (hi 16)) (hi 16) n st 0) → Q a) : svV l G yX5_stepNumber mX5_stepNumber rX5_stepNumber [sv_rf G.1 15] hi hl (sv_hr tw dr pm) (fun a b c => Q a ∧ hl = b ∧ sv_hr tw dr pm = c) := by
  refine sv_entry (by decide +kernel) rfl rfl (Nat.le_of_ble_eq_true rfl) (by simp [Value.category, sv_rf]) [some (sv_rf G.1 15), none] rfl ?_
  refine S_aload_0 (pc := 0) dX5_stepNumber_0 ?_
  refine J_iconst (pc := 1) (0) rfl dX5_stepNumber_1 ?_
  refine fpX5_28 (pc := 2) sh_15 dX5_stepNumber_2 ?_
  
  exact lo_X5_stepNumber hn2 hst hn h3 hQ st (by omega) _ 0 (Nat.le_refl _) (by decide) (fun q g => sv_u2_off g) (fun k _ g => sv_u2_k g) (by rw [sv_u2_k (by decide)]; exact h2) sv_u2_at rfl rfl
theorem lxOut_of {hi a : svH} {n p st : Nat} (e : rE (lxS (hi 16)) n p = st) (h1 : ∀ q, q ≠ 15 → a q = hi q) (hk : ∀ k, k < 2 ∨ 6 ≤ k → a 15 k = hi 15 k) (h2 : a 15 2 = nI (lxNext (hi 16) n st)) (h3 : a 15 3 = nI st) (h4 : a 15 4 = lxTok (hi 16) n st) (h5 : (a 15 4 = 1 ∨ a 15 4 = 2) → a 15 5 = lxVal (hi 16) n st) : lxOut hi a 15 2 3 4 5 (hi 16) n p := by
  unfold lxOut
  rw [e]
  exact ⟨h1, fun k a1 a2 a3 a4 => hk k (by omega), h2, h3, h4, h5⟩
set_option maxRecDepth 20000 in
set_option maxHeartbeats 2000000 in
theorem lo_X5_step {l : Launch} {G : svG} {hi : svH} {hl : svL} {tw dr : Nat} {pm : Nat → Nat} {n p : Nat} (hn2 : n ≤ 120) (hn : hi 15 0 = nI n) : ∀ q, q ≤ n → ∀ h' : svH, p ≤ q → (∀ q, q ≠ 15 → h' q = hi q) → (∀ k, k ≠ 2 → h' 15 k = hi 15 k) → h' 15 2 = nI q → rE (lxS (hi 16)) n q = rE (lxS (hi 16)) n p → svJ l G rX5_step mX5_step (sv_Fm G (fun v sh a b c => v = none ∧ sh = svSH ∧ ((fun a b c => lxOut hi a 15 2 3 4 5 (hi 16) n p ∧ hl = b ∧ sv_hr tw dr pm = c)) a b c) 0 0) 0 0 0 [some (sv_rf G.1 15)] [] svSH h' hl (sv_hr tw dr pm) := by
  refine sv_up (fun q hq ih h' hsq i1 ik i2 ie => ?_)
  have i0 : h' 15 0 = nI n := by rw [ik 0 (by decide)]; exact hn
  have i16 : h' 16 = hi 16 := i1 16 (by decide)
  refine S_aload_0 (pc := 0) dX5_step_0 ?_
  refine fgX5_19 (pc := 1) sh_15 dX5_step_1 ?_
  refine S_aload_0 (pc := 4) dX5_step_4 ?_
  refine fgX5_9 (pc := 5) sh_15 dX5_step_5 ?_
  refine J_icmp_ge (pc := 8) 37 dX5_step_8 (by decide) (fun h8 => ?_) (fun h8 => ?_)
  · rw [i2, i0, nI_leI (by omega) (by omega)] at h8
    have eE : rE (lxS (hi 16)) n p = q := by rw [← ie]; exact rE_stop (Or.inl h8)
    have g16 : (sv_u2 h' 15 3 (h' 15 2)) 16 = hi 16 := by rw [sv_u2_off (by decide)]; exact i16
    refine S_aload_0 (pc := 37) dX5_step_37 ?_
    refine S_aload_0 (pc := 38) dX5_step_38 ?_
    refine fgX5_19 (pc := 39) sh_15 dX5_step_39 ?_
    refine fpX5_22 (pc := 42) sh_15 dX5_step_42 ?_
    refine S_aload_0 (pc := 45) dX5_step_45 ?_
    refine fgX5_19 (pc := 46) sh_15 dX5_step_46 ?_
    refine S_aload_0 (pc := 49) dX5_step_49 ?_
    refine fgX5_9 (pc := 50) sh_15 dX5_step_50 ?_
    refine J_icmp_lt (pc := 53) 64 dX5_step_53 (by decide) (fun h53 => ?_) (fun h53 => ?_)
    · rw [sv_u2_k (by decide), sv_u2_k (by decide), i2, i0, nI_ltI (by omega) (by omega)] at h53
      have h53 : ¬ n ≤ q := by omega
      refine S_aload_0 (pc := 64) dX5_step_64 ?_
      refine S_aload_0 (pc := 65) dX5_step_65 ?_
      refine fgX5_19 (pc := 66) sh_15 dX5_step_66 ?_
      refine caX5_86 (pc := 69) (t_X5_byteAt (l := l) (G := G) (hi := sv_u2 h' 15 3 (h' 15 2)) (j := q) (by rw [sv_u2_k (by decide)]; exact i0) hn2 (by omega) (by rw [sv_u2_k (by decide)]; exact i2) (congrFun g16 _)) sh_15 (Nat.le_of_ble_eq_true rfl) ⟨rfl, rfl, ⟨by decide, by decide⟩, by decide, by decide⟩ dX5_step_69 (fun r69 a69 b69 c69 p69 => ?_)
      obtain ⟨rfl, rfl, rfl, rfl⟩ := p69
      refine caX5_90 (pc := 72) (t_X5_isLetter (l := l) (G := G)) (Nat.le_of_ble_eq_true rfl) ⟨rfl, rfl, ⟨by decide, by decide⟩, by decide, by decide⟩ dX5_step_72 (fun r72 a72 b72 c72 p72 => ?_)
      obtain ⟨rfl, rfl, rfl, rfl⟩ := p72
      refine J_if_eq_b (pc := 75) 85 dX5_step_75 (by decide) (fun h75 => ?_) (fun h75 => ?_)
      · have hL : ¬ lxL (hi 16) q = true := by rw [show lxL (hi 16) q = false from decide_eq_false h75]; decide
        refine S_aload_0 (pc := 85) dX5_step_85 ?_
        refine S_aload_0 (pc := 86) dX5_step_86 ?_
        refine fgX5_19 (pc := 87) sh_15 dX5_step_87 ?_
        refine caX5_86 (pc := 90) (t_X5_byteAt (l := l) (G := G) (hi := sv_u2 h' 15 3 (h' 15 2)) (j := q) (by rw [sv_u2_k (by decide)]; exact i0) hn2 (by omega) (by rw [sv_u2_k (by decide)]; exact i2) (congrFun g16 _)) sh_15 (Nat.le_of_ble_eq_true rfl) ⟨rfl, rfl, ⟨by decide, by decide⟩, by decide, by decide⟩ dX5_step_90 (fun r90 a90 b90 c90 p90 => ?_)
        obtain ⟨rfl, rfl, rfl, rfl⟩ := p90
        refine caX5_97 (pc := 93) (t_X5_isDigit (l := l) (G := G)) (Nat.le_of_ble_eq_true rfl) ⟨rfl, rfl, ⟨by decide, by decide⟩, by decide, by decide⟩ dX5_step_93 (fun r93 a93 b93 c93 p93 => ?_)
        obtain ⟨rfl, rfl, rfl, rfl⟩ := p93
        refine J_if_eq_b (pc := 96) 106 dX5_step_96 (by decide) (fun h96 => ?_) (fun h96 => ?_)
        · have hD : ¬ lxD (hi 16) q = true := by rw [show lxD (hi 16) q = false from decide_eq_false h96]; decide
          refine S_aload_0 (pc := 106) dX5_step_106 ?_
          refine S_aload_0 (pc := 107) dX5_step_107 ?_
          refine S_aload_0 (pc := 108) dX5_step_108 ?_
          refine fgX5_19 (pc := 109) sh_15 dX5_step_109 ?_
          refine caX5_86 (pc := 112) (t_X5_byteAt (l := l) (G := G) (hi := sv_u2 h' 15 3 (h' 15 2)) (j := q) (by rw [sv_u2_k (by decide)]; exact i0) hn2 (by omega) (by rw [sv_u2_k (by decide)]; exact i2) (congrFun g16 _)) sh_15 (Nat.le_of_ble_eq_true rfl) ⟨rfl, rfl, ⟨by decide, by decide⟩, by decide, by decide⟩ dX5_step_112 (fun r112 a112 b112 c112 p112 => ?_)
          obtain ⟨rfl, rfl, rfl, rfl⟩ := p112
          refine J_bipush (pc := 115) (59) rfl dX5_step_115 ?_
          refine J_icmp_ne (pc := 117) 124 dX5_step_117 (by decide) (fun h117 => ?_) (fun h117 => ?_)
          · refine J_iconst (pc := 124) (4) rfl dX5_step_124 ?_
            refine fpX5_25 (pc := 125) sh_15 dX5_step_125 ?_
            refine S_aload_0 (pc := 128) dX5_step_128 ?_
            refine J_dup (pc := 129) rfl dX5_step_129 ?_
            refine fgX5_19 (pc := 130) sh_15 dX5_step_130 ?_
            refine J_iconst (pc := 133) (1) rfl dX5_step_133 ?_
            refine J_iadd (pc := 134) dX5_step_134 ?_
            refine fpX5_19 (pc := 135) sh_15 dX5_step_135 ?_
            exact J_return (pc := 138) dX5_step_138 rfl ⟨rfl, rfl, ⟨lxOut_of eE (fun z gz => by rw [sv_u2_off gz, sv_u2_off gz, sv_u2_off gz]; exact i1 z gz) (fun k hk => by rw [sv_u2_k (by omega), sv_u2_k (by omega), sv_u2_k (by omega)]; exact ik k (by omega)) (by rw [sv_u2_at, sv_u2_k (by decide), sv_u2_k (by decide), i2]; unfold lxNext; rw [if_neg h53, if_neg hL, if_neg hD, nI_succ]) (by rw [sv_u2_k (by decide), sv_u2_k (by decide), sv_u2_at, i2]) (by rw [sv_u2_k (by decide), sv_u2_at]; unfold lxTok; rw [if_neg h53, if_neg hL, if_neg hD]; first | rw [if_pos h117] | rw [if_neg h117]) (fun z => by rw [sv_u2_k (by decide), sv_u2_at] at z; exact absurd z (by decide)), rfl, rfl⟩⟩
          · refine J_iconst (pc := 120) (3) rfl dX5_step_120 ?_
            refine J_goto (pc := 121) 125 dX5_step_121 (by decide) ?_
            refine fpX5_25 (pc := 125) sh_15 dX5_step_125 ?_
            refine S_aload_0 (pc := 128) dX5_step_128 ?_
            refine J_dup (pc := 129) rfl dX5_step_129 ?_
            refine fgX5_19 (pc := 130) sh_15 dX5_step_130 ?_
            refine J_iconst (pc := 133) (1) rfl dX5_step_133 ?_
            refine J_iadd (pc := 134) dX5_step_134 ?_
            refine fpX5_19 (pc := 135) sh_15 dX5_step_135 ?_
            exact J_return (pc := 138) dX5_step_138 rfl ⟨rfl, rfl, ⟨lxOut_of eE (fun z gz => by rw [sv_u2_off gz, sv_u2_off gz, sv_u2_off gz]; exact i1 z gz) (fun k hk => by rw [sv_u2_k (by omega), sv_u2_k (by omega), sv_u2_k (by omega)]; exact ik k (by omega)) (by rw [sv_u2_at, sv_u2_k (by decide), sv_u2_k (by decide), i2]; unfold lxNext; rw [if_neg h53, if_neg hL, if_neg hD, nI_succ]) (by rw [sv_u2_k (by decide), sv_u2_k (by decide), sv_u2_at, i2]) (by rw [sv_u2_k (by decide), sv_u2_at]; unfold lxTok; rw [if_neg h53, if_neg hL, if_neg hD]; first | rw [if_pos h117] | rw [if_neg h117]) (fun z => by rw [sv_u2_k (by decide), sv_u2_at] at z; exact absurd z (by decide)), rfl, rfl⟩⟩
        · have hD : lxD (hi 16) q = true := decide_eq_true h96
          refine S_aload_0 (pc := 99) dX5_step_99 ?_
          refine caX5_100 (pc := 100) (t_X5_stepNumber (l := l) (G := G) (hi := sv_u2 h' 15 3 (h' 15 2)) (n := n) (st := q) (Q := fun a => lxOut hi a 15 2 3 4 5 (hi 16) n p) hn2 (by omega) (by rw [sv_u2_k (by decide)]; exact i0) (by rw [sv_u2_at]; exact i2) (by rw [sv_u2_k (by decide)]; exact i2) (fun a a1 a2 a3 a4 a5 a6 => by
                  rw [g16] at a3 a5 a6
                  refine lxOut_of eE (fun z gz => by rw [a1 z gz, sv_u2_off gz]; exact i1 z gz) (fun k hk => by rw [a2 k hk, sv_u2_k (by omega)]; exact ik k (by omega)) ?_ (by rw [a4, sv_u2_at]; exact i2) ?_ (fun _ => ?_)
                  · rw [a3]; unfold lxNext; rw [if_neg h53, if_neg hL, if_pos hD]
                  · rw [a5]; unfold lxTok; rw [if_neg h53, if_neg hL, if_pos hD]
                  · rw [a6]; unfold lxVal; rw [if_neg hL])) sh_15 (Nat.le_of_ble_eq_true rfl) ⟨rfl, rfl, ⟨by decide, by decide⟩, by decide, by decide⟩ dX5_step_100 (fun a100 b100 c100 p100 => ?_)
          obtain ⟨hQ, rfl, rfl⟩ := p100
          refine J_goto (pc := 103) 138 dX5_step_103 (by decide) ?_
          exact J_return (pc := 138) dX5_step_138 rfl ⟨rfl, rfl, ⟨hQ, rfl, rfl⟩⟩
      · have hL : lxL (hi 16) q = true := decide_eq_true h75
        refine S_aload_0 (pc := 78) dX5_step_78 ?_
        refine caX5_94 (pc := 79) (t_X5_stepWord (l := l) (G := G) (hi := sv_u2 h' 15 3 (h' 15 2)) (n := n) (st := q) (Q := fun a => lxOut hi a 15 2 3 4 5 (hi 16) n p) hn2 (by omega) (by rw [sv_u2_k (by decide)]; exact i0) (by rw [sv_u2_at]; exact i2) (by rw [sv_u2_k (by decide)]; exact i2) (fun a a1 a2 a3 a4 a5 a6 => by
                rw [g16] at a3 a6
                refine lxOut_of eE (fun z gz => by rw [a1 z gz, sv_u2_off gz]; exact i1 z gz) (fun k hk => by rw [a2 k hk, sv_u2_k (by omega)]; exact ik k (by omega)) ?_ (by rw [a4, sv_u2_at]; exact i2) ?_ (fun _ => ?_)
                · rw [a3]; unfold lxNext; rw [if_neg h53, if_pos hL]
                · rw [a5]; unfold lxTok; rw [if_neg h53, if_pos hL]
                · rw [a6]; unfold lxVal; rw [if_pos hL])) sh_15 (Nat.le_of_ble_eq_true rfl) ⟨rfl, rfl, ⟨by decide, by decide⟩, by decide, by decide⟩ dX5_step_79 (fun a79 b79 c79 p79 => ?_)
        obtain ⟨hQ, rfl, rfl⟩ := p79
        refine J_goto (pc := 82) 138 dX5_step_82 (by decide) ?_
        exact J_return (pc := 138) dX5_step_138 rfl ⟨rfl, rfl, ⟨hQ, rfl, rfl⟩⟩
    · rw [sv_u2_k (by decide), sv_u2_k (by decide), i2, i0, nI_ltI (by omega) (by omega)] at h53
      refine S_aload_0 (pc := 56) dX5_step_56 ?_
      refine J_iconst (pc := 57) (0) rfl dX5_step_57 ?_
      refine fpX5_25 (pc := 58) sh_15 dX5_step_58 ?_
      refine J_goto (pc := 61) 138 dX5_step_61 (by decide) ?_
      exact J_return (pc := 138) dX5_step_138 rfl ⟨rfl, rfl, ⟨lxOut_of eE (fun z gz => by rw [sv_u2_off gz, sv_u2_off gz]; exact i1 z gz) (fun k hk => by rw [sv_u2_k (by omega), sv_u2_k (by omega)]; exact ik k (by omega)) (by rw [sv_u2_k (by decide), sv_u2_k (by decide), i2]; unfold lxNext; rw [if_pos (by omega)]) (by rw [sv_u2_k (by decide), sv_u2_at, i2]) (by rw [sv_u2_at]; unfold lxTok; rw [if_pos (by omega)]) (fun z => by rw [sv_u2_at] at z; exact absurd z (by decide)), rfl, rfl⟩⟩
  · rw [i2, i0, nI_leI (by omega) (by omega)] at h8
    refine S_aload_0 (pc := 11) dX5_step_11 ?_
    refine S_aload_0 (pc := 12) dX5_step_12 ?_
    refine fgX5_19 (pc := 13) sh_15 dX5_step_13 ?_
    refine caX5_86 (pc := 16) (t_X5_byteAt (l := l) (G := G) (j := q) i0 hn2 (by omega) i2 (congrFun i16 _)) sh_15 (Nat.le_of_ble_eq_true rfl) ⟨rfl, rfl, ⟨by decide, by decide⟩, by decide, by decide⟩ dX5_step_16 (fun r16 a16 b16 c16 p16 => ?_)
    obtain ⟨rfl, rfl, rfl, rfl⟩ := p16
    refine J_bipush (pc := 19) (32) rfl dX5_step_19 ?_
    refine J_icmp_ne (pc := 21) 37 dX5_step_21 (by decide) (fun h21 => ?_) (fun h21 => ?_)
    · have eE : rE (lxS (hi 16)) n p = q := by rw [← ie]; exact rE_stop (Or.inr (decide_eq_false h21))
      have g16 : (sv_u2 h' 15 3 (h' 15 2)) 16 = hi 16 := by rw [sv_u2_off (by decide)]; exact i16
      refine S_aload_0 (pc := 37) dX5_step_37 ?_
      refine S_aload_0 (pc := 38) dX5_step_38 ?_
      refine fgX5_19 (pc := 39) sh_15 dX5_step_39 ?_
      refine fpX5_22 (pc := 42) sh_15 dX5_step_42 ?_
      refine S_aload_0 (pc := 45) dX5_step_45 ?_
      refine fgX5_19 (pc := 46) sh_15 dX5_step_46 ?_
      refine S_aload_0 (pc := 49) dX5_step_49 ?_
      refine fgX5_9 (pc := 50) sh_15 dX5_step_50 ?_
      refine J_icmp_lt (pc := 53) 64 dX5_step_53 (by decide) (fun h53 => ?_) (fun h53 => ?_)
      · rw [sv_u2_k (by decide), sv_u2_k (by decide), i2, i0, nI_ltI (by omega) (by omega)] at h53
        have h53 : ¬ n ≤ q := by omega
        refine S_aload_0 (pc := 64) dX5_step_64 ?_
        refine S_aload_0 (pc := 65) dX5_step_65 ?_
        refine fgX5_19 (pc := 66) sh_15 dX5_step_66 ?_
        refine caX5_86 (pc := 69) (t_X5_byteAt (l := l) (G := G) (hi := sv_u2 h' 15 3 (h' 15 2)) (j := q) (by rw [sv_u2_k (by decide)]; exact i0) hn2 (by omega) (by rw [sv_u2_k (by decide)]; exact i2) (congrFun g16 _)) sh_15 (Nat.le_of_ble_eq_true rfl) ⟨rfl, rfl, ⟨by decide, by decide⟩, by decide, by decide⟩ dX5_step_69 (fun r69 a69 b69 c69 p69 => ?_)
        obtain ⟨rfl, rfl, rfl, rfl⟩ := p69
        refine caX5_90 (pc := 72) (t_X5_isLetter (l := l) (G := G)) (Nat.le_of_ble_eq_true rfl) ⟨rfl, rfl, ⟨by decide, by decide⟩, by decide, by decide⟩ dX5_step_72 (fun r72 a72 b72 c72 p72 => ?_)
        obtain ⟨rfl, rfl, rfl, rfl⟩ := p72
        refine J_if_eq_b (pc := 75) 85 dX5_step_75 (by decide) (fun h75 => ?_) (fun h75 => ?_)
        · have hL : ¬ lxL (hi 16) q = true := by rw [show lxL (hi 16) q = false from decide_eq_false h75]; decide
          refine S_aload_0 (pc := 85) dX5_step_85 ?_
          refine S_aload_0 (pc := 86) dX5_step_86 ?_
          refine fgX5_19 (pc := 87) sh_15 dX5_step_87 ?_
          refine caX5_86 (pc := 90) (t_X5_byteAt (l := l) (G := G) (hi := sv_u2 h' 15 3 (h' 15 2)) (j := q) (by rw [sv_u2_k (by decide)]; exact i0) hn2 (by omega) (by rw [sv_u2_k (by decide)]; exact i2) (congrFun g16 _)) sh_15 (Nat.le_of_ble_eq_true rfl) ⟨rfl, rfl, ⟨by decide, by decide⟩, by decide, by decide⟩ dX5_step_90 (fun r90 a90 b90 c90 p90 => ?_)
          obtain ⟨rfl, rfl, rfl, rfl⟩ := p90
          refine caX5_97 (pc := 93) (t_X5_isDigit (l := l) (G := G)) (Nat.le_of_ble_eq_true rfl) ⟨rfl, rfl, ⟨by decide, by decide⟩, by decide, by decide⟩ dX5_step_93 (fun r93 a93 b93 c93 p93 => ?_)
          obtain ⟨rfl, rfl, rfl, rfl⟩ := p93
          refine J_if_eq_b (pc := 96) 106 dX5_step_96 (by decide) (fun h96 => ?_) (fun h96 => ?_)
          · have hD : ¬ lxD (hi 16) q = true := by rw [show lxD (hi 16) q = false from decide_eq_false h96]; decide
            refine S_aload_0 (pc := 106) dX5_step_106 ?_
            refine S_aload_0 (pc := 107) dX5_step_107 ?_
            refine S_aload_0 (pc := 108) dX5_step_108 ?_
            refine fgX5_19 (pc := 109) sh_15 dX5_step_109 ?_
            refine caX5_86 (pc := 112) (t_X5_byteAt (l := l) (G := G) (hi := sv_u2 h' 15 3 (h' 15 2)) (j := q) (by rw [sv_u2_k (by decide)]; exact i0) hn2 (by omega) (by rw [sv_u2_k (by decide)]; exact i2) (congrFun g16 _)) sh_15 (Nat.le_of_ble_eq_true rfl) ⟨rfl, rfl, ⟨by decide, by decide⟩, by decide, by decide⟩ dX5_step_112 (fun r112 a112 b112 c112 p112 => ?_)
            obtain ⟨rfl, rfl, rfl, rfl⟩ := p112
            refine J_bipush (pc := 115) (59) rfl dX5_step_115 ?_
            refine J_icmp_ne (pc := 117) 124 dX5_step_117 (by decide) (fun h117 => ?_) (fun h117 => ?_)
            · refine J_iconst (pc := 124) (4) rfl dX5_step_124 ?_
              refine fpX5_25 (pc := 125) sh_15 dX5_step_125 ?_
              refine S_aload_0 (pc := 128) dX5_step_128 ?_
              refine J_dup (pc := 129) rfl dX5_step_129 ?_
              refine fgX5_19 (pc := 130) sh_15 dX5_step_130 ?_
              refine J_iconst (pc := 133) (1) rfl dX5_step_133 ?_
              refine J_iadd (pc := 134) dX5_step_134 ?_
              refine fpX5_19 (pc := 135) sh_15 dX5_step_135 ?_
              exact J_return (pc := 138) dX5_step_138 rfl ⟨rfl, rfl, ⟨lxOut_of eE (fun z gz => by rw [sv_u2_off gz, sv_u2_off gz, sv_u2_off gz]; exact i1 z gz) (fun k hk => by rw [sv_u2_k (by omega), sv_u2_k (by omega), sv_u2_k (by omega)]; exact ik k (by omega)) (by rw [sv_u2_at, sv_u2_k (by decide), sv_u2_k (by decide), i2]; unfold lxNext; rw [if_neg h53, if_neg hL, if_neg hD, nI_succ]) (by rw [sv_u2_k (by decide), sv_u2_k (by decide), sv_u2_at, i2]) (by rw [sv_u2_k (by decide), sv_u2_at]; unfold lxTok; rw [if_neg h53, if_neg hL, if_neg hD]; first | rw [if_pos h117] | rw [if_neg h117]) (fun z => by rw [sv_u2_k (by decide), sv_u2_at] at z; exact absurd z (by decide)), rfl, rfl⟩⟩
            · refine J_iconst (pc := 120) (3) rfl dX5_step_120 ?_
              refine J_goto (pc := 121) 125 dX5_step_121 (by decide) ?_
              refine fpX5_25 (pc := 125) sh_15 dX5_step_125 ?_
              refine S_aload_0 (pc := 128) dX5_step_128 ?_
              refine J_dup (pc := 129) rfl dX5_step_129 ?_
              refine fgX5_19 (pc := 130) sh_15 dX5_step_130 ?_
              refine J_iconst (pc := 133) (1) rfl dX5_step_133 ?_
              refine J_iadd (pc := 134) dX5_step_134 ?_
              refine fpX5_19 (pc := 135) sh_15 dX5_step_135 ?_
              exact J_return (pc := 138) dX5_step_138 rfl ⟨rfl, rfl, ⟨lxOut_of eE (fun z gz => by rw [sv_u2_off gz, sv_u2_off gz, sv_u2_off gz]; exact i1 z gz) (fun k hk => by rw [sv_u2_k (by omega), sv_u2_k (by omega), sv_u2_k (by omega)]; exact ik k (by omega)) (by rw [sv_u2_at, sv_u2_k (by decide), sv_u2_k (by decide), i2]; unfold lxNext; rw [if_neg h53, if_neg hL, if_neg hD, nI_succ]) (by rw [sv_u2_k (by decide), sv_u2_k (by decide), sv_u2_at, i2]) (by rw [sv_u2_k (by decide), sv_u2_at]; unfold lxTok; rw [if_neg h53, if_neg hL, if_neg hD]; first | rw [if_pos h117] | rw [if_neg h117]) (fun z => by rw [sv_u2_k (by decide), sv_u2_at] at z; exact absurd z (by decide)), rfl, rfl⟩⟩
          · have hD : lxD (hi 16) q = true := decide_eq_true h96
            refine S_aload_0 (pc := 99) dX5_step_99 ?_
            refine caX5_100 (pc := 100) (t_X5_stepNumber (l := l) (G := G) (hi := sv_u2 h' 15 3 (h' 15 2)) (n := n) (st := q) (Q := fun a => lxOut hi a 15 2 3 4 5 (hi 16) n p) hn2 (by omega) (by rw [sv_u2_k (by decide)]; exact i0) (by rw [sv_u2_at]; exact i2) (by rw [sv_u2_k (by decide)]; exact i2) (fun a a1 a2 a3 a4 a5 a6 => by
                    rw [g16] at a3 a5 a6
                    refine lxOut_of eE (fun z gz => by rw [a1 z gz, sv_u2_off gz]; exact i1 z gz) (fun k hk => by rw [a2 k hk, sv_u2_k (by omega)]; exact ik k (by omega)) ?_ (by rw [a4, sv_u2_at]; exact i2) ?_ (fun _ => ?_)
                    · rw [a3]; unfold lxNext; rw [if_neg h53, if_neg hL, if_pos hD]
                    · rw [a5]; unfold lxTok; rw [if_neg h53, if_neg hL, if_pos hD]
                    · rw [a6]; unfold lxVal; rw [if_neg hL])) sh_15 (Nat.le_of_ble_eq_true rfl) ⟨rfl, rfl, ⟨by decide, by decide⟩, by decide, by decide⟩ dX5_step_100 (fun a100 b100 c100 p100 => ?_)
            obtain ⟨hQ, rfl, rfl⟩ := p100
            refine J_goto (pc := 103) 138 dX5_step_103 (by decide) ?_
            exact J_return (pc := 138) dX5_step_138 rfl ⟨rfl, rfl, ⟨hQ, rfl, rfl⟩⟩
        · have hL : lxL (hi 16) q = true := decide_eq_true h75
          refine S_aload_0 (pc := 78) dX5_step_78 ?_
          refine caX5_94 (pc := 79) (t_X5_stepWord (l := l) (G := G) (hi := sv_u2 h' 15 3 (h' 15 2)) (n := n) (st := q) (Q := fun a => lxOut hi a 15 2 3 4 5 (hi 16) n p) hn2 (by omega) (by rw [sv_u2_k (by decide)]; exact i0) (by rw [sv_u2_at]; exact i2) (by rw [sv_u2_k (by decide)]; exact i2) (fun a a1 a2 a3 a4 a5 a6 => by
                  rw [g16] at a3 a6
                  refine lxOut_of eE (fun z gz => by rw [a1 z gz, sv_u2_off gz]; exact i1 z gz) (fun k hk => by rw [a2 k hk, sv_u2_k (by omega)]; exact ik k (by omega)) ?_ (by rw [a4, sv_u2_at]; exact i2) ?_ (fun _ => ?_)
                  · rw [a3]; unfold lxNext; rw [if_neg h53, if_pos hL]
                  · rw [a5]; unfold lxTok; rw [if_neg h53, if_pos hL]
                  · rw [a6]; unfold lxVal; rw [if_pos hL])) sh_15 (Nat.le_of_ble_eq_true rfl) ⟨rfl, rfl, ⟨by decide, by decide⟩, by decide, by decide⟩ dX5_step_79 (fun a79 b79 c79 p79 => ?_)
          obtain ⟨hQ, rfl, rfl⟩ := p79
          refine J_goto (pc := 82) 138 dX5_step_82 (by decide) ?_
          exact J_return (pc := 138) dX5_step_138 rfl ⟨rfl, rfl, ⟨hQ, rfl, rfl⟩⟩
      · rw [sv_u2_k (by decide), sv_u2_k (by decide), i2, i0, nI_ltI (by omega) (by omega)] at h53
        refine S_aload_0 (pc := 56) dX5_step_56 ?_
        refine J_iconst (pc := 57) (0) rfl dX5_step_57 ?_
        refine fpX5_25 (pc := 58) sh_15 dX5_step_58 ?_
        refine J_goto (pc := 61) 138 dX5_step_61 (by decide) ?_
        exact J_return (pc := 138) dX5_step_138 rfl ⟨rfl, rfl, ⟨lxOut_of eE (fun z gz => by rw [sv_u2_off gz, sv_u2_off gz]; exact i1 z gz) (fun k hk => by rw [sv_u2_k (by omega), sv_u2_k (by omega)]; exact ik k (by omega)) (by rw [sv_u2_k (by decide), sv_u2_k (by decide), i2]; unfold lxNext; rw [if_pos (by omega)]) (by rw [sv_u2_k (by decide), sv_u2_at, i2]) (by rw [sv_u2_at]; unfold lxTok; rw [if_pos (by omega)]) (fun z => by rw [sv_u2_at] at z; exact absurd z (by decide)), rfl, rfl⟩⟩
    · have hP : lxS (hi 16) q = true := decide_eq_true h21
      refine S_aload_0 (pc := 24) dX5_step_24 ?_
      refine J_dup (pc := 25) rfl dX5_step_25 ?_
      refine fgX5_19 (pc := 26) sh_15 dX5_step_26 ?_
      refine J_iconst (pc := 29) (1) rfl dX5_step_29 ?_
      refine J_iadd (pc := 30) dX5_step_30 ?_
      refine fpX5_19 (pc := 31) sh_15 dX5_step_31 ?_
      refine J_goto (pc := 34) 0 dX5_step_34 (by decide) ?_
      exact ih (q + 1) (by omega) (by omega) _ (by omega) (fun q g => by rw [sv_u2_off g]; exact i1 q g) (fun k hk => by rw [sv_u2_k hk]; exact ik k hk) (by rw [sv_u2_at, i2, nI_succ]) (by rw [← ie]; exact (rE_step (by omega) hP).symm)
set_option maxRecDepth 20000 in
set_option maxHeartbeats 2000000 in
theorem t_X5_step {l : Launch} {G : svG} {hi : svH} {hl : svL} {tw dr : Nat} {pm : Nat → Nat} {n p : Nat} (hn2 : n ≤ 120) (hn : hi 15 0 = nI n) (h2 : hi 15 2 = nI p) (hp : p ≤ n) : svV l G yX5_step mX5_step rX5_step [sv_rf G.1 15] hi hl (sv_hr tw dr pm) (fun a b c => lxOut hi a 15 2 3 4 5 (hi 16) n p ∧ hl = b ∧ sv_hr tw dr pm = c) := by
  refine sv_entry (by decide +kernel) rfl rfl (Nat.le_of_ble_eq_true rfl) (by simp [Value.category, sv_rf]) [some (sv_rf G.1 15)] rfl ?_
  exact lo_X5_step hn2 hn p hp hi (Nat.le_refl _) (fun _ _ => rfl) (fun _ _ => rfl) h2 rfl
