/-- who wins if the trains that stop are these, and those of them canvassed for one -/
def xWinC (hi : svH) (tw C T Gn : Nat) (stops canv by' : Int32) (many : Nat) : Nat := mWin C Gn (hi (tw + 4)) (hi (tw + 5)) (hi (tw + 6)) (hi 17 4) (mCast (hi 18) (hi (tw + 2)) (hi 20) stops canv by' T) many
def xOk (others : Int32) (s : Nat) : Bool := decide (nI s &&& (others ^^^ (-1)) = 0)
theorem mPlan_no {ok wins : Nat → Bool} {buns : Int32} {s : Nat} (h : ¬ (ok s = true ∧ sv_bc (nI s) < (mPlan ok wins buns s).2 ∧ wins s = true)) : mPlan ok wins buns (s + 1) = mPlan ok wins buns s := by rw [mPlan, if_neg h]
theorem mPlan_yes {ok wins : Nat → Bool} {buns : Int32} {s : Nat} (h : ok s = true ∧ sv_bc (nI s) < (mPlan ok wins buns s).2 ∧ wins s = true) : mPlan ok wins buns (s + 1) = (nI s, sv_bc (nI s)) := by rw [mPlan, if_pos h]
set_option maxRecDepth 20000 in
set_option maxHeartbeats 2000000 in
theorem lo_X7_plan {l : Launch} {G : svG} {hi : svH} {hl : svL} {tw dr : Nat} {pm : Nat → Nat} {C L T Gn : Nat} (hx : xT hi tw C L T Gn) {jx jz : Nat} (hjx : jx < C) (hjz : jz < C) : ∀ t, t ≤ 256 → ∀ h', (∀ q, q ≠ 64 → q ≠ 65 → h' q = hi q) → svJ l G rX7_plan mX7_plan (sv_Fm G (fun v sh a b c => ∃ r, v = some (.int r) ∧ sh = svSH ∧ ((fun r a b c => (mPlan (xOk ((mOpen (hi 17 3) (hi 17 0) (hi 19) T) &&& (mFor (hi 20) (nI jz) T ^^^ (-1)))) (fun s => decide (nI (xWinC hi tw C T Gn (mOpen (hi 17 3) (hi 17 0) (hi 19) T) (nI s) (nI jz) L) = nI jx)) (hi 17 1) 256).1 = r ∧ (∀ q, q ≠ 64 → q ≠ 65 → a q = hi q) ∧ hl = b ∧ sv_hr tw dr pm = c)) r a b c) 0 0) 0 0 64 [some (sv_rf G.1 0), some (.int (nI jx)), some (.int (nI jz)), some (.int (mOpen (hi 17 3) (hi 17 0) (hi 19) T)), some (.int ((mOpen (hi 17 3) (hi 17 0) (hi 19) T) &&& (mFor (hi 20) (nI jz) T ^^^ (-1)))), some (.int (mPlan (xOk ((mOpen (hi 17 3) (hi 17 0) (hi 19) T) &&& (mFor (hi 20) (nI jz) T ^^^ (-1)))) (fun s => decide (nI (xWinC hi tw C T Gn (mOpen (hi 17 3) (hi 17 0) (hi 19) T) (nI s) (nI jz) L) = nI jx)) (hi 17 1) t).1), some (.int (mPlan (xOk ((mOpen (hi 17 3) (hi 17 0) (hi 19) T) &&& (mFor (hi 20) (nI jz) T ^^^ (-1)))) (fun s => decide (nI (xWinC hi tw C T Gn (mOpen (hi 17 3) (hi 17 0) (hi 19) T) (nI s) (nI jz) L) = nI jx)) (hi 17 1) t).2), some (.int (nI t))] [] svSH h' hl (sv_hr tw dr pm) := by
  obtain ⟨htw, hCc, hLc, hT, hGn, hC2, hC6, hL1, hLC, hT8, hG6, hf, hs, hk⟩ := id hx
  have htw2 := sv_tw htw
  have hk6 : ∀ t, t < T → ∃ j, j < 6 ∧ hi 20 t = nI j := fun t ht => (hk t ht).elim fun j h => ⟨j, by omega, h.2⟩
  have hf6 : ∀ r, r < Gn → ∃ j, j < 6 ∧ hi (tw + 5) r = nI j := fun r hr => (hf r hr).elim fun j h => ⟨j, by omega, h.2⟩
  have hs6 : ∀ r, r < Gn → ∃ j, j < 6 ∧ hi (tw + 6) r = nI j := fun r hr => (hs r hr).elim fun j h => ⟨j, by omega, h.2⟩
  refine sv_up (fun t ht ih h' i1 => ?_)
  have hto : ∀ u, u < T → (if bt (nI t) u = true then nI jz else h' 20 u) = nI (mTo (nI t) (nI jz) (h' 20) u) ∧ mTo (nI t) (nI jz) (h' 20) u < 6 := fun u hu => by
    rw [i1 20 (by decide) (by decide)]
    obtain ⟨j, hj, e⟩ := hk6 u hu
    unfold mTo
    by_cases hb : bt (nI t) u = true
    · rw [if_pos hb, nI_clamp (show jz < 2 ^ 31 by omega)]; exact ⟨rfl, by omega⟩
    · rw [if_neg hb, e, nI_clamp (show j < 2 ^ 31 by omega)]; exact ⟨rfl, hj⟩
  refine S_iload_7 (pc := 64) dX7_plan_64 ?_
  refine J_sipush (pc := 66) (256) rfl dX7_plan_66 ?_
  refine J_icmp_ge (pc := 69) 149 dX7_plan_69 (by decide) (fun h69 => ?_) (fun h69 => ?_)
  · rw [show (256 : Int32) = nI 256 from rfl, nI_leI (by omega) (by omega)] at h69
    obtain rfl : t = 256 := by omega
    refine S_iload_5 (pc := 149) dX7_plan_149 ?_
    exact J_ireturn (pc := 151) dX7_plan_151 rfl rfl ⟨_, rfl, rfl, ⟨rfl, i1, rfl, rfl⟩⟩
  · rw [show (256 : Int32) = nI 256 from rfl, nI_leI (by omega) (by omega)] at h69
    refine S_iload_7 (pc := 72) dX7_plan_72 ?_
    refine S_iload_4 (pc := 74) dX7_plan_74 ?_
    refine J_iconst (pc := 76) (-1) rfl dX7_plan_76 ?_
    refine J_ixor (pc := 77) dX7_plan_77 ?_
    refine J_iand (pc := 78) dX7_plan_78 ?_
    refine J_if_ne (pc := 79) 143 dX7_plan_79 (by decide) (fun h79 => ?_) (fun h79 => ?_)
    · refine S_inc_7 (pc := 143) (1) rfl dX7_plan_143 (by decide) ?_
      refine J_goto (pc := 146) 64 dX7_plan_146 (by decide) ?_
      exact svJ_ls (by rw [mPlan_no (fun z => h79 (of_decide_eq_true z.1)), nI_succ]) (ih (t + 1) (by omega) (by omega) _ i1)
    · refine S_iload_7 (pc := 82) dX7_plan_82 ?_
      refine caX7_173 (pc := 84) (t_J6_bitCount_0f7a4 (l := l) (G := G)) (Nat.le_of_ble_eq_true rfl) ⟨rfl, rfl, ⟨by decide, by decide⟩, by decide, by decide⟩ dX7_plan_84 (fun r84 a84 b84 c84 p84 => ?_)
      obtain ⟨rfl, rfl, rfl, rfl⟩ := p84
      refine S_iload_6 (pc := 87) dX7_plan_87 ?_
      refine J_icmp_lt (pc := 89) 95 dX7_plan_89 (by decide) (fun h89 => ?_) (fun h89 => ?_)
      · refine S_aload_0 (pc := 95) dX7_plan_95 ?_
        refine S_iload_3 (pc := 96) dX7_plan_96 ?_
        refine S_iload_7 (pc := 97) dX7_plan_97 ?_
        refine S_iload_2 (pc := 99) dX7_plan_99 ?_
        refine caX7_197 (pc := 100) (t_X7_castCanvassed (l := l) (G := G) (T := T) htw (by rw [i1 tw (by omega) (by omega)]; exact hT) hT8 hto) sh_0 (Nat.le_of_ble_eq_true rfl) ⟨rfl, rfl, ⟨by decide, by decide⟩, by decide, by decide⟩ dX7_plan_100 (fun a100 b100 c100 p100 => ?_)
        obtain ⟨k1, k2, rfl, rfl⟩ := p100
        have e0 : ∀ k, k < 7 → a100 (tw + k) = hi (tw + k) := fun k hk => (k1 _ (by omega)).trans (i1 _ (by omega) (by omega))
        have e17 : a100 17 = hi 17 := (k1 17 (by decide)).trans (i1 17 (by decide) (by decide))
        have i2' : ∀ q, q ≠ 64 → q ≠ 65 → a100 q = hi q := fun q g1 g2 => (k1 q g1).trans (i1 q g1 g2)
        refine S_aload_0 (pc := 103) dX7_plan_103 ?_
        refine fgX7_43 (pc := 104) sh_0 hv_0_5 dX7_plan_104 ?_
        refine S_aload_0 (pc := 107) dX7_plan_107 ?_
        refine fgX7_10 (pc := 108) sh_0 hv_0_0 dX7_plan_108 ?_
        refine S_aload_0 (pc := 111) dX7_plan_111 ?_
        refine fgX7_29 (pc := 112) sh_0 hv_0_3 dX7_plan_112 ?_
        refine fgX7_134 (pc := 115) sh_17 dX7_plan_115 ?_
        refine S_aload_0 (pc := 118) dX7_plan_118 ?_
        refine fgX7_10 (pc := 119) sh_0 hv_0_0 dX7_plan_119 ?_
        refine fgX7_188 (pc := 122) htw dX7_plan_122 ?_
        refine caX7_201 (pc := 125) (by have h := t_X0_winner (l := l) (G := G) (hi := a100) (hl := hl) (dr := dr) (pm := pm) (C := C) (L := L) (Gn := Gn) (rugs := a100 17 4) htw (by omega) hC6 (by omega) (by omega) (by rw [show a100 tw = hi tw from e0 0 (by omega)]; exact hCc) (by rw [show a100 tw = hi tw from e0 0 (by omega)]; exact hGn) hG6 (by rw [e0 5 (by omega)]; exact hf6) (by rw [e0 6 (by omega)]; exact hs6); rw [show nI L = a100 tw 1 from by rw [show a100 tw = hi tw from e0 0 (by omega)]; exact hLc.symm] at h; exact h) sh_63 (Nat.le_of_ble_eq_true rfl) ⟨rfl, rfl, ⟨by decide, by decide⟩, by decide, by decide⟩ dX7_plan_125 (fun r125 a125 b125 c125 p125 => ?_)
        obtain ⟨hw, k3, rfl, rfl⟩ := p125
        have i2 : ∀ q, q ≠ 64 → q ≠ 65 → a125 q = hi q := fun q g1 g2 => (k3 q g2).trans (i2' q g1 g2)
        have hw2 : r125 = nI (xWinC hi tw C T Gn (mOpen (hi 17 3) (hi 17 0) (hi 19) T) (nI t) (nI jz) L) := by
          rw [← hw]
          unfold xWinC
          rw [e0 4 (by omega), e0 5 (by omega), e0 6 (by omega), e17, mWin_congr (g := mCast (hi 18) (hi (tw + 2)) (hi 20) (mOpen (hi 17 3) (hi 17 0) (hi 19) T) (nI t) (nI jz) T) (fun k hk => by rw [k2 k (by omega), i1 18 (by decide) (by decide), i1 20 (by decide) (by decide), i1 (tw + 2) (by omega) (by omega)])]
        rw [hw2]
        refine S_iload_1 (pc := 128) dX7_plan_128 ?_
        refine J_icmp_ne (pc := 129) 143 dX7_plan_129 (by decide) (fun h129 => ?_) (fun h129 => ?_)
        · refine S_inc_7 (pc := 143) (1) rfl dX7_plan_143 (by decide) ?_
          refine J_goto (pc := 146) 64 dX7_plan_146 (by decide) ?_
          first
          | exact svJ_ls (by rw [mPlan_no (fun z => h129 (of_decide_eq_true z.2.2)), nI_succ]) (ih (t + 1) (by omega) (by omega) _ i2)
          | exact svJ_ls (by rw [mPlan_yes ⟨decide_eq_true h79, h89, decide_eq_true h129⟩, nI_succ]) (ih (t + 1) (by omega) (by omega) _ i2)
        · refine S_iload_7 (pc := 132) dX7_plan_132 ?_
          refine S_istore_5 (pc := 134) dX7_plan_134 (by decide) ?_
          refine S_iload_7 (pc := 136) dX7_plan_136 ?_
          refine caX7_173 (pc := 138) (t_J6_bitCount_0f7a4 (l := l) (G := G)) (Nat.le_of_ble_eq_true rfl) ⟨rfl, rfl, ⟨by decide, by decide⟩, by decide, by decide⟩ dX7_plan_138 (fun r138 a138 b138 c138 p138 => ?_)
          obtain ⟨rfl, rfl, rfl, rfl⟩ := p138
          refine S_istore_6 (pc := 141) dX7_plan_141 (by decide) ?_
          refine S_inc_7 (pc := 143) (1) rfl dX7_plan_143 (by decide) ?_
          refine J_goto (pc := 146) 64 dX7_plan_146 (by decide) ?_
          first
          | exact svJ_ls (by rw [mPlan_no (fun z => h129 (of_decide_eq_true z.2.2)), nI_succ]) (ih (t + 1) (by omega) (by omega) _ i2)
          | exact svJ_ls (by rw [mPlan_yes ⟨decide_eq_true h79, h89, decide_eq_true h129⟩, nI_succ]) (ih (t + 1) (by omega) (by omega) _ i2)
      · refine J_goto (pc := 92) 143 dX7_plan_92 (by decide) ?_
        refine S_inc_7 (pc := 143) (1) rfl dX7_plan_143 (by decide) ?_
        refine J_goto (pc := 146) 64 dX7_plan_146 (by decide) ?_
        exact svJ_ls (by rw [mPlan_no (fun z => h89 z.2.1), nI_succ]) (ih (t + 1) (by omega) (by omega) _ i1)
set_option maxRecDepth 20000 in
set_option maxHeartbeats 2000000 in
theorem t_X7_plan {l : Launch} {G : svG} {hi : svH} {hl : svL} {tw dr : Nat} {pm : Nat → Nat} {C L T Gn : Nat} (hx : xT hi tw C L T Gn) {x z : Int32} : svI l G yX7_plan mX7_plan rX7_plan [sv_rf G.1 0, .int x, .int z] hi hl (sv_hr tw dr pm) (fun r a b c => (if (0 ≤ x ∧ x < nI C) ∧ 0 ≤ z ∧ z < nI C then (mPlan (xOk ((mOpen (hi 17 3) (hi 17 0) (hi 19) T) &&& (mFor (hi 20) (z) T ^^^ (-1)))) (fun s => decide (nI (xWinC hi tw C T Gn (mOpen (hi 17 3) (hi 17 0) (hi 19) T) (nI s) (z) L) = x)) (hi 17 1) 256).1 else -1) = r ∧ (∀ q, q ≠ 64 → q ≠ 65 → a q = hi q) ∧ hl = b ∧ sv_hr tw dr pm = c) := by
  obtain ⟨htw, hCc, hLc, hT, hGn, hC2, hC6, hL1, hLC, hT8, hG6, hf, hs, hk⟩ := id hx
  have htw2 := sv_tw htw
  have hk6 : ∀ t, t < T → ∃ j, j < 6 ∧ hi 20 t = nI j := fun t ht => (hk t ht).elim fun j h => ⟨j, by omega, h.2⟩
  have hf6 : ∀ r, r < Gn → ∃ j, j < 6 ∧ hi (tw + 5) r = nI j := fun r hr => (hf r hr).elim fun j h => ⟨j, by omega, h.2⟩
  have hs6 : ∀ r, r < Gn → ∃ j, j < 6 ∧ hi (tw + 6) r = nI j := fun r hr => (hs r hr).elim fun j h => ⟨j, by omega, h.2⟩
  refine sv_entry (by decide +kernel) rfl rfl (Nat.le_of_ble_eq_true rfl) (by simp [Value.category, sv_rf]) [some (sv_rf G.1 0), some (.int x), some (.int z), none, none, none, none, none] rfl ?_
  refine S_iload_1 (pc := 0) dX7_plan_0 ?_
  refine S_aload_0 (pc := 1) dX7_plan_1 ?_
  refine fgX7_10 (pc := 2) sh_0 hv_0_0 dX7_plan_2 ?_
  refine fgX7_137 (pc := 5) htw dX7_plan_5 ?_
  refine caX7_68 (pc := 8) (t_X7_isIn (l := l) (G := G)) (Nat.le_of_ble_eq_true rfl) ⟨rfl, rfl, ⟨by decide, by decide⟩, by decide, by decide⟩ dX7_plan_8 (fun r8 a8 b8 c8 p8 => ?_)
  obtain ⟨rfl, rfl, rfl, rfl⟩ := p8
  refine J_if_eq_b (pc := 11) 28 dX7_plan_11 (by decide) (fun h11 => ?_) (fun h11 => ?_)
  · refine J_iconst (pc := 28) (-1) rfl dX7_plan_28 ?_
    exact J_ireturn (pc := 29) dX7_plan_29 rfl rfl ⟨_, rfl, rfl, ⟨by first | exact if_neg (fun q => h11 (by rw [hCc]; exact q.1)) | exact if_neg (fun q => h25 (by rw [hCc]; exact q.2)), fun _ _ _ => rfl, rfl, rfl⟩⟩
  · refine S_iload_2 (pc := 14) dX7_plan_14 ?_
    refine S_aload_0 (pc := 15) dX7_plan_15 ?_
    refine fgX7_10 (pc := 16) sh_0 hv_0_0 dX7_plan_16 ?_
    refine fgX7_137 (pc := 19) htw dX7_plan_19 ?_
    refine caX7_68 (pc := 22) (t_X7_isIn (l := l) (G := G)) (Nat.le_of_ble_eq_true rfl) ⟨rfl, rfl, ⟨by decide, by decide⟩, by decide, by decide⟩ dX7_plan_22 (fun r22 a22 b22 c22 p22 => ?_)
    obtain ⟨rfl, rfl, rfl, rfl⟩ := p22
    refine J_if_ne_b (pc := 25) 30 dX7_plan_25 (by decide) (fun h25 => ?_) (fun h25 => ?_)
    · rw [hCc] at h11 h25
      obtain ⟨jx, hjx, rfl⟩ := sv_ix h11 (by omega)
      obtain ⟨jz, hjz, rfl⟩ := sv_ix h25 (by omega)
      rw [if_pos ⟨h11, h25⟩]
      refine S_aload_0 (pc := 30) dX7_plan_30 ?_
      refine caX7_140 (pc := 31) (t_X7_openTrains (l := l) (G := G) htw hT hT8) sh_0 (Nat.le_of_ble_eq_true rfl) ⟨rfl, rfl, ⟨by decide, by decide⟩, by decide, by decide⟩ dX7_plan_31 (fun r31 a31 b31 c31 p31 => ?_)
      obtain ⟨rfl, rfl, rfl, rfl⟩ := p31
      refine S_istore_3 (pc := 34) dX7_plan_34 (by decide) ?_
      refine S_iload_3 (pc := 35) dX7_plan_35 ?_
      refine S_aload_0 (pc := 36) dX7_plan_36 ?_
      refine S_iload_2 (pc := 37) dX7_plan_37 ?_
      refine caX7_194 (pc := 38) (t_X7_trainsFor (l := l) (G := G) htw hT hT8) sh_0 (Nat.le_of_ble_eq_true rfl) ⟨rfl, rfl, ⟨by decide, by decide⟩, by decide, by decide⟩ dX7_plan_38 (fun r38 a38 b38 c38 p38 => ?_)
      obtain ⟨rfl, rfl, rfl, rfl⟩ := p38
      refine J_iconst (pc := 41) (-1) rfl dX7_plan_41 ?_
      refine J_ixor (pc := 42) dX7_plan_42 ?_
      refine J_iand (pc := 43) dX7_plan_43 ?_
      refine S_istore_4 (pc := 44) dX7_plan_44 (by decide) ?_
      refine J_bipush (pc := 46) (-9) rfl dX7_plan_46 ?_
      refine S_istore_5 (pc := 48) dX7_plan_48 (by decide) ?_
      refine S_aload_0 (pc := 50) dX7_plan_50 ?_
      refine fgX7_29 (pc := 51) sh_0 hv_0_3 dX7_plan_51 ?_
      refine fgX7_167 (pc := 54) sh_17 dX7_plan_54 ?_
      refine J_iconst (pc := 57) (1) rfl dX7_plan_57 ?_
      refine J_iadd (pc := 58) dX7_plan_58 ?_
      refine S_istore_6 (pc := 59) dX7_plan_59 (by decide) ?_
      refine J_iconst (pc := 61) (0) rfl dX7_plan_61 ?_
      refine S_istore_7 (pc := 62) dX7_plan_62 (by decide) ?_
      exact lo_X7_plan hx hjx hjz 0 (Nat.zero_le _) hi (fun _ _ _ => rfl)
    · refine J_iconst (pc := 28) (-1) rfl dX7_plan_28 ?_
      exact J_ireturn (pc := 29) dX7_plan_29 rfl rfl ⟨_, rfl, rfl, ⟨by first | exact if_neg (fun q => h11 (by rw [hCc]; exact q.1)) | exact if_neg (fun q => h25 (by rw [hCc]; exact q.2)), fun _ _ _ => rfl, rfl, rfl⟩⟩
theorem nI_pow1 (A p : Nat) : nI (A ^ p) * nI A = nI (A ^ (p + 1)) := by rw [pk_mul, Nat.pow_succ]
set_option maxRecDepth 20000 in
set_option maxHeartbeats 2000000 in
theorem lo2_X7_product {l : Launch} {G : svG} {hi : svH} {hl : svL} {hr : svR} {A p B q : Nat} (hp : p ≤ 1000) (hq : q ≤ 1000) : ∀ t, t ≤ q → svJ l G rX7_product mX7_product (sv_Fm G (fun v sh a b c => ∃ r, v = some (.int r) ∧ sh = svSH ∧ (nI (A ^ p * B ^ q) = r ∧ hi = a ∧ hl = b ∧ hr = c)) 0 0) 0 0 27 [some (.int (nI A)), some (.int (nI p)), some (.int (nI B)), some (.int (nI q)), some (.int (nI (A ^ p * B ^ t))), some (.int (nI t))] [] svSH hi hl hr := by
  refine sv_up (fun t ht ih => ?_)
  refine S_iload_5 (pc := 27) dX7_product_27 ?_
  refine S_iload_3 (pc := 29) dX7_product_29 ?_
  refine J_icmp_ge (pc := 30) 45 dX7_product_30 (by decide) (fun h30 => ?_) (fun h30 => ?_)
  · rw [nI_leI (by omega) (by omega)] at h30
    obtain rfl : t = q := by omega
    refine S_iload_4 (pc := 45) dX7_product_45 ?_
    exact J_ireturn (pc := 47) dX7_product_47 rfl rfl ⟨_, rfl, rfl, ⟨rfl, rfl, rfl, rfl⟩⟩
  · rw [nI_leI (by omega) (by omega)] at h30
    refine S_iload_4 (pc := 33) dX7_product_33 ?_
    refine S_iload_2 (pc := 35) dX7_product_35 ?_
    refine J_imul (pc := 36) dX7_product_36 ?_
    refine S_istore_4 (pc := 37) dX7_product_37 (by decide) ?_
    refine S_inc_5 (pc := 39) (1) rfl dX7_product_39 (by decide) ?_
    refine J_goto (pc := 42) 27 dX7_product_42 (by decide) ?_
    exact svJ_ls (by rw [pk_mul, nI_succ, Nat.pow_succ, Nat.mul_assoc]) (ih (t + 1) (by omega) (by omega))
set_option maxRecDepth 20000 in
set_option maxHeartbeats 2000000 in
theorem lo1_X7_product {l : Launch} {G : svG} {hi : svH} {hl : svL} {hr : svR} {A p B q : Nat} (hp : p ≤ 1000) (hq : q ≤ 1000) : ∀ t, t ≤ p → svJ l G rX7_product mX7_product (sv_Fm G (fun v sh a b c => ∃ r, v = some (.int r) ∧ sh = svSH ∧ (nI (A ^ p * B ^ q) = r ∧ hi = a ∧ hl = b ∧ hr = c)) 0 0) 0 0 6 [some (.int (nI A)), some (.int (nI p)), some (.int (nI B)), some (.int (nI q)), some (.int (nI (A ^ t))), some (.int (nI t))] [] svSH hi hl hr := by
  refine sv_up (fun t ht ih => ?_)
  refine S_iload_5 (pc := 6) dX7_product_6 ?_
  refine S_iload_1 (pc := 8) dX7_product_8 ?_
  refine J_icmp_ge (pc := 9) 24 dX7_product_9 (by decide) (fun h9 => ?_) (fun h9 => ?_)
  · rw [nI_leI (by omega) (by omega)] at h9
    obtain rfl : t = p := by omega
    refine J_iconst (pc := 24) (0) rfl dX7_product_24 ?_
    refine S_istore_5 (pc := 25) dX7_product_25 (by decide) ?_
    exact svJ_ls (by rw [Nat.pow_zero, Nat.mul_one]; rfl) (lo2_X7_product hp hq 0 (Nat.zero_le _))
  · rw [nI_leI (by omega) (by omega)] at h9
    refine S_iload_4 (pc := 12) dX7_product_12 ?_
    refine S_iload_0 (pc := 14) dX7_product_14 ?_
    refine J_imul (pc := 15) dX7_product_15 ?_
    refine S_istore_4 (pc := 16) dX7_product_16 (by decide) ?_
    refine S_inc_5 (pc := 18) (1) rfl dX7_product_18 (by decide) ?_
    refine J_goto (pc := 21) 6 dX7_product_21 (by decide) ?_
    exact svJ_ls (by rw [pk_mul, nI_succ, Nat.pow_succ]) (ih (t + 1) (by omega) (by omega))
set_option maxRecDepth 20000 in
set_option maxHeartbeats 2000000 in
theorem t_X7_product {l : Launch} {G : svG} {hi : svH} {hl : svL} {hr : svR} {A p B q : Nat} (hp : p ≤ 1000) (hq : q ≤ 1000) : svIp l G yX7_product mX7_product rX7_product [.int (nI A), .int (nI p), .int (nI B), .int (nI q)] hi hl hr (nI (A ^ p * B ^ q)) := by
  refine sv_entry (by decide +kernel) rfl rfl (Nat.le_of_ble_eq_true rfl) (by simp [Value.category, sv_rf]) [some (.int (nI A)), some (.int (nI p)), some (.int (nI B)), some (.int (nI q)), none, none] rfl ?_
  refine J_iconst (pc := 0) (1) rfl dX7_product_0 ?_
  refine S_istore_4 (pc := 1) dX7_product_1 (by decide) ?_
  refine J_iconst (pc := 3) (0) rfl dX7_product_3 ?_
  refine S_istore_5 (pc := 4) dX7_product_4 (by decide) ?_
  
  exact svJ_ls (by rw [Nat.pow_zero]; rfl) (lo1_X7_product hp hq 0 (Nat.zero_le _))
theorem gcd_max {g : Nat} (hg : g < 2 ^ 31) : (if nI g < 1 then 1 else nI g) = nI (max g 1) := by
  by_cases h : g = 0
  · subst h; rfl
  · rw [show (1 : Int32) = nI 1 from rfl, if_neg (by rw [nI_ltI (by omega) (by decide)]; omega), Nat.max_eq_left (by omega)]
set_option maxRecDepth 20000 in
set_option maxHeartbeats 2000000 in
theorem ex_X7_commonDivisor {l : Launch} {G : svG} {hi : svH} {hl : svL} {hr : svR} {x0 y0 x y k : Nat} {z : Option Value} (hx : x < 2 ^ 31) (hy : y < 2 ^ 31) (hk : k < 1000) (hg : Nat.gcd x y = Nat.gcd x0 y0) (h0 : y = 0) : svJ l G rX7_commonDivisor mX7_commonDivisor (sv_Fm G (fun v sh a b c => ∃ r, v = some (.int r) ∧ sh = svSH ∧ ((nI (max (Nat.gcd x0 y0) 1)) = r ∧ hi = a ∧ hl = b ∧ hr = c)) 0 0) 0 0 2 [some (.int (nI x)), some (.int (nI y)), some (.int (nI k)), z] [] svSH hi hl hr := by
  subst h0
  rw [Nat.gcd_zero_right] at hg
  refine S_iload_2 (pc := 2) dX7_commonDivisor_2 ?_
  refine J_sipush (pc := 3) (1000) rfl dX7_commonDivisor_3 ?_
  refine J_icmp_ge (pc := 6) 27 dX7_commonDivisor_6 (by decide) (fun h6 => ?_) (fun h6 => ?_)
  · rw [show (1000 : Int32) = nI 1000 from rfl, nI_leI (by omega) (by omega)] at h6
    exact absurd h6 (by omega)
  · refine S_iload_1 (pc := 9) dX7_commonDivisor_9 ?_
    refine J_if_eq (pc := 10) 27 dX7_commonDivisor_10 (by decide) (fun h10 => ?_) (fun h10 => ?_)
    · refine S_iload_0 (pc := 27) dX7_commonDivisor_27 ?_
      refine J_iconst (pc := 28) (1) rfl dX7_commonDivisor_28 ?_
      refine maX7_291 (pc := 29) (by decide) (Nat.le_of_ble_eq_true rfl) (by decide) (by decide) dX7_commonDivisor_29 ?_
      exact J_ireturn (pc := 32) dX7_commonDivisor_32 rfl rfl ⟨_, rfl, rfl, ⟨by rw [← hg, ← gcd_max hx], rfl, rfl, rfl⟩⟩
    · exact absurd rfl h10
set_option maxRecDepth 20000 in
set_option maxHeartbeats 2000000 in
theorem st_X7_commonDivisor {l : Launch} {G : svG} {hi : svH} {hl : svL} {hr : svR} {x0 y0 x y k : Nat} {z : Option Value} (hx : x < 2 ^ 31) (hy : y < 2 ^ 31) (hk : k < 1000) (hg : Nat.gcd x y = Nat.gcd x0 y0) (h0 : 0 < y) (hnext : svJ l G rX7_commonDivisor mX7_commonDivisor (sv_Fm G (fun v sh a b c => ∃ r, v = some (.int r) ∧ sh = svSH ∧ ((nI (max (Nat.gcd x0 y0) 1)) = r ∧ hi = a ∧ hl = b ∧ hr = c)) 0 0) 0 0 2 [some (.int (nI y)), some (.int (nI (x % y))), some (.int (nI (k + 1))), some (.int (nI (x % y)))] [] svSH hi hl hr) : svJ l G rX7_commonDivisor mX7_commonDivisor (sv_Fm G (fun v sh a b c => ∃ r, v = some (.int r) ∧ sh = svSH ∧ ((nI (max (Nat.gcd x0 y0) 1)) = r ∧ hi = a ∧ hl = b ∧ hr = c)) 0 0) 0 0 2 [some (.int (nI x)), some (.int (nI y)), some (.int (nI k)), z] [] svSH hi hl hr := by
  refine S_iload_2 (pc := 2) dX7_commonDivisor_2 ?_
  refine J_sipush (pc := 3) (1000) rfl dX7_commonDivisor_3 ?_
  refine J_icmp_ge (pc := 6) 27 dX7_commonDivisor_6 (by decide) (fun h6 => ?_) (fun h6 => ?_)
  · rw [show (1000 : Int32) = nI 1000 from rfl, nI_leI (by omega) (by omega)] at h6
    exact absurd h6 (by omega)
  · refine S_iload_1 (pc := 9) dX7_commonDivisor_9 ?_
    refine J_if_eq (pc := 10) 27 dX7_commonDivisor_10 (by decide) (fun h10 => ?_) (fun h10 => ?_)
    · exact absurd h10 (nI_ne0 h0 hy)
    · refine S_iload_0 (pc := 13) dX7_commonDivisor_13 ?_
      refine S_iload_1 (pc := 14) dX7_commonDivisor_14 ?_
      refine J_irem (pc := 15) (nI_ne0 h0 hy) dX7_commonDivisor_15 ?_
      refine S_istore_3 (pc := 16) dX7_commonDivisor_16 (by decide) ?_
      refine S_iload_1 (pc := 17) dX7_commonDivisor_17 ?_
      refine S_istore_0 (pc := 18) dX7_commonDivisor_18 (by decide) ?_
      refine S_iload_3 (pc := 19) dX7_commonDivisor_19 ?_
      refine S_istore_1 (pc := 20) dX7_commonDivisor_20 (by decide) ?_
      refine S_inc_2 (pc := 21) (1) rfl dX7_commonDivisor_21 (by decide) ?_
      refine J_goto (pc := 24) 2 dX7_commonDivisor_24 (by decide) ?_
      exact svJ_ls (by rw [pk_rem hx h0 hy, nI_succ]) hnext
theorem lo_X7_commonDivisor {l : Launch} {G : svG} {hi : svH} {hl : svL} {hr : svR} {x0 y0 : Nat} : ∀ (m x y k : Nat) (z : Option Value), y < 2 ^ m → m ≤ 31 → x < 2 ^ 31 → y < 2 ^ 31 → k + 2 * m < 1000 → Nat.gcd x y = Nat.gcd x0 y0 → svJ l G rX7_commonDivisor mX7_commonDivisor (sv_Fm G (fun v sh a b c => ∃ r, v = some (.int r) ∧ sh = svSH ∧ ((nI (max (Nat.gcd x0 y0) 1)) = r ∧ hi = a ∧ hl = b ∧ hr = c)) 0 0) 0 0 2 [some (.int (nI x)), some (.int (nI y)), some (.int (nI k)), z] [] svSH hi hl hr := by
  intro m
  induction m with
  | zero => exact fun x y k z h1 _ h2 h3 h4 hg => ex_X7_commonDivisor h2 h3 (by omega) hg (by omega)
  | succ m ih =>
    intro x y k z h1 hm h2 h3 h4 hg
    by_cases h0 : y = 0
    · exact ex_X7_commonDivisor h2 h3 (by omega) hg h0
    · have hp : 0 < y := by omega
      have r1 := Nat.mod_lt x hp
      have g1 : Nat.gcd y (x % y) = Nat.gcd x0 y0 := by rw [← hg, Nat.gcd_comm y, ← Nat.gcd_rec, Nat.gcd_comm]
      refine st_X7_commonDivisor h2 h3 (by omega) hg hp ?_
      by_cases h5 : x % y = 0
      · exact ex_X7_commonDivisor h3 (by omega) (by omega) g1 h5
      · have hp2 : 0 < x % y := by omega
        have r2 := Nat.mod_lt y hp2
        refine st_X7_commonDivisor h3 (by omega) (by omega) g1 hp2 ?_
        refine ih _ _ _ _ ?_ (by omega) (by omega) (by omega) (by omega) (by rw [← g1, Nat.gcd_comm (x % y), ← Nat.gcd_rec, Nat.gcd_comm])
        have e : y % (x % y) + (x % y) ≤ y := by
          have := Nat.mod_add_div y (x % y)
          have h6 : 1 ≤ y / (x % y) := Nat.div_pos (by omega) hp2
          have h7 : (x % y) * 1 ≤ (x % y) * (y / (x % y)) := Nat.mul_le_mul_left _ h6
          omega
        have h8 : 2 ^ (m + 1) = 2 * 2 ^ m := by rw [Nat.pow_succ]; omega
        omega
set_option maxRecDepth 20000 in
set_option maxHeartbeats 2000000 in
theorem t_X7_commonDivisor {l : Launch} {G : svG} {hi : svH} {hl : svL} {hr : svR} {x0 y0 : Nat} (hx : x0 < 2 ^ 31) (hy : y0 < 2 ^ 31) : svIp l G yX7_commonDivisor mX7_commonDivisor rX7_commonDivisor [.int (nI x0), .int (nI y0)] hi hl hr (nI (max (Nat.gcd x0 y0) 1)) := by
  refine sv_entry (by decide +kernel) rfl rfl (Nat.le_of_ble_eq_true rfl) (by simp [Value.category, sv_rf]) [some (.int (nI x0)), some (.int (nI y0)), none, none] rfl ?_
  refine J_iconst (pc := 0) (0) rfl dX7_commonDivisor_0 ?_
  refine S_istore_2 (pc := 1) dX7_commonDivisor_1 (by decide) ?_
  
  exact lo_X7_commonDivisor 31 x0 y0 0 _ hy (by omega) hx hy (by omega) rfl
theorem mSum_t {p : Nat → Bool} {g : Nat → Nat} {n : Nat} (h : p n = true) : mSum p g (n + 1) = mSum p g n + g n := by rw [mSum, if_pos h]
theorem mSum_f {p : Nat → Bool} {g : Nat → Nat} {n : Nat} (h : ¬ p n = true) : mSum p g (n + 1) = mSum p g n := by rw [mSum, if_neg h]; rfl
theorem mSum_z {p : Nat → Bool} {g : Nat → Nat} {n : Nat} (h : g n = 0) : mSum p g (n + 1) = mSum p g n := by
  rw [mSum, h]; split <;> rfl
theorem wt_zero {w : Nat} (hw : w < 2 ^ 31) (h : nI w ≤ 0) : w = 0 := by
  rw [show (0 : Int32) = nI 0 from rfl, nI_leI hw (by decide)] at h
  omega
theorem pop_disj (x o : Int32) : pop8 x + pop8 (o &&& (x ^^^ (-1))) ≤ 8 := by
  have h : ∀ i, i < 32 → (bt x i).toNat + (bt (o &&& (x ^^^ (-1))) i).toNat ≤ 1 := fun i hi => by
    rw [b_and, hb_not x hi]
    cases bt x i <;> cases bt o i <;> decide
  have := h 0 (by decide); have := h 1 (by decide); have := h 2 (by decide); have := h 3 (by decide); have := h 4 (by decide); have := h 5 (by decide); have := h 6 (by decide); have := h 7 (by decide)
  unfold pop8
  omega
theorem wt_le {xn a b : Nat} (hxn : xn ≤ 10) (h : a + b ≤ 8) : (10 - xn) ^ a * xn ^ b ≤ 100000000 := by
  have h1 : (10 - xn) ^ a ≤ 10 ^ a := Nat.pow_le_pow_left (by omega) a
  have h2 : xn ^ b ≤ 10 ^ b := Nat.pow_le_pow_left hxn b
  have h3 := Nat.mul_le_mul h1 h2
  rw [← Nat.pow_add] at h3
  exact Nat.le_trans h3 (Nat.le_trans (Nat.pow_le_pow_right (n := 10) (by decide) h) (by decide))
theorem gcd_max_ok {u v : Nat} (hv : 0 < v) (hv2 : v < 2 ^ 31) : max (Nat.gcd u v) 1 < 2 ^ 31 := by
  have := Nat.le_of_dvd hv (Nat.gcd_dvd_right u v)
  omega
theorem open_and8 {m : Int32} (h : ∀ i, 8 ≤ i → i < 32 → bt m i = false) (k : Int32) : ∀ i, 8 ≤ i → i < 32 → bt (m &&& k) i = false := fun i h1 h2 => by rw [b_and, h i h1 h2]; rfl
theorem pow_b {b : Nat} (hb : b ≤ 10) {n : Nat} (hn : n ≤ 8) : b ^ n ≤ 100000000 := Nat.le_trans (Nat.pow_le_pow_left hb n) (Nat.le_trans (Nat.pow_le_pow_right (n := 10) (by decide) hn) (by decide))
set_option maxRecDepth 20000 in
set_option maxHeartbeats 2000000 in
theorem lo_X7_odds {l : Launch} {G : svG} {hi : svH} {hl : svL} {tw dr : Nat} {pm : Nat → Nat} {C L T Gn : Nat} (hx : xT hi tw C L T Gn) {x what : Int32} {xn : Nat} (hxn : xn ≤ 10) (hsum : mSum (fun s => xOk (mOpen (hi 17 3) (hi 17 0) (hi 19) T) s && decide (nI (xWin hi tw C T Gn (nI s) L) = x)) (fun s => (10 - xn) ^ pop8 (nI s) * xn ^ pop8 ((mOpen (hi 17 3) (hi 17 0) (hi 19) T) &&& (nI s ^^^ (-1)))) 256 < 2 ^ 31) : ∀ t, t ≤ 256 → ∀ (h' : svH) (z : Option Value), (∀ q, q ≠ 64 → q ≠ 65 → h' q = hi q) → svJ l G rX7_odds mX7_odds (sv_Fm G (fun v sh a b c => ∃ r, v = some (.int r) ∧ sh = svSH ∧ ((fun r a b c => (if what = 0 then nI (mSum (fun s => xOk (mOpen (hi 17 3) (hi 17 0) (hi 19) T) s && decide (nI (xWin hi tw C T Gn (nI s) L) = x)) (fun s => (10 - xn) ^ pop8 (nI s) * xn ^ pop8 ((mOpen (hi 17 3) (hi 17 0) (hi 19) T) &&& (nI s ^^^ (-1)))) 256) else nI (10 ^ pop8 (mOpen (hi 17 3) (hi 17 0) (hi 19) T))) / nI (max (Nat.gcd (mSum (fun s => xOk (mOpen (hi 17 3) (hi 17 0) (hi 19) T) s && decide (nI (xWin hi tw C T Gn (nI s) L) = x)) (fun s => (10 - xn) ^ pop8 (nI s) * xn ^ pop8 ((mOpen (hi 17 3) (hi 17 0) (hi 19) T) &&& (nI s ^^^ (-1)))) 256) (10 ^ pop8 (mOpen (hi 17 3) (hi 17 0) (hi 19) T))) 1) = r ∧ (∀ q, q ≠ 64 → q ≠ 65 → a q = hi q) ∧ hl = b ∧ sv_hr tw dr pm = c)) r a b c) 0 0) 0 0 45 [some (sv_rf G.1 0), some (.int (nI xn)), some (.int x), some (.int what), some (.int (mOpen (hi 17 3) (hi 17 0) (hi 19) T)), some (.int (nI (mSum (fun s => xOk (mOpen (hi 17 3) (hi 17 0) (hi 19) T) s && decide (nI (xWin hi tw C T Gn (nI s) L) = x)) (fun s => (10 - xn) ^ pop8 (nI s) * xn ^ pop8 ((mOpen (hi 17 3) (hi 17 0) (hi 19) T) &&& (nI s ^^^ (-1)))) t))), some (.int (nI t)), z] [] svSH h' hl (sv_hr tw dr pm) := by
  obtain ⟨htw, hCc, hLc, hT, hGn, hC2, hC6, hL1, hLC, hT8, hG6, hf, hs, hk⟩ := id hx
  have htw2 := sv_tw htw
  have hk6 : ∀ t, t < T → ∃ j, j < 6 ∧ hi 20 t = nI j := fun t ht => (hk t ht).elim fun j h => ⟨j, by omega, h.2⟩
  have hf6 : ∀ r, r < Gn → ∃ j, j < 6 ∧ hi (tw + 5) r = nI j := fun r hr => (hf r hr).elim fun j h => ⟨j, by omega, h.2⟩
  have hs6 : ∀ r, r < Gn → ∃ j, j < 6 ∧ hi (tw + 6) r = nI j := fun r hr => (hs r hr).elim fun j h => ⟨j, by omega, h.2⟩
  have ho8 : ∀ i, 8 ≤ i → i < 32 → bt (mOpen (hi 17 3) (hi 17 0) (hi 19) T) i = false := fun i h1 h2 => mOpen_bits (by omega) i (by omega) h2
  refine sv_up (fun t ht ih h' z i1 => ?_)
  refine S_iload_6 (pc := 45) dX7_odds_45 ?_
  refine J_sipush (pc := 47) (256) rfl dX7_odds_47 ?_
  refine J_icmp_ge (pc := 50) 126 dX7_odds_50 (by decide) (fun h50 => ?_) (fun h50 => ?_)
  · rw [show (256 : Int32) = nI 256 from rfl, nI_leI (by omega) (by omega)] at h50
    obtain rfl : t = 256 := by omega
    have hlo : 10 ^ pop8 (mOpen (hi 17 3) (hi 17 0) (hi 19) T) < 2 ^ 31 := Nat.lt_of_le_of_lt (pow_b (Nat.le_refl 10) (pop8_le _)) (by decide)
    refine J_bipush (pc := 126) (10) rfl dX7_odds_126 ?_
    refine S_iload_4 (pc := 128) dX7_odds_128 ?_
    refine caX7_173 (pc := 130) (t_J6_bitCount_0f7a4 (l := l) (G := G)) (Nat.le_of_ble_eq_true rfl) ⟨rfl, rfl, ⟨by decide, by decide⟩, by decide, by decide⟩ dX7_odds_130 (fun r130 a130 b130 c130 p130 => ?_)
    obtain ⟨rfl, rfl, rfl, rfl⟩ := p130
    refine J_iconst (pc := 133) (1) rfl dX7_odds_133 ?_
    refine J_iconst (pc := 134) (0) rfl dX7_odds_134 ?_
    refine caX7_205 (pc := 135) (by rw [pop_of ho8]; exact t_X7_product (A := 10) (p := pop8 (mOpen (hi 17 3) (hi 17 0) (hi 19) T)) (B := 1) (q := 0) (by have := pop8_le (mOpen (hi 17 3) (hi 17 0) (hi 19) T); omega) (by omega)) (Nat.le_of_ble_eq_true rfl) ⟨rfl, rfl, ⟨by decide, by decide⟩, by decide, by decide⟩ dX7_odds_135 (fun r135 a135 b135 c135 p135 => ?_)
    obtain ⟨rfl, rfl, rfl, rfl⟩ := p135
    rw [Nat.pow_zero, Nat.mul_one]
    refine S_istore_6 (pc := 138) dX7_odds_138 (by decide) ?_
    refine S_iload_5 (pc := 140) dX7_odds_140 ?_
    refine S_iload_6 (pc := 142) dX7_odds_142 ?_
    refine caX7_209 (pc := 144) (t_X7_commonDivisor (l := l) (G := G) hsum hlo) (Nat.le_of_ble_eq_true rfl) ⟨rfl, rfl, ⟨by decide, by decide⟩, by decide, by decide⟩ dX7_odds_144 (fun r144 a144 b144 c144 p144 => ?_)
    obtain ⟨rfl, rfl, rfl, rfl⟩ := p144
    refine S_istore_7 (pc := 147) dX7_odds_147 (by decide) ?_
    refine S_iload_3 (pc := 149) dX7_odds_149 ?_
    refine J_if_ne (pc := 150) 158 dX7_odds_150 (by decide) (fun h150 => ?_) (fun h150 => ?_)
    · refine S_iload_6 (pc := 158) dX7_odds_158 ?_
      refine S_iload_7 (pc := 160) dX7_odds_160 ?_
      refine J_idiv (pc := 162) (nI_ne0 (by omega) (gcd_max_ok (Nat.pos_of_ne_zero (by simp)) hlo)) dX7_odds_162 ?_
      exact J_ireturn (pc := 163) dX7_odds_163 rfl rfl ⟨_, rfl, rfl, ⟨by first | rw [if_neg h150] | rw [if_pos h150], i1, rfl, rfl⟩⟩
    · refine S_iload_5 (pc := 153) dX7_odds_153 ?_
      refine J_goto (pc := 155) 160 dX7_odds_155 (by decide) ?_
      refine S_iload_7 (pc := 160) dX7_odds_160 ?_
      refine J_idiv (pc := 162) (nI_ne0 (by omega) (gcd_max_ok (Nat.pos_of_ne_zero (by simp)) hlo)) dX7_odds_162 ?_
      exact J_ireturn (pc := 163) dX7_odds_163 rfl rfl ⟨_, rfl, rfl, ⟨by first | rw [if_neg h150] | rw [if_pos h150], i1, rfl, rfl⟩⟩
  · rw [show (256 : Int32) = nI 256 from rfl, nI_leI (by omega) (by omega)] at h50
    refine S_iload_6 (pc := 53) dX7_odds_53 ?_
    refine S_iload_4 (pc := 55) dX7_odds_55 ?_
    refine J_iconst (pc := 57) (-1) rfl dX7_odds_57 ?_
    refine J_ixor (pc := 58) dX7_odds_58 ?_
    refine J_iand (pc := 59) dX7_odds_59 ?_
    refine J_if_eq (pc := 60) 66 dX7_odds_60 (by decide) (fun h60 => ?_) (fun h60 => ?_)
    · refine J_bipush (pc := 66) (10) rfl dX7_odds_66 ?_
      refine S_iload_1 (pc := 68) dX7_odds_68 ?_
      refine J_isub (pc := 69) dX7_odds_69 ?_
      refine S_iload_6 (pc := 70) dX7_odds_70 ?_
      refine caX7_173 (pc := 72) (t_J6_bitCount_0f7a4 (l := l) (G := G)) (Nat.le_of_ble_eq_true rfl) ⟨rfl, rfl, ⟨by decide, by decide⟩, by decide, by decide⟩ dX7_odds_72 (fun r72 a72 b72 c72 p72 => ?_)
      obtain ⟨rfl, rfl, rfl, rfl⟩ := p72
      refine S_iload_1 (pc := 75) dX7_odds_75 ?_
      refine S_iload_4 (pc := 76) dX7_odds_76 ?_
      refine S_iload_6 (pc := 78) dX7_odds_78 ?_
      refine J_iconst (pc := 80) (-1) rfl dX7_odds_80 ?_
      refine J_ixor (pc := 81) dX7_odds_81 ?_
      refine J_iand (pc := 82) dX7_odds_82 ?_
      refine caX7_173 (pc := 83) (t_J6_bitCount_0f7a4 (l := l) (G := G)) (Nat.le_of_ble_eq_true rfl) ⟨rfl, rfl, ⟨by decide, by decide⟩, by decide, by decide⟩ dX7_odds_83 (fun r83 a83 b83 c83 p83 => ?_)
      obtain ⟨rfl, rfl, rfl, rfl⟩ := p83
      refine caX7_205 (pc := 86) (by rw [pop_all t (by omega), pop_of (open_and8 ho8 _), show (10 : Int32) - nI xn = nI (10 - xn) from by rw [show (10 : Int32) = nI 10 from rfl, pk_sub hxn]]; exact t_X7_product (by have := pop8_le (nI t); omega) (by have := pop8_le ((mOpen (hi 17 3) (hi 17 0) (hi 19) T) &&& (nI t ^^^ (-1))); omega)) (Nat.le_of_ble_eq_true rfl) ⟨rfl, rfl, ⟨by decide, by decide⟩, by decide, by decide⟩ dX7_odds_86 (fun r86 a86 b86 c86 p86 => ?_)
      obtain ⟨rfl, rfl, rfl, rfl⟩ := p86
      have hz : nI ((10 - xn) ^ pop8 (nI t) * xn ^ pop8 ((mOpen (hi 17 3) (hi 17 0) (hi 19) T) &&& (nI t ^^^ (-1)))) ≤ 0 → (fun s => (10 - xn) ^ pop8 (nI s) * xn ^ pop8 ((mOpen (hi 17 3) (hi 17 0) (hi 19) T) &&& (nI s ^^^ (-1)))) t = 0 := fun h => wt_zero (Nat.lt_of_le_of_lt (wt_le hxn (pop_disj (nI t) (mOpen (hi 17 3) (hi 17 0) (hi 19) T))) (by decide)) h
      refine S_istore_7 (pc := 89) dX7_odds_89 (by decide) ?_
      refine S_iload_7 (pc := 91) dX7_odds_91 ?_
      refine J_if_le (pc := 93) 120 dX7_odds_93 (by decide) (fun h93 => ?_) (fun h93 => ?_)
      · refine S_inc_6 (pc := 120) (1) rfl dX7_odds_120 (by decide) ?_
        refine J_goto (pc := 123) 45 dX7_odds_123 (by decide) ?_
        exact svJ_ls (by rw [mSum_z (g := (fun s => (10 - xn) ^ pop8 (nI s) * xn ^ pop8 ((mOpen (hi 17 3) (hi 17 0) (hi 19) T) &&& (nI s ^^^ (-1))))) (n := t) (hz h93), nI_succ]) (ih (t + 1) (by omega) (by omega) _ _ i1)
      · refine S_aload_0 (pc := 96) dX7_odds_96 ?_
        refine S_iload_6 (pc := 97) dX7_odds_97 ?_
        refine S_aload_0 (pc := 99) dX7_odds_99 ?_
        refine fgX7_10 (pc := 100) sh_0 hv_0_0 dX7_odds_100 ?_
        refine fgX7_188 (pc := 103) htw dX7_odds_103 ?_
        refine caX7_191 (pc := 106) (t_X7_winnerAfter_l (l := l) (G := G) (hx.keep i1)) sh_0 (Nat.le_of_ble_eq_true rfl) ⟨rfl, rfl, ⟨by decide, by decide⟩, by decide, by decide⟩ dX7_odds_106 (fun r106 a106 b106 c106 p106 => ?_)
        obtain ⟨rfl, j1, rfl, rfl⟩ := p106
        refine S_iload_2 (pc := 109) dX7_odds_109 ?_
        refine J_icmp_ne (pc := 110) 120 dX7_odds_110 (by decide) (fun h110 => ?_) (fun h110 => ?_)
        · rw [xWin_keep htw i1] at h110
          refine S_inc_6 (pc := 120) (1) rfl dX7_odds_120 (by decide) ?_
          refine J_goto (pc := 123) 45 dX7_odds_123 (by decide) ?_
          first
          | exact svJ_ls (by rw [mSum_f (p := (fun s => xOk (mOpen (hi 17 3) (hi 17 0) (hi 19) T) s && decide (nI (xWin hi tw C T Gn (nI s) L) = x))) (fun q => h110 (of_decide_eq_true (Bool.and_eq_true_iff.mp q).2)), nI_succ]) (ih (t + 1) (by omega) (by omega) _ _ (fun q g1 g2 => (j1 q g1 g2).trans (i1 q g1 g2)))
          | exact svJ_ls (by rw [mSum_t (p := (fun s => xOk (mOpen (hi 17 3) (hi 17 0) (hi 19) T) s && decide (nI (xWin hi tw C T Gn (nI s) L) = x))) (Bool.and_eq_true_iff.mpr ⟨decide_eq_true h60, decide_eq_true h110⟩), nI_add, nI_succ]) (ih (t + 1) (by omega) (by omega) _ _ (fun q g1 g2 => (j1 q g1 g2).trans (i1 q g1 g2)))
        · rw [xWin_keep htw i1] at h110
          refine S_iload_5 (pc := 113) dX7_odds_113 ?_
          refine S_iload_7 (pc := 115) dX7_odds_115 ?_
          refine J_iadd (pc := 117) dX7_odds_117 ?_
          refine S_istore_5 (pc := 118) dX7_odds_118 (by decide) ?_
          refine S_inc_6 (pc := 120) (1) rfl dX7_odds_120 (by decide) ?_
          refine J_goto (pc := 123) 45 dX7_odds_123 (by decide) ?_
          first
          | exact svJ_ls (by rw [mSum_f (p := (fun s => xOk (mOpen (hi 17 3) (hi 17 0) (hi 19) T) s && decide (nI (xWin hi tw C T Gn (nI s) L) = x))) (fun q => h110 (of_decide_eq_true (Bool.and_eq_true_iff.mp q).2)), nI_succ]) (ih (t + 1) (by omega) (by omega) _ _ (fun q g1 g2 => (j1 q g1 g2).trans (i1 q g1 g2)))
          | exact svJ_ls (by rw [mSum_t (p := (fun s => xOk (mOpen (hi 17 3) (hi 17 0) (hi 19) T) s && decide (nI (xWin hi tw C T Gn (nI s) L) = x))) (Bool.and_eq_true_iff.mpr ⟨decide_eq_true h60, decide_eq_true h110⟩), nI_add, nI_succ]) (ih (t + 1) (by omega) (by omega) _ _ (fun q g1 g2 => (j1 q g1 g2).trans (i1 q g1 g2)))
    · refine J_goto (pc := 63) 120 dX7_odds_63 (by decide) ?_
      refine S_inc_6 (pc := 120) (1) rfl dX7_odds_120 (by decide) ?_
      refine J_goto (pc := 123) 45 dX7_odds_123 (by decide) ?_
      exact svJ_ls (by rw [mSum_f (p := (fun s => xOk (mOpen (hi 17 3) (hi 17 0) (hi 19) T) s && decide (nI (xWin hi tw C T Gn (nI s) L) = x))) (fun q => h60 (of_decide_eq_true (Bool.and_eq_true_iff.mp q).1)), nI_succ]) (ih (t + 1) (by omega) (by omega) _ _ i1)
def fOdds (C : Nat) (u : Nat → Nat) (lo : Nat) (x z what : Int32) : Int32 := if (0 ≤ x ∧ x < 11) ∧ (0 ≤ z ∧ z < nI C) ∧ 0 ≤ what ∧ what < 2 then (if what = 0 then nI (u x.toNatClampNeg) else nI lo) / nI (max (Nat.gcd (u x.toNatClampNeg) lo) 1) else -1
set_option maxRecDepth 20000 in
set_option maxHeartbeats 2000000 in
theorem t_X7_odds {l : Launch} {G : svG} {hi : svH} {hl : svL} {tw dr : Nat} {pm : Nat → Nat} {C L T Gn : Nat} (hx : xT hi tw C L T Gn) {x z what : Int32} (hsum : ∀ xm, xm ≤ 10 → mSum (fun s => xOk (mOpen (hi 17 3) (hi 17 0) (hi 19) T) s && decide (nI (xWin hi tw C T Gn (nI s) L) = z)) (fun s => (10 - xm) ^ pop8 (nI s) * xm ^ pop8 ((mOpen (hi 17 3) (hi 17 0) (hi 19) T) &&& (nI s ^^^ (-1)))) 256 < 2 ^ 31) : svI l G yX7_odds mX7_odds rX7_odds [sv_rf G.1 0, .int x, .int z, .int what] hi hl (sv_hr tw dr pm) (fun r a b c => fOdds C (fun xm => mSum (fun s => xOk (mOpen (hi 17 3) (hi 17 0) (hi 19) T) s && decide (nI (xWin hi tw C T Gn (nI s) L) = z)) (fun s => (10 - xm) ^ pop8 (nI s) * xm ^ pop8 ((mOpen (hi 17 3) (hi 17 0) (hi 19) T) &&& (nI s ^^^ (-1)))) 256) (10 ^ pop8 (mOpen (hi 17 3) (hi 17 0) (hi 19) T)) x z what = r ∧ (∀ q, q ≠ 64 → q ≠ 65 → a q = hi q) ∧ hl = b ∧ sv_hr tw dr pm = c) := by
  obtain ⟨htw, hCc, hLc, hT, hGn, hC2, hC6, hL1, hLC, hT8, hG6, hf, hs, hk⟩ := id hx
  have htw2 := sv_tw htw
  have hk6 : ∀ t, t < T → ∃ j, j < 6 ∧ hi 20 t = nI j := fun t ht => (hk t ht).elim fun j h => ⟨j, by omega, h.2⟩
  have hf6 : ∀ r, r < Gn → ∃ j, j < 6 ∧ hi (tw + 5) r = nI j := fun r hr => (hf r hr).elim fun j h => ⟨j, by omega, h.2⟩
  have hs6 : ∀ r, r < Gn → ∃ j, j < 6 ∧ hi (tw + 6) r = nI j := fun r hr => (hs r hr).elim fun j h => ⟨j, by omega, h.2⟩
  refine sv_entry (by decide +kernel) rfl rfl (Nat.le_of_ble_eq_true rfl) (by simp [Value.category, sv_rf]) [some (sv_rf G.1 0), some (.int x), some (.int z), some (.int what), none, none, none, none] rfl ?_
  refine S_iload_1 (pc := 0) dX7_odds_0 ?_
  refine J_bipush (pc := 1) (11) rfl dX7_odds_1 ?_
  refine caX7_68 (pc := 3) (t_X7_isIn (l := l) (G := G)) (Nat.le_of_ble_eq_true rfl) ⟨rfl, rfl, ⟨by decide, by decide⟩, by decide, by decide⟩ dX7_odds_3 (fun r3 a3 b3 c3 p3 => ?_)
  obtain ⟨rfl, rfl, rfl, rfl⟩ := p3
  refine J_if_eq_b (pc := 6) 31 dX7_odds_6 (by decide) (fun h6 => ?_) (fun h6 => ?_)
  · refine J_iconst (pc := 31) (-1) rfl dX7_odds_31 ?_
    exact J_ireturn (pc := 32) dX7_odds_32 rfl rfl ⟨_, rfl, rfl, ⟨by unfold fOdds; first | exact if_neg (fun q => h6 q.1) | exact if_neg (fun q => h20 (by rw [hCc]; exact q.2.1)) | exact if_neg (fun q => h28 q.2.2), fun _ _ _ => rfl, rfl, rfl⟩⟩
  · refine S_iload_2 (pc := 9) dX7_odds_9 ?_
    refine S_aload_0 (pc := 10) dX7_odds_10 ?_
    refine fgX7_10 (pc := 11) sh_0 hv_0_0 dX7_odds_11 ?_
    refine fgX7_137 (pc := 14) htw dX7_odds_14 ?_
    refine caX7_68 (pc := 17) (t_X7_isIn (l := l) (G := G)) (Nat.le_of_ble_eq_true rfl) ⟨rfl, rfl, ⟨by decide, by decide⟩, by decide, by decide⟩ dX7_odds_17 (fun r17 a17 b17 c17 p17 => ?_)
    obtain ⟨rfl, rfl, rfl, rfl⟩ := p17
    refine J_if_eq_b (pc := 20) 31 dX7_odds_20 (by decide) (fun h20 => ?_) (fun h20 => ?_)
    · refine J_iconst (pc := 31) (-1) rfl dX7_odds_31 ?_
      exact J_ireturn (pc := 32) dX7_odds_32 rfl rfl ⟨_, rfl, rfl, ⟨by unfold fOdds; first | exact if_neg (fun q => h6 q.1) | exact if_neg (fun q => h20 (by rw [hCc]; exact q.2.1)) | exact if_neg (fun q => h28 q.2.2), fun _ _ _ => rfl, rfl, rfl⟩⟩
    · refine S_iload_3 (pc := 23) dX7_odds_23 ?_
      refine J_iconst (pc := 24) (2) rfl dX7_odds_24 ?_
      refine caX7_68 (pc := 25) (t_X7_isIn (l := l) (G := G)) (Nat.le_of_ble_eq_true rfl) ⟨rfl, rfl, ⟨by decide, by decide⟩, by decide, by decide⟩ dX7_odds_25 (fun r25 a25 b25 c25 p25 => ?_)
      obtain ⟨rfl, rfl, rfl, rfl⟩ := p25
      refine J_if_ne_b (pc := 28) 33 dX7_odds_28 (by decide) (fun h28 => ?_) (fun h28 => ?_)
      · refine S_aload_0 (pc := 33) dX7_odds_33 ?_
        refine caX7_140 (pc := 34) (t_X7_openTrains (l := l) (G := G) htw hT hT8) sh_0 (Nat.le_of_ble_eq_true rfl) ⟨rfl, rfl, ⟨by decide, by decide⟩, by decide, by decide⟩ dX7_odds_34 (fun r34 a34 b34 c34 p34 => ?_)
        obtain ⟨rfl, rfl, rfl, rfl⟩ := p34
        refine S_istore_4 (pc := 37) dX7_odds_37 (by decide) ?_
        refine J_iconst (pc := 39) (0) rfl dX7_odds_39 ?_
        refine S_istore_5 (pc := 40) dX7_odds_40 (by decide) ?_
        refine J_iconst (pc := 42) (0) rfl dX7_odds_42 ?_
        refine S_istore_6 (pc := 43) dX7_odds_43 (by decide) ?_
        obtain ⟨xn, hxn, rfl⟩ := sv_ix (n := 11) h6 (by decide)
        have h20' := h20
        rw [hCc] at h20'
        have e := lo_X7_odds (l := l) (G := G) (hl := hl) (dr := dr) (pm := pm) hx (x := z) (what := what) (xn := xn) (by omega) (hsum xn (by omega)) 0 (Nat.zero_le _) hi none (fun _ _ _ => rfl)
        unfold fOdds
        simp only [if_pos (show (0 ≤ nI xn ∧ nI xn < 11) ∧ (0 ≤ z ∧ z < nI C) ∧ 0 ≤ what ∧ what < 2 from ⟨h6, h20', h28⟩), nI_clamp (show xn < 2 ^ 31 by omega)]
        exact e
      · refine J_iconst (pc := 31) (-1) rfl dX7_odds_31 ?_
        exact J_ireturn (pc := 32) dX7_odds_32 rfl rfl ⟨_, rfl, rfl, ⟨by unfold fOdds; first | exact if_neg (fun q => h6 q.1) | exact if_neg (fun q => h20 (by rw [hCc]; exact q.2.1)) | exact if_neg (fun q => h28 q.2.2), fun _ _ _ => rfl, rfl, rfl⟩⟩
