theorem lxOutM_of {hi a : svH} {n p st : Nat} (e : rE (lxS (hi 173)) n p = st) (h1 : ∀ q, q ≠ 164 → a q = hi q) (hk : ∀ k, k ≠ 16 → k ≠ 17 → k ≠ 18 → k ≠ 19 → a 164 k = hi 164 k) (h2 : a 164 16 = nI (lxNext (hi 173) n st)) (h3 : a 164 17 = nI st) (h4 : a 164 18 = lxTok (hi 173) n st) (h5 : (a 164 18 = 1 ∨ a 164 18 = 2) → a 164 19 = lxVal (hi 173) n st) : lxOut hi a 164 16 17 18 19 (hi 173) n p := by
  unfold lxOut
  rw [e]
  exact ⟨h1, hk, h2, h3, h4, h5⟩
set_option maxRecDepth 20000 in
set_option maxHeartbeats 2000000 in
theorem lo_X8_next {l : Launch} {G : svG} {hi : svH} {hl : svL} {tw dr : Nat} {pm : Nat → Nat} {n p : Nat} (hn2 : n ≤ 120) (hn : hi 164 15 = nI n) (hb : ∀ i, i < n → ∃ k, k < 256 ∧ hi 173 i = nI k) : ∀ q, q ≤ n → ∀ (h' : svH) (z : Option Value), p ≤ q → (∀ q, q ≠ 164 → h' q = hi q) → (∀ k, k ≠ 16 → h' 164 k = hi 164 k) → h' 164 16 = nI q → rE (lxS (hi 173)) n q = rE (lxS (hi 173)) n p → svJ l G rX8_next mX8_next (sv_Fm G (fun v sh a b c => v = none ∧ sh = svSH ∧ ((fun a b c => lxOut hi a 164 16 17 18 19 (hi 173) n p ∧ hl = b ∧ sv_hr tw dr pm = c)) a b c) 0 0) 0 0 0 [some (sv_rf G.1 164), z] [] svSH h' hl (sv_hr tw dr pm) := by
  refine sv_up (fun q hq ih h' z hsq i1 ik i2 ie => ?_)
  have i0 : h' 164 15 = nI n := by rw [ik 15 (by decide)]; exact hn
  have i16 : h' 173 = hi 173 := i1 173 (by decide)
  refine S_aload_0 (pc := 0) dX8_next_0 ?_
  refine S_aload_0 (pc := 1) dX8_next_1 ?_
  refine fgX8_82 (pc := 2) sh_164 dX8_next_2 ?_
  refine caX8_85 (pc := 5) (t_X8_letterAt_v (l := l) (G := G) (hi := h') (n := n) (j := q) i0 hn2 (by omega) i2 (congrArg (fun s => mLt s n q) i16)) sh_164 (Nat.le_of_ble_eq_true rfl) ⟨rfl, rfl, ⟨by decide, by decide⟩, by decide, by decide⟩ dX8_next_5 (fun r5 a5 b5 c5 p5 => ?_)
  obtain ⟨rfl, rfl, rfl, rfl⟩ := p5
  refine J_bipush (pc := 8) (32) rfl dX8_next_8 ?_
  refine J_icmp_ne (pc := 10) 26 dX8_next_10 (by decide) (fun h10 => ?_) (fun h10 => ?_)
  · have hsp := not_and_or_f (fun z => h10 (mLt_S.mpr z))
    have eE : rE (lxS (hi 173)) n p = q := by rw [← ie]; exact rE_stop hsp
    refine S_aload_0 (pc := 26) dX8_next_26 ?_
    refine S_aload_0 (pc := 27) dX8_next_27 ?_
    refine fgX8_82 (pc := 28) sh_164 dX8_next_28 ?_
    refine fpX8_89 (pc := 31) sh_164 dX8_next_31 ?_
    refine S_aload_0 (pc := 34) dX8_next_34 ?_
    refine S_aload_0 (pc := 35) dX8_next_35 ?_
    refine fgX8_82 (pc := 36) sh_164 dX8_next_36 ?_
    refine caX8_85 (pc := 39) (t_X8_letterAt_v (l := l) (G := G) (hi := (sv_u2 h' 164 17 (h' 164 16))) (n := n) (j := q) (by rw [sv_u2_k (by decide)]; exact i0) hn2 (by omega) (by rw [sv_u2_k (by decide)]; exact i2) (show mLt ((sv_u2 h' 164 17 (h' 164 16)) 173) n q = mLt (hi 173) n q from by rw [sv_u2_off (by decide), i16])) sh_164 (Nat.le_of_ble_eq_true rfl) ⟨rfl, rfl, ⟨by decide, by decide⟩, by decide, by decide⟩ dX8_next_39 (fun r39 a39 b39 c39 p39 => ?_)
    obtain ⟨rfl, rfl, rfl, rfl⟩ := p39
    refine S_istore_1 (pc := 42) dX8_next_42 (by decide) ?_
    refine S_aload_0 (pc := 43) dX8_next_43 ?_
    refine J_iconst (pc := 44) (0) rfl dX8_next_44 ?_
    refine fpX8_92 (pc := 45) sh_164 dX8_next_45 ?_
    refine S_iload_1 (pc := 48) dX8_next_48 ?_
    refine J_if_ge (pc := 49) 60 dX8_next_49 (by decide) (fun h49 => ?_) (fun h49 => ?_)
    · have hqn : q < n := by
        apply Nat.lt_of_not_le
        intro z
        apply Int32.not_lt.mpr h49
        unfold mLt
        rw [if_neg (by omega)]; decide
      refine S_iload_1 (pc := 60) dX8_next_60 ?_
      refine caX8_98 (pc := 61) (t_X8_isFigure (l := l) (G := G)) (Nat.le_of_ble_eq_true rfl) ⟨rfl, rfl, ⟨by decide, by decide⟩, by decide, by decide⟩ dX8_next_61 (fun r61 a61 b61 c61 p61 => ?_)
      obtain ⟨rfl, rfl, rfl, rfl⟩ := p61
      refine J_if_eq_b (pc := 64) 173 dX8_next_64 (by decide) (fun h64 => ?_) (fun h64 => ?_)
      · have hD : ¬ lxD (hi 173) q = true := fun z => h64 (mLt_D.mpr ⟨hqn, z⟩)
        refine S_iload_1 (pc := 173) dX8_next_173 ?_
        refine caX8_102 (pc := 174) (t_X8_isLetter (l := l) (G := G)) (Nat.le_of_ble_eq_true rfl) ⟨rfl, rfl, ⟨by decide, by decide⟩, by decide, by decide⟩ dX8_next_174 (fun r174 a174 b174 c174 p174 => ?_)
        obtain ⟨rfl, rfl, rfl, rfl⟩ := p174
        refine J_if_eq_b (pc := 177) 237 dX8_next_177 (by decide) (fun h177 => ?_) (fun h177 => ?_)
        · have hL : ¬ lxL (hi 173) q = true := fun z => h177 (mLt_L.mpr ⟨hqn, z⟩)
          refine S_aload_0 (pc := 237) dX8_next_237 ?_
          refine S_iload_1 (pc := 238) dX8_next_238 ?_
          refine J_bipush (pc := 239) (59) rfl dX8_next_239 ?_
          refine J_icmp_ne (pc := 241) 248 dX8_next_241 (by decide) (fun h241 => ?_) (fun h241 => ?_)
          · refine J_iconst (pc := 248) (4) rfl dX8_next_248 ?_
            refine fpX8_95 (pc := 249) sh_164 dX8_next_249 ?_
            refine S_aload_0 (pc := 252) dX8_next_252 ?_
            refine J_dup (pc := 253) rfl dX8_next_253 ?_
            refine fgX8_82 (pc := 254) sh_164 dX8_next_254 ?_
            refine J_iconst (pc := 257) (1) rfl dX8_next_257 ?_
            refine J_iadd (pc := 258) dX8_next_258 ?_
            refine fpX8_82 (pc := 259) sh_164 dX8_next_259 ?_
            exact J_return (pc := 262) dX8_next_262 rfl ⟨rfl, rfl, ⟨lxOutM_of eE (fun z gz => by rw [sv_u2_off gz, sv_u2_off gz, sv_u2_off gz, sv_u2_off gz]; exact i1 z gz) (fun k k1 k2 k3 k4 => by rw [sv_u2_k k1, sv_u2_k k3, sv_u2_k k4, sv_u2_k k2]; exact ik k k1) (by rw [sv_u2_at, sv_u2_k (by decide), sv_u2_k (by decide), sv_u2_k (by decide), i2]; unfold lxNext; rw [if_neg (by omega), if_neg hL, if_neg hD, nI_succ]) (by rw [sv_u2_k (by decide), sv_u2_k (by decide), sv_u2_k (by decide), sv_u2_at, i2]) (by rw [sv_u2_k (by decide), sv_u2_at]; unfold lxTok; rw [if_neg (by omega), if_neg hL, if_neg hD]; rw [mLt_in hqn] at h241; first | rw [if_pos h241] | rw [if_neg h241]) (fun z => by rw [sv_u2_k (by decide), sv_u2_at] at z; exact absurd z (by decide)), rfl, rfl⟩⟩
          · refine J_iconst (pc := 244) (3) rfl dX8_next_244 ?_
            refine J_goto (pc := 245) 249 dX8_next_245 (by decide) ?_
            refine fpX8_95 (pc := 249) sh_164 dX8_next_249 ?_
            refine S_aload_0 (pc := 252) dX8_next_252 ?_
            refine J_dup (pc := 253) rfl dX8_next_253 ?_
            refine fgX8_82 (pc := 254) sh_164 dX8_next_254 ?_
            refine J_iconst (pc := 257) (1) rfl dX8_next_257 ?_
            refine J_iadd (pc := 258) dX8_next_258 ?_
            refine fpX8_82 (pc := 259) sh_164 dX8_next_259 ?_
            exact J_return (pc := 262) dX8_next_262 rfl ⟨rfl, rfl, ⟨lxOutM_of eE (fun z gz => by rw [sv_u2_off gz, sv_u2_off gz, sv_u2_off gz, sv_u2_off gz]; exact i1 z gz) (fun k k1 k2 k3 k4 => by rw [sv_u2_k k1, sv_u2_k k3, sv_u2_k k4, sv_u2_k k2]; exact ik k k1) (by rw [sv_u2_at, sv_u2_k (by decide), sv_u2_k (by decide), sv_u2_k (by decide), i2]; unfold lxNext; rw [if_neg (by omega), if_neg hL, if_neg hD, nI_succ]) (by rw [sv_u2_k (by decide), sv_u2_k (by decide), sv_u2_k (by decide), sv_u2_at, i2]) (by rw [sv_u2_k (by decide), sv_u2_at]; unfold lxTok; rw [if_neg (by omega), if_neg hL, if_neg hD]; rw [mLt_in hqn] at h241; first | rw [if_pos h241] | rw [if_neg h241]) (fun z => by rw [sv_u2_k (by decide), sv_u2_at] at z; exact absurd z (by decide)), rfl, rfl⟩⟩
        · have hL := (mLt_L.mp h177).2
          rw [mLt_in hqn]
          have g17 : (sv_u2 (sv_u2 h' 164 17 (h' 164 16)) 164 19 0) 164 17 = nI q := by rw [sv_u2_k (by decide), sv_u2_at]; exact i2
          have e173 : (sv_u2 (sv_u2 h' 164 17 (h' 164 16)) 164 19 0) 173 = hi 173 := by rw [sv_u2_off (by decide), sv_u2_off (by decide)]; exact i16
          refine svJ_ls (by rw [e173]) (loL_X8_next (n := n) (st := q) (Q := fun a => lxOut hi a 164 16 17 18 19 (hi 173) n p) hn2 hqn (by rw [sv_u2_k (by decide), sv_u2_k (by decide)]; exact i0) g17 (fun a a1 a2 a3 a4 a5 => ?_) q (by omega) (sv_u2 (sv_u2 h' 164 17 (h' 164 16)) 164 19 0) (Nat.le_refl _) (fun _ _ => rfl) (fun _ _ => rfl) (by rw [sv_u2_k (by decide), sv_u2_k (by decide)]; exact i2) rfl)
          rw [e173] at a3 a5
          refine lxOutM_of eE (fun z gz => by rw [a1 z gz, sv_u2_off gz, sv_u2_off gz]; exact i1 z gz) (fun k k1 k2 k3 k4 => by rw [a2 k k1 k3 k4, sv_u2_k k4, sv_u2_k k2]; exact ik k k1) ?_ (by rw [a2 17 (by decide) (by decide) (by decide)]; exact g17) ?_ (fun _ => ?_)
          · rw [a3]; unfold lxNext; rw [if_neg (by omega), if_pos hL]
          · rw [a4]; unfold lxTok; rw [if_neg (by omega), if_pos hL]
          · rw [a5]; unfold lxVal; rw [if_pos hL]
      · have hD := (mLt_D.mp h64).2
        rw [mLt_in hqn]
        have g17 : (sv_u2 (sv_u2 h' 164 17 (h' 164 16)) 164 19 0) 164 17 = nI q := by rw [sv_u2_k (by decide), sv_u2_at]; exact i2
        have e173 : (sv_u2 (sv_u2 h' 164 17 (h' 164 16)) 164 19 0) 173 = hi 173 := by rw [sv_u2_off (by decide), sv_u2_off (by decide)]; exact i16
        refine svJ_ls (by rw [e173]) (loD_X8_next (n := n) (st := q) (Q := fun a => lxOut hi a 164 16 17 18 19 (hi 173) n p) hn2 hqn (by rw [sv_u2_k (by decide), sv_u2_k (by decide)]; exact i0) g17 (fun a a1 a2 a3 a4 a5 => ?_) q (by omega) (sv_u2 (sv_u2 h' 164 17 (h' 164 16)) 164 19 0) 0 (Nat.le_refl _) (by decide) (fun _ _ => rfl) (fun _ _ _ => rfl) (by rw [sv_u2_k (by decide), sv_u2_k (by decide)]; exact i2) sv_u2_at rfl rfl)
        rw [e173] at a3 a4 a5
        refine lxOutM_of eE (fun z gz => by rw [a1 z gz, sv_u2_off gz, sv_u2_off gz]; exact i1 z gz) (fun k k1 k2 k3 k4 => by rw [a2 k k1 k3 k4, sv_u2_k k4, sv_u2_k k2]; exact ik k k1) ?_ (by rw [a2 17 (by decide) (by decide) (by decide)]; exact g17) ?_ (fun _ => ?_)
        · rw [a3]; unfold lxNext; rw [if_neg (by omega), if_neg (lxD_L hD), if_pos hD]
        · unfold lxTok; rw [if_neg (show ¬ n ≤ q by omega), if_neg (lxD_L hD), if_pos hD]; exact a4
        · rw [a5]; unfold lxVal; rw [if_neg (lxD_L hD)]
    · have hqn : n ≤ q := by
        apply Nat.le_of_not_lt
        intro z
        apply h49
        rw [mLt_in z]
        obtain ⟨k, hk, e⟩ := hb q z
        rw [e]; exact nI_pos' (by omega)
      refine S_aload_0 (pc := 52) dX8_next_52 ?_
      refine J_iconst (pc := 53) (0) rfl dX8_next_53 ?_
      refine fpX8_95 (pc := 54) sh_164 dX8_next_54 ?_
      refine J_goto (pc := 57) 262 dX8_next_57 (by decide) ?_
      exact J_return (pc := 262) dX8_next_262 rfl ⟨rfl, rfl, ⟨lxOutM_of eE (fun z gz => by rw [sv_u2_off gz, sv_u2_off gz, sv_u2_off gz]; exact i1 z gz) (fun k k1 k2 k3 k4 => by rw [sv_u2_k k3, sv_u2_k k4, sv_u2_k k2]; exact ik k k1) (by rw [sv_u2_k (by decide), sv_u2_k (by decide), sv_u2_k (by decide), i2]; unfold lxNext; rw [if_pos hqn]) (by rw [sv_u2_k (by decide), sv_u2_k (by decide), sv_u2_at, i2]) (by rw [sv_u2_at]; unfold lxTok; rw [if_pos hqn]) (fun z => by rw [sv_u2_at] at z; exact absurd z (by decide)), rfl, rfl⟩⟩
  · obtain ⟨hqn, hP⟩ := mLt_S.mp h10
    refine S_aload_0 (pc := 13) dX8_next_13 ?_
    refine J_dup (pc := 14) rfl dX8_next_14 ?_
    refine fgX8_82 (pc := 15) sh_164 dX8_next_15 ?_
    refine J_iconst (pc := 18) (1) rfl dX8_next_18 ?_
    refine J_iadd (pc := 19) dX8_next_19 ?_
    refine fpX8_82 (pc := 20) sh_164 dX8_next_20 ?_
    refine J_goto (pc := 23) 0 dX8_next_23 (by decide) ?_
    exact ih (q + 1) (by omega) (by omega) _ _ (by omega) (fun q g => by rw [sv_u2_off g]; exact i1 q g) (fun k hk => by rw [sv_u2_k hk]; exact ik k hk) (by rw [sv_u2_at, i2, nI_succ]) (by rw [← ie]; exact (rE_step (by omega) hP).symm)
set_option maxRecDepth 20000 in
set_option maxHeartbeats 2000000 in
theorem t_X8_next {l : Launch} {G : svG} {hi : svH} {hl : svL} {tw dr : Nat} {pm : Nat → Nat} {n p : Nat} (hn2 : n ≤ 120) (hn : hi 164 15 = nI n) (hb : ∀ i, i < n → ∃ k, k < 256 ∧ hi 173 i = nI k) (h2 : hi 164 16 = nI p) (hp : p ≤ n) : svV l G yX8_next mX8_next rX8_next [sv_rf G.1 164] hi hl (sv_hr tw dr pm) (fun a b c => lxOut hi a 164 16 17 18 19 (hi 173) n p ∧ hl = b ∧ sv_hr tw dr pm = c) := by
  refine sv_entry (by decide +kernel) rfl rfl (Nat.le_of_ble_eq_true rfl) (by simp [Value.category, sv_rf]) [some (sv_rf G.1 164), none] rfl ?_
  exact lo_X8_next hn2 hn hb p hp hi none (Nat.le_refl _) (fun _ _ => rfl) (fun _ _ => rfl) h2 rfl
