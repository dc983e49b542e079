theorem dRel_cho {D f f' : svH} {v1 v2 v3 : Int32} (hd : dRel D f) (hT : D 0 3 = 0) (hG : D 0 4 = 0) (h1 : ∃ C, 2 ≤ C ∧ C ≤ 6 ∧ v1 = nI C ∧ ∃ L, 1 ≤ L ∧ L ≤ C ∧ v2 = nI L) (h3 : ∃ B, B ≤ 20 ∧ v3 = nI B) (f0 : f' 0 0 = v1) (f1 : f' 0 1 = v2) (f2 : f' 0 2 = v3) (f3 : f' 0 3 = f 0 3) (f4 : f' 0 4 = f 0 4) : dRel (sv_u2 (sv_u2 (sv_u2 D 0 0 v1) 0 1 v2) 0 2 v3) f' := by
  obtain ⟨C, c1, c2, rfl, L, l1, l2, rfl⟩ := h1
  obtain ⟨B, b1, rfl⟩ := h3
  refine ⟨fun k hk => ?_, C, L, B, 0, 0, by simp [u2e], by simp [u2e], by simp [u2e], by simp [u2e, hT]; rfl, by simp [u2e, hG]; rfl, c1, c2, l1, l2, b1, by decide, by decide, fun t ht => by omega, fun r hr => by omega⟩
  rcases (show k = 0 ∨ k = 1 ∨ k = 2 ∨ k = 3 ∨ k = 4 by omega) with rfl | rfl | rfl | rfl | rfl
  · rw [f0]; simp [u2e]
  · rw [f1]; simp [u2e]
  · rw [f2]; simp [u2e]
  · rw [f3, hd.1 3 (by decide)]; simp [u2e]
  · rw [f4, hd.1 4 (by decide)]; simp [u2e]
set_option maxRecDepth 20000 in
set_option maxHeartbeats 2000000 in
theorem t_X5_readChoice {l : Launch} {G : svG} {hi : svH} {hl : svL} {tw dr : Nat} {pm : Nat → Nat} {n p : Nat} (hdr : svSH[dr]? = some (0, 6)) (hn2 : n ≤ 120) (hn : hi 15 0 = nI n) (h2 : hi 15 2 = nI p) (hp : p ≤ n) {D : svH} (hD : dRel D (fun i => hi (dr + i))) (hT0 : D 0 3 = 0) (hG0 : D 0 4 = 0) : svI l G yX5_readChoice mX5_readChoice rX5_readChoice [sv_rf G.1 15, sv_rf G.1 dr] hi hl (sv_hr tw dr pm) (fun r a b c => rdF hi a dr n r (rdChoice (hi 16) n D p) ∧ hl = b ∧ sv_hr tw dr pm = c) := by
  have hdr2 := sv_dr hdr
  refine sv_entry (by decide +kernel) rfl rfl (Nat.le_of_ble_eq_true rfl) (by simp [Value.category, sv_rf]) [some (sv_rf G.1 15), some (sv_rf G.1 dr)] rfl ?_
  refine S_aload_0 (pc := 0) dX5_readChoice_0 ?_
  refine J_iconst (pc := 1) (2) rfl dX5_readChoice_1 ?_
  refine J_bipush (pc := 2) (6) rfl dX5_readChoice_2 ?_
  refine caX5_63 (pc := 4) (t_X5_readNumber (l := l) (G := G) (n := n) (p := p) hn2 hn h2 hp) sh_15 (Nat.le_of_ble_eq_true rfl) ⟨rfl, rfl, ⟨by decide, by decide⟩, by decide, by decide⟩ dX5_readChoice_4 (fun r4 a4 b4 c4 p4 => ?_)
  obtain ⟨rfl, lx1, rfl, rfl⟩ := p4
  have x1 := lxG_of lx1
  have e1 : a4 16 = hi 16 := by rw [x1.1 16 (by decide)]
  have n1 : a4 15 0 = nI n := by rw [x1.2.1]; exact hn
  have q1 : a4 15 2 = nI (tkN (hi 16) n p) := x1.2.2.1
  have l1 : tkN (hi 16) n p ≤ n := (tk_le (s := hi 16) hp).2.2
  refine J_if_ne_b (pc := 7) 12 dX5_readChoice_7 (by decide) (fun h7 => ?_) (fun h7 => ?_)
  · have w1 : a4 15 5 = tkV (hi 16) n p := x1.2.2.2.2.2 (Or.inr (num_v h7).1)
    refine S_aload_1 (pc := 12) dX5_readChoice_12 ?_
    refine S_aload_0 (pc := 13) dX5_readChoice_13 ?_
    refine fgX5_28 (pc := 14) sh_15 dX5_readChoice_14 ?_
    refine fpX5_66 (pc := 17) hdr dX5_readChoice_17 ?_
    refine S_aload_0 (pc := 20) dX5_readChoice_20 ?_
    refine J_iconst (pc := 21) (1) rfl dX5_readChoice_21 ?_
    refine S_aload_1 (pc := 22) dX5_readChoice_22 ?_
    refine fgX5_66 (pc := 23) hdr dX5_readChoice_23 ?_
    rw [show sv_u2 a4 dr 0 (a4 15 5) dr 0 = tkV (hi 16) n p from by rw [sv_u2_at]; exact w1]
    refine caX5_63 (pc := 26) (t_X5_readNumber (l := l) (G := G) (n := n) (p := (tkN (hi 16) n p)) hn2 (by rw [sv_u2_off (by omega)]; exact n1) (by rw [sv_u2_off (by omega)]; exact q1) l1) sh_15 (Nat.le_of_ble_eq_true rfl) ⟨rfl, rfl, ⟨by decide, by decide⟩, by decide, by decide⟩ dX5_readChoice_26 (fun r26 a26 b26 c26 p26 => ?_)
    obtain ⟨rfl, lx2, rfl, rfl⟩ := p26
    have eg1 : (sv_u2 a4 dr 0 (a4 15 5)) 16 = hi 16 := by rw [sv_u2_off (by omega)]; exact e1
    rw [eg1] at lx2 ⊢
    have x2 := lxG_of lx2
    have e2 : a26 16 = hi 16 := by rw [x2.1 16 (by decide)]; exact eg1
    have n2 : a26 15 0 = nI n := by rw [x2.2.1, sv_u2_off (by omega)]; exact n1
    have q2 : a26 15 2 = nI (tkN (hi 16) n (tkN (hi 16) n p)) := x2.2.2.1
    have l2 : tkN (hi 16) n (tkN (hi 16) n p) ≤ n := (tk_le (s := hi 16) l1).2.2
    refine J_if_ne_b (pc := 29) 34 dX5_readChoice_29 (by decide) (fun h29 => ?_) (fun h29 => ?_)
    · have w2 : a26 15 5 = tkV (hi 16) n (tkN (hi 16) n p) := x2.2.2.2.2.2 (Or.inr (num_v h29).1)
      refine S_aload_1 (pc := 34) dX5_readChoice_34 ?_
      refine S_aload_0 (pc := 35) dX5_readChoice_35 ?_
      refine fgX5_28 (pc := 36) sh_15 dX5_readChoice_36 ?_
      refine fpX5_69 (pc := 39) hdr dX5_readChoice_39 ?_
      refine S_aload_0 (pc := 42) dX5_readChoice_42 ?_
      refine J_iconst (pc := 43) (0) rfl dX5_readChoice_43 ?_
      refine J_bipush (pc := 44) (20) rfl dX5_readChoice_44 ?_
      refine caX5_63 (pc := 46) (t_X5_readNumber (l := l) (G := G) (n := n) (p := (tkN (hi 16) n (tkN (hi 16) n p))) hn2 (by rw [sv_u2_off (by omega)]; exact n2) (by rw [sv_u2_off (by omega)]; exact q2) l2) sh_15 (Nat.le_of_ble_eq_true rfl) ⟨rfl, rfl, ⟨by decide, by decide⟩, by decide, by decide⟩ dX5_readChoice_46 (fun r46 a46 b46 c46 p46 => ?_)
      obtain ⟨rfl, lx3, rfl, rfl⟩ := p46
      have eg2 : (sv_u2 a26 dr 1 (a26 15 5)) 16 = hi 16 := by rw [sv_u2_off (by omega)]; exact e2
      rw [eg2] at lx3 ⊢
      have x3 := lxG_of lx3
      have e3 : a46 16 = hi 16 := by rw [x3.1 16 (by decide)]; exact eg2
      have n3 : a46 15 0 = nI n := by rw [x3.2.1, sv_u2_off (by omega)]; exact n2
      have q3 : a46 15 2 = nI (tkN (hi 16) n (tkN (hi 16) n (tkN (hi 16) n p))) := x3.2.2.1
      have l3 : tkN (hi 16) n (tkN (hi 16) n (tkN (hi 16) n p)) ≤ n := (tk_le (s := hi 16) l2).2.2
      refine J_if_ne_b (pc := 49) 54 dX5_readChoice_49 (by decide) (fun h49 => ?_) (fun h49 => ?_)
      · have w3 : a46 15 5 = tkV (hi 16) n (tkN (hi 16) n (tkN (hi 16) n p)) := x3.2.2.2.2.2 (Or.inr (num_v h49).1)
        refine S_aload_1 (pc := 54) dX5_readChoice_54 ?_
        refine S_aload_0 (pc := 55) dX5_readChoice_55 ?_
        refine fgX5_28 (pc := 56) sh_15 dX5_readChoice_56 ?_
        refine fpX5_72 (pc := 59) hdr dX5_readChoice_59 ?_
        refine S_aload_0 (pc := 62) dX5_readChoice_62 ?_
        refine caX5_75 (pc := 63) (t_X5_readStop (l := l) (G := G) (n := n) (p := (tkN (hi 16) n (tkN (hi 16) n (tkN (hi 16) n p)))) hn2 (by rw [sv_u2_off (by omega)]; exact n3) (by rw [sv_u2_off (by omega)]; exact q3) l3) sh_15 (Nat.le_of_ble_eq_true rfl) ⟨rfl, rfl, ⟨by decide, by decide⟩, by decide, by decide⟩ dX5_readChoice_63 (fun r63 a63 b63 c63 p63 => ?_)
        obtain ⟨rfl, lxS_, rfl, rfl⟩ := p63
        have e16 : (sv_u2 a46 dr 2 (a46 15 5)) 16 = hi 16 := by rw [sv_u2_off (by omega)]; exact e3
        rw [e16] at lxS_ ⊢
        have xS := lxG_of lxS_
        exact J_ireturn (pc := 66) dX5_readChoice_66 rfl sv_b_nar ⟨_, rfl, rfl, (by
            refine ⟨⟨fun q g1 g2 => ?_, ?_, ?_⟩, rfl, rfl⟩
            · rw [xS.1 q g1, sv_u2_off (by omega), x3.1 q g1, sv_u2_off (by omega), x2.1 q g1, sv_u2_off (by omega), x1.1 q g1]
            · rw [xS.2.1, sv_u2_off (by omega), x3.2.1, sv_u2_off (by omega), x2.2.1, sv_u2_off (by omega), x1.2.1]
            · unfold rdOut rdChoice
              rw [if_pos h7, if_pos h29, if_pos h49]
              unfold rdStop
              by_cases hst : tkT (hi 16) n (tkN (hi 16) n (tkN (hi 16) n (tkN (hi 16) n p))) = 3
              · rw [if_pos hst, sv_b_t hst]
                refine ⟨rfl, xS.2.2.1, (tk_le (s := hi 16) l3).2.2, ?_⟩
                obtain ⟨C, c1, c2, c3⟩ := num_n (a := 2) (b := 6) (by decide) (by decide) h7
                have h29' := h29
                rw [c3] at h29'
                obtain ⟨L, l1', l2', l3'⟩ := num_n (a := 1) (b := C) (by decide) (by omega) h29'
                obtain ⟨B, _, b2, b3⟩ := num_n (a := 0) (b := 20) (by decide) (by decide) h49
                have R : ∀ k, a63 dr k = if k = 2 then tkV (hi 16) n (tkN (hi 16) n (tkN (hi 16) n p)) else if k = 1 then tkV (hi 16) n (tkN (hi 16) n p) else if k = 0 then tkV (hi 16) n p else hi dr k := fun k => by
                  rw [xS.1 dr (by omega), ← w3, ← w2, ← w1]
                  simp only [u2e, true_and]
                  rw [x3.1 dr (by omega)]
                  simp only [u2e, true_and]
                  rw [x2.1 dr (by omega)]
                  simp only [u2e, true_and]
                  rw [x1.1 dr (by omega)]
                refine dRel_cho hD hT0 hG0 ⟨C, c1, c2, c3, L, l1', l2', l3'⟩ ⟨B, b2, b3⟩ ?_ ?_ ?_ ?_ ?_
                · show a63 dr 0 = _; rw [R]; rfl
                · show a63 dr 1 = _; rw [R]; rfl
                · show a63 dr 2 = _; rw [R]; rfl
                · show a63 dr 3 = _; rw [R]; rfl
                · show a63 dr 4 = _; rw [R]; rfl
              · rw [if_neg hst, sv_b_f hst]
                exact ⟨rfl, xS.2.2.2.1⟩)⟩
      · refine J_iconst (pc := 52) (0) rfl dX5_readChoice_52 ?_
        exact J_ireturn (pc := 53) dX5_readChoice_53 rfl rfl ⟨_, rfl, rfl, ⟨⟨fun q g1 g2 => by rw [x3.1 q g1, sv_u2_off (by omega), x2.1 q g1, sv_u2_off (by omega), x1.1 q g1], by rw [x3.2.1, sv_u2_off (by omega), x2.2.1, sv_u2_off (by omega), x1.2.1], by unfold rdOut rdChoice; rw [if_pos h7, if_pos h29, if_neg h49]; exact ⟨rfl, x3.2.2.2.1⟩⟩, rfl, rfl⟩⟩
    · refine J_iconst (pc := 32) (0) rfl dX5_readChoice_32 ?_
      exact J_ireturn (pc := 33) dX5_readChoice_33 rfl rfl ⟨_, rfl, rfl, ⟨⟨fun q g1 g2 => by rw [x2.1 q g1, sv_u2_off (by omega), x1.1 q g1], by rw [x2.2.1, sv_u2_off (by omega), x1.2.1], by unfold rdOut rdChoice; rw [if_pos h7, if_neg h29]; exact ⟨rfl, x2.2.2.2.1⟩⟩, rfl, rfl⟩⟩
  · refine J_iconst (pc := 10) (0) rfl dX5_readChoice_10 ?_
    exact J_ireturn (pc := 11) dX5_readChoice_11 rfl rfl ⟨_, rfl, rfl, ⟨⟨fun q g1 g2 => by rw [x1.1 q g1], by exact x1.2.1, by unfold rdOut rdChoice; rw [if_neg h7]; exact ⟨rfl, x1.2.2.2.1⟩⟩, rfl, rfl⟩⟩
