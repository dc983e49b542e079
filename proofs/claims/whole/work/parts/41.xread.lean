def rdOut (a : svH) (dr n : Nat) (r : Int32) (R : Nat ⊕ (svH × Nat)) : Prop := match R with
  | .inl f => r = 0 ∧ a 15 3 = nI f
  | .inr (D', p') => r = 1 ∧ a 15 2 = nI p' ∧ p' ≤ n ∧ dRel D' (fun i => a (dr + i))
def rdF (hi a : svH) (dr n : Nat) (r : Int32) (R : Nat ⊕ (svH × Nat)) : Prop := (∀ q, q ≠ 15 → (q < dr ∨ dr + 6 < q) → a q = hi q) ∧ a 15 0 = hi 15 0 ∧ rdOut a dr n r R
/-- what a step of the lexer leaves -/
def lxG (g a : svH) (s : Nat → Int32) (n p : Nat) : Prop := (∀ q, q ≠ 15 → a q = g q) ∧ a 15 0 = g 15 0 ∧ a 15 2 = nI (tkN s n p) ∧ a 15 3 = nI (tkS s n p) ∧ a 15 4 = tkT s n p ∧ ((tkT s n p = 1 ∨ tkT s n p = 2) → a 15 5 = tkV s n p)
theorem lxG_of {hi a : svH} {s : Nat → Int32} {n p : Nat} (h : lxOut hi a 15 2 3 4 5 s n p) : lxG hi a s n p := by
  obtain ⟨h1, h2, h3, h4, h5, h6⟩ := h
  exact ⟨h1, h2 0 (by decide) (by decide) (by decide) (by decide), h3, h4, h5, fun z => h6 (by rw [h5]; exact z)⟩
theorem sv_dr {i : Nat} (h : svSH[i]? = some (0, 6)) : i = 1 ∨ i = 8 := sv_tw h
theorem num_v {s : Nat → Int32} {n p : Nat} {lo hh : Int32} (h : num s n p lo hh = true) : tkT s n p = 2 ∧ lo ≤ tkV s n p ∧ tkV s n p ≤ hh := of_decide_eq_true h
theorem num_n {s : Nat → Int32} {n p a b : Nat} (ha : a < 2 ^ 31) (hb : b < 1000) (h : num s n p (nI a) (nI b) = true) : ∃ k, a ≤ k ∧ k ≤ b ∧ tkV s n p = nI k := by
  obtain ⟨_, h1, h2⟩ := num_v h
  obtain ⟨k, hk, e⟩ := sv_ix (x := tkV s n p) (n := b + 1) ⟨Int32.le_trans (nI_pos' ha) h1, by rw [Int32.lt_iff_toInt_lt]; have := Int32.le_iff_toInt_le.mp h2; rw [nI_toInt (by omega)] at *; omega⟩ (by omega)
  rw [e, nI_leI ha (by omega)] at h1
  exact ⟨k, h1, by omega, e⟩
theorem dRel_congr {D f g : svH} (h : dRel D f) (e : ∀ i, i < 7 → g i = f i) : dRel D g := by
  unfold dRel at *
  rw [e 0 (by decide), e 1 (by decide), e 2 (by decide), e 3 (by decide), e 4 (by decide), e 5 (by decide), e 6 (by decide)]
  exact h
theorem u2e {D : svH} {i k : Nat} {v : Int32} {j m : Nat} : sv_u2 D i k v j m = if j = i ∧ m = k then v else D j m := rfl
theorem dRel_addT {D f : svH} {T : Nat} {h c0 l0 : Int32} (hd : dRel D f) (hT : D 0 3 = nI T) (hT8 : T < 8) (hh : ∃ k, k ≤ 23 ∧ h = nI k) (hl : ∀ C, D 0 0 = nI C → C ≤ 6 → ∃ j, j < C ∧ l0 = nI j) : dRel (addT D T h c0 l0) (addT f T h c0 l0) := by
  obtain ⟨h1, C, L, B, T0, Gn, g0, g1, g2, g3, g4, c1, c2, c3, c4, c5, c6, c7, ht, hg⟩ := hd
  have eT : T0 = T := (nI_eq (by omega) (by omega)).mp (by rw [← g3, hT])
  subst eT
  refine ⟨fun k hk => ?_, C, L, B, T0 + 1, Gn, ?_, ?_, ?_, ?_, ?_, c1, c2, c3, c4, c5, by omega, c7, fun t ht2 => ?_, fun r hr => ?_⟩
  · unfold addT
    simp only [u2e]
    simp [h1 k hk]
  · simp [addT, u2e, g0]
  · simp [addT, u2e, g1]
  · simp [addT, u2e, g2]
  · simp [addT, u2e]
  · simp [addT, u2e, g4]
  · by_cases e : t = T0
    · subst e
      obtain ⟨k, hk, ek⟩ := hh
      obtain ⟨j, hj, ej⟩ := hl C g0 c2
      refine ⟨by simp [addT, u2e], by simp [addT, u2e], by simp [addT, u2e], ⟨k, hk, by simp [addT, u2e, ek]⟩, ⟨j, hj, by simp [addT, u2e, ej]⟩⟩
    · have q := ht t (by omega)
      simp only [addT, u2e, e, and_false, if_false]
      simp only [show ¬ ((1 : Nat) = 0 ∧ t = 3) from by omega, show ¬ ((2 : Nat) = 0 ∧ t = 3) from by omega, show ¬ ((3 : Nat) = 0 ∧ t = 3) from by omega, if_false]
      exact q
  · have q := hg r hr
    have e1 : ∀ X : svH, ∀ i, 4 ≤ i → addT X T0 h c0 l0 i r = X i r := fun X i hi => by
      unfold addT
      simp only [u2e]
      rw [if_neg (by omega), if_neg (by omega), if_neg (by omega), if_neg (by omega)]
    rw [e1 f 4 (by omega), e1 f 5 (by omega), e1 f 6 (by omega), e1 D 4 (by omega), e1 D 5 (by omega), e1 D 6 (by omega)]
    exact q
theorem addT_at {f : svH} {dr T : Nat} {h c0 l0 : Int32} {i : Nat} : (sv_u2 (sv_u2 (sv_u2 (sv_u2 f (dr + 1) T h) (dr + 2) T c0) (dr + 3) T l0) dr 3 (nI (T + 1))) (dr + i) = addT (fun i => f (dr + i)) T h c0 l0 i := by
  funext k
  unfold addT
  simp only [u2e]
  have e0 : (dr + i = dr ∧ k = 3) ↔ (i = 0 ∧ k = 3) := by omega
  have e1 : (dr + i = dr + 1 ∧ k = T) ↔ (i = 1 ∧ k = T) := by omega
  have e2 : (dr + i = dr + 2 ∧ k = T) ↔ (i = 2 ∧ k = T) := by omega
  have e3 : (dr + i = dr + 3 ∧ k = T) ↔ (i = 3 ∧ k = T) := by omega
  simp only [e0, e1, e2, e3]
set_option maxRecDepth 20000 in
set_option maxHeartbeats 2000000 in
theorem t_X5_readTrain {l : Launch} {G : svG} {hi : svH} {hl : svL} {tw dr : Nat} {pm : Nat → Nat} {n p : Nat} (hdr : svSH[dr]? = some (0, 6)) (hn2 : n ≤ 120) (hn : hi 15 0 = nI n) (h2 : hi 15 2 = nI p) (hp : p ≤ n) {D : svH} (hD : dRel D (fun i => hi (dr + i))) {T : Nat} (hDT : D 0 3 = nI T) (hT8 : T < 8) : svI l G yX5_readTrain mX5_readTrain rX5_readTrain [sv_rf G.1 15, sv_rf G.1 dr] hi hl (sv_hr tw dr pm) (fun r a b c => rdF hi a dr n r (rdTrain (hi 16) n D p) ∧ hl = b ∧ sv_hr tw dr pm = c) := by
  have hdr2 := sv_dr hdr
  refine sv_entry (by decide +kernel) rfl rfl (Nat.le_of_ble_eq_true rfl) (by simp [Value.category, sv_rf]) [some (sv_rf G.1 15), some (sv_rf G.1 dr), none, none] rfl ?_
  refine S_aload_0 (pc := 0) dX5_readTrain_0 ?_
  refine J_iconst (pc := 1) (0) rfl dX5_readTrain_1 ?_
  refine J_bipush (pc := 2) (23) rfl dX5_readTrain_2 ?_
  refine caX5_63 (pc := 4) (t_X5_readNumber (l := l) (G := G) (n := n) (p := p) hn2 hn h2 hp) sh_15 (Nat.le_of_ble_eq_true rfl) ⟨rfl, rfl, ⟨by decide, by decide⟩, by decide, by decide⟩ dX5_readTrain_4 (fun r4 a4 b4 c4 p4 => ?_)
  obtain ⟨rfl, lx1, rfl, rfl⟩ := p4
  have x1 := lxG_of lx1
  have e1 : a4 16 = hi 16 := by rw [x1.1 16 (by decide)]
  have n1 : a4 15 0 = nI n := by rw [x1.2.1]; exact hn
  have q1 : a4 15 2 = nI (tkN (hi 16) n p) := x1.2.2.1
  have l1 : tkN (hi 16) n p ≤ n := (tk_le (s := hi 16) hp).2.2
  refine J_if_ne_b (pc := 7) 12 dX5_readTrain_7 (by decide) (fun h7 => ?_) (fun h7 => ?_)
  · have w1 : a4 15 5 = tkV (hi 16) n p := x1.2.2.2.2.2 (Or.inr (num_v h7).1)
    refine S_aload_0 (pc := 12) dX5_readTrain_12 ?_
    refine fgX5_28 (pc := 13) sh_15 dX5_readTrain_13 ?_
    refine S_istore_2 (pc := 16) dX5_readTrain_16 (by decide) ?_
    refine S_aload_0 (pc := 17) dX5_readTrain_17 ?_
    refine J_iconst (pc := 18) (1) rfl dX5_readTrain_18 ?_
    refine J_bipush (pc := 19) (30) rfl dX5_readTrain_19 ?_
    refine caX5_63 (pc := 21) (t_X5_readNumber (l := l) (G := G) (n := n) (p := (tkN (hi 16) n p)) hn2 n1 q1 l1) sh_15 (Nat.le_of_ble_eq_true rfl) ⟨rfl, rfl, ⟨by decide, by decide⟩, by decide, by decide⟩ dX5_readTrain_21 (fun r21 a21 b21 c21 p21 => ?_)
    obtain ⟨rfl, lx2, rfl, rfl⟩ := p21
    rw [e1] at lx2
    have x2 := lxG_of lx2
    have e2 : a21 16 = hi 16 := by rw [x2.1 16 (by decide)]; exact e1
    have n2 : a21 15 0 = nI n := by rw [x2.2.1]; exact n1
    have q2 : a21 15 2 = nI (tkN (hi 16) n (tkN (hi 16) n p)) := x2.2.2.1
    have l2 : tkN (hi 16) n (tkN (hi 16) n p) ≤ n := (tk_le (s := hi 16) l1).2.2
    refine J_if_ne_b (pc := 24) 29 dX5_readTrain_24 (by decide) (fun h24 => ?_) (fun h24 => ?_)
    · rw [e1] at h24
      have w2 : a21 15 5 = tkV (hi 16) n (tkN (hi 16) n p) := x2.2.2.2.2.2 (Or.inr (num_v h24).1)
      refine S_aload_0 (pc := 29) dX5_readTrain_29 ?_
      refine fgX5_28 (pc := 30) sh_15 dX5_readTrain_30 ?_
      refine S_istore_3 (pc := 33) dX5_readTrain_33 (by decide) ?_
      refine S_aload_0 (pc := 34) dX5_readTrain_34 ?_
      refine J_iconst (pc := 35) (0) rfl dX5_readTrain_35 ?_
      refine S_aload_1 (pc := 36) dX5_readTrain_36 ?_
      refine fgX5_66 (pc := 37) hdr dX5_readTrain_37 ?_
      refine J_iconst (pc := 40) (1) rfl dX5_readTrain_40 ?_
      refine J_isub (pc := 41) dX5_readTrain_41 ?_
      rw [show a21 dr 0 = D 0 0 from by rw [x2.1 dr (by omega), x1.1 dr (by omega)]; exact hD.1 0 (by decide)]
      refine caX5_63 (pc := 42) (t_X5_readNumber (l := l) (G := G) (n := n) (p := (tkN (hi 16) n (tkN (hi 16) n p))) hn2 n2 q2 l2) sh_15 (Nat.le_of_ble_eq_true rfl) ⟨rfl, rfl, ⟨by decide, by decide⟩, by decide, by decide⟩ dX5_readTrain_42 (fun r42 a42 b42 c42 p42 => ?_)
      obtain ⟨rfl, lx3, rfl, rfl⟩ := p42
      rw [e2] at lx3
      have x3 := lxG_of lx3
      have e3 : a42 16 = hi 16 := by rw [x3.1 16 (by decide)]; exact e2
      have n3 : a42 15 0 = nI n := by rw [x3.2.1]; exact n2
      have q3 : a42 15 2 = nI (tkN (hi 16) n (tkN (hi 16) n (tkN (hi 16) n p))) := x3.2.2.1
      have l3 : tkN (hi 16) n (tkN (hi 16) n (tkN (hi 16) n p)) ≤ n := (tk_le (s := hi 16) l2).2.2
      refine J_if_ne_b (pc := 45) 50 dX5_readTrain_45 (by decide) (fun h45 => ?_) (fun h45 => ?_)
      · rw [e2] at h45
        have w3 : a42 15 5 = tkV (hi 16) n (tkN (hi 16) n (tkN (hi 16) n p)) := x3.2.2.2.2.2 (Or.inr (num_v h45).1)
        have hD3 : dRel D (fun i => a42 (dr + i)) := dRel_congr hD (fun i hi2 => by show a42 (dr + i) = hi (dr + i); rw [x3.1 _ (by omega), x2.1 _ (by omega), x1.1 _ (by omega)])
        have hT42 : a42 dr 3 = nI T := by rw [← hDT]; exact hD3.1 3 (by decide)
        refine S_aload_1 (pc := 50) dX5_readTrain_50 ?_
        refine S_iload_2 (pc := 51) dX5_readTrain_51 ?_
        refine S_iload_3 (pc := 52) dX5_readTrain_52 ?_
        refine S_aload_0 (pc := 53) dX5_readTrain_53 ?_
        refine fgX5_28 (pc := 54) sh_15 dX5_readTrain_54 ?_
        refine caX5_79 (pc := 57) (t_X6_addTrain (l := l) (G := G) hdr hT42 hT8) hdr (Nat.le_of_ble_eq_true rfl) ⟨rfl, rfl, ⟨by decide, by decide⟩, by decide, by decide⟩ dX5_readTrain_57 (fun a57 b57 c57 p57 => ?_)
        obtain ⟨rfl, rfl, rfl⟩ := p57
        refine S_aload_0 (pc := 60) dX5_readTrain_60 ?_
        refine caX5_75 (pc := 61) (t_X5_readStop (l := l) (G := G) (n := n) (p := (tkN (hi 16) n (tkN (hi 16) n (tkN (hi 16) n p)))) hn2 (by rw [sv_u2_off (by omega), sv_u2_off (by omega), sv_u2_off (by omega), sv_u2_off (by omega)]; exact n3) (by rw [sv_u2_off (by omega), sv_u2_off (by omega), sv_u2_off (by omega), sv_u2_off (by omega)]; exact q3) l3) sh_15 (Nat.le_of_ble_eq_true rfl) ⟨rfl, rfl, ⟨by decide, by decide⟩, by decide, by decide⟩ dX5_readTrain_61 (fun r61 a61 b61 c61 p61 => ?_)
        obtain ⟨rfl, lxS_, rfl, rfl⟩ := p61
        have e16 : (sv_u2 (sv_u2 (sv_u2 (sv_u2 a42 (dr + 1) T (a4 15 5)) (dr + 2) T (a21 15 5)) (dr + 3) T (a42 15 5)) dr 3 (nI (T + 1))) 16 = hi 16 := by rw [sv_u2_off (by omega), sv_u2_off (by omega), sv_u2_off (by omega), sv_u2_off (by omega)]; exact e3
        rw [e16] at lxS_ ⊢
        have xS := lxG_of lxS_
        exact J_ireturn (pc := 64) dX5_readTrain_64 rfl sv_b_nar ⟨_, rfl, rfl, (by
            refine ⟨⟨fun q g1 g2 => ?_, ?_, ?_⟩, rfl, rfl⟩
            · rw [xS.1 q g1, sv_u2_off (by omega), sv_u2_off (by omega), sv_u2_off (by omega), sv_u2_off (by omega), x3.1 q g1, x2.1 q g1, x1.1 q g1]
            · rw [xS.2.1, sv_u2_off (by omega), sv_u2_off (by omega), sv_u2_off (by omega), sv_u2_off (by omega), x3.2.1, x2.2.1, x1.2.1]
            · unfold rdOut rdTrain
              rw [if_pos h7, if_pos h24, if_pos h45, hDT, nI_clamp (by omega)]
              unfold rdStop
              by_cases hst : tkT (hi 16) n (tkN (hi 16) n (tkN (hi 16) n (tkN (hi 16) n p))) = 3
              · rw [if_pos hst, sv_b_t hst]
                refine ⟨rfl, xS.2.2.1, (tk_le (s := hi 16) l3).2.2, ?_⟩
                rw [← w1, ← w2, ← w3]
                refine dRel_congr (dRel_addT hD3 hDT hT8 ?_ ?_) (fun i hi2 => ?_)
                · obtain ⟨k, _, k2, k3⟩ := num_n (a := 0) (b := 23) (by decide) (by decide) h7
                  exact ⟨k, k2, by rw [w1]; exact k3⟩
                · intro C0 hC0 hC6
                  obtain ⟨m, rfl⟩ : ∃ m, C0 = m + 1 := by
                    obtain ⟨_, Cz, _, _, _, _, gz, _, _, _, _, cz, cz2, _⟩ := hD
                    have : Cz = C0 := (nI_eq (by omega) (by omega)).mp (by rw [← gz, hC0])
                    exact ⟨C0 - 1, by omega⟩
                  have h45' := h45
                  rw [hC0, nI_pred] at h45'
                  obtain ⟨k, _, k2, k3⟩ := num_n (a := 0) (b := m) (by decide) (by omega) h45'
                  exact ⟨k, by omega, by rw [w3]; exact k3⟩
                · show a61 (dr + i) = _
                  rw [xS.1 _ (by omega)]
                  exact addT_at
              · rw [if_neg hst, sv_b_f hst]
                exact ⟨rfl, xS.2.2.2.1⟩)⟩
      · rw [e2] at h45
        refine J_iconst (pc := 48) (0) rfl dX5_readTrain_48 ?_
        exact J_ireturn (pc := 49) dX5_readTrain_49 rfl rfl ⟨_, rfl, rfl, ⟨⟨fun q g1 g2 => by rw [x3.1 q g1, x2.1 q g1, x1.1 q g1], by rw [x3.2.1, x2.2.1, x1.2.1], by unfold rdOut rdTrain; rw [if_pos h7, if_pos h24, if_neg h45]; exact ⟨rfl, x3.2.2.2.1⟩⟩, rfl, rfl⟩⟩
    · rw [e1] at h24
      refine J_iconst (pc := 27) (0) rfl dX5_readTrain_27 ?_
      exact J_ireturn (pc := 28) dX5_readTrain_28 rfl rfl ⟨_, rfl, rfl, ⟨⟨fun q g1 g2 => by rw [x2.1 q g1, x1.1 q g1], by rw [x2.2.1, x1.2.1], by unfold rdOut rdTrain; rw [if_pos h7, if_neg h24]; exact ⟨rfl, x2.2.2.2.1⟩⟩, rfl, rfl⟩⟩
  · refine J_iconst (pc := 10) (0) rfl dX5_readTrain_10 ?_
    exact J_ireturn (pc := 11) dX5_readTrain_11 rfl rfl ⟨_, rfl, rfl, ⟨⟨fun q g1 g2 => by rw [x1.1 q g1], by exact x1.2.1, by unfold rdOut rdTrain; rw [if_neg h7]; exact ⟨rfl, x1.2.2.2.1⟩⟩, rfl, rfl⟩⟩
theorem dRel_addG {D f : svH} {T : Nat} {h c0 l0 : Int32} (hd : dRel D f) (hT : D 0 4 = nI T) (hT8 : T < 6) (hc : ∀ C, D 0 0 = nI C → C ≤ 6 → ∃ j, j < C ∧ c0 = nI j) (hl : ∀ C, D 0 0 = nI C → C ≤ 6 → ∃ j, j < C ∧ l0 = nI j) : dRel (addG D T h c0 l0) (addG f T h c0 l0) := by
  obtain ⟨h1, C, L, B, T0, Gn, g0, g1, g2, g3, g4, c1, c2, c3, c4, c5, c6, c7, ht, hg⟩ := hd
  have eT : Gn = T := (nI_eq (by omega) (by omega)).mp (by rw [← g4, hT])
  subst eT
  refine ⟨fun k hk => ?_, C, L, B, T0, Gn + 1, ?_, ?_, ?_, ?_, ?_, c1, c2, c3, c4, c5, c6, by omega, fun t ht2 => ?_, fun r hr => ?_⟩
  · unfold addG
    simp only [u2e]
    simp [h1 k hk]
  · simp [addG, u2e, g0]
  · simp [addG, u2e, g1]
  · simp [addG, u2e, g2]
  · simp [addG, u2e, g3]
  · simp [addG, u2e]
  · have q := ht t ht2
    have e1 : ∀ X : svH, ∀ i, 1 ≤ i → i < 4 → addG X Gn h c0 l0 i t = X i t := fun X i hi hi2 => by
      unfold addG
      simp only [u2e]
      rw [if_neg (by omega), if_neg (by omega), if_neg (by omega), if_neg (by omega)]
    rw [e1 f 1 (by omega) (by omega), e1 f 2 (by omega) (by omega), e1 f 3 (by omega) (by omega), e1 D 1 (by omega) (by omega), e1 D 2 (by omega) (by omega), e1 D 3 (by omega) (by omega)]
    exact q
  · by_cases e : r = Gn
    · subst e
      obtain ⟨k, hk, ek⟩ := hc C g0 c2
      obtain ⟨j, hj, ej⟩ := hl C g0 c2
      refine ⟨by simp [addG, u2e], by simp [addG, u2e], by simp [addG, u2e], ⟨k, hk, by simp [addG, u2e, ek]⟩, ⟨j, hj, by simp [addG, u2e, ej]⟩⟩
    · have q := hg r (by omega)
      have e1 : ∀ X : svH, ∀ i, 4 ≤ i → addG X Gn h c0 l0 i r = X i r := fun X i hi => by
        unfold addG
        simp only [u2e]
        rw [if_neg (by omega), if_neg (by omega), if_neg (by omega), if_neg (by omega)]
      rw [e1 f 4 (by omega), e1 f 5 (by omega), e1 f 6 (by omega), e1 D 4 (by omega), e1 D 5 (by omega), e1 D 6 (by omega)]
      exact q
theorem addG_at {f : svH} {dr T : Nat} {h c0 l0 : Int32} {i : Nat} : (sv_u2 (sv_u2 (sv_u2 (sv_u2 f (dr + 4) T h) (dr + 5) T c0) (dr + 6) T l0) dr 4 (nI (T + 1))) (dr + i) = addG (fun i => f (dr + i)) T h c0 l0 i := by
  funext k
  unfold addG
  simp only [u2e]
  have e0 : (dr + i = dr ∧ k = 4) ↔ (i = 0 ∧ k = 4) := by omega
  have e1 : (dr + i = dr + 4 ∧ k = T) ↔ (i = 4 ∧ k = T) := by omega
  have e2 : (dr + i = dr + 5 ∧ k = T) ↔ (i = 5 ∧ k = T) := by omega
  have e3 : (dr + i = dr + 6 ∧ k = T) ↔ (i = 6 ∧ k = T) := by omega
  simp only [e0, e1, e2, e3]
/-- a candidate's number is below the candidates -/
theorem num_c {s : Nat → Int32} {n p : Nat} {D f : svH} (hD : dRel D f) (h : num s n p 0 (D 0 0 - 1) = true) : ∀ C0, D 0 0 = nI C0 → C0 ≤ 6 → ∃ j, j < C0 ∧ tkV s n p = nI j := by
  intro C0 hC0 hC6
  obtain ⟨m, rfl⟩ : ∃ m, C0 = m + 1 := by
    obtain ⟨_, Cz, _, _, _, _, gz, _, _, _, _, cz, cz2, _⟩ := hD
    have : Cz = C0 := (nI_eq (by omega) (by omega)).mp (by rw [← gz, hC0])
    exact ⟨C0 - 1, by omega⟩
  rw [hC0, nI_pred] at h
  obtain ⟨k, _, k2, k3⟩ := num_n (a := 0) (b := m) (by decide) (by omega) h
  exact ⟨k, by omega, k3⟩
set_option maxRecDepth 20000 in
set_option maxHeartbeats 2000000 in
theorem t_X5_readGroup {l : Launch} {G : svG} {hi : svH} {hl : svL} {tw dr : Nat} {pm : Nat → Nat} {n p : Nat} (hdr : svSH[dr]? = some (0, 6)) (hn2 : n ≤ 120) (hn : hi 15 0 = nI n) (h2 : hi 15 2 = nI p) (hp : p ≤ n) {D : svH} (hD : dRel D (fun i => hi (dr + i))) {T : Nat} (hDT : D 0 4 = nI T) (hT8 : T < 6) : svI l G yX5_readGroup mX5_readGroup rX5_readGroup [sv_rf G.1 15, sv_rf G.1 dr] hi hl (sv_hr tw dr pm) (fun r a b c => rdF hi a dr n r (rdGroup (hi 16) n D p) ∧ hl = b ∧ sv_hr tw dr pm = c) := by
  have hdr2 := sv_dr hdr
  refine sv_entry (by decide +kernel) rfl rfl (Nat.le_of_ble_eq_true rfl) (by simp [Value.category, sv_rf]) [some (sv_rf G.1 15), some (sv_rf G.1 dr), none, none] rfl ?_
  refine S_aload_0 (pc := 0) dX5_readGroup_0 ?_
  refine J_iconst (pc := 1) (1) rfl dX5_readGroup_1 ?_
  refine J_bipush (pc := 2) (30) rfl dX5_readGroup_2 ?_
  refine caX5_63 (pc := 4) (t_X5_readNumber (l := l) (G := G) (n := n) (p := p) hn2 hn h2 hp) sh_15 (Nat.le_of_ble_eq_true rfl) ⟨rfl, rfl, ⟨by decide, by decide⟩, by decide, by decide⟩ dX5_readGroup_4 (fun r4 a4 b4 c4 p4 => ?_)
  obtain ⟨rfl, lx1, rfl, rfl⟩ := p4
  have x1 := lxG_of lx1
  have e1 : a4 16 = hi 16 := by rw [x1.1 16 (by decide)]
  have n1 : a4 15 0 = nI n := by rw [x1.2.1]; exact hn
  have q1 : a4 15 2 = nI (tkN (hi 16) n p) := x1.2.2.1
  have l1 : tkN (hi 16) n p ≤ n := (tk_le (s := hi 16) hp).2.2
  refine J_if_ne_b (pc := 7) 12 dX5_readGroup_7 (by decide) (fun h7 => ?_) (fun h7 => ?_)
  · have w1 : a4 15 5 = tkV (hi 16) n p := x1.2.2.2.2.2 (Or.inr (num_v h7).1)
    refine S_aload_0 (pc := 12) dX5_readGroup_12 ?_
    refine fgX5_28 (pc := 13) sh_15 dX5_readGroup_13 ?_
    refine S_istore_2 (pc := 16) dX5_readGroup_16 (by decide) ?_
    refine S_aload_0 (pc := 17) dX5_readGroup_17 ?_
    refine J_iconst (pc := 18) (0) rfl dX5_readGroup_18 ?_
    refine S_aload_1 (pc := 19) dX5_readGroup_19 ?_
    refine fgX5_66 (pc := 20) hdr dX5_readGroup_20 ?_
    refine J_iconst (pc := 23) (1) rfl dX5_readGroup_23 ?_
    refine J_isub (pc := 24) dX5_readGroup_24 ?_
    rw [show a4 dr 0 = D 0 0 from by rw [x1.1 dr (by omega)]; exact hD.1 0 (by decide)]
    refine caX5_63 (pc := 25) (t_X5_readNumber (l := l) (G := G) (n := n) (p := (tkN (hi 16) n p)) hn2 n1 q1 l1) sh_15 (Nat.le_of_ble_eq_true rfl) ⟨rfl, rfl, ⟨by decide, by decide⟩, by decide, by decide⟩ dX5_readGroup_25 (fun r25 a25 b25 c25 p25 => ?_)
    obtain ⟨rfl, lx2, rfl, rfl⟩ := p25
    rw [e1] at lx2
    have x2 := lxG_of lx2
    have e2 : a25 16 = hi 16 := by rw [x2.1 16 (by decide)]; exact e1
    have n2 : a25 15 0 = nI n := by rw [x2.2.1]; exact n1
    have q2 : a25 15 2 = nI (tkN (hi 16) n (tkN (hi 16) n p)) := x2.2.2.1
    have l2 : tkN (hi 16) n (tkN (hi 16) n p) ≤ n := (tk_le (s := hi 16) l1).2.2
    refine J_if_ne_b (pc := 28) 33 dX5_readGroup_28 (by decide) (fun h28 => ?_) (fun h28 => ?_)
    · rw [e1] at h28
      have w2 : a25 15 5 = tkV (hi 16) n (tkN (hi 16) n p) := x2.2.2.2.2.2 (Or.inr (num_v h28).1)
      refine S_aload_0 (pc := 33) dX5_readGroup_33 ?_
      refine fgX5_28 (pc := 34) sh_15 dX5_readGroup_34 ?_
      refine S_istore_3 (pc := 37) dX5_readGroup_37 (by decide) ?_
      refine S_aload_0 (pc := 38) dX5_readGroup_38 ?_
      refine J_iconst (pc := 39) (0) rfl dX5_readGroup_39 ?_
      refine S_aload_1 (pc := 40) dX5_readGroup_40 ?_
      refine fgX5_66 (pc := 41) hdr dX5_readGroup_41 ?_
      refine J_iconst (pc := 44) (1) rfl dX5_readGroup_44 ?_
      refine J_isub (pc := 45) dX5_readGroup_45 ?_
      rw [show a25 dr 0 = D 0 0 from by rw [x2.1 dr (by omega), x1.1 dr (by omega)]; exact hD.1 0 (by decide)]
      refine caX5_63 (pc := 46) (t_X5_readNumber (l := l) (G := G) (n := n) (p := (tkN (hi 16) n (tkN (hi 16) n p))) hn2 n2 q2 l2) sh_15 (Nat.le_of_ble_eq_true rfl) ⟨rfl, rfl, ⟨by decide, by decide⟩, by decide, by decide⟩ dX5_readGroup_46 (fun r46 a46 b46 c46 p46 => ?_)
      obtain ⟨rfl, lx3, rfl, rfl⟩ := p46
      rw [e2] at lx3
      have x3 := lxG_of lx3
      have e3 : a46 16 = hi 16 := by rw [x3.1 16 (by decide)]; exact e2
      have n3 : a46 15 0 = nI n := by rw [x3.2.1]; exact n2
      have q3 : a46 15 2 = nI (tkN (hi 16) n (tkN (hi 16) n (tkN (hi 16) n p))) := x3.2.2.1
      have l3 : tkN (hi 16) n (tkN (hi 16) n (tkN (hi 16) n p)) ≤ n := (tk_le (s := hi 16) l2).2.2
      refine J_if_eq_b (pc := 49) 60 dX5_readGroup_49 (by decide) (fun h49 => ?_) (fun h49 => ?_)
      · rw [e2] at h49
        refine J_iconst (pc := 60) (0) rfl dX5_readGroup_60 ?_
        exact J_ireturn (pc := 61) dX5_readGroup_61 rfl rfl ⟨_, rfl, rfl, ⟨⟨fun q g1 g2 => by rw [x3.1 q g1, x2.1 q g1, x1.1 q g1], by rw [x3.2.1, x2.2.1, x1.2.1], by unfold rdOut rdGroup; rw [if_pos h7, if_pos h28, if_neg (fun z => h49 z.1)]; exact ⟨rfl, x3.2.2.2.1⟩⟩, rfl, rfl⟩⟩
      · rw [e2] at h49
        have w3 : a46 15 5 = tkV (hi 16) n (tkN (hi 16) n (tkN (hi 16) n p)) := x3.2.2.2.2.2 (Or.inr (num_v h49).1)
        have hD3 : dRel D (fun i => a46 (dr + i)) := dRel_congr hD (fun i hi2 => by show a46 (dr + i) = hi (dr + i); rw [x3.1 _ (by omega), x2.1 _ (by omega), x1.1 _ (by omega)])
        have hT42 : a46 dr 4 = nI T := by rw [← hDT]; exact hD3.1 4 (by decide)
        refine S_aload_0 (pc := 52) dX5_readGroup_52 ?_
        refine fgX5_28 (pc := 53) sh_15 dX5_readGroup_53 ?_
        refine S_iload_3 (pc := 56) dX5_readGroup_56 ?_
        refine J_icmp_ne (pc := 57) 62 dX5_readGroup_57 (by decide) (fun h57 => ?_) (fun h57 => ?_)
        · rw [w3, w2] at h57
          refine S_aload_1 (pc := 62) dX5_readGroup_62 ?_
          refine S_iload_2 (pc := 63) dX5_readGroup_63 ?_
          refine S_iload_3 (pc := 64) dX5_readGroup_64 ?_
          refine S_aload_0 (pc := 65) dX5_readGroup_65 ?_
          refine fgX5_28 (pc := 66) sh_15 dX5_readGroup_66 ?_
          refine caX5_83 (pc := 69) (t_X6_addGroup (l := l) (G := G) hdr hT42 hT8) hdr (Nat.le_of_ble_eq_true rfl) ⟨rfl, rfl, ⟨by decide, by decide⟩, by decide, by decide⟩ dX5_readGroup_69 (fun a69 b69 c69 p69 => ?_)
          obtain ⟨rfl, rfl, rfl⟩ := p69
          refine S_aload_0 (pc := 72) dX5_readGroup_72 ?_
          refine caX5_75 (pc := 73) (t_X5_readStop (l := l) (G := G) (n := n) (p := (tkN (hi 16) n (tkN (hi 16) n (tkN (hi 16) n p)))) hn2 (by rw [sv_u2_off (by omega), sv_u2_off (by omega), sv_u2_off (by omega), sv_u2_off (by omega)]; exact n3) (by rw [sv_u2_off (by omega), sv_u2_off (by omega), sv_u2_off (by omega), sv_u2_off (by omega)]; exact q3) l3) sh_15 (Nat.le_of_ble_eq_true rfl) ⟨rfl, rfl, ⟨by decide, by decide⟩, by decide, by decide⟩ dX5_readGroup_73 (fun r73 a73 b73 c73 p73 => ?_)
          obtain ⟨rfl, lxS_, rfl, rfl⟩ := p73
          have e16 : (sv_u2 (sv_u2 (sv_u2 (sv_u2 a46 (dr + 4) T (a4 15 5)) (dr + 5) T (a25 15 5)) (dr + 6) T (a46 15 5)) dr 4 (nI (T + 1))) 16 = hi 16 := by rw [sv_u2_off (by omega), sv_u2_off (by omega), sv_u2_off (by omega), sv_u2_off (by omega)]; exact e3
          rw [e16] at lxS_ ⊢
          have xS := lxG_of lxS_
          exact J_ireturn (pc := 76) dX5_readGroup_76 rfl sv_b_nar ⟨_, rfl, rfl, (by
              refine ⟨⟨fun q g1 g2 => ?_, ?_, ?_⟩, rfl, rfl⟩
              · rw [xS.1 q g1, sv_u2_off (by omega), sv_u2_off (by omega), sv_u2_off (by omega), sv_u2_off (by omega), x3.1 q g1, x2.1 q g1, x1.1 q g1]
              · rw [xS.2.1, sv_u2_off (by omega), sv_u2_off (by omega), sv_u2_off (by omega), sv_u2_off (by omega), x3.2.1, x2.2.1, x1.2.1]
              · unfold rdOut rdGroup
                rw [if_pos h7, if_pos h28, if_pos ⟨h49, h57⟩, hDT, nI_clamp (by omega)]
                unfold rdStop
                by_cases hst : tkT (hi 16) n (tkN (hi 16) n (tkN (hi 16) n (tkN (hi 16) n p))) = 3
                · rw [if_pos hst, sv_b_t hst]
                  refine ⟨rfl, xS.2.2.1, (tk_le (s := hi 16) l3).2.2, ?_⟩
                  rw [← w1, ← w2, ← w3]
                  refine dRel_congr (dRel_addG hD3 hDT hT8 ?_ ?_) (fun i hi2 => ?_)
                  · rw [w2]; exact num_c hD h28
                  · rw [w3]; exact num_c hD h49
                  · show a73 (dr + i) = _
                    rw [xS.1 _ (by omega)]
                    exact addG_at
                · rw [if_neg hst, sv_b_f hst]
                  exact ⟨rfl, xS.2.2.2.1⟩)⟩
        · rw [w3, w2] at h57
          refine J_iconst (pc := 60) (0) rfl dX5_readGroup_60 ?_
          exact J_ireturn (pc := 61) dX5_readGroup_61 rfl rfl ⟨_, rfl, rfl, ⟨⟨fun q g1 g2 => by rw [x3.1 q g1, x2.1 q g1, x1.1 q g1], by rw [x3.2.1, x2.2.1, x1.2.1], by unfold rdOut rdGroup; rw [if_pos h7, if_pos h28, if_neg (fun z => z.2 h57)]; exact ⟨rfl, x3.2.2.2.1⟩⟩, rfl, rfl⟩⟩
    · rw [e1] at h28
      refine J_iconst (pc := 31) (0) rfl dX5_readGroup_31 ?_
      exact J_ireturn (pc := 32) dX5_readGroup_32 rfl rfl ⟨_, rfl, rfl, ⟨⟨fun q g1 g2 => by rw [x2.1 q g1, x1.1 q g1], by rw [x2.2.1, x1.2.1], by unfold rdOut rdGroup; rw [if_pos h7, if_neg h28]; exact ⟨rfl, x2.2.2.2.1⟩⟩, rfl, rfl⟩⟩
  · refine J_iconst (pc := 10) (0) rfl dX5_readGroup_10 ?_
    exact J_ireturn (pc := 11) dX5_readGroup_11 rfl rfl ⟨_, rfl, rfl, ⟨⟨fun q g1 g2 => by rw [x1.1 q g1], by exact x1.2.1, by unfold rdOut rdGroup; rw [if_neg h7]; exact ⟨rfl, x1.2.2.2.1⟩⟩, rfl, rfl⟩⟩
