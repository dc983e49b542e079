theorem same_canvasses {hi : svH} {hl : svL} {tw dr : Nat} {pm : Nat → Nat} {C L T Gn K N X : Nat} (I : Inv hi hl tw dr pm C L T Gn K N X) {x z : Int32} {r r2 : Int32} {a b : svH} {hb hb2 : svL} {c c2 : svR} (h1 : (¬ ((0 ≤ x ∧ x < nI T) ∧ 0 ≤ z ∧ z < nI C) ∧ r = -1 ∧ hi = a ∧ hl = hb ∧ sv_hr tw dr pm = c) ∨ (((0 ≤ x ∧ x < nI T) ∧ 0 ≤ z ∧ z < nI C) ∧ ¬ (¬ bt (hi 17 3) x.toNatClampNeg = true ∧ ¬ hi 20 x.toNatClampNeg = z ∧ 0 < hi 17 1) ∧ r = -2 ∧ hi = a ∧ hl = hb ∧ sv_hr tw dr pm = c) ∨ (((0 ≤ x ∧ x < nI T) ∧ 0 ≤ z ∧ z < nI C) ∧ (¬ bt (hi 17 3) x.toNatClampNeg = true ∧ ¬ hi 20 x.toNatClampNeg = z ∧ 0 < hi 17 1) ∧ r = hi 17 1 - 1 ∧ xDeed hi a tw dr pm K c (upd (hi 17) 1 (hi 17 1 - 1)) (hi 18) (hi 19) (upd (hi 20) x.toNatClampNeg z) ∧ hl = hb)) (h2 : (¬ ((0 ≤ x ∧ x < nI T) ∧ 0 ≤ z ∧ z < nI C) ∧ r2 = -1 ∧ a = b ∧ hb = hb2 ∧ c = c2) ∨ (((0 ≤ x ∧ x < nI T) ∧ 0 ≤ z ∧ z < nI C) ∧ ¬ (¬ bt (a 169 25) x.toNatClampNeg = true ∧ ¬ a 169 (17 + x.toNatClampNeg) = z ∧ ¬ a 169 1 = 0) ∧ r2 = -2 ∧ a = b ∧ hb = hb2 ∧ c = c2) ∨ (((0 ≤ x ∧ x < nI T) ∧ 0 ≤ z ∧ z < nI C) ∧ (¬ bt (a 169 25) x.toNatClampNeg = true ∧ ¬ a 169 (17 + x.toNatClampNeg) = z ∧ ¬ a 169 1 = 0) ∧ r2 = a 169 1 - 1 ∧ mDeed a b K (upd (upd (a 169) (17 + x.toNatClampNeg) z) 1 (a 169 1 - 1)) ∧ hb = hb2 ∧ c = c2)) : r = r2 ∧ ∃ pm' K', c2 = sv_hr tw dr pm' ∧ Inv b hb2 tw dr pm' C L T Gn K' N X := by
  have hT := I.hT
  have hC6 := I.x.2.2.2.2.2.2.1
  have hG6 := I.x.2.2.2.2.2.2.2.2.2.2.1
  obtain ⟨d0, d1, d2, d3, d4, d5, d6, d7⟩ := I.day.to0
  have hbnd := I.day.2.2.2.2.2.2.2.2
  by_cases hx : (0 ≤ x ∧ x < nI T) ∧ 0 ≤ z ∧ z < nI C
  · have hj := clamp_lt hx.1 (by omega)
    revert h1 h2
    generalize hjx : x.toNatClampNeg = j at hj
    intro h1 h2
    obtain ⟨b0, hb0, eb⟩ := hbnd.2.1
    obtain ⟨jz, hjz, ez⟩ := sv_ix hx.2 (by omega)
    have cond : (¬ bt (hi 17 3) j = true ∧ ¬ hi 20 j = z ∧ 0 < hi 17 1) ↔ (¬ bt (hi 169 25) j = true ∧ ¬ hi 169 (17 + j) = z ∧ ¬ hi 169 1 = 0) := by
      rw [d3, d7 j hj]
      have e : 0 < hi 17 1 ↔ ¬ hi 169 1 = 0 := by
        rw [← d1, eb, show (0 : Int32) = nI 0 from rfl, nI_ltI (by omega) (by omega), nI_eq (by omega) (by omega)]; omega
      rw [e]
    rcases h1 with ⟨g1, _⟩ | ⟨_, g1, g2, rfl, rfl, rfl⟩ | ⟨_, g1, g2, g3, rfl⟩
    · exact absurd hx g1
    · rcases h2 with ⟨k1, _⟩ | ⟨_, k1, k2, rfl, rfl, rfl⟩ | ⟨_, k1, k2, k3, rfl, rfl⟩
      · exact absurd hx k1
      · exact ⟨by rw [g2, k2], pm, K, rfl, I⟩
      · exact absurd (cond.mpr k1) g1
    · have e9 : a 169 = hi 169 := g3.off (by omega)
      have e6 : a 166 = hi 166 := g3.off (by omega)
      have e7 : a 167 = hi 167 := g3.off (by omega)
      rw [e9] at h2
      rcases h2 with ⟨k1, _⟩ | ⟨_, k1, k2, rfl, rfl, rfl⟩ | ⟨_, k1, k2, k3, rfl, rfl⟩
      · exact absurd hx k1
      · exact absurd (cond.mp g1) k1
      · refine ⟨by rw [g2, k2]; rw [d1], ?_⟩
        refine I.deed g3 k3 ⟨?_, ?_, ?_, ?_, ?_, fun k hk => ?_, fun t ht => ?_, fun t ht => ?_, by rw [un3 (by omega)]; exact hbnd.1, ?_, by rw [un3 (by omega)]; exact hbnd.2.2.1, by rw [un3 (by omega)]; exact hbnd.2.2.2.1, hbnd.2.2.2.2.1, fun t ht => ?_⟩
        · rw [un3 (by omega), un3 (by omega), un3 (by omega)]; exact d0
        · rw [us3, us3, d1]
        · rw [un3 (by omega), un3 (by omega), un3 (by omega)]; exact d2
        · rw [un3 (by omega), un3 (by omega), un3 (by omega)]; exact d3
        · rw [un3 (by omega), un3 (by omega), un3 (by omega)]; exact d4
        · rw [un3 (by omega), un3 (by omega), show 0 + (3 + k) = 3 + k by omega]; exact d5 k hk
        · rw [un3 (by omega), un3 (by omega), show 0 + (9 + t) = 9 + t by omega]; exact d6 t ht
        · rw [un3 (show 0 + (17 + t) ≠ 1 by omega), show 0 + (17 + t) = 17 + t by omega]
          by_cases e : t = j
          · subst e; rw [us3, us3]
          · rw [un3 e, un3 (by omega)]; exact d7 t ht
        · have h0 : 0 < b0 := by have := g1.2.2; rw [eb, show (0 : Int32) = nI 0 from rfl, nI_ltI (by omega) (by omega)] at this; exact this
          exact ⟨b0 - 1, by omega, by rw [us3, eb, show (1 : Int32) = nI 1 from rfl, pk_sub (by omega)]⟩
        · by_cases e : t = j
          · subst e; exact ⟨jz, hjz, by rw [us3]; exact ez⟩
          · rw [un3 e]; exact hbnd.2.2.2.2.2 t ht
  · rcases h1 with ⟨g1, g2, rfl, rfl, rfl⟩ | ⟨g0, _⟩ | ⟨g0, _⟩
    · rcases h2 with ⟨k1, k2, rfl, rfl, rfl⟩ | ⟨g0, _⟩ | ⟨g0, _⟩
      · exact ⟨by rw [g2, k2], pm, K, rfl, I⟩
      · exact absurd g0 hx
      · exact absurd g0 hx
    · exact absurd g0 hx
    · exact absurd g0 hx
theorem same_fog {hi : svH} {hl : svL} {tw dr : Nat} {pm : Nat → Nat} {C L T Gn K N X : Nat} (I : Inv hi hl tw dr pm C L T Gn K N X) {x : Int32} {r r2 : Int32} {a b : svH} {hb hb2 : svL} {c c2 : svR} (h1 : (¬ (0 ≤ x ∧ x < 2) ∧ r = -1 ∧ hi = a ∧ hl = hb ∧ sv_hr tw dr pm = c) ∨ ((0 ≤ x ∧ x < 2) ∧ ¬ (¬ hi 17 2 = x) ∧ r = -2 ∧ hi = a ∧ hl = hb ∧ sv_hr tw dr pm = c) ∨ ((0 ≤ x ∧ x < 2) ∧ (¬ hi 17 2 = x) ∧ r = nI T - sv_bc (hi 17 3) ∧ xDeed hi a tw dr pm K c (upd (hi 17) 2 x) (hi 18) (hi 19) (hi 20) ∧ hl = hb)) (h2 : (¬ (0 ≤ x ∧ x < 2) ∧ r2 = -1 ∧ a = b ∧ hb = hb2 ∧ c = c2) ∨ ((0 ≤ x ∧ x < 2) ∧ ¬ (¬ a 169 2 = x) ∧ r2 = -2 ∧ a = b ∧ hb = hb2 ∧ c = c2) ∨ ((0 ≤ x ∧ x < 2) ∧ (¬ a 169 2 = x) ∧ r2 = nI T - nI (mCnt (bt (a 169 25)) 8) ∧ mDeed a b K (upd (a 169) 2 x) ∧ hb = hb2 ∧ c = c2)) : r = r2 ∧ ∃ pm' K', c2 = sv_hr tw dr pm' ∧ Inv b hb2 tw dr pm' C L T Gn K' N X := by
  have hT := I.hT
  have hC6 := I.x.2.2.2.2.2.2.1
  have hG6 := I.x.2.2.2.2.2.2.2.2.2.2.1
  obtain ⟨d0, d1, d2, d3, d4, d5, d6, d7⟩ := I.day.to0
  have hbnd := I.day.2.2.2.2.2.2.2.2
  by_cases hx : 0 ≤ x ∧ x < 2
  · skip
    have cond : (¬ hi 17 2 = x) ↔ (¬ hi 169 2 = x) := by
      rw [d2]
    rcases h1 with ⟨g1, _⟩ | ⟨_, g1, g2, rfl, rfl, rfl⟩ | ⟨_, g1, g2, g3, rfl⟩
    · exact absurd hx g1
    · rcases h2 with ⟨k1, _⟩ | ⟨_, k1, k2, rfl, rfl, rfl⟩ | ⟨_, k1, k2, k3, rfl, rfl⟩
      · exact absurd hx k1
      · exact ⟨by rw [g2, k2], pm, K, rfl, I⟩
      · exact absurd (cond.mpr k1) g1
    · have e9 : a 169 = hi 169 := g3.off (by omega)
      have e6 : a 166 = hi 166 := g3.off (by omega)
      have e7 : a 167 = hi 167 := g3.off (by omega)
      rw [e9] at h2
      rcases h2 with ⟨k1, _⟩ | ⟨_, k1, k2, rfl, rfl, rfl⟩ | ⟨_, k1, k2, k3, rfl, rfl⟩
      · exact absurd hx k1
      · exact absurd (cond.mp g1) k1
      · refine ⟨by rw [g2, k2]; exact e_fog I, ?_⟩
        refine I.deed g3 k3 ⟨?_, ?_, ?_, ?_, ?_, fun k hk => ?_, fun t ht => ?_, fun t ht => ?_, by rw [un3 (by omega)]; exact hbnd.1, ?_, ?_, by rw [un3 (by omega)]; exact hbnd.2.2.2.1, hbnd.2.2.2.2.1, hbnd.2.2.2.2.2⟩
        · rw [un3 (by omega), un3 (by omega)]; exact d0
        · rw [un3 (by omega), un3 (by omega)]; exact d1
        · rw [us3, us3]
        · rw [un3 (by omega), un3 (by omega)]; exact d3
        · rw [un3 (by omega), un3 (by omega)]; exact d4
        · rw [un3 (by omega), show 0 + (3 + k) = 3 + k by omega]; exact d5 k hk
        · rw [un3 (by omega), show 0 + (9 + t) = 9 + t by omega]; exact d6 t ht
        · rw [un3 (by omega), show 0 + (17 + t) = 17 + t by omega]; exact d7 t ht
        · rw [un3 (by omega)]; exact hbnd.2.1
        · rw [us3]; exact sv_bit01 hx
  · rcases h1 with ⟨g1, g2, rfl, rfl, rfl⟩ | ⟨g0, _⟩ | ⟨g0, _⟩
    · rcases h2 with ⟨k1, k2, rfl, rfl, rfl⟩ | ⟨g0, _⟩ | ⟨g0, _⟩
      · exact ⟨by rw [g2, k2], pm, K, rfl, I⟩
      · exact absurd g0 hx
      · exact absurd g0 hx
    · exact absurd g0 hx
    · exact absurd g0 hx
theorem same_rugs {hi : svH} {hl : svL} {tw dr : Nat} {pm : Nat → Nat} {C L T Gn K N X : Nat} (I : Inv hi hl tw dr pm C L T Gn K N X) {x : Int32} {r r2 : Int32} {a b : svH} {hb hb2 : svL} {c c2 : svR} (h1 : (¬ (0 ≤ x ∧ x < nI Gn) ∧ r = -1 ∧ hi = a ∧ hl = hb ∧ sv_hr tw dr pm = c) ∨ ((0 ≤ x ∧ x < nI Gn) ∧ ¬ (¬ bt (hi 17 4) x.toNatClampNeg = true) ∧ r = -2 ∧ hi = a ∧ hl = hb ∧ sv_hr tw dr pm = c) ∨ ((0 ≤ x ∧ x < nI Gn) ∧ (¬ bt (hi 17 4) x.toNatClampNeg = true) ∧ r = hi 18 (hi (tw + 5) x.toNatClampNeg).toNatClampNeg + hi (tw + 4) x.toNatClampNeg ∧ xDeed hi a tw dr pm K c (upd (hi 17) 4 (hi 17 4 ||| (1 <<< (x &&& 31)))) (upd (hi 18) (hi (tw + 5) x.toNatClampNeg).toNatClampNeg (hi 18 (hi (tw + 5) x.toNatClampNeg).toNatClampNeg + hi (tw + 4) x.toNatClampNeg)) (hi 19) (hi 20) ∧ hl = hb)) (h2 : (¬ (0 ≤ x ∧ x < nI Gn) ∧ r2 = -1 ∧ a = b ∧ hb = hb2 ∧ c = c2) ∨ ((0 ≤ x ∧ x < nI Gn) ∧ ¬ (¬ bt (a 169 26) x.toNatClampNeg = true) ∧ r2 = -2 ∧ a = b ∧ hb = hb2 ∧ c = c2) ∨ ((0 ≤ x ∧ x < nI Gn) ∧ (¬ bt (a 169 26) x.toNatClampNeg = true) ∧ r2 = a 169 (3 + (a 167 x.toNatClampNeg).toNatClampNeg) + a 166 x.toNatClampNeg ∧ mDeed a b K (upd (upd (a 169) 26 (a 169 26 ||| (1 <<< (x &&& 31)))) (3 + (a 167 x.toNatClampNeg).toNatClampNeg) (a 169 (3 + (a 167 x.toNatClampNeg).toNatClampNeg) + a 166 x.toNatClampNeg)) ∧ hb = hb2 ∧ c = c2)) : r = r2 ∧ ∃ pm' K', c2 = sv_hr tw dr pm' ∧ Inv b hb2 tw dr pm' C L T Gn K' N X := by
  have hT := I.hT
  have hC6 := I.x.2.2.2.2.2.2.1
  have hG6 := I.x.2.2.2.2.2.2.2.2.2.2.1
  obtain ⟨d0, d1, d2, d3, d4, d5, d6, d7⟩ := I.day.to0
  have hbnd := I.day.2.2.2.2.2.2.2.2
  by_cases hx : 0 ≤ x ∧ x < nI Gn
  · have hj := clamp_lt hx (by omega)
    revert h1 h2
    generalize hjx : x.toNatClampNeg = j at hj
    intro h1 h2
    obtain ⟨f, hfC, ef⟩ := I.x.2.2.2.2.2.2.2.2.2.2.2.1 j hj
    have ef2 : hi 167 j = nI f := by rw [← I.firsts j hj]; exact ef
    have hcf : (hi (tw + 5) j).toNatClampNeg = f := by rw [ef]; exact nI_clamp (by omega)
    have hcf2 : (hi 167 j).toNatClampNeg = f := by rw [ef2]; exact nI_clamp (by omega)
    rw [hcf] at h1
    have cond : (¬ bt (hi 17 4) j = true) ↔ (¬ bt (hi 169 26) j = true) := by
      rw [d4]
    rcases h1 with ⟨g1, _⟩ | ⟨_, g1, g2, rfl, rfl, rfl⟩ | ⟨_, g1, g2, g3, rfl⟩
    · exact absurd hx g1
    · rcases h2 with ⟨k1, _⟩ | ⟨_, k1, k2, rfl, rfl, rfl⟩ | ⟨_, k1, k2, k3, rfl, rfl⟩
      · exact absurd hx k1
      · exact ⟨by rw [g2, k2], pm, K, rfl, I⟩
      · exact absurd (cond.mpr k1) g1
    · have e9 : a 169 = hi 169 := g3.off (by omega)
      have e6 : a 166 = hi 166 := g3.off (by omega)
      have e7 : a 167 = hi 167 := g3.off (by omega)
      rw [e9, e7, e6, hcf2] at h2
      rcases h2 with ⟨k1, _⟩ | ⟨_, k1, k2, rfl, rfl, rfl⟩ | ⟨_, k1, k2, k3, rfl, rfl⟩
      · exact absurd hx k1
      · exact absurd (cond.mp g1) k1
      · refine ⟨by rw [g2, k2]; rw [d5 f (by omega), I.people j hj], ?_⟩
        refine I.deed g3 k3 ⟨?_, ?_, ?_, ?_, ?_, fun k hk => ?_, fun t ht => ?_, fun t ht => ?_, by rw [un3 (by omega)]; exact hbnd.1, ?_, ?_, by rw [un3 (by omega)]; exact hbnd.2.2.2.1, hbnd.2.2.2.2.1, hbnd.2.2.2.2.2⟩
        · rw [un3 (by omega), un3 (by omega), un3 (by omega)]; exact d0
        · rw [un3 (by omega), un3 (by omega), un3 (by omega)]; exact d1
        · rw [un3 (by omega), un3 (by omega), un3 (by omega)]; exact d2
        · rw [un3 (by omega), un3 (by omega), un3 (by omega)]; exact d3
        · rw [us3, un3 (by omega), us3, d4]
        · rw [show 0 + (3 + k) = 3 + k by omega]
          by_cases e : k = f
          · subst e; rw [us3, us3, d5 k hk, I.people j hj]
          · rw [un3 e, un3 (by omega), un3 (by omega)]; exact d5 k hk
        · rw [un3 (by omega), un3 (by omega), show 0 + (9 + t) = 9 + t by omega]; exact d6 t ht
        · rw [un3 (by omega), un3 (by omega), show 0 + (17 + t) = 17 + t by omega]; exact d7 t ht
        · rw [un3 (by omega)]; exact hbnd.2.1
        · rw [un3 (by omega)]; exact hbnd.2.2.1
  · rcases h1 with ⟨g1, g2, rfl, rfl, rfl⟩ | ⟨g0, _⟩ | ⟨g0, _⟩
    · rcases h2 with ⟨k1, k2, rfl, rfl, rfl⟩ | ⟨g0, _⟩ | ⟨g0, _⟩
      · exact ⟨by rw [g2, k2], pm, K, rfl, I⟩
      · exact absurd g0 hx
      · exact absurd g0 hx
    · exact absurd g0 hx
    · exact absurd g0 hx
