theorem mStop_congr {h h' l l' c c' v v' : Nat → Int32} {o s : Int32} (hv : ∀ k, k < 6 → v k = v' k) : ∀ {n : Nat}, (∀ t, t < n → h t = h' t) → (∀ t, t < n → l t = l' t) → (∀ t, t < n → c t = c' t) → (mStop h l c o s v n).1 = (mStop h' l' c' o s v' n).1 ∧ (mStop h l c o s v n).2.2 = (mStop h' l' c' o s v' n).2.2 ∧ ∀ k, k < 6 → (mStop h l c o s v n).2.1 k = (mStop h' l' c' o s v' n).2.1 k := by
  intro n
  induction n with
  | zero => intro _ _ _; exact ⟨rfl, rfl, hv⟩
  | succ n ih =>
    intro e1 e2 e3
    obtain ⟨i1, i2, i3⟩ := ih (fun t ht => e1 t (by omega)) (fun t ht => e2 t (by omega)) (fun t ht => e3 t (by omega))
    rw [mStop, mStop, i1, e1 n (by omega)]
    by_cases hc : bt (mStop h' l' c' o s v' n).1 n = true ∨ ¬ h' n = o
    · rw [if_pos hc, if_pos hc]; exact ⟨i1, i2, i3⟩
    · rw [if_neg hc, if_neg hc]
      refine ⟨rfl, by show _ + 1 = _ + 1; rw [i2], fun k hk => ?_⟩
      show upd _ _ _ k = upd _ _ _ k
      rw [e2 n (by omega)]
      unfold upd
      by_cases e : k = (l' n).toNatClampNeg
      · rw [if_pos e, if_pos e, i3 _ (by omega), e3 n (by omega)]
      · rw [if_neg e, if_neg e]; exact i3 k hk
theorem mStop_bits {h l c v : Nat → Int32} {o s : Int32} {T : Nat} (hT : T ≤ 8) (hs : ∀ t, T ≤ t → t < 32 → bt s t = false) : ∀ n, n ≤ T → ∀ t, T ≤ t → t < 32 → bt (mStop h l c o s v n).1 t = false := by
  intro n
  induction n with
  | zero => exact fun _ => hs
  | succ n ih =>
    intro hn t h1 h2
    rw [mStop]
    split
    · exact ih (by omega) t h1 h2
    · show bt (_ ||| _) t = false
      rw [hb_set _ (by omega) h2, ih (by omega) t h1 h2]
      simp; omega
theorem e_hour {hi : svH} {hl : svL} {tw dr : Nat} {pm : Nat → Nat} {C L T Gn K N X : Nat} (I : Inv hi hl tw dr pm C L T Gn K N X) : (xHour hi tw T).1 = (mHour hi T).1 ∧ (xHour hi tw T).2.2 = (mHour hi T).2.2 ∧ (∀ k, k < 6 → (xHour hi tw T).2.1 k = (mHour hi T).2.1 k) ∧ ∀ t, T ≤ t → t < 32 → bt (xHour hi tw T).1 t = false := by
  have hT := I.hT
  obtain ⟨d0, d1, d2, d3, d4, d5, d6, d7⟩ := I.day.to0
  have hf := I.day.2.2.2.2.2.2.2.2.2.2.1
  have hb := I.day.2.2.2.2.2.2.2.2.2.2.2.1
  unfold xHour mHour
  rcases hf with hf | hf
  · rw [if_neg (by rw [hf]; decide), if_pos (by rw [← d2]; exact hf), d0, d3]
    have h := mStop_congr (o := hi 169 0) (s := hi 169 25) d5 d6 d7 I.crowds
    exact ⟨h.1, h.2.1, h.2.2, mStop_bits hT (by rw [← d3]; exact hb) T (Nat.le_refl _)⟩
  · rw [if_pos hf, if_neg (by rw [← d2, hf]; decide)]
    exact ⟨d3, rfl, d5, hb⟩
theorem mHour_keep {hi a : svH} (e5 : a 165 = hi 165) (e9 : a 169 = hi 169) (t : Nat) : mHour a t = mHour hi t := by
  unfold mHour
  rw [e5, e9]
theorem same_hour {hi : svH} {hl : svL} {tw dr : Nat} {pm : Nat → Nat} {C L T Gn K N X : Nat} (I : Inv hi hl tw dr pm C L T Gn K N X) {r r2 : Int32} {a b : svH} {hb hb2 : svL} {c c2 : svR} (h1 : (¬ (hi 17 0 ≤ 23) ∧ r = -2 ∧ hi = a ∧ hl = hb ∧ sv_hr tw dr pm = c) ∨ ((hi 17 0 ≤ 23) ∧ r = nI (xHour hi tw T).2.2 ∧ xDeed hi a tw dr pm K c (upd (upd (hi 17) 3 (xHour hi tw T).1) 0 (hi 17 0 + 1)) (xHour hi tw T).2.1 (hi 19) (hi 20) ∧ hl = hb)) (h2 : (¬ (¬ a 169 0 = 24) ∧ r2 = -2 ∧ a = b ∧ hb = hb2 ∧ c = c2) ∨ ((¬ a 169 0 = 24) ∧ r2 = nI (mHour a T).2.2 ∧ mDeed a b K (upd (stW (a 169) (mHour a T).1 (mHour a T).2.1) 0 (a 169 0 + 1)) ∧ hb = hb2 ∧ c = c2)) : r = r2 ∧ ∃ pm' K', c2 = sv_hr tw dr pm' ∧ Inv b hb2 tw dr pm' C L T Gn K' N X := by
  have hT := I.hT
  obtain ⟨d0, d1, d2, d3, d4, d5, d6, d7⟩ := I.day.to0
  obtain ⟨h, hh, eh⟩ := I.day.2.2.2.2.2.2.2.2.1
  have hrest := I.day.2.2.2.2.2.2.2.2.2
  rcases h1 with ⟨g1, g2, rfl, rfl, rfl⟩ | ⟨g1, g2, g3, rfl⟩
  · have e24 : hi 169 0 = 24 := by
      rw [← d0, eh]
      rw [eh, show (23 : Int32) = nI 23 from rfl, nI_leI (by omega) (by omega)] at g1
      rw [show h = 24 by omega]; rfl
    rcases h2 with ⟨k1, k2, rfl, rfl, rfl⟩ | ⟨k1, k2, k3, rfl, rfl⟩
    · exact ⟨by rw [g2, k2], pm, K, rfl, I⟩
    · exact absurd e24 k1
  · have e5 : a 165 = hi 165 := g3.off (by omega)
    have e9 : a 169 = hi 169 := g3.off (by omega)
    rw [eh, show (23 : Int32) = nI 23 from rfl, nI_leI (by omega) (by omega)] at g1
    rcases h2 with ⟨k1, k2, rfl, rfl, rfl⟩ | ⟨k1, k2, k3, rfl, rfl⟩
    · exact absurd (fun q => by rw [e9, ← d0, eh, show (24 : Int32) = nI 24 from rfl, nI_eq (by omega) (by omega)] at q; omega) k1
    · obtain ⟨q1, q2, q3, q4⟩ := e_hour I
      refine ⟨by rw [g2, k2, mHour_keep e5 e9, q2], ?_⟩
      rw [mHour_keep e5 e9, e9] at k3
      refine I.deed g3 k3 ⟨?_, ?_, ?_, ?_, ?_, fun k hk => ?_, fun t ht => ?_, fun t ht => ?_, ⟨h + 1, by omega, by rw [us3, eh, nI_succ]⟩, ?_, ?_, ?_, hrest.2.2.2.1, hrest.2.2.2.2⟩
      · rw [us3, us3, d0]
      · rw [un3 (by decide), un3 (by decide), un3 (by decide), stW_off (by decide) (by decide)]; exact d1
      · rw [un3 (by decide), un3 (by decide), un3 (by decide), stW_off (by decide) (by decide)]; exact d2
      · rw [un3 (by decide), us3, un3 (by decide), stW_s]; exact q1
      · rw [un3 (by decide), un3 (by decide), un3 (by decide), stW_off (by decide) (by decide)]; exact d4
      · rw [un3 (by omega), show 0 + (3 + k) = 3 + k by omega, stW_at hk]; exact q3 k hk
      · rw [un3 (by omega), show 0 + (9 + t) = 9 + t by omega, stW_off (by omega) (by omega)]; exact d6 t ht
      · rw [un3 (by omega), show 0 + (17 + t) = 17 + t by omega, stW_off (by omega) (by omega)]; exact d7 t ht
      · rw [un3 (by decide), un3 (by decide)]; exact hrest.1
      · rw [un3 (by decide), un3 (by decide)]; exact hrest.2.1
      · rw [un3 (by decide), us3]; exact q4
theorem mOpen_bt {s o : Int32} {h : Nat → Int32} : ∀ {T : Nat}, T ≤ 32 → ∀ t, t < T → (bt (mOpen s o h T) t = true ↔ ¬ bt s t = true ∧ o ≤ h t) := by
  intro T
  induction T with
  | zero => intro _ t ht; omega
  | succ T ih =>
    intro hT t ht
    rw [mOpen]
    by_cases e : t = T
    · subst e
      by_cases hc : bt s t = true ∨ h t < o
      · rw [if_pos hc, mOpen_bits (by omega) t (Nat.le_refl _) (by omega)]
        constructor
        · intro q; cases q
        · intro q; rcases hc with hc | hc
          · exact absurd hc q.1
          · exact absurd q.2 (Int32.not_le.mpr hc)
      · rw [if_neg hc, hb_set _ (by omega) (by omega)]
        simp only [not_or, Int32.not_lt] at hc
        simp [hc.1, hc.2]
    · by_cases hc : bt s T = true ∨ h T < o
      · rw [if_pos hc]; exact ih (by omega) t (by omega)
      · rw [if_neg hc, hb_set _ (by omega) (by omega), decide_eq_false e, Bool.or_false]; exact ih (by omega) t (by omega)
theorem same_holds {hi : svH} {hl : svL} {tw dr : Nat} {pm : Nat → Nat} {C L T Gn K N X : Nat} (I : Inv hi hl tw dr pm C L T Gn K N X) {x r r2 : Int32} {a b : svH} {hb hb2 : svL} {c c2 : svR} (h1 : (¬ (0 ≤ x ∧ x < nI T) ∧ r = -1 ∧ hi = a ∧ hl = hb ∧ sv_hr tw dr pm = c) ∨ ((0 ≤ x ∧ x < nI T) ∧ ¬ (bt (mOpen (hi 17 3) (hi 17 0) (hi 19) T) x.toNatClampNeg = true ∧ hi 19 x.toNatClampNeg < 23) ∧ r = -2 ∧ hi = a ∧ hl = hb ∧ sv_hr tw dr pm = c) ∨ ((0 ≤ x ∧ x < nI T) ∧ (bt (mOpen (hi 17 3) (hi 17 0) (hi 19) T) x.toNatClampNeg = true ∧ hi 19 x.toNatClampNeg < 23) ∧ r = hi 19 x.toNatClampNeg + 1 ∧ xDeed hi a tw dr pm K c (hi 17) (hi 18) (upd (hi 19) x.toNatClampNeg (hi 19 x.toNatClampNeg + 1)) (hi 20) ∧ hl = hb)) (h2 : (¬ (0 ≤ x ∧ x < nI T) ∧ r2 = -1 ∧ a = b ∧ hb = hb2 ∧ c = c2) ∨ ((0 ≤ x ∧ x < nI T) ∧ ¬ (¬ bt (a 169 25) x.toNatClampNeg = true ∧ ¬ a 169 (9 + x.toNatClampNeg) = 23 ∧ a 169 0 ≤ a 169 (9 + x.toNatClampNeg)) ∧ r2 = -2 ∧ a = b ∧ hb = hb2 ∧ c = c2) ∨ ((0 ≤ x ∧ x < nI T) ∧ (¬ bt (a 169 25) x.toNatClampNeg = true ∧ ¬ a 169 (9 + x.toNatClampNeg) = 23 ∧ a 169 0 ≤ a 169 (9 + x.toNatClampNeg)) ∧ r2 = a 169 (9 + x.toNatClampNeg) + 1 ∧ mDeed a b K (upd (a 169) (9 + x.toNatClampNeg) (a 169 (9 + x.toNatClampNeg) + 1)) ∧ hb = hb2 ∧ c = c2)) : r = r2 ∧ ∃ pm' K', c2 = sv_hr tw dr pm' ∧ Inv b hb2 tw dr pm' C L T Gn K' N X := by
  have hT := I.hT
  obtain ⟨d0, d1, d2, d3, d4, d5, d6, d7⟩ := I.day.to0
  have hbnd := I.day.2.2.2.2.2.2.2.2
  by_cases hx : 0 ≤ x ∧ x < nI T
  · have hj := clamp_lt hx (by omega)
    revert h1 h2
    generalize hjx : x.toNatClampNeg = j at hj
    intro h1 h2
    obtain ⟨h, hh, eh⟩ := hbnd.2.2.2.2.1 j hj
    have cond : (bt (mOpen (hi 17 3) (hi 17 0) (hi 19) T) j = true ∧ hi 19 j < 23) ↔ (¬ bt (hi 169 25) j = true ∧ ¬ hi 169 (9 + j) = 23 ∧ hi 169 0 ≤ hi 169 (9 + j)) := by
      rw [mOpen_bt (by omega) j hj, d3, d0, d6 j hj]
      have e : hi 169 (9 + j) < 23 ↔ ¬ hi 169 (9 + j) = 23 := by
        rw [← d6 j hj, eh, show (23 : Int32) = nI 23 from rfl, nI_ltI (by omega) (by omega), nI_eq (by omega) (by omega)]; omega
      rw [e]
      exact ⟨fun q => ⟨q.1.1, q.2, q.1.2⟩, fun q => ⟨⟨q.1, q.2.2⟩, q.2.1⟩⟩
    rcases h1 with ⟨g1, _⟩ | ⟨_, g1, g2, rfl, rfl, rfl⟩ | ⟨_, g1, g2, g3, rfl⟩
    · exact absurd hx g1
    · rcases h2 with ⟨k1, _⟩ | ⟨_, k1, k2, rfl, rfl, rfl⟩ | ⟨_, k1, k2, k3, rfl, rfl⟩
      · exact absurd hx k1
      · exact ⟨by rw [g2, k2], pm, K, rfl, I⟩
      · exact absurd (cond.mpr k1) g1
    · have e9 : a 169 = hi 169 := g3.off (by omega)
      rw [e9] at h2
      rcases h2 with ⟨k1, _⟩ | ⟨_, k1, k2, rfl, rfl, rfl⟩ | ⟨_, k1, k2, k3, rfl, rfl⟩
      · exact absurd hx k1
      · exact absurd (cond.mp g1) k1
      · refine ⟨by rw [g2, k2, d6 j hj], ?_⟩
        have h23 : h < 23 := by have := g1.2; rw [eh, show (23 : Int32) = nI 23 from rfl, nI_ltI (by omega) (by omega)] at this; exact this
        refine I.deed g3 k3 ⟨?_, ?_, ?_, ?_, ?_, fun k hk => ?_, fun t ht => ?_, fun t ht => ?_, hbnd.1, hbnd.2.1, hbnd.2.2.1, hbnd.2.2.2.1, fun t ht => ?_, hbnd.2.2.2.2.2⟩
        · rw [un3 (by omega)]; exact d0
        · rw [un3 (by omega)]; exact d1
        · rw [un3 (by omega)]; exact d2
        · rw [un3 (by omega)]; exact d3
        · rw [un3 (by omega)]; exact d4
        · rw [un3 (by omega), show 0 + (3 + k) = 3 + k by omega]; exact d5 k hk
        · rw [show 0 + (9 + t) = 9 + t by omega]
          by_cases e : t = j
          · subst e; rw [us3, us3, d6 t ht]
          · rw [un3 e, un3 (by omega)]; exact d6 t ht
        · rw [un3 (by omega), show 0 + (17 + t) = 17 + t by omega]; exact d7 t ht
        · by_cases e : t = j
          · subst e; exact ⟨h + 1, by omega, by rw [us3, eh, nI_succ]⟩
          · rw [un3 e]; exact hbnd.2.2.2.2.1 t ht
  · rcases h1 with ⟨g1, g2, rfl, rfl, rfl⟩ | ⟨g0, _⟩ | ⟨g0, _⟩
    · rcases h2 with ⟨k1, k2, rfl, rfl, rfl⟩ | ⟨g0, _⟩ | ⟨g0, _⟩
      · exact ⟨by rw [g2, k2], pm, K, rfl, I⟩
      · exact absurd g0 hx
      · exact absurd g0 hx
    · exact absurd g0 hx
    · exact absurd g0 hx
