theorem Inv.past {hi : svH} {hl : svL} {tw dr : Nat} {pm : Nat → Nat} {C L T Gn K N X : Nat} (I : Inv hi hl tw dr pm C L T Gn K N X) {b : svH} {pm' : Nat → Nat} {K' : Nat} (E : ∀ q, q < 17 ∨ (62 < q ∧ q ≠ 169) → b q = hi q) (hK' : K' ≤ 10) (e21 : b 21 0 = nI K') (e27 : b 169 27 = nI K') (hpm : pmok pm') (hday : dayR C T b 17 (b 169) 0) (hrows : ∀ j, j < K' → dayR C T b (pm' j) (b 169) (28 + 27 * j)) : Inv b hl tw dr pm' C L T Gn K' N X := by
  have htw := I.tw
  have hT := I.hT
  have hl20 : ∀ t, t < T → ∃ j, j < C ∧ b 20 t = nI j := hday.2.2.2.2.2.2.2.2.2.2.2.2.2
  refine ⟨?_, ?_, I.ed, I.ne, hpm, ?_, ?_, ?_, ?_, hday, hK', e21, e27, hrows, ?_, ?_, I.N4, ?_, ?_, ?_, ?_, I.X120, ?_, ?_, ?_, I.trace⟩
  · exact I.x.frame (fun q h => E q (by omega)) hl20
  · refine I.m.frame (fun k _ => by rw [E 164 (by omega)]) (E 167 (by omega)) (E 168 (by omega)) (fun t ht => ?_)
    have e := hday.to0.2.2.2.2.2.2.2 t ht
    obtain ⟨j, hj, ej⟩ := hl20 t ht
    exact ⟨j, hj, by rw [← e]; exact ej⟩
  · rw [E (tw + 2) (by omega), E 165 (by omega)]; exact I.crowds
  · rw [E (tw + 4) (by omega), E 166 (by omega)]; exact I.people
  · rw [E (tw + 5) (by omega), E 167 (by omega)]; exact I.firsts
  · rw [E (tw + 6) (by omega), E 168 (by omega)]; exact I.seconds
  · exact I.im0.same hT (fun q h1 h2 => E q (by omega)) (E 170 (by omega)) (E 171 (by omega))
  · exact I.im1.same hT (fun q h1 h2 => E q (by omega)) (E 170 (by omega)) (E 171 (by omega))
  · rw [E 66 (by omega)]; exact I.xN
  · rw [E 164 (by omega)]; exact I.mN
  · rw [E 67 (by omega), E 172 (by omega)]; exact I.chosen
  · rw [E 68 (by omega), E 172 (by omega)]; exact I.other
  · rw [E 15 (by omega)]; exact I.xX
  · rw [E 164 (by omega)]; exact I.mX
  · rw [E 16 (by omega), E 173 (by omega)]; exact I.bytes
theorem same_undo {hi : svH} {hl : svL} {tw dr : Nat} {pm : Nat → Nat} {C L T Gn K N X : Nat} (I : Inv hi hl tw dr pm C L T Gn K N X) {r r2 : Int32} {a b : svH} {hb hb2 : svL} {c c2 : svR} (h1 : (K = 0 ∧ r = -2 ∧ hi = a ∧ hl = hb ∧ sv_hr tw dr pm = c) ∨ (∃ n, K = n + 1 ∧ r = nI n ∧ a 21 0 = nI n ∧ (∀ q, q ≠ 21 → q < 17 ∨ 20 < q → a q = hi q) ∧ (∀ k, k < 5 → a 17 k = hi (pm n) k) ∧ (∀ k, k < 6 → a 18 k = hi (pm n + 1) k) ∧ (∀ k, k < 8 → a 19 k = hi (pm n + 2) k) ∧ (∀ k, k < 8 → a 20 k = hi (pm n + 3) k) ∧ hl = hb ∧ sv_hr tw dr pm = c)) (h2 : (K = 0 ∧ r2 = -2 ∧ a = b ∧ hb = hb2 ∧ c = c2) ∨ (∃ w, K = w + 1 ∧ r2 = nI w ∧ b 169 27 = nI w ∧ (∀ k, k < 27 → b 169 k = a 169 (28 + 27 * w + k)) ∧ (∀ i, 28 ≤ i → b 169 i = a 169 i) ∧ (∀ q, q ≠ 169 → b q = a q) ∧ hb = hb2 ∧ c = c2)) : r = r2 ∧ ∃ pm' K', c2 = sv_hr tw dr pm' ∧ Inv b hb2 tw dr pm' C L T Gn K' N X := by
  have hT := I.hT
  rcases h1 with ⟨g1, g2, rfl, rfl, rfl⟩ | ⟨n, g1, g2, g3, g4, g5, g6, g7, g8, rfl, rfl⟩
  · rcases h2 with ⟨k1, k2, rfl, rfl, rfl⟩ | ⟨w, k1, _⟩
    · exact ⟨by rw [g2, k2], pm, K, rfl, I⟩
    · omega
  · rcases h2 with ⟨k1, _⟩ | ⟨w, k1, k2, k3, k4, k5, k6, rfl, rfl⟩
    · omega
    · obtain rfl : w = n := by omega
      have hK := I.K10
      have hp := I.pm.1 w (by omega)
      have e169 : a 169 = hi 169 := g4 169 (by decide) (by omega)
      refine ⟨by rw [g2, k2], pm, w, rfl, I.past (fun q hq => by rw [k6 q (by omega), g4 q (by omega) (by omega)]) (by omega) (by rw [k6 21 (by decide)]; exact g3) k3 I.pm ?_ (fun j hj => ?_)⟩
      · refine (I.rows w (by omega)).move hT (fun k hk => ?_) (fun k hk => ?_) (fun k hk => ?_) (fun k hk => ?_) (fun k hk => ?_)
        · rw [k6 17 (by decide)]; exact g5 k hk
        · rw [k6 (17 + 1) (by decide)]; exact g6 k hk
        · rw [k6 (17 + 2) (by decide)]; exact g7 k hk
        · rw [k6 (17 + 3) (by decide)]; exact g8 k hk
        · rw [Nat.zero_add, k4 k hk, e169]
      · have hpj := I.pm.1 j (by omega)
        refine (I.rows j (by omega)).same hT (fun q q1 q2 => by rw [k6 q (by omega), g4 q (by omega) (by omega)]) (fun k hk => by rw [k5 _ (by omega), e169])
theorem imgR.same2 {C T : Nat} {hi b : svH} {p im : Nat} (h : imgR C T hi p im) (hT : T ≤ 8) (e : ∀ q, p ≤ q → q ≤ p + 46 → b q = hi q) (e170 : ∀ i, 298 * im ≤ i → i < 298 * im + 298 → b 170 i = hi 170 i) (e171 : b 171 im = hi 171 im) : imgR C T b p im := by
  obtain ⟨h1, h2, h3⟩ := h
  refine ⟨by rw [e (p + 5) (by omega) (by omega)]; exact h1, by rw [e p (by omega) (by omega), e171]; exact h2, fun h0 => ?_⟩
  rw [e p (by omega) (by omega)] at h0
  obtain ⟨g1, g2, g3⟩ := h3 h0
  rw [e (p + 5) (by omega) (by omega)]
  refine ⟨g1.same hT (fun q q1 q2 => e q (by omega) (by omega)) (fun k hk => e170 _ (by omega) (by omega)), by rw [e170 _ (by omega) (by omega)]; exact g2, fun K hK eK j hj => (g3 K hK eK j hj).same hT (fun q q1 q2 => e q (by omega) (by omega)) (fun k hk => e170 _ (by omega) (by omega))⟩
theorem imgOf_n {x : Int32} {im : Nat} (him : im < 2) (hx : x = nI im) : imgOf x = some (70 + 47 * im) := by
  rcases (show im = 0 ∨ im = 1 by omega) with rfl | rfl
  · subst hx; rfl
  · subst hx; rfl
theorem imgOf_no {x : Int32} (h : ¬ (0 ≤ x ∧ x < 2)) : imgOf x = none := by
  unfold imgOf
  rw [if_neg (fun q => h (by rw [q]; decide)), if_neg (fun q => h (by rw [q]; decide))]
theorem Inv.img {hi : svH} {hl : svL} {tw dr : Nat} {pm : Nat → Nat} {C L T Gn K N X : Nat} (I : Inv hi hl tw dr pm C L T Gn K N X) {im : Nat} (him : im < 2) : imgR C T hi (70 + 47 * im) im := by
  rcases (show im = 0 ∨ im = 1 by omega) with rfl | rfl
  · exact I.im0
  · exact I.im1
theorem same_keep {hi : svH} {hl : svL} {tw dr : Nat} {pm : Nat → Nat} {C L T Gn K N X : Nat} (I : Inv hi hl tw dr pm C L T Gn K N X) {x : Int32} {r r2 : Int32} {a b : svH} {hb hb2 : svL} {c c2 : svR} (h1 : (imgOf x = none ∧ r = -1 ∧ hi = a ∧ hl = hb ∧ sv_hr tw dr pm = c) ∨ (∃ im, imgOf x = some im ∧ r = hi 17 0 ∧ a im 0 = 1 ∧ dy hi a 17 (im + 1) ∧ a (im + 5) 0 = nI K ∧ (∀ j, j < K → dy hi a (pm j) (im + 7 + 4 * j)) ∧ (∀ q, q < im ∨ im + 46 < q → a q = hi q) ∧ hl = hb ∧ sv_hr tw dr pm = c)) (h2 : (¬ (0 ≤ x ∧ x < 2) ∧ r2 = -1 ∧ a = b ∧ hb = hb2 ∧ c = c2) ∨ (∃ im, im < 2 ∧ x = nI im ∧ r2 = a 169 0 ∧ (∀ k, k < 298 → b 170 (298 * im + k) = a 169 k) ∧ (∀ i, i < 298 * im ∨ 298 * im + 298 ≤ i → b 170 i = a 170 i) ∧ b 171 = upd (a 171) im 1 ∧ (∀ q, q ≠ 170 → q ≠ 171 → b q = a q) ∧ hb = hb2 ∧ c = c2)) : r = r2 ∧ ∃ pm' K', c2 = sv_hr tw dr pm' ∧ Inv b hb2 tw dr pm' C L T Gn K' N X := by
  have hT := I.hT
  have htw := I.tw
  have hK := I.K10
  rcases h2 with ⟨k1, k2, rfl, rfl, rfl⟩ | ⟨im, him, hx, k2, k3, k4, k5, k6, rfl, rfl⟩
  · rcases h1 with ⟨g1, g2, rfl, rfl, rfl⟩ | ⟨p, g1, _⟩
    · exact ⟨by rw [g2, k2], pm, K, rfl, I⟩
    · rw [imgOf_no k1] at g1; cases g1
  · have ei := imgOf_n him hx
    rcases h1 with ⟨g1, _⟩ | ⟨p, g1, g2, g3, g4, g5, g6, g7, rfl, rfl⟩
    · rw [ei] at g1; cases g1
    · rw [ei] at g1
      obtain rfl : 70 + 47 * im = p := Option.some.inj g1
      have e169 : a 169 = hi 169 := g7 169 (by omega)
      have e170 : a 170 = hi 170 := g7 170 (by omega)
      have e171 : a 171 = hi 171 := g7 171 (by omega)
      rw [e169] at k2 k3
      rw [e170] at k4
      rw [e171] at k5
      have E : ∀ q, q < 70 + 47 * im ∨ (70 + 47 * im + 46 < q ∧ q ≠ 170 ∧ q ≠ 171) → b q = hi q := fun q hq => by rw [k6 q (by omega) (by omega), g7 q (by omega)]
      have hnew : imgR C T b (70 + 47 * im) im := by
        refine ⟨⟨K, hK, by rw [k6 _ (by omega) (by omega)]; exact g5⟩, ?_, fun _ => ⟨?_, ?_, fun K2 hK2 eK2 j hj => ?_⟩⟩
        · rw [k6 _ (by omega) (by omega), g3, k5, us3]
        · refine I.day.move hT (fun k hk => ?_) (fun k hk => ?_) (fun k hk => ?_) (fun k hk => ?_) (fun k hk => ?_)
          · rw [k6 _ (by omega) (by omega)]; exact g4.1 k hk
          · rw [k6 _ (by omega) (by omega)]; exact g4.2.1 k hk
          · rw [k6 _ (by omega) (by omega)]; exact g4.2.2.1 k hk
          · rw [k6 _ (by omega) (by omega)]; exact g4.2.2.2 k hk
          · rw [k3 k (by omega), Nat.zero_add]
        · rw [k3 27 (by decide), k6 _ (by omega) (by omega), g5]; exact I.mK
        · rw [k6 _ (by omega) (by omega), g5, nI_eq (by omega) (by omega)] at eK2
          subst eK2
          have hd := g6 j hj
          refine (I.rows j hj).move hT (fun k hk => ?_) (fun k hk => ?_) (fun k hk => ?_) (fun k hk => ?_) (fun k hk => ?_)
          · rw [k6 _ (by omega) (by omega)]; exact hd.1 k hk
          · rw [k6 _ (by omega) (by omega)]; exact hd.2.1 k hk
          · rw [k6 _ (by omega) (by omega)]; exact hd.2.2.1 k hk
          · rw [k6 _ (by omega) (by omega)]; exact hd.2.2.2 k hk
          · rw [show 298 * im + (28 + 27 * j) + k = 298 * im + (28 + 27 * j + k) by omega, k3 _ (by omega)]
      have hold : ∀ i, i < 2 → imgR C T b (70 + 47 * i) i := fun i hi2 => by
        by_cases e : i = im
        · rw [e]; exact hnew
        · exact (I.img hi2).same2 hT (fun q q1 q2 => E q (by omega)) (fun k h1 h2 => k4 k (by omega)) (by rw [k5, un3 e])
      refine ⟨by rw [g2, k2]; exact I.day.to0.1, pm, K, rfl, ?_⟩
      refine ⟨?_, ?_, I.ed, I.ne, I.pm, ?_, ?_, ?_, ?_, ?_, I.K10, ?_, ?_, ?_, hold 0 (by decide), hold 1 (by decide), I.N4, ?_, ?_, ?_, ?_, I.X120, ?_, ?_, ?_, I.trace⟩
      · refine I.x.frame (fun q h => E q (by omega)) (by rw [E 20 (by omega)]; exact I.x.2.2.2.2.2.2.2.2.2.2.2.2.2)
      · exact I.m.frame (fun k _ => by rw [E 164 (by omega)]) (E 167 (by omega)) (E 168 (by omega)) (by rw [E 169 (by omega)]; exact I.mlik)
      · rw [E (tw + 2) (by omega), E 165 (by omega)]; exact I.crowds
      · rw [E (tw + 4) (by omega), E 166 (by omega)]; exact I.people
      · rw [E (tw + 5) (by omega), E 167 (by omega)]; exact I.firsts
      · rw [E (tw + 6) (by omega), E 168 (by omega)]; exact I.seconds
      · exact I.day.same hT (fun q h1 h2 => E q (by omega)) (fun k _ => by rw [E 169 (by omega)])
      · rw [E 21 (by omega)]; exact I.xK
      · rw [E 169 (by omega)]; exact I.mK
      · exact fun j hj => (I.rows j hj).same hT (fun q h1 h2 => by have := I.pm.1 j (by omega); exact E q (by omega)) (fun k _ => by rw [E 169 (by omega)])
      · rw [E 66 (by omega)]; exact I.xN
      · rw [E 164 (by omega)]; exact I.mN
      · rw [E 67 (by omega), E 172 (by omega)]; exact I.chosen
      · rw [E 68 (by omega), E 172 (by omega)]; exact I.other
      · rw [E 15 (by omega)]; exact I.xX
      · rw [E 164 (by omega)]; exact I.mX
      · rw [E 16 (by omega), E 173 (by omega)]; exact I.bytes
theorem same_back {hi : svH} {hl : svL} {tw dr : Nat} {pm : Nat → Nat} {C L T Gn K N X : Nat} (I : Inv hi hl tw dr pm C L T Gn K N X) {x : Int32} {r r2 : Int32} {a b : svH} {hb hb2 : svL} {c c2 : svR} (h1 : (imgOf x = none ∧ r = -1 ∧ hi = a ∧ hl = hb ∧ sv_hr tw dr pm = c) ∨ (∃ im, imgOf x = some im ∧ hi im 0 = 0 ∧ r = -2 ∧ hi = a ∧ hl = hb ∧ sv_hr tw dr pm = c) ∨ (∃ im, imgOf x = some im ∧ ¬ hi im 0 = 0 ∧ r = hi (im + 1) 0 ∧ dy hi a (im + 1) 17 ∧ (∀ K, K ≤ 10 → hi (im + 5) 0 = nI K → a 21 0 = nI K ∧ ∀ j, j < K → dy hi a (im + 7 + 4 * j) (pm j)) ∧ (∀ q, q < 17 ∨ 62 < q → a q = hi q) ∧ hl = hb ∧ sv_hr tw dr pm = c)) (h2 : (¬ (0 ≤ x ∧ x < 2) ∧ r2 = -1 ∧ a = b ∧ hb = hb2 ∧ c = c2) ∨ (∃ im, im < 2 ∧ x = nI im ∧ a 171 im = 0 ∧ r2 = -2 ∧ a = b ∧ hb = hb2 ∧ c = c2) ∨ (∃ im, im < 2 ∧ x = nI im ∧ ¬ a 171 im = 0 ∧ r2 = a 170 (298 * im) ∧ (∀ k, k < 298 → b 169 k = a 170 (298 * im + k)) ∧ (∀ q, q ≠ 169 → b q = a q) ∧ hb = hb2 ∧ c = c2)) : r = r2 ∧ ∃ pm' K', c2 = sv_hr tw dr pm' ∧ Inv b hb2 tw dr pm' C L T Gn K' N X := by
  have hT := I.hT
  rcases h2 with ⟨k1, k2, rfl, rfl, rfl⟩ | ⟨im, him, hx, k1, k2, rfl, rfl, rfl⟩ | ⟨im, him, hx, k1, k2, k3, k4, rfl, rfl⟩
  · rcases h1 with ⟨g1, g2, rfl, rfl, rfl⟩ | ⟨p, g1, _⟩ | ⟨p, g1, _⟩
    · exact ⟨by rw [g2, k2], pm, K, rfl, I⟩
    · rw [imgOf_no k1] at g1; cases g1
    · rw [imgOf_no k1] at g1; cases g1
  · have ei := imgOf_n him hx
    rcases h1 with ⟨g1, _⟩ | ⟨p, g1, g2, g3, rfl, rfl, rfl⟩ | ⟨p, g1, g2, g3, g4, g5, g6, rfl, rfl⟩
    · rw [ei] at g1; cases g1
    · exact ⟨by rw [g3, k2], pm, K, rfl, I⟩
    · rw [ei] at g1
      obtain rfl : 70 + 47 * im = p := Option.some.inj g1
      exact absurd ((I.img him).2.1.mpr (by rw [← g6 171 (by omega)]; exact k1)) g2
  · have ei := imgOf_n him hx
    rcases h1 with ⟨g1, _⟩ | ⟨p, g1, g2, g3, rfl, rfl, rfl⟩ | ⟨p, g1, g2, g3, g4, g5, g6, rfl, rfl⟩
    · rw [ei] at g1; cases g1
    · rw [ei] at g1
      obtain rfl : 70 + 47 * im = p := Option.some.inj g1
      exact absurd ((I.img him).2.1.mp g2) k1
    · rw [ei] at g1
      obtain rfl : 70 + 47 * im = p := Option.some.inj g1
      obtain ⟨⟨K', hK', eK'⟩, _, h3⟩ := I.img him
      obtain ⟨q1, q2, q3⟩ := h3 g2
      obtain ⟨f1, f2⟩ := g5 K' hK' eK'
      have e170 : a 170 = hi 170 := g6 170 (by omega)
      rw [e170] at k2 k3
      refine ⟨by rw [g3, k2]; exact q1.1, pm, K', rfl, I.past (fun q hq => by rw [k4 q (by omega), g6 q (by omega)]) hK' (by rw [k4 21 (by decide)]; exact f1) (by rw [k3 27 (by decide), q2]; exact eK') I.pm ?_ (fun j hj => ?_)⟩
      · refine q1.move hT (fun k hk => ?_) (fun k hk => ?_) (fun k hk => ?_) (fun k hk => ?_) (fun k hk => ?_)
        · rw [k4 _ (by omega)]; exact g4.1 k hk
        · rw [k4 _ (by omega)]; exact g4.2.1 k hk
        · rw [k4 _ (by omega)]; exact g4.2.2.1 k hk
        · rw [k4 _ (by omega)]; exact g4.2.2.2 k hk
        · rw [Nat.zero_add, k3 k (by omega)]
      · have hpj := I.pm.1 j (by omega)
        have hd := f2 j hj
        refine (q3 K' hK' eK' j hj).move hT (fun k hk => ?_) (fun k hk => ?_) (fun k hk => ?_) (fun k hk => ?_) (fun k hk => ?_)
        · rw [k4 _ (by omega)]; exact hd.1 k hk
        · rw [k4 _ (by omega)]; exact hd.2.1 k hk
        · rw [k4 _ (by omega)]; exact hd.2.2.1 k hk
        · rw [k4 _ (by omega)]; exact hd.2.2.2 k hk
        · rw [k3 _ (by omega)]; congr 1; omega
