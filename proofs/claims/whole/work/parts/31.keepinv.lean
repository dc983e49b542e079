def dayF (C T : Nat) (f0 f1 f2 f3 : Nat → Int32) (g : Nat → Int32) (o : Nat) : Prop := f0 0 = g o ∧ f0 1 = g (o + 1) ∧ f0 2 = g (o + 2) ∧ f0 3 = g (o + 25) ∧ f0 4 = g (o + 26) ∧ (∀ k, k < 6 → f1 k = g (o + (3 + k))) ∧ (∀ t, t < T → f2 t = g (o + (9 + t))) ∧ (∀ t, t < T → f3 t = g (o + (17 + t))) ∧
  (∃ h, h ≤ 24 ∧ f0 0 = nI h) ∧ (∃ b, b ≤ 20 ∧ f0 1 = nI b) ∧ (f0 2 = 0 ∨ f0 2 = 1) ∧ (∀ t, T ≤ t → t < 32 → bt (f0 3) t = false) ∧ (∀ t, t < T → ∃ h, h ≤ 23 ∧ f2 t = nI h) ∧ ∀ t, t < T → ∃ j, j < C ∧ f3 t = nI j
theorem dayR_F {C T : Nat} {hi : svH} {s : Nat} {g : Nat → Int32} {o : Nat} : dayR C T hi s g o ↔ dayF C T (hi s) (hi (s + 1)) (hi (s + 2)) (hi (s + 3)) g o := Iff.rfl
theorem dayR.move {C T : Nat} {hi b : svH} {s s' : Nat} {g g' : Nat → Int32} {o o' : Nat} (h : dayR C T hi s g o) (hT : T ≤ 8) (e0 : ∀ k, k < 5 → b s' k = hi s k) (e1 : ∀ k, k < 6 → b (s' + 1) k = hi (s + 1) k) (e2 : ∀ k, k < 8 → b (s' + 2) k = hi (s + 2) k) (e3 : ∀ k, k < 8 → b (s' + 3) k = hi (s + 3) k) (eg : ∀ k, k < 27 → g' (o' + k) = g (o + k)) : dayR C T b s' g' o' := by
  obtain ⟨a0, a1, a2, a3, a4, a5, a6, a7, b0, b1, b2, b3, b4, b5⟩ := h
  have g0 : g' o' = g o := eg 0 (by decide)
  refine ⟨?_, ?_, ?_, ?_, ?_, fun k hk => ?_, fun t ht => ?_, fun t ht => ?_, ?_, ?_, ?_, fun t h1 h2 => ?_, fun t ht => ?_, fun t ht => ?_⟩
  · rw [e0 0 (by decide), g0]; exact a0
  · rw [e0 1 (by decide), eg 1 (by decide)]; exact a1
  · rw [e0 2 (by decide), eg 2 (by decide)]; exact a2
  · rw [e0 3 (by decide), eg 25 (by decide)]; exact a3
  · rw [e0 4 (by decide), eg 26 (by decide)]; exact a4
  · rw [e1 k hk, eg _ (by omega)]; exact a5 k hk
  · rw [e2 t (by omega), eg _ (by omega)]; exact a6 t ht
  · rw [e3 t (by omega), eg _ (by omega)]; exact a7 t ht
  · rw [e0 0 (by decide)]; exact b0
  · rw [e0 1 (by decide)]; exact b1
  · rw [e0 2 (by decide)]; exact b2
  · rw [e0 3 (by decide)]; exact b3 t h1 h2
  · rw [e2 t (by omega)]; exact b4 t ht
  · rw [e3 t (by omega)]; exact b5 t ht
theorem dayR.same {C T : Nat} {hi b : svH} {s : Nat} {g g' : Nat → Int32} {o : Nat} (h : dayR C T hi s g o) (hT : T ≤ 8) (e : ∀ q, s ≤ q → q ≤ s + 3 → b q = hi q) (eg : ∀ k, k < 27 → g' (o + k) = g (o + k)) : dayR C T b s g' o :=
  h.move hT (fun k _ => by rw [e s (by omega) (by omega)]) (fun k _ => by rw [e (s + 1) (by omega) (by omega)]) (fun k _ => by rw [e (s + 2) (by omega) (by omega)]) (fun k _ => by rw [e (s + 3) (by omega) (by omega)]) eg
theorem imgR.same {C T : Nat} {hi b : svH} {p im : Nat} (h : imgR C T hi p im) (hT : T ≤ 8) (e : ∀ q, p ≤ q → q ≤ p + 46 → b q = hi q) (e170 : b 170 = hi 170) (e171 : b 171 = hi 171) : imgR C T b p im := by
  obtain ⟨h1, h2, h3⟩ := h
  refine ⟨by rw [e (p + 5) (by omega) (by omega)]; exact h1, by rw [e p (by omega) (by omega), e171]; exact h2, fun h0 => ?_⟩
  rw [e p (by omega) (by omega)] at h0
  obtain ⟨g1, g2, g3⟩ := h3 h0
  rw [e (p + 5) (by omega) (by omega), e170]
  refine ⟨g1.same hT (fun q q1 q2 => e q (by omega) (by omega)) (fun _ _ => rfl), g2, fun K hK eK j hj => (g3 K hK eK j hj).same hT (fun q q1 q2 => e q (by omega) (by omega)) (fun _ _ => rfl)⟩
theorem xT.frame {hi b : svH} {tw C L T Gn : Nat} (h : xT hi tw C L T Gn) (e : ∀ q, q < 15 → b q = hi q) (h20 : ∀ t, t < T → ∃ j, j < C ∧ b 20 t = nI j) : xT b tw C L T Gn := by
  obtain ⟨h0, h1, h2, h3, h4, h5, h6, h7, h8, h9, h10, h11, h12, h13⟩ := h
  have := sv_tw h0
  refine ⟨h0, ?_, ?_, ?_, ?_, h5, h6, h7, h8, h9, h10, ?_, ?_, h20⟩
  · rw [e tw (by omega)]; exact h1
  · rw [e tw (by omega)]; exact h2
  · rw [e tw (by omega)]; exact h3
  · rw [e tw (by omega)]; exact h4
  · rw [e (tw + 5) (by omega)]; exact h11
  · rw [e (tw + 6) (by omega)]; exact h12
theorem mT.frame {hi b : svH} {C L T Gn : Nat} (h : mT hi C L T Gn) (e4 : ∀ k, k < 5 → b 164 k = hi 164 k) (e7 : b 167 = hi 167) (e8 : b 168 = hi 168) (h20 : ∀ t, t < T → ∃ j, j < C ∧ b 169 (17 + t) = nI j) : mT b C L T Gn := by
  obtain ⟨h1, h2, h3, h4, h5, h6, h7, h8, h9, h10, h11, h12, h13⟩ := h
  refine ⟨?_, ?_, ?_, ?_, h5, h6, h7, h8, h9, h10, ?_, ?_, h20⟩
  · rw [e4 0 (by decide)]; exact h1
  · rw [e4 1 (by decide)]; exact h2
  · rw [e4 2 (by decide)]; exact h3
  · rw [e4 4 (by decide)]; exact h4
  · rw [e7]; exact h11
  · rw [e8]; exact h12
theorem Inv.hT {hi : svH} {hl : svL} {tw dr : Nat} {pm : Nat → Nat} {C L T Gn K N X : Nat} (I : Inv hi hl tw dr pm C L T Gn K N X) : T ≤ 8 := I.x.2.2.2.2.2.2.2.2.2.1
theorem Inv.tw {hi : svH} {hl : svL} {tw dr : Nat} {pm : Nat → Nat} {C L T Gn K N X : Nat} (I : Inv hi hl tw dr pm C L T Gn K N X) : tw = 1 ∨ tw = 8 := sv_tw I.x.1
theorem Inv.mlik {hi : svH} {hl : svL} {tw dr : Nat} {pm : Nat → Nat} {C L T Gn K N X : Nat} (I : Inv hi hl tw dr pm C L T Gn K N X) : ∀ t, t < T → ∃ j, j < C ∧ hi 169 (17 + t) = nI j := I.m.2.2.2.2.2.2.2.2.2.2.2.2
theorem Inv.read {hi : svH} {hl : svL} {tw dr : Nat} {pm : Nat → Nat} {C L T Gn K N X : Nat} (I : Inv hi hl tw dr pm C L T Gn K N X) {b : svH} {hl' : svL} (e : ∀ q, q ≠ 64 → q ≠ 65 → q ≠ 66 → q ≠ 69 → q ≠ 180 → q ≠ 181 → b q = hi q) (e66 : b 66 0 = hi 66 0) (et : hl' 0 9 = hl' 164 13) : Inv b hl' tw dr pm C L T Gn K N X := by
  have htw := I.tw
  have hT := I.hT
  have E : ∀ q, q < 64 ∨ (69 < q ∧ q < 180) ∨ q = 67 ∨ q = 68 → b q = hi q := fun q h => e q (by omega) (by omega) (by omega) (by omega) (by omega) (by omega)
  refine ⟨?_, ?_, I.ed, I.ne, I.pm, ?_, ?_, ?_, ?_, ?_, I.K10, ?_, ?_, ?_, ?_, ?_, I.N4, ?_, ?_, ?_, ?_, I.X120, ?_, ?_, ?_, et⟩
  · refine I.x.frame (fun q h => E q (by omega)) (by rw [E 20 (by omega)]; exact I.x.2.2.2.2.2.2.2.2.2.2.2.2.2)
  · exact I.m.frame (fun k _ => by rw [E 164 (by omega)]) (E 167 (by omega)) (E 168 (by omega)) (by rw [E 169 (by omega)]; exact I.mlik)
  · rw [E (tw + 2) (by omega), E 165 (by omega)]; exact I.crowds
  · rw [E (tw + 4) (by omega), E 166 (by omega)]; exact I.people
  · rw [E (tw + 5) (by omega), E 167 (by omega)]; exact I.firsts
  · rw [E (tw + 6) (by omega), E 168 (by omega)]; exact I.seconds
  · exact I.day.same hT (fun q h1 h2 => E q (by omega)) (fun k _ => by rw [E 169 (by omega)])
  · rw [E 21 (by omega)]; exact I.xK
  · rw [E 169 (by omega)]; exact I.mK
  · exact fun j hj => (I.rows j hj).same hT (fun q h1 h2 => by have := I.pm.1 j (by have := I.K10; omega); exact E q (by omega)) (fun k _ => by rw [E 169 (by omega)])
  · exact I.im0.same hT (fun q h1 h2 => E q (by omega)) (E 170 (by omega)) (E 171 (by omega))
  · exact I.im1.same hT (fun q h1 h2 => E q (by omega)) (E 170 (by omega)) (E 171 (by omega))
  · rw [e66]; exact I.xN
  · rw [E 164 (by omega)]; exact I.mN
  · rw [E 67 (by omega), E 172 (by omega)]; exact I.chosen
  · rw [E 68 (by omega), E 172 (by omega)]; exact I.other
  · rw [E 15 (by omega)]; exact I.xX
  · rw [E 164 (by omega)]; exact I.mX
  · rw [E 16 (by omega), E 173 (by omega)]; exact I.bytes
theorem xDeed.off {hi a : svH} {tw dr : Nat} {pm : Nat → Nat} {K : Nat} {c : svR} {d17 d18 d19 d20 : Nat → Int32} (h : xDeed hi a tw dr pm K c d17 d18 d19 d20) {q : Nat} (hq : q < 17 ∨ 62 < q) : a q = hi q := by
  obtain ⟨pm', n, h1, h2, h3, h4, h5, _⟩ := h
  have := h2.1 n (by omega)
  exact h5 q (by omega) (by omega) (by omega)
theorem Inv.deed {hi : svH} {hl : svL} {tw dr : Nat} {pm : Nat → Nat} {C L T Gn K N X : Nat} (I : Inv hi hl tw dr pm C L T Gn K N X) {a b : svH} {c : svR} {d17 d18 d19 d20 d : Nat → Int32} (hx : xDeed hi a tw dr pm K c d17 d18 d19 d20) (hm : mDeed a b K d) (hd : dayF C T d17 d18 d19 d20 d 0) : ∃ pm' K', c = sv_hr tw dr pm' ∧ Inv b hl tw dr pm' C L T Gn K' N X := by
  have htw := I.tw
  have hT := I.hT
  have hK := I.K10
  obtain ⟨n', dd, k1, k2, k3, k4, k5, k6, k7, k8⟩ := hm
  have EA : ∀ q, q < 17 ∨ 62 < q → a q = hi q := fun q hq => hx.off hq
  have E : ∀ q, q < 17 ∨ (62 < q ∧ q ≠ 169) → b q = hi q := fun q hq => by rw [k8 q (by omega), EA q (by omega)]
  obtain ⟨pm', n, h1, h2, h3, h4, h5, r0, r1, r2, r3, c17, c18, c19, c20, hc⟩ := hx
  have hn : n' = n := by omega
  subst hn
  have e169 := EA 169 (by omega)
  refine ⟨pm', n' + 1, hc.symm, ?_⟩
  have hpn := h2.1 n' (by omega)
  have hday : dayR C T b 17 (b 169) 0 := by
    obtain ⟨a0, a1, a2, a3, a4, a5, a6, a7, b0⟩ := hd
    rw [dayR_F, k8 17 (by decide), k8 (17 + 1) (by decide), k8 (17 + 2) (by decide), k8 (17 + 3) (by decide), c17, c18, c19, c20]
    refine ⟨?_, ?_, ?_, ?_, ?_, fun k hk => ?_, fun t ht => ?_, fun t ht => ?_, b0⟩
    · rw [k5 0 (by decide)]; exact a0
    · rw [k5 (0 + 1) (by decide)]; exact a1
    · rw [k5 (0 + 2) (by decide)]; exact a2
    · rw [k5 (0 + 25) (by decide)]; exact a3
    · rw [k5 (0 + 26) (by decide)]; exact a4
    · rw [k5 _ (by omega)]; exact a5 k hk
    · rw [k5 _ (by omega)]; exact a6 t ht
    · rw [k5 _ (by omega)]; exact a7 t ht
  have hl20 : ∀ t, t < T → ∃ j, j < C ∧ b 20 t = nI j := hday.2.2.2.2.2.2.2.2.2.2.2.2.2
  refine ⟨?_, ?_, I.ed, I.ne, h2, ?_, ?_, ?_, ?_, hday, by omega, ?_, k4, fun j hj => ?_, ?_, ?_, I.N4, ?_, ?_, ?_, ?_, I.X120, ?_, ?_, ?_, I.trace⟩
  · exact I.x.frame (fun q h => E q (by omega)) hl20
  · refine I.m.frame (fun k _ => by rw [E 164 (by omega)]) (E 167 (by omega)) (E 168 (by omega)) (fun t ht => ?_)
    have e := hday.to0.2.2.2.2.2.2.2 t ht
    obtain ⟨j, hj, ej⟩ := hl20 t ht
    exact ⟨j, hj, by rw [← e]; exact ej⟩
  · rw [E (tw + 2) (by omega), E 165 (by omega)]; exact I.crowds
  · rw [E (tw + 4) (by omega), E 166 (by omega)]; exact I.people
  · rw [E (tw + 5) (by omega), E 167 (by omega)]; exact I.firsts
  · rw [E (tw + 6) (by omega), E 168 (by omega)]; exact I.seconds
  · rw [k8 21 (by decide)]; exact h4
  · by_cases ej : j = n'
    · subst ej
      refine I.day.move hT (fun k hk => ?_) (fun k hk => ?_) (fun k hk => ?_) (fun k hk => ?_) (fun k hk => ?_)
      · rw [k8 _ (by omega)]; exact r0 k hk
      · rw [k8 _ (by omega)]; exact r1 k hk
      · rw [k8 _ (by omega)]; exact r2 k hk
      · rw [k8 _ (by omega)]; exact r3 k hk
      · rw [k6 k hk, e169, Nat.zero_add]
    · have hjn : j < n' := by omega
      have hpj := h2.1 j (by omega)
      have hne := h2.2 j n' (by omega) (by omega) ej
      have hsrc : pm' j = pm (j + dd) := by
        rcases h3 with ⟨g1, g2⟩ | ⟨g1, g2, g3⟩
        · rw [g2, show dd = 0 by omega]; rfl
        · rw [g3.1 j (by omega), show dd = 1 by omega]
      have hB : ∀ q, pm' j ≤ q → q ≤ pm' j + 3 → b q = hi q := fun q q1 q2 => by rw [k8 q (by omega)]; exact h5 q (by omega) (by omega) (by omega)
      refine (I.rows (j + dd) (by omega)).move hT (fun k hk => ?_) (fun k hk => ?_) (fun k hk => ?_) (fun k hk => ?_) (fun k hk => ?_)
      · rw [hB _ (by omega) (by omega), hsrc]
      · rw [hB _ (by omega) (by omega), hsrc]
      · rw [hB _ (by omega) (by omega), hsrc]
      · rw [hB _ (by omega) (by omega), hsrc]
      · rw [k7 j hjn k hk, e169]
  · exact I.im0.same hT (fun q h1 h2 => E q (by omega)) (E 170 (by omega)) (E 171 (by omega))
  · exact I.im1.same hT (fun q h1 h2 => E q (by omega)) (E 170 (by omega)) (E 171 (by omega))
  · rw [E 66 (by omega)]; exact I.xN
  · rw [E 164 (by omega)]; exact I.mN
  · rw [E 67 (by omega), E 172 (by omega)]; exact I.chosen
  · rw [E 68 (by omega), E 172 (by omega)]; exact I.other
  · rw [E 15 (by omega)]; exact I.xX
  · rw [E 164 (by omega)]; exact I.mX
  · rw [E 16 (by omega), E 173 (by omega)]; exact I.bytes
