theorem Inv.td {hi : svH} {hl : svL} {tw dr : Nat} {pm : Nat → Nat} {C L T Gn K N X : Nat} (I : Inv hi hl tw dr pm C L T Gn K N X) : (tw = 1 ∧ dr = 8) ∨ (tw = 8 ∧ dr = 1) := by
  have h1 := sv_tw I.x.1
  have h2 := sv_tw I.ed
  have h3 := I.ne
  omega
/-- a text that was faulty has changed nothing that shows -/
theorem Inv.told {hi : svH} {hl : svL} {tw dr : Nat} {pm : Nat → Nat} {C L T Gn K N X : Nat} (I : Inv hi hl tw dr pm C L T Gn K N X) {b : svH} (E : ∀ q, q ≠ 15 → q ≠ 164 → (q < dr ∨ dr + 6 < q) → q < 174 → b q = hi q) (e15 : b 15 0 = hi 15 0) (e4 : ∀ k, k < 16 → b 164 k = hi 164 k) : Inv b hl tw dr pm C L T Gn K N X := by
  have td := I.td
  have hT := I.hT
  obtain ⟨h0, h1, h2, h3, h4, h5, h6, h7, h8, h9, h10, h11, h12, h13⟩ := I.x
  refine ⟨⟨h0, ?_, ?_, ?_, ?_, h5, h6, h7, h8, h9, h10, ?_, ?_, ?_⟩, ?_, I.ed, I.ne, I.pm, ?_, ?_, ?_, ?_, ?_, I.K10, ?_, ?_, ?_, ?_, ?_, I.N4, ?_, ?_, ?_, ?_, I.X120, ?_, ?_, ?_, I.trace⟩
  · rw [E tw (by omega) (by omega) (by omega) (by omega)]; exact h1
  · rw [E tw (by omega) (by omega) (by omega) (by omega)]; exact h2
  · rw [E tw (by omega) (by omega) (by omega) (by omega)]; exact h3
  · rw [E tw (by omega) (by omega) (by omega) (by omega)]; exact h4
  · rw [E (tw + 5) (by omega) (by omega) (by omega) (by omega)]; exact h11
  · rw [E (tw + 6) (by omega) (by omega) (by omega) (by omega)]; exact h12
  · rw [E 20 (by omega) (by omega) (by omega) (by omega)]; exact h13
  · exact I.m.frame (fun k hk => e4 k (by omega)) (E 167 (by omega) (by omega) (by omega) (by omega)) (E 168 (by omega) (by omega) (by omega) (by omega)) (by rw [E 169 (by omega) (by omega) (by omega) (by omega)]; exact I.mlik)
  · rw [E (tw + 2) (by omega) (by omega) (by omega) (by omega), E 165 (by omega) (by omega) (by omega) (by omega)]; exact I.crowds
  · rw [E (tw + 4) (by omega) (by omega) (by omega) (by omega), E 166 (by omega) (by omega) (by omega) (by omega)]; exact I.people
  · rw [E (tw + 5) (by omega) (by omega) (by omega) (by omega), E 167 (by omega) (by omega) (by omega) (by omega)]; exact I.firsts
  · rw [E (tw + 6) (by omega) (by omega) (by omega) (by omega), E 168 (by omega) (by omega) (by omega) (by omega)]; exact I.seconds
  · exact I.day.same hT (fun q h1 h2 => E q (by omega) (by omega) (by omega) (by omega)) (fun k _ => by rw [E 169 (by omega) (by omega) (by omega) (by omega)])
  · rw [E 21 (by omega) (by omega) (by omega) (by omega)]; exact I.xK
  · rw [E 169 (by omega) (by omega) (by omega) (by omega)]; exact I.mK
  · exact fun j hj => (I.rows j hj).same hT (fun q h1 h2 => by have := I.pm.1 j (by have := I.K10; omega); exact E q (by omega) (by omega) (by omega) (by omega)) (fun k _ => by rw [E 169 (by omega) (by omega) (by omega) (by omega)])
  · exact I.im0.same hT (fun q h1 h2 => E q (by omega) (by omega) (by omega) (by omega)) (E 170 (by omega) (by omega) (by omega) (by omega)) (E 171 (by omega) (by omega) (by omega) (by omega))
  · exact I.im1.same hT (fun q h1 h2 => E q (by omega) (by omega) (by omega) (by omega)) (E 170 (by omega) (by omega) (by omega) (by omega)) (E 171 (by omega) (by omega) (by omega) (by omega))
  · rw [E 66 (by omega) (by omega) (by omega) (by omega)]; exact I.xN
  · rw [e4 11 (by decide)]; exact I.mN
  · rw [E 67 (by omega) (by omega) (by omega) (by omega), E 172 (by omega) (by omega) (by omega) (by omega)]; exact I.chosen
  · rw [E 68 (by omega) (by omega) (by omega) (by omega), E 172 (by omega) (by omega) (by omega) (by omega)]; exact I.other
  · rw [e15]; exact I.xX
  · rw [e4 15 (by decide)]; exact I.mX
  · rw [E 16 (by omega) (by omega) (by omega) (by omega), E 173 (by omega) (by omega) (by omega) (by omega)]; exact I.bytes
/-- a text that was right: both have it, and nothing of what was before -/
theorem Inv.set {hi : svH} {hl : svL} {tw dr : Nat} {pm : Nat → Nat} {C L T Gn K N X : Nat} (I : Inv hi hl tw dr pm C L T Gn K N X) {a b g : svH} {D : svH} {T1 G1 : Nat} (hT8 : T1 < 2 ^ 31) (hG8 : G1 < 2 ^ 31) (hx : xSet hi a dr D) (hf : mFrI a g) (hm : dRel D (mCells g)) (hT1 : D 0 3 = nI T1) (hG1 : D 0 4 = nI G1) (hs : mSetR g b T1 G1) : ∃ C' L' T' Gn', Inv b hl dr tw pm C' L' T' Gn' 0 0 0 := by
  have td := I.td
  obtain ⟨hd, xE, x15, x17a, x17b, x17c, x17d, x17e, x18, x19, x20, x21, x66, x70, x117⟩ := hx
  obtain ⟨p1, C, L, B, T', G', g0, g1, g2, g3, g4, c1, c2, c3, c4, c5, c6, c7, ht, hg⟩ := hd
  obtain ⟨q1, C2, L2, B2, T2, G2, k0, k1, k2, k3, k4, d1, d2, d3, d4, d5, d6, d7, mt, mg⟩ := hm
  obtain rfl : C2 = C := (nI_eq (by omega) (by omega)).mp (k0.symm.trans g0)
  obtain rfl : L2 = L := (nI_eq (by omega) (by omega)).mp (k1.symm.trans g1)
  obtain rfl : B2 = B := (nI_eq (by omega) (by omega)).mp (k2.symm.trans g2)
  obtain rfl : T2 = T' := (nI_eq (by omega) (by omega)).mp (k3.symm.trans g3)
  obtain rfl : G2 = G' := (nI_eq (by omega) (by omega)).mp (k4.symm.trans g4)
  obtain rfl : T1 = T2 := (nI_eq (by omega) (by omega)).mp (hT1.symm.trans k3)
  obtain rfl : G1 = G2 := (nI_eq (by omega) (by omega)).mp (hG1.symm.trans k4)
  obtain ⟨sE, ⟨a0, a1, a2, a4, a16⟩, ⟨sb, s1, s0⟩, sc, s171, s171b, s11, s15⟩ := hs
  have bq : ∀ q, q < 164 ∨ q = 170 → b q = a q := fun q hq => (sE q (by omega)).trans (hf.1 q (by omega) (by omega))
  have bd : ∀ i, i < 7 → b (dr + i) = a (dr + i) := fun i hi2 => bq _ (by omega)
  have b0 : ∀ k, k < 5 → b dr k = D 0 k := fun k hk => by rw [bq dr (by omega)]; exact p1 k hk
  refine ⟨C2, L2, T1, G1, ⟨I.ed, ?_, ?_, ?_, ?_, c1, c2, c3, c4, c6, c7, fun r hr => ?_, fun r hr => ?_, fun t h2 => ?_⟩, ⟨?_, ?_, ?_, ?_, c1, c2, c3, c4, c6, c7, fun r hr => ?_, fun r hr => ?_, fun t h2 => ?_⟩, I.x.1, (Ne.symm I.ne), I.pm, fun t h2 => ?_, fun r hr => ?_, fun r hr => ?_, fun r hr => ?_, ⟨?_, ?_, ?_, ?_, ?_, fun k hk => ?_, fun t h2 => ?_, fun t h2 => ?_, ⟨0, by decide, ?_⟩, ⟨B2, c5, ?_⟩, Or.inl ?_, fun t h1 h2 => ?_, fun t h2 => ?_, fun t h2 => ?_⟩, by decide, ?_, ?_, fun j hj => by omega, ⟨?_, ?_, fun z => ?_⟩, ⟨?_, ?_, fun z => ?_⟩, by decide, ?_, s11, fun i hi2 => by omega, fun i hi2 => by omega, by decide, ?_, s15, fun i hi2 => by omega, I.trace⟩
  · exact (b0 0 (by decide)).trans g0
  · exact (b0 1 (by decide)).trans g1
  · exact (b0 3 (by decide)).trans g3
  · exact (b0 4 (by decide)).trans g4
  · rw [bd 5 (by decide)]; obtain ⟨e1, e2, e3, ⟨j, j1, j2⟩, _⟩ := hg r hr; exact ⟨j, j1, by rw [← j2]; exact e2⟩
  · rw [bd 6 (by decide)]; obtain ⟨e1, e2, e3, _, ⟨j, j1, j2⟩⟩ := hg r hr; exact ⟨j, j1, by rw [← j2]; exact e3⟩
  · rw [bq 20 (by decide), x20 t (by omega)]; obtain ⟨e1, e2, e3, _, ⟨j, j1, j2⟩⟩ := ht t h2; exact ⟨j, j1, by rw [← j2]; exact e3⟩
  · rw [a0]; exact (q1 0 (by decide)).trans k0
  · rw [a1]; exact (q1 1 (by decide)).trans k1
  · rw [a2]; exact (q1 3 (by decide)).trans k3
  · rw [a4]; exact (q1 4 (by decide)).trans k4
  · rw [(sc r hr).2.1]; obtain ⟨e1, e2, e3, ⟨j, j1, j2⟩, _⟩ := mg r hr; exact ⟨j, j1, by rw [← j2]; exact e2⟩
  · rw [(sc r hr).2.2]; obtain ⟨e1, e2, e3, _, ⟨j, j1, j2⟩⟩ := mg r hr; exact ⟨j, j1, by rw [← j2]; exact e3⟩
  · rw [(sb t h2).2.2]; obtain ⟨e1, e2, e3, _, ⟨j, j1, j2⟩⟩ := mt t h2; exact ⟨j, j1, by rw [← j2]; exact e3⟩
  · rw [bd 2 (by decide), (sb t h2).1]; exact (ht t h2).2.1.trans (mt t h2).2.1.symm
  · rw [bd 4 (by decide), (sc r hr).1]; exact (hg r hr).1.trans (mg r hr).1.symm
  · rw [bd 5 (by decide), (sc r hr).2.1]; exact (hg r hr).2.1.trans (mg r hr).2.1.symm
  · rw [bd 6 (by decide), (sc r hr).2.2]; exact (hg r hr).2.2.1.trans (mg r hr).2.2.1.symm
  · rw [bq 17 (by decide), x17a]; exact (s0 0 (by decide) (by decide) (by omega) (by omega)).symm
  · rw [bq 17 (by decide), x17b]; exact ((p1 2 (by decide)).trans (q1 2 (by decide)).symm).trans s1.symm
  · rw [bq 17 (by decide), x17c]; exact (s0 2 (by decide) (by decide) (by omega) (by omega)).symm
  · rw [bq 17 (by decide), x17d]; exact (s0 25 (by decide) (by decide) (by omega) (by omega)).symm
  · rw [bq 17 (by decide), x17e]; exact (s0 26 (by decide) (by decide) (by omega) (by omega)).symm
  · rw [bq 18 (by decide), x18 k hk, Nat.zero_add]; exact (s0 _ (by omega) (by omega) (by omega) (by omega)).symm
  · rw [bq 19 (by decide), x19 t (by omega), Nat.zero_add, (sb t h2).2.1]; exact (ht t h2).1.trans (mt t h2).1.symm
  · rw [bq 20 (by decide), x20 t (by omega), Nat.zero_add, (sb t h2).2.2]; exact (ht t h2).2.2.1.trans (mt t h2).2.2.1.symm
  · rw [bq 17 (by decide)]; exact x17a
  · rw [bq 17 (by decide), x17b, ← g2]; exact p1 2 (by decide)
  · rw [bq 17 (by decide)]; exact x17c
  · rw [bq 17 (by decide), x17d]; exact b_0 t
  · rw [bq 19 (by decide), x19 t (by omega)]; obtain ⟨e1, e2, e3, ⟨j, j1, j2⟩, _⟩ := ht t h2; exact ⟨j, j1, by rw [← j2]; exact e1⟩
  · rw [bq 20 (by decide), x20 t (by omega)]; obtain ⟨e1, e2, e3, _, ⟨j, j1, j2⟩⟩ := ht t h2; exact ⟨j, j1, by rw [← j2]; exact e3⟩
  · rw [bq 21 (by decide)]; exact x21
  · exact s0 27 (by decide) (by decide) (by omega) (by omega)
  · rw [bq 75 (by decide), xE 75 (by decide) (by decide) (by decide) (by decide) (by decide) (by decide) (by decide) (by decide) (by decide) (by omega)]; exact I.im0.1
  · rw [bq 70 (by decide)]; exact ⟨fun _ => s171, fun _ => x70⟩
  · rw [bq 70 (by decide)] at z; exact absurd x70 z
  · rw [bq 122 (by decide), xE 122 (by decide) (by decide) (by decide) (by decide) (by decide) (by decide) (by decide) (by decide) (by decide) (by omega)]; exact I.im1.1
  · rw [bq 117 (by decide)]; exact ⟨fun _ => s171b, fun _ => x117⟩
  · rw [bq 117 (by decide)] at z; exact absurd x117 z
  · rw [bq 66 (by decide)]; exact x66
  · rw [bq 15 (by decide)]; exact x15
def xTold (hi a : svH) (tw dr : Nat) (pm : Nat → Nat) (n : Nat) (r : Int32) (c : svR) : Prop := (∃ f, rdAll (hi 16) n 121 D0 0 0 = .inl f ∧ r = -10 - nI f ∧ (∀ q, q ≠ 15 → (q < dr ∨ dr + 6 < q) → a q = hi q) ∧ a 15 0 = hi 15 0 ∧ sv_hr tw dr pm = c) ∨ (∃ D' k, rdAll (hi 16) n 121 D0 0 0 = .inr (D', k) ∧ r = nI k ∧ xSet hi a dr D' ∧ sv_hr dr tw pm = c)
theorem told_hi {hi : svH} {hl : svL} {tw dr : Nat} {pm : Nat → Nat} {C L T Gn K N X : Nat} (I : Inv hi hl tw dr pm C L T Gn K N X) {a : svH} {r : Int32} {c : svR} (h : xTold hi a tw dr pm X r c) : ∀ q, 164 ≤ q → a q = hi q := by
  have td := I.td
  intro q hq
  rcases h with ⟨f, _, _, h, _⟩ | ⟨D', k, _, _, h, _⟩
  · exact h q (by omega) (by omega)
  · exact h.2.1 q (by omega) (by omega) (by omega) (by omega) (by omega) (by omega) (by omega) (by omega) (by omega) (by omega)
theorem same_town {hi : svH} {hl : svL} {tw dr : Nat} {pm : Nat → Nat} {C L T Gn K N X : Nat} (I : Inv hi hl tw dr pm C L T Gn K N X) {a b : svH} {r r2 : Int32} {c : svR} (hx : xTold hi a tw dr pm X r c) (hm : mEnd a b r2 (rdAll (a 173) X 121 D0 0 0)) : r = r2 ∧ ∃ tw' dr' C' L' T' Gn' K' N' X', c = sv_hr tw' dr' pm ∧ Inv b hl tw' dr' pm C' L' T' Gn' K' N' X' := by
  have e := told_hi I hx
  have td := I.td
  rw [e 173 (by decide), ← rdAll_c (fun q hq => (I.bytes q hq).1)] at hm
  rcases hx with ⟨f, h1, h2, h3, h4, h5⟩ | ⟨D', k, h1, h2, h3, h5⟩
  · rw [h1] at hm
    refine ⟨h2.trans hm.1.symm, tw, dr, C, L, T, Gn, K, N, X, h5.symm, I.told (fun q q1 q2 q3 q4 => ?_) ?_ (fun k hk => ?_)⟩
    · exact (hm.2.1 q q2 (Or.inl q4)).trans (h3 q q1 q3)
    · rw [hm.2.1 15 (by decide) (by decide)]; exact h4
    · rw [hm.2.2 k (by omega), e 164 (by decide)]
  · rw [h1] at hm
    obtain ⟨m1, g, T1, G1, m2, m3, m4, m5, m6, m7, m8⟩ := hm
    obtain ⟨C', L', T', Gn', hI⟩ := I.set (by omega) (by omega) h3 m2 m3 m4 m5 m8
    exact ⟨h2.trans m1.symm, dr, tw, C', L', T', Gn', 0, 0, 0, h5.symm, hI⟩
