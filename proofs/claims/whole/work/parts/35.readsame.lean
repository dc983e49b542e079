theorem Inv.rx {hi : svH} {hl : svL} {tw dr : Nat} {pm : Nat → Nat} {C L T Gn K N X : Nat} (I : Inv hi hl tw dr pm C L T Gn K N X) {a : svH} (i1 : ∀ q, q ≠ 64 → q ≠ 65 → a q = hi q) : Inv a hl tw dr pm C L T Gn K N X := I.read (fun q h1 h2 _ _ _ _ => i1 q h1 h2) (by rw [i1 66 (by decide) (by decide)]) I.trace
theorem Inv.rm {hi : svH} {hl : svL} {tw dr : Nat} {pm : Nat → Nat} {C L T Gn K N X : Nat} (I : Inv hi hl tw dr pm C L T Gn K N X) {a : svH} (i1 : ∀ q, q ≠ 180 → q ≠ 181 → a q = hi q) : Inv a hl tw dr pm C L T Gn K N X := I.read (fun q _ _ _ _ h1 h2 => i1 q h1 h2) (by rw [i1 66 (by decide) (by decide)]) I.trace
theorem Inv.rf {hi : svH} {hl : svL} {tw dr : Nat} {pm : Nat → Nat} {C L T Gn K N X : Nat} (I : Inv hi hl tw dr pm C L T Gn K N X) {a : svH} (i1 : ∀ q, q ≠ 66 → q ≠ 69 → a q = hi q) (i2 : ∀ k, k ≠ 1 → a 66 k = hi 66 k) : Inv a hl tw dr pm C L T Gn K N X := I.read (fun q _ _ h1 h2 _ _ => i1 q h1 h2) (i2 0 (by decide)) I.trace
theorem Inv.rl {hi : svH} {hl : svL} {tw dr : Nat} {pm : Nat → Nat} {C L T Gn K N X : Nat} (I : Inv hi hl tw dr pm C L T Gn K N X) {hb : svL} (h : hb 0 9 = hb 164 13) : Inv hi hb tw dr pm C L T Gn K N X := I.read (fun q _ _ _ _ _ _ => rfl) rfl h
theorem mSumM_f {hi a : svH} (F : ∀ q, 164 ≤ q → a q = hi q) (T : Nat) (s c z : Int32) : mSumM a T s c z = mSumM hi T s c z := by
  unfold mSumM
  rw [F 165 (by decide), F 169 (by decide)]
theorem mWinM_f {hi a : svH} (F : ∀ q, 164 ≤ q → a q = hi q) (C T Gn : Nat) (s c z : Int32) (m : Nat) : mWinM a C T Gn s c z m = mWinM hi C T Gn s c z m := by
  unfold mWinM
  rw [mSumM_f F, F 166 (by decide), F 167 (by decide), F 168 (by decide), F 169 (by decide)]
theorem pPow_f {hi a : svH} (F : ∀ q, 164 ≤ q → a q = hi q) (C L T Gn j : Nat) : pPow a C L T Gn j = pPow hi C L T Gn j := by
  funext s
  unfold pPow
  simp only [mWinM_f F, F 169 (by decide)]
theorem res_train {hi : svH} {hl : svL} {tw dr : Nat} {pm : Nat → Nat} {C L T Gn K N X : Nat} (I : Inv hi hl tw dr pm C L T Gn K N X) {a : svH} (F : ∀ q, 164 ≤ q → a q = hi q) (x what : Int32) : fTrain T (hi 19) (hi (tw + 2)) (hi 20) (hi 17 3) x what = fTrain T (fun t => a 169 (9 + t)) (a 165) (fun t => a 169 (17 + t)) (a 169 25) x what := by
  rw [e_train I x what]
  simp only [mSumM_f F, mWinM_f F, F 164 (by decide), F 165 (by decide), F 166 (by decide), F 167 (by decide), F 168 (by decide), F 169 (by decide)]
theorem res_group {hi : svH} {hl : svL} {tw dr : Nat} {pm : Nat → Nat} {C L T Gn K N X : Nat} (I : Inv hi hl tw dr pm C L T Gn K N X) {a : svH} (F : ∀ q, 164 ≤ q → a q = hi q) (x what : Int32) : fGroup Gn (hi (tw + 4)) (hi (tw + 5)) (hi (tw + 6)) (hi 17 4) x what = fGroup Gn (a 166) (a 167) (a 168) (a 169 26) x what := by
  rw [e_group I x what]
  simp only [mSumM_f F, mWinM_f F, F 164 (by decide), F 165 (by decide), F 166 (by decide), F 167 (by decide), F 168 (by decide), F 169 (by decide)]
theorem res_count {hi : svH} {hl : svL} {tw dr : Nat} {pm : Nat → Nat} {C L T Gn K N X : Nat} (I : Inv hi hl tw dr pm C L T Gn K N X) {a : svH} (F : ∀ q, 164 ≤ q → a q = hi q) (what : Int32) : fCount C L T Gn (hi 66 0) (hi 21 0) (hi 15 0) what = fCount C L T Gn (a 164 11) (a 169 27) (a 164 15) what := by
  rw [e_count I what]
  simp only [mSumM_f F, mWinM_f F, F 164 (by decide), F 165 (by decide), F 166 (by decide), F 167 (by decide), F 168 (by decide), F 169 (by decide)]
theorem res_now {hi : svH} {hl : svL} {tw dr : Nat} {pm : Nat → Nat} {C L T Gn K N X : Nat} (I : Inv hi hl tw dr pm C L T Gn K N X) {a : svH} (F : ∀ q, 164 ≤ q → a q = hi q) (what : Int32) : fNow (hi 17 0) (hi 17 1) (hi 17 2) (mLeft C (xSum hi tw T 0) L) (mLeft C (xSum hi tw T (mOpen (hi 17 3) (hi 17 0) (hi 19) T)) L) (nI (xWin hi tw C T Gn 0 L)) (nI (xWin hi tw C T Gn (mOpen (hi 17 3) (hi 17 0) (hi 19) T) L)) what = fNow (a 169 0) (a 169 1) (a 169 2) (mLeft C (mSumM a T 0 0 0) L) (mLeft C (mSumM a T (mOpen (a 169 25) (a 169 0) (fun t => a 169 (9 + t)) T) 0 0) L) (nI (mWinM a C T Gn 0 0 0 L)) (nI (mWinM a C T Gn (mOpen (a 169 25) (a 169 0) (fun t => a 169 (9 + t)) T) 0 0 L)) what := by
  rw [e_now I what]
  simp only [mSumM_f F, mWinM_f F, F 164 (by decide), F 165 (by decide), F 166 (by decide), F 167 (by decide), F 168 (by decide), F 169 (by decide)]
theorem res_votes {hi : svH} {hl : svL} {tw dr : Nat} {pm : Nat → Nat} {C L T Gn K N X : Nat} (I : Inv hi hl tw dr pm C L T Gn K N X) {a : svH} (F : ∀ q, 164 ≤ q → a q = hi q) (x en : Int32) : fVotes C (xSum hi tw T 0) (xSum hi tw T (mOpen (hi 17 3) (hi 17 0) (hi 19) T)) x en = fVotes C (mSumM a T 0 0 0) (mSumM a T (mOpen (a 169 25) (a 169 0) (fun t => a 169 (9 + t)) T) 0 0) x en := by
  rw [e_votes I x en]
  simp only [mSumM_f F, mWinM_f F, F 164 (by decide), F 165 (by decide), F 166 (by decide), F 167 (by decide), F 168 (by decide), F 169 (by decide)]
theorem res_laws {hi : svH} {hl : svL} {tw dr : Nat} {pm : Nat → Nat} {C L T Gn K N X : Nat} (I : Inv hi hl tw dr pm C L T Gn K N X) {a : svH} (F : ∀ q, 164 ≤ q → a q = hi q) (x : Int32) : (if 0 ≤ x ∧ x < nI C then mLaws (fun many => decide (nI (xWin hi tw C T Gn (mOpen (hi 17 3) (hi 17 0) (hi 19) T) many) = x)) C else -1) = (if 0 ≤ x ∧ x < nI C then mLaws (fun many => decide (nI (mWinM a C T Gn (mOpen (a 169 25) (a 169 0) (fun t => a 169 (9 + t)) T) 0 0 many) = x)) C else -1) := by
  rw [e_laws I x]
  simp only [mSumM_f F, mWinM_f F, F 164 (by decide), F 165 (by decide), F 166 (by decide), F 167 (by decide), F 168 (by decide), F 169 (by decide)]
theorem res_plan {hi : svH} {hl : svL} {tw dr : Nat} {pm : Nat → Nat} {C L T Gn K N X : Nat} (I : Inv hi hl tw dr pm C L T Gn K N X) {a : svH} (F : ∀ q, 164 ≤ q → a q = hi q) (x z : Int32) : (if (0 ≤ x ∧ x < nI C) ∧ 0 ≤ z ∧ z < nI C then (mPlan (xOk ((mOpen (hi 17 3) (hi 17 0) (hi 19) T) &&& (mFor (hi 20) (z) T ^^^ (-1)))) (fun s => decide (nI (xWinC hi tw C T Gn (mOpen (hi 17 3) (hi 17 0) (hi 19) T) (nI s) (z) L) = x)) (hi 17 1) 256).1 else -1) = (if (0 ≤ x ∧ x < nI C) ∧ 0 ≤ z ∧ z < nI C then mI9 (mPl (fun s => xOk (mOpen (a 169 25) (a 169 0) (fun t => a 169 (9 + t)) T) s && decide (nI (bcw s) ≤ a 169 1) && decide (nI (mWinM a C T Gn (mOpen (a 169 25) (a 169 0) (fun t => a 169 (9 + t)) T) (nI s) z L) = x)) bcw (2 ^ T)) else -1) := by
  rw [e_plan I x z]
  simp only [mSumM_f F, mWinM_f F, F 164 (by decide), F 165 (by decide), F 166 (by decide), F 167 (by decide), F 168 (by decide), F 169 (by decide)]
theorem res_power {hi : svH} {hl : svL} {tw dr : Nat} {pm : Nat → Nat} {C L T Gn K N X : Nat} (I : Inv hi hl tw dr pm C L T Gn K N X) {a : svH} (F : ∀ q, 164 ≤ q → a q = hi q) (x : Int32) : fPow T (mOpen (hi 17 3) (hi 17 0) (hi 19) T) (fun j => mCnt (fun s => decide (nI s &&& (((mOpen (hi 17 3) (hi 17 0) (hi 19) T) &&& ((1 <<< (nI j &&& 31)) ^^^ (-1))) ^^^ (-1)) = 0) && !(decide (nI (xWin hi tw C T Gn (nI s) L) = nI (xWin hi tw C T Gn (nI s ||| (1 <<< (nI j &&& 31))) L)))) 256) x = fPow T (mOpen (a 169 25) (a 169 0) (fun t => a 169 (9 + t)) T) (fun j => mCnt (pPow a C L T Gn j) (2 ^ T)) x := by
  rw [e_power I x]
  simp only [mSumM_f F, mWinM_f F, F 164 (by decide), F 165 (by decide), F 166 (by decide), F 167 (by decide), F 168 (by decide), F 169 (by decide), pPow_f F]
theorem res_odds {hi : svH} {hl : svL} {tw dr : Nat} {pm : Nat → Nat} {C L T Gn K N X : Nat} (I : Inv hi hl tw dr pm C L T Gn K N X) {a : svH} (F : ∀ q, 164 ≤ q → a q = hi q) (x z what : Int32) : fOdds C (fun xm => mSum (fun s => xOk (mOpen (hi 17 3) (hi 17 0) (hi 19) T) s && decide (nI (xWin hi tw C T Gn (nI s) L) = z)) (fun s => (10 - xm) ^ pop8 (nI s) * xm ^ pop8 ((mOpen (hi 17 3) (hi 17 0) (hi 19) T) &&& (nI s ^^^ (-1)))) 256) (10 ^ pop8 (mOpen (hi 17 3) (hi 17 0) (hi 19) T)) x z what = fOdds C (fun xm => mSum (fun s => xOk (mOpen (a 169 25) (a 169 0) (fun t => a 169 (9 + t)) T) s && decide (nI (mWinM a C T Gn (nI s) 0 0 L) = z)) (fun s => mWt (mOpen (a 169 25) (a 169 0) (fun t => a 169 (9 + t)) T) xm s T) (2 ^ T)) (mTen (mOpen (a 169 25) (a 169 0) (fun t => a 169 (9 + t)) T) T) x z what := by
  rw [e_odds I x z what]
  simp only [mSumM_f F, mWinM_f F, F 164 (by decide), F 165 (by decide), F 166 (by decide), F 167 (by decide), F 168 (by decide), F 169 (by decide)]
theorem res_mark {hi : svH} {hl : svL} {tw dr : Nat} {pm : Nat → Nat} {C L T Gn K N X : Nat} (I : Inv hi hl tw dr pm C L T Gn K N X) {a : svH} (F : ∀ q, 164 ≤ q → a q = hi q) (what x : Int32) : fMark C (hi 18) (fun j => hi 18 j + sv_bc (mFor (hi 20) (nI j) T &&& (hi 17 3 ^^^ (-1)))) (fun j => hi 18 j - nI (mCnt (fun r => decide (hi (tw + 5) r = nI j)) Gn)) (hi 17 0) what x = fMark C (fun j => a 169 (3 + j)) (fun j => a 169 (3 + j) + nI (mLib a T (nI j))) (fun j => a 169 (3 + j) - nI (mTor a Gn (nI j))) (a 169 0) what x := by
  rw [e_mark I what x]
  simp only [mSumM_f F, mWinM_f F, F 164 (by decide), F 165 (by decide), F 166 (by decide), F 167 (by decide), F 168 (by decide), F 169 (by decide), mLib, mTor]
theorem res_ok {hi : svH} {hl : svL} {tw dr : Nat} {pm : Nat → Nat} {C L T Gn K N X : Nat} (I : Inv hi hl tw dr pm C L T Gn K N X) {a : svH} (F : ∀ q, 164 ≤ q → a q = hi q) : mOkL C N (hi 67) (hi 68) = mOkL C N (fun i => a 172 (2 * i)) (fun i => a 172 (2 * i + 1)) := by
  rw [e_ok I, F 172 (by decide)]
theorem Inv.small {hi : svH} {hl : svL} {tw dr : Nat} {pm : Nat → Nat} {C L T Gn K N X : Nat} (I : Inv hi hl tw dr pm C L T Gn K N X) {b : svH} {N' X' : Nat} (E : ∀ q, q ≠ 15 → q ≠ 16 → q ≠ 66 → q ≠ 67 → q ≠ 68 → q ≠ 164 → q ≠ 172 → q ≠ 173 → b q = hi q) (E4 : ∀ k, k < 5 → b 164 k = hi 164 k) (hN : N' ≤ 4) (n1 : b 66 0 = nI N') (n2 : b 164 11 = nI N') (n3 : ∀ i, i < N' → b 67 i = b 172 (2 * i)) (n4 : ∀ i, i < N' → b 68 i = b 172 (2 * i + 1)) (hX : X' ≤ 120) (x1 : b 15 0 = nI X') (x2 : b 164 15 = nI X') (x3 : ∀ i, i < X' → b 16 i = b 173 i ∧ ∃ k, k < 256 ∧ b 173 i = nI k) : Inv b hl tw dr pm C L T Gn K N' X' := by
  have htw := I.tw
  have hT := I.hT
  have E : ∀ q, q < 15 ∨ (16 < q ∧ q < 66) ∨ (68 < q ∧ q < 164) ∨ (164 < q ∧ q < 172) → b q = hi q := fun q h => E q (by omega) (by omega) (by omega) (by omega) (by omega) (by omega) (by omega) (by omega)
  refine ⟨?_, ?_, I.ed, I.ne, I.pm, ?_, ?_, ?_, ?_, ?_, I.K10, ?_, ?_, ?_, ?_, ?_, hN, n1, n2, n3, n4, hX, x1, x2, x3, I.trace⟩
  · refine I.x.frame (fun q h => E q (by omega)) (by rw [E 20 (by omega)]; exact I.x.2.2.2.2.2.2.2.2.2.2.2.2.2)
  · exact I.m.frame E4 (E 167 (by omega)) (E 168 (by omega)) (by rw [E 169 (by omega)]; exact I.mlik)
  · rw [E (tw + 2) (by omega), E 165 (by omega)]; exact I.crowds
  · rw [E (tw + 4) (by omega), E 166 (by omega)]; exact I.people
  · rw [E (tw + 5) (by omega), E 167 (by omega)]; exact I.firsts
  · rw [E (tw + 6) (by omega), E 168 (by omega)]; exact I.seconds
  · exact I.day.same hT (fun q h1 h2 => E q (by omega)) (fun k _ => by rw [E 169 (by omega)])
  · rw [E 21 (by omega)]; exact I.xK
  · rw [E 169 (by omega)]; exact I.mK
  · exact fun j hj => (I.rows j hj).same hT (fun q h1 h2 => by have := I.pm.1 j (by have := I.K10; omega); exact E q (by omega)) (fun k _ => by rw [E 169 (by omega)])
  · exact I.im0.same hT (fun q h1 h2 => E q (by omega)) (E 170 (by omega)) (E 171 (by omega))
  · exact I.im1.same hT (fun q h1 h2 => E q (by omega)) (E 170 (by omega)) (E 171 (by omega))
theorem same_clear {hi : svH} {hl : svL} {tw dr : Nat} {pm : Nat → Nat} {C L T Gn K N X : Nat} (I : Inv hi hl tw dr pm C L T Gn K N X) : (hi 15 0) = (sv_u2 hi 15 0 0) 164 15 ∧ Inv (sv_u2 (sv_u2 hi 15 0 0) 164 15 0) hl tw dr pm C L T Gn K N 0 := by
  refine ⟨by rw [sv_u2_off (by decide), I.xX, I.mX], I.small (fun q h1 _ _ _ _ h6 _ _ => by rw [sv_u2_off h6, sv_u2_off h1]) (fun k hk => by rw [sv_u2_k (by omega), sv_u2_off (by decide)]) I.N4 ?_ ?_ ?_ ?_ (by decide) ?_ sv_u2_at (fun i hi => by omega)⟩
  · rw [sv_u2_off (by decide), sv_u2_off (by decide)]; exact I.xN
  · rw [sv_u2_k (by decide), sv_u2_off (by decide)]; exact I.mN
  · rw [sv_u2_off (by decide), sv_u2_off (by decide), sv_u2_off (by decide), sv_u2_off (by decide)]; exact I.chosen
  · rw [sv_u2_off (by decide), sv_u2_off (by decide), sv_u2_off (by decide), sv_u2_off (by decide)]; exact I.other
  · rw [sv_u2_off (by decide)]; exact sv_u2_at
theorem same_forget {hi : svH} {hl : svL} {tw dr : Nat} {pm : Nat → Nat} {C L T Gn K N X : Nat} (I : Inv hi hl tw dr pm C L T Gn K N X) : (hi 66 0) = (sv_u2 hi 66 0 0) 164 11 ∧ Inv (sv_u2 (sv_u2 hi 66 0 0) 164 11 0) hl tw dr pm C L T Gn K 0 X := by
  refine ⟨by rw [sv_u2_off (by decide), I.xN, I.mN], I.small (fun q _ _ h3 _ _ h6 _ _ => by rw [sv_u2_off h6, sv_u2_off h3]) (fun k hk => by rw [sv_u2_k (by omega), sv_u2_off (by decide)]) (by decide) ?_ sv_u2_at (fun i hi => by omega) (fun i hi => by omega) I.X120 ?_ ?_ ?_⟩
  · rw [sv_u2_off (by decide)]; exact sv_u2_at
  · rw [sv_u2_off (by decide), sv_u2_off (by decide)]; exact I.xX
  · rw [sv_u2_k (by decide), sv_u2_off (by decide)]; exact I.mX
  · rw [sv_u2_off (by decide), sv_u2_off (by decide), sv_u2_off (by decide), sv_u2_off (by decide)]; exact I.bytes
theorem same_type {hi : svH} {hl : svL} {tw dr : Nat} {pm : Nat → Nat} {C L T Gn K N X : Nat} (I : Inv hi hl tw dr pm C L T Gn K N X) (x : Int32) : ∃ X', Inv (hType (hType hi 16 15 X 0 x) 173 164 X 15 x) hl tw dr pm C L T Gn K N X' := by
  unfold hType
  by_cases h : (0 ≤ x ∧ x < 256) ∧ X < 120
  · rw [if_pos h, if_pos h]
    obtain ⟨k, hk, rfl⟩ := sv_ix (n := 256) h.1 (by decide)
    refine ⟨X + 1, I.small (fun q h1 h2 _ _ _ h6 _ h8 => by rw [sv_u2_off h6, sv_u2_off h8, sv_u2_off h1, sv_u2_off h2]) (fun j hj => by rw [sv_u2_k (by omega), sv_u2_off (by decide), sv_u2_off (by decide), sv_u2_off (by decide)]) I.N4 ?_ ?_ ?_ ?_ (by omega) ?_ sv_u2_at (fun i hi => ?_)⟩
    · rw [sv_u2_off (by decide), sv_u2_off (by decide), sv_u2_off (by decide), sv_u2_off (by decide)]; exact I.xN
    · rw [sv_u2_k (by decide), sv_u2_off (by decide), sv_u2_off (by decide), sv_u2_off (by decide)]; exact I.mN
    · simp only [sv_u2_off (show (67 : Nat) ≠ 164 by decide), sv_u2_off (show (67 : Nat) ≠ 173 by decide), sv_u2_off (show (67 : Nat) ≠ 15 by decide), sv_u2_off (show (67 : Nat) ≠ 16 by decide), sv_u2_off (show (172 : Nat) ≠ 164 by decide), sv_u2_off (show (172 : Nat) ≠ 173 by decide), sv_u2_off (show (172 : Nat) ≠ 15 by decide), sv_u2_off (show (172 : Nat) ≠ 16 by decide)]; exact I.chosen
    · simp only [sv_u2_off (show (68 : Nat) ≠ 164 by decide), sv_u2_off (show (68 : Nat) ≠ 173 by decide), sv_u2_off (show (68 : Nat) ≠ 15 by decide), sv_u2_off (show (68 : Nat) ≠ 16 by decide), sv_u2_off (show (172 : Nat) ≠ 164 by decide), sv_u2_off (show (172 : Nat) ≠ 173 by decide), sv_u2_off (show (172 : Nat) ≠ 15 by decide), sv_u2_off (show (172 : Nat) ≠ 16 by decide)]; exact I.other
    · rw [sv_u2_off (by decide), sv_u2_off (by decide)]; exact sv_u2_at
    · simp only [sv_u2_off (show (16 : Nat) ≠ 164 by decide), sv_u2_off (show (16 : Nat) ≠ 173 by decide), sv_u2_off (show (16 : Nat) ≠ 15 by decide), sv_u2_off (show (173 : Nat) ≠ 164 by decide)]
      by_cases e : i = X
      · subst e; rw [sv_u2_at, sv_u2_at]; exact ⟨rfl, k, hk, rfl⟩
      · rw [sv_u2_k e, sv_u2_k e, sv_u2_off (show (173 : Nat) ≠ 15 by decide), sv_u2_off (show (173 : Nat) ≠ 16 by decide)]; exact I.bytes i (by omega)
  · rw [if_neg h, if_neg h]; exact ⟨X, I⟩
theorem same_hears {hi : svH} {hl : svL} {tw dr : Nat} {pm : Nat → Nat} {C L T Gn K N X : Nat} (I : Inv hi hl tw dr pm C L T Gn K N X) (x z : Int32) : ∃ N', Inv (yHears (xHears hi C N x z) C N x z) hl tw dr pm C L T Gn K N' X := by
  unfold yHears xHears
  by_cases h : (((0 ≤ x ∧ x < nI C) ∧ 0 ≤ z ∧ z < nI C) ∧ ¬ x = z) ∧ N < 4
  · rw [if_pos h, if_pos h]
    have hN := h.2
    refine ⟨N + 1, I.small (fun q _ _ h3 h4 h5 h6 h7 _ => by rw [sv_u2_off h6, sv_u2_off h7, sv_u2_off h7, sv_u2_off h3, sv_u2_off h5, sv_u2_off h4]) (fun j hj => by rw [sv_u2_k (by omega), sv_u2_off (by decide), sv_u2_off (by decide), sv_u2_off (by decide), sv_u2_off (by decide), sv_u2_off (by decide)]) (by omega) ?_ sv_u2_at (fun i hi => ?_) (fun i hi => ?_) I.X120 ?_ ?_ ?_⟩
    · rw [sv_u2_off (by decide), sv_u2_off (by decide), sv_u2_off (by decide)]; exact sv_u2_at
    · rw [sv_u2_off (show (67 : Nat) ≠ 164 by decide), sv_u2_off (show (67 : Nat) ≠ 172 by decide), sv_u2_off (show (67 : Nat) ≠ 172 by decide), sv_u2_off (show (67 : Nat) ≠ 66 by decide), sv_u2_off (show (67 : Nat) ≠ 68 by decide), sv_u2_off (show (172 : Nat) ≠ 164 by decide), sv_u2_k (show 2 * i ≠ 2 * N + 1 by omega)]
      by_cases e : i = N
      · subst e; rw [sv_u2_at, sv_u2_at]
      · rw [sv_u2_k e, sv_u2_k (by omega), sv_u2_off (show (172 : Nat) ≠ 66 by decide), sv_u2_off (show (172 : Nat) ≠ 68 by decide), sv_u2_off (show (172 : Nat) ≠ 67 by decide)]; exact I.chosen i (by omega)
    · rw [sv_u2_off (show (68 : Nat) ≠ 164 by decide), sv_u2_off (show (68 : Nat) ≠ 172 by decide), sv_u2_off (show (68 : Nat) ≠ 172 by decide), sv_u2_off (show (68 : Nat) ≠ 66 by decide), sv_u2_off (show (172 : Nat) ≠ 164 by decide)]
      by_cases e : i = N
      · subst e; rw [sv_u2_at, sv_u2_at]
      · rw [sv_u2_k e, sv_u2_k (by omega), sv_u2_k (by omega), sv_u2_off (show (68 : Nat) ≠ 67 by decide), sv_u2_off (show (172 : Nat) ≠ 66 by decide), sv_u2_off (show (172 : Nat) ≠ 68 by decide), sv_u2_off (show (172 : Nat) ≠ 67 by decide)]; exact I.other i (by omega)
    · rw [sv_u2_off (by decide), sv_u2_off (by decide), sv_u2_off (by decide), sv_u2_off (by decide), sv_u2_off (by decide), sv_u2_off (by decide)]; exact I.xX
    · rw [sv_u2_k (by decide), sv_u2_off (by decide), sv_u2_off (by decide), sv_u2_off (by decide), sv_u2_off (by decide), sv_u2_off (by decide)]; exact I.mX
    · simp only [sv_u2_off (show (16 : Nat) ≠ 164 by decide), sv_u2_off (show (16 : Nat) ≠ 172 by decide), sv_u2_off (show (16 : Nat) ≠ 66 by decide), sv_u2_off (show (16 : Nat) ≠ 67 by decide), sv_u2_off (show (16 : Nat) ≠ 68 by decide), sv_u2_off (show (173 : Nat) ≠ 164 by decide), sv_u2_off (show (173 : Nat) ≠ 172 by decide), sv_u2_off (show (173 : Nat) ≠ 66 by decide), sv_u2_off (show (173 : Nat) ≠ 67 by decide), sv_u2_off (show (173 : Nat) ≠ 68 by decide)]; exact I.bytes
  · rw [if_neg h, if_neg h]; exact ⟨N, I⟩
