theorem bt_one {j i : Nat} (hj : j < 32) (hi : i < 32) : bt (1 <<< (nI j &&& 31)) i = decide (i = j) := by
  have h := hb_set 0 hj hi
  rw [b_or, b_0] at h
  simpa using h
theorem xOk_iff {o : Int32} {s : Nat} : xOk o s = true ↔ ∀ i, i < 32 → bt (nI s) i = true → bt o i = true := by
  unfold xOk
  rw [decide_eq_true_eq]
  constructor
  · intro h i hi hs
    have h2 : bt (nI s &&& (o ^^^ (-1))) i = false := by rw [h]; exact b_0 i
    rw [b_and, hb_not o hi, hs] at h2
    simpa using h2
  · intro h
    apply b_ext
    intro i hi
    rw [b_and, hb_not o hi, b_0]
    cases hs : bt (nI s) i with
    | false => rfl
    | true => rw [h i hi hs]; rfl
theorem xOk_lt {o : Int32} {s T : Nat} (ho : ∀ i, T ≤ i → i < 32 → bt o i = false) (hT : T ≤ 8) (hs : s < 256) (h : xOk o s = true) : s < 2 ^ T := by
  apply Nat.lt_pow_two_of_testBit
  intro i hi
  by_cases h32 : i < 32
  · rw [← hb_nat (s := s) (by omega)]
    cases hb : bt (nI s) i with
    | false => rfl
    | true => have := xOk_iff.mp h i h32 hb; rw [ho i hi h32] at this; cases this
  · exact Nat.testBit_lt_two_pow (Nat.lt_of_lt_of_le (show s < 2 ^ 8 by omega) (Nat.pow_le_pow_right (by decide) (by omega)))
theorem mCnt_more {p : Nat → Bool} {n : Nat} : ∀ {m : Nat}, n ≤ m → (∀ k, n ≤ k → k < m → p k = false) → mCnt p m = mCnt p n := by
  intro m
  induction m with
  | zero => intro h _; rw [show n = 0 by omega]
  | succ m ih =>
    intro h hp
    by_cases e : n = m + 1
    · rw [e]
    · rw [mCnt_f (hp m (by omega) (by omega))]; exact ih (by omega) (fun k h1 h2 => hp k h1 (by omega))
theorem mSum_more {p : Nat → Bool} {g : Nat → Nat} {n : Nat} : ∀ {m : Nat}, n ≤ m → (∀ k, n ≤ k → k < m → p k = false) → mSum p g m = mSum p g n := by
  intro m
  induction m with
  | zero => intro h _; rw [show n = 0 by omega]
  | succ m ih =>
    intro h hp
    by_cases e : n = m + 1
    · rw [e]
    · rw [mSum_f (by rw [hp m (by omega) (by omega)]; decide)]; exact ih (by omega) (fun k h1 h2 => hp k h1 (by omega))
theorem mSum_congr {p q : Nat → Bool} {g h : Nat → Nat} : ∀ {n : Nat}, (∀ s, s < n → p s = q s) → (∀ s, s < n → p s = true → g s = h s) → mSum p g n = mSum q h n := by
  intro n
  induction n with
  | zero => intro _ _; rfl
  | succ n ih =>
    intro h1 h2
    rw [mSum, mSum, ih (fun s hs => h1 s (by omega)) (fun s hs => h2 s (by omega)), ← h1 n (by omega)]
    by_cases hp : p n = true
    · rw [if_pos hp, if_pos hp, h2 n (by omega) hp]
    · rw [if_neg hp, if_neg hp]
theorem mSum_le {p q : Nat → Bool} {g h : Nat → Nat} : ∀ {n : Nat}, (∀ s, s < n → p s = true → q s = true ∧ g s ≤ h s) → mSum p g n ≤ mSum q h n := by
  intro n
  induction n with
  | zero => intro _; exact Nat.le_refl _
  | succ n ih =>
    intro h1
    rw [mSum, mSum]
    have := ih (fun s hs => h1 s (by omega))
    by_cases hp : p n = true
    · have h2 := h1 n (by omega) hp
      rw [if_pos hp, if_pos h2.1]; omega
    · rw [if_neg hp]; omega
theorem mSum_shift {p : Nat → Bool} {g : Nat → Nat} {n : Nat} : ∀ m, mSum p g (n + m) = mSum p g n + mSum (fun s => p (n + s)) (fun s => g (n + s)) m
  | 0 => rfl
  | m + 1 => by
    rw [← Nat.add_assoc, mSum, mSum_shift m, mSum]; omega
theorem mSum_mul {p : Nat → Bool} {g : Nat → Nat} {c : Nat} : ∀ n, mSum p (fun s => g s * c) n = mSum p g n * c
  | 0 => by rw [mSum, mSum, Nat.zero_mul]
  | n + 1 => by
    rw [mSum, mSum, mSum_mul n, Nat.add_mul]
    by_cases hp : p n = true
    · rw [if_pos hp, if_pos hp]
    · rw [if_neg hp, if_neg hp, Nat.zero_mul]
theorem bt_hi {s t i : Nat} (hs : s < 2 ^ t) (ht : t < 8) (hi : i < 32) : bt (nI (2 ^ t + s)) i = (decide (i = t) || bt (nI s) i) := by
  have h2 : 2 ^ t ≤ 2 ^ 7 := Nat.pow_le_pow_right (by decide) (by omega)
  rw [hb_nat (by omega), hb_nat (by omega)]
  by_cases e : i = t
  · subst e; rw [Nat.testBit_two_pow_add_eq, Nat.testBit_lt_two_pow hs]; simp
  · by_cases h : i < t
    · rw [Nat.testBit_two_pow_add_gt h]; simp [e]
    · have a1 : s.testBit i = false := Nat.testBit_lt_two_pow (Nat.lt_of_lt_of_le hs (Nat.pow_le_pow_right (by decide) (by omega)))
      have a2 : (2 ^ t + s).testBit i = false := Nat.testBit_lt_two_pow (Nat.lt_of_lt_of_le (show 2 ^ t + s < 2 ^ (t + 1) by rw [Nat.pow_succ]; omega) (Nat.pow_le_pow_right (by decide) (by omega)))
      rw [a1, a2]; simp [e]
theorem mWt_low {o : Int32} {xn s s' : Nat} : ∀ {t : Nat}, (∀ i, i < t → bt (nI s) i = bt (nI s') i) → mWt o xn s t = mWt o xn s' t := by
  intro t
  induction t with
  | zero => intro _; rfl
  | succ t ih => intro h; rw [mWt, mWt, ih (fun i hi => h i (by omega)), h t (by omega)]
theorem wt_total {o : Int32} {xn : Nat} (hx : xn ≤ 10) : ∀ t, t ≤ 8 → mSum (xOk o) (fun s => mWt o xn s t) (2 ^ t) ≤ 10 ^ t := by
  intro t
  induction t with
  | zero => intro _; rw [show 2 ^ 0 = 0 + 1 from rfl, mSum]; simp only [mSum, mWt]; split <;> decide
  | succ t ih =>
    intro ht
    have hS := ih (by omega)
    have h2 : 2 ^ t ≤ 2 ^ 7 := Nat.pow_le_pow_right (by decide) (by omega)
    rw [show 2 ^ (t + 1) = 2 ^ t + 2 ^ t by rw [Nat.pow_succ]; omega, mSum_shift, Nat.pow_succ]
    have hlow : mSum (xOk o) (fun s => mWt o xn s (t + 1)) (2 ^ t) = mSum (xOk o) (fun s => mWt o xn s t) (2 ^ t) * (if bt o t = true then xn else 1) := by
      rw [← mSum_mul]
      refine mSum_congr (fun _ _ => rfl) (fun s hs _ => ?_)
      rw [mWt]
      by_cases ho : bt o t = true
      · rw [if_pos ho, if_pos ho, if_neg]
        rw [hb_nat (by omega), Nat.testBit_lt_two_pow hs]; decide
      · rw [if_neg ho, if_neg ho]
    have hhigh : mSum (fun s => xOk o (2 ^ t + s)) (fun s => mWt o xn (2 ^ t + s) (t + 1)) (2 ^ t) ≤ mSum (xOk o) (fun s => mWt o xn s t) (2 ^ t) * (if bt o t = true then 10 - xn else 0) := by
      rw [← mSum_mul]
      refine mSum_le (fun s hs hok => ?_)
      have hk := xOk_iff.mp hok
      have hot : bt o t = true := hk t (by omega) (by rw [bt_hi hs (by omega) (by omega)]; simp)
      refine ⟨xOk_iff.mpr (fun i hi hb => hk i hi (by rw [bt_hi hs (by omega) hi, hb]; simp)), ?_⟩
      rw [mWt, if_pos hot, if_pos hot, if_pos (by rw [bt_hi hs (by omega) (by omega)]; simp), mWt_low (s' := s) (fun i hi => by rw [bt_hi hs (by omega) (by omega)]; simp; omega)]
      exact Nat.le_refl _
    rw [hlow]
    by_cases ho : bt o t = true
    · rw [if_pos ho] at hlow ⊢
      rw [if_pos ho] at hhigh
      have e : mSum (xOk o) (fun s => mWt o xn s t) (2 ^ t) * xn + mSum (xOk o) (fun s => mWt o xn s t) (2 ^ t) * (10 - xn) = mSum (xOk o) (fun s => mWt o xn s t) (2 ^ t) * 10 := by rw [← Nat.mul_add]; congr 1; omega
      have := Nat.mul_le_mul_right 10 hS
      omega
    · rw [if_neg ho] at hlow ⊢
      rw [if_neg ho, Nat.mul_zero] at hhigh
      omega
theorem wt_sum {o : Int32} {xn T : Nat} (hx : xn ≤ 10) (hT : T ≤ 8) (p : Nat → Bool) : mSum (fun s => xOk o s && p s) (fun s => mWt o xn s T) (2 ^ T) < 2 ^ 31 := by
  have h1 : mSum (fun s => xOk o s && p s) (fun s => mWt o xn s T) (2 ^ T) ≤ mSum (xOk o) (fun s => mWt o xn s T) (2 ^ T) := mSum_le (fun s _ h => ⟨by simp only [Bool.and_eq_true] at h; exact h.1, Nat.le_refl _⟩)
  have h2 := wt_total (o := o) hx T hT
  have h3 : 10 ^ T ≤ 10 ^ 8 := Nat.pow_le_pow_right (by decide) hT
  have h4 : (10 : Nat) ^ 8 < 2 ^ 31 := by decide
  omega
theorem mWt_pow {o : Int32} {xn s : Nat} : ∀ t, mWt o xn s t = (10 - xn) ^ mCnt (fun i => bt o i && bt (nI s) i) t * xn ^ mCnt (fun i => bt o i && !(bt (nI s) i)) t := by
  intro t
  induction t with
  | zero => rfl
  | succ t ih =>
    rw [mWt, ih]
    by_cases ho : bt o t = true
    · by_cases hs : bt (nI s) t = true
      · rw [if_pos ho, if_pos hs, mCnt_t (by simp [ho, hs]), mCnt_f (p := fun i => bt o i && !(bt (nI s) i)) (by simp [hs]), Nat.pow_succ]
        simp only [Nat.mul_assoc, Nat.mul_comm (xn ^ _)]
      · rw [if_pos ho, if_neg hs, mCnt_f (p := fun i => bt o i && bt (nI s) i) (by simp [hs]), mCnt_t (p := fun i => bt o i && !(bt (nI s) i)) (by simp [ho, hs]), Nat.pow_succ, Nat.mul_assoc]
    · rw [if_neg ho, mCnt_f (p := fun i => bt o i && bt (nI s) i) (by simp [ho]), mCnt_f (p := fun i => bt o i && !(bt (nI s) i)) (by simp [ho]), Nat.mul_one]
theorem wt_same {o : Int32} {xn s T : Nat} (ho : ∀ i, T ≤ i → i < 32 → bt o i = false) (hT : T ≤ 8) (h : xOk o s = true) : (10 - xn) ^ pop8 (nI s) * xn ^ pop8 (o &&& (nI s ^^^ (-1))) = mWt o xn s T := by
  rw [mWt_pow, pop8_def, pop8_def]
  have e1 : mCnt (fun i => bt o i && bt (nI s) i) T = mCnt (bt (nI s)) 8 := by
    rw [← mCnt_more (p := fun i => bt o i && bt (nI s) i) hT (fun k h1 h2 => by show (bt o k && bt (nI s) k) = false; rw [ho k h1 (by omega)]; rfl)]
    refine mCnt_congr (fun i hi => ?_)
    show (bt o i && bt (nI s) i) = bt (nI s) i
    cases hb : bt (nI s) i with
    | false => simp
    | true => rw [xOk_iff.mp h i (by omega) hb]; rfl
  have e2 : mCnt (fun i => bt o i && !(bt (nI s) i)) T = mCnt (bt (o &&& (nI s ^^^ (-1)))) 8 := by
    rw [← mCnt_more (p := fun i => bt o i && !(bt (nI s) i)) hT (fun k h1 h2 => by show (bt o k && !(bt (nI s) k)) = false; rw [ho k h1 (by omega)]; rfl)]
    refine mCnt_congr (fun i hi => ?_)
    rw [b_and, hb_not _ (by omega)]
  rw [e1, e2]
theorem ten_pow {o : Int32} : ∀ t, mTen o t = 10 ^ mCnt (bt o) t
  | 0 => rfl
  | t + 1 => by
    rw [mTen, ten_pow t]
    by_cases ho : bt o t = true
    · rw [if_pos ho, mCnt_t ho, Nat.pow_succ]
    · rw [if_neg ho, mCnt_f (by simpa using ho), Nat.mul_one]
theorem ten_same {o : Int32} {T : Nat} (ho : ∀ i, T ≤ i → i < 32 → bt o i = false) (hT : T ≤ 8) : 10 ^ pop8 o = mTen o T := by
  rw [ten_pow, pop8_def, mCnt_more hT (fun k h1 h2 => ho k h1 (by omega))]
theorem e_oddsS {hi : svH} {hl : svL} {tw dr : Nat} {pm : Nat → Nat} {C L T Gn K N X : Nat} (I : Inv hi hl tw dr pm C L T Gn K N X) (xm : Nat) (z : Int32) : mSum (fun s => xOk (mOpen (hi 17 3) (hi 17 0) (hi 19) T) s && decide (nI (xWin hi tw C T Gn (nI s) L) = z)) (fun s => (10 - xm) ^ pop8 (nI s) * xm ^ pop8 ((mOpen (hi 17 3) (hi 17 0) (hi 19) T) &&& (nI s ^^^ (-1)))) 256 = mSum (fun s => xOk (mOpen (hi 169 25) (hi 169 0) (fun t => hi 169 (9 + t)) T) s && decide (nI (mWinM hi C T Gn (nI s) 0 0 L) = z)) (fun s => mWt (mOpen (hi 169 25) (hi 169 0) (fun t => hi 169 (9 + t)) T) xm s T) (2 ^ T) := by
  have hT8 : T ≤ 8 := I.x.2.2.2.2.2.2.2.2.2.1
  rw [e_open I]
  have ho : ∀ i, T ≤ i → i < 32 → bt (mOpen (hi 169 25) (hi 169 0) (fun t => hi 169 (9 + t)) T) i = false := mOpen_bits (by omega)
  rw [mSum_more (two_le hT8) (fun k h1 h2 => by
    cases hk : xOk (mOpen (hi 169 25) (hi 169 0) (fun t => hi 169 (9 + t)) T) k with
    | false => rfl
    | true => have := xOk_lt ho hT8 h2 hk; omega)]
  refine mSum_congr (fun s _ => by rw [e_win I]) (fun s _ hp => ?_)
  simp only [Bool.and_eq_true] at hp
  exact wt_same ho hT8 hp.1
theorem e_oddsL {hi : svH} {hl : svL} {tw dr : Nat} {pm : Nat → Nat} {C L T Gn K N X : Nat} (I : Inv hi hl tw dr pm C L T Gn K N X) : 10 ^ pop8 (mOpen (hi 17 3) (hi 17 0) (hi 19) T) = mTen (mOpen (hi 169 25) (hi 169 0) (fun t => hi 169 (9 + t)) T) T := by
  have hT8 : T ≤ 8 := I.x.2.2.2.2.2.2.2.2.2.1
  rw [e_open I]
  exact ten_same (mOpen_bits (by omega)) hT8
theorem e_odds {hi : svH} {hl : svL} {tw dr : Nat} {pm : Nat → Nat} {C L T Gn K N X : Nat} (I : Inv hi hl tw dr pm C L T Gn K N X) (x z what : Int32) : fOdds C (fun xm => mSum (fun s => xOk (mOpen (hi 17 3) (hi 17 0) (hi 19) T) s && decide (nI (xWin hi tw C T Gn (nI s) L) = z)) (fun s => (10 - xm) ^ pop8 (nI s) * xm ^ pop8 ((mOpen (hi 17 3) (hi 17 0) (hi 19) T) &&& (nI s ^^^ (-1)))) 256) (10 ^ pop8 (mOpen (hi 17 3) (hi 17 0) (hi 19) T)) x z what = fOdds C (fun xm => mSum (fun s => xOk (mOpen (hi 169 25) (hi 169 0) (fun t => hi 169 (9 + t)) T) s && decide (nI (mWinM hi C T Gn (nI s) 0 0 L) = z)) (fun s => mWt (mOpen (hi 169 25) (hi 169 0) (fun t => hi 169 (9 + t)) T) xm s T) (2 ^ T)) (mTen (mOpen (hi 169 25) (hi 169 0) (fun t => hi 169 (9 + t)) T) T) x z what := by
  rw [e_oddsL I]
  congr 1
  funext xm
  exact e_oddsS I xm z
theorem xOk_less {o : Int32} {s j : Nat} (hj : j < 32) : xOk (o &&& ((1 <<< (nI j &&& 31)) ^^^ (-1))) s = (xOk o s && !(bt (nI s) j)) := by
  rw [Bool.eq_iff_iff, Bool.and_eq_true, xOk_iff, xOk_iff]
  constructor
  · intro h
    refine ⟨fun i hi hb => by have := h i hi hb; rw [b_and, Bool.and_eq_true] at this; exact this.1, ?_⟩
    cases hb : bt (nI s) j with
    | false => rfl
    | true => have := h j hj hb; rw [b_and, hb_not _ hj, bt_one hj hj] at this; simp at this
  · intro h i hi hb
    rw [b_and, hb_not _ hi, bt_one hj hi, h.1 i hi hb]
    by_cases e : i = j
    · subst e; rw [hb] at h; simp at h
    · simp [e]
theorem e_power {hi : svH} {hl : svL} {tw dr : Nat} {pm : Nat → Nat} {C L T Gn K N X : Nat} (I : Inv hi hl tw dr pm C L T Gn K N X) (x : Int32) : fPow T (mOpen (hi 17 3) (hi 17 0) (hi 19) T) (fun j => mCnt (fun s => decide (nI s &&& (((mOpen (hi 17 3) (hi 17 0) (hi 19) T) &&& ((1 <<< (nI j &&& 31)) ^^^ (-1))) ^^^ (-1)) = 0) && !(decide (nI (xWin hi tw C T Gn (nI s) L) = nI (xWin hi tw C T Gn (nI s ||| (1 <<< (nI j &&& 31))) L)))) 256) x = fPow T (mOpen (hi 169 25) (hi 169 0) (fun t => hi 169 (9 + t)) T) (fun j => mCnt (pPow hi C L T Gn j) (2 ^ T)) x := by
  have hT8 : T ≤ 8 := I.x.2.2.2.2.2.2.2.2.2.1
  rw [e_open I]
  unfold fPow
  by_cases h : 0 ≤ x ∧ x < nI T
  · have hx := clamp_lt h (by omega)
    rw [if_pos h, if_pos h]
    congr 2
    have ho : ∀ i, T ≤ i → i < 32 → bt (mOpen (hi 169 25) (hi 169 0) (fun t => hi 169 (9 + t)) T) i = false := mOpen_bits (by omega)
    have e : ∀ s, (decide (nI s &&& (((mOpen (hi 169 25) (hi 169 0) (fun t => hi 169 (9 + t)) T) &&& ((1 <<< (nI x.toNatClampNeg &&& 31)) ^^^ (-1))) ^^^ (-1)) = 0) && !(decide (nI (xWin hi tw C T Gn (nI s) L) = nI (xWin hi tw C T Gn (nI s ||| (1 <<< (nI x.toNatClampNeg &&& 31))) L)))) = pPow hi C L T Gn x.toNatClampNeg s := by
      intro s
      rw [e_win I, e_win I]
      exact congrArg (· && _) (xOk_less (o := mOpen (hi 169 25) (hi 169 0) (fun t => hi 169 (9 + t)) T) (s := s) (j := x.toNatClampNeg) (by omega))
    exact (mCnt_congr (fun s _ => e s)).trans (mCnt_more (two_le hT8) (fun k h1 h2 => by
      cases hk : pPow hi C L T Gn x.toNatClampNeg k with
      | false => rfl
      | true =>
        unfold pPow at hk
        rw [Bool.and_eq_true, Bool.and_eq_true] at hk
        have := xOk_lt ho hT8 h2 hk.1.1
        omega))
  · rw [if_neg h, if_neg h]
