/-- a day of the class at s, and a day of the model in the row g from o on -/
def dayR (C T : Nat) (hi : svH) (s : Nat) (g : Nat → Int32) (o : Nat) : Prop := hi s 0 = g o ∧ hi s 1 = g (o + 1) ∧ hi s 2 = g (o + 2) ∧ hi s 3 = g (o + 25) ∧ hi s 4 = g (o + 26) ∧ (∀ k, k < 6 → hi (s + 1) k = g (o + (3 + k))) ∧ (∀ t, t < T → hi (s + 2) t = g (o + (9 + t))) ∧ (∀ t, t < T → hi (s + 3) t = g (o + (17 + t))) ∧
  (∃ h, h ≤ 24 ∧ hi s 0 = nI h) ∧ (∃ b, b ≤ 20 ∧ hi s 1 = nI b) ∧ (hi s 2 = 0 ∨ hi s 2 = 1) ∧ (∀ t, T ≤ t → t < 32 → bt (hi s 3) t = false) ∧ (∀ t, t < T → ∃ h, h ≤ 23 ∧ hi (s + 2) t = nI h) ∧ ∀ t, t < T → ∃ j, j < C ∧ hi (s + 3) t = nI j
def imgR (C T : Nat) (hi : svH) (b im : Nat) : Prop := (∃ K, K ≤ 10 ∧ hi (b + 5) 0 = nI K) ∧ (hi b 0 = 0 ↔ hi 171 im = 0) ∧ (¬ hi b 0 = 0 → dayR C T hi (b + 1) (hi 170) (298 * im) ∧ hi 170 (298 * im + 27) = hi (b + 5) 0 ∧ ∀ K, K ≤ 10 → hi (b + 5) 0 = nI K → ∀ j, j < K → dayR C T hi (b + 7 + 4 * j) (hi 170) (298 * im + (28 + 27 * j)))

def Inv (hi : svH) (hl : svL) (tw dr : Nat) (pm : Nat → Nat) (C L T Gn K N X : Nat) : Prop := (xT hi tw C L T Gn) ∧ (mT hi C L T Gn) ∧ (svSH[dr]? = some (0, 6)) ∧ (tw ≠ dr) ∧ (pmok pm) ∧ (∀ t, t < T → hi (tw + 2) t = hi 165 t) ∧ (∀ r, r < Gn → hi (tw + 4) r = hi 166 r) ∧ (∀ r, r < Gn → hi (tw + 5) r = hi 167 r) ∧ (∀ r, r < Gn → hi (tw + 6) r = hi 168 r) ∧ (dayR C T hi 17 (hi 169) 0) ∧ (K ≤ 10) ∧ (hi 21 0 = nI K) ∧ (hi 169 27 = nI K) ∧ (∀ j, j < K → dayR C T hi (pm j) (hi 169) (28 + 27 * j)) ∧ (imgR C T hi 70 0) ∧ (imgR C T hi 117 1) ∧ (N ≤ 4) ∧ (hi 66 0 = nI N) ∧ (hi 164 11 = nI N) ∧ (∀ i, i < N → hi 67 i = hi 172 (2 * i)) ∧ (∀ i, i < N → hi 68 i = hi 172 (2 * i + 1)) ∧ (X ≤ 120) ∧ (hi 15 0 = nI X) ∧ (hi 164 15 = nI X) ∧ (∀ i, i < X → hi 16 i = hi 173 i ∧ ∃ k, k < 256 ∧ hi 173 i = nI k) ∧ (hl 0 9 = hl 164 13)
theorem Inv.x {hi : svH} {hl : svL} {tw dr : Nat} {pm : Nat → Nat} {C L T Gn K N X : Nat} (I : Inv hi hl tw dr pm C L T Gn K N X) : xT hi tw C L T Gn := I.1
theorem Inv.m {hi : svH} {hl : svL} {tw dr : Nat} {pm : Nat → Nat} {C L T Gn K N X : Nat} (I : Inv hi hl tw dr pm C L T Gn K N X) : mT hi C L T Gn := I.2.1
theorem Inv.ed {hi : svH} {hl : svL} {tw dr : Nat} {pm : Nat → Nat} {C L T Gn K N X : Nat} (I : Inv hi hl tw dr pm C L T Gn K N X) : svSH[dr]? = some (0, 6) := I.2.2.1
theorem Inv.ne {hi : svH} {hl : svL} {tw dr : Nat} {pm : Nat → Nat} {C L T Gn K N X : Nat} (I : Inv hi hl tw dr pm C L T Gn K N X) : tw ≠ dr := I.2.2.2.1
theorem Inv.pm {hi : svH} {hl : svL} {tw dr : Nat} {pm : Nat → Nat} {C L T Gn K N X : Nat} (I : Inv hi hl tw dr pm C L T Gn K N X) : pmok pm := I.2.2.2.2.1
theorem Inv.crowds {hi : svH} {hl : svL} {tw dr : Nat} {pm : Nat → Nat} {C L T Gn K N X : Nat} (I : Inv hi hl tw dr pm C L T Gn K N X) : ∀ t, t < T → hi (tw + 2) t = hi 165 t := I.2.2.2.2.2.1
theorem Inv.people {hi : svH} {hl : svL} {tw dr : Nat} {pm : Nat → Nat} {C L T Gn K N X : Nat} (I : Inv hi hl tw dr pm C L T Gn K N X) : ∀ r, r < Gn → hi (tw + 4) r = hi 166 r := I.2.2.2.2.2.2.1
theorem Inv.firsts {hi : svH} {hl : svL} {tw dr : Nat} {pm : Nat → Nat} {C L T Gn K N X : Nat} (I : Inv hi hl tw dr pm C L T Gn K N X) : ∀ r, r < Gn → hi (tw + 5) r = hi 167 r := I.2.2.2.2.2.2.2.1
theorem Inv.seconds {hi : svH} {hl : svL} {tw dr : Nat} {pm : Nat → Nat} {C L T Gn K N X : Nat} (I : Inv hi hl tw dr pm C L T Gn K N X) : ∀ r, r < Gn → hi (tw + 6) r = hi 168 r := I.2.2.2.2.2.2.2.2.1
theorem Inv.day {hi : svH} {hl : svL} {tw dr : Nat} {pm : Nat → Nat} {C L T Gn K N X : Nat} (I : Inv hi hl tw dr pm C L T Gn K N X) : dayR C T hi 17 (hi 169) 0 := I.2.2.2.2.2.2.2.2.2.1
theorem Inv.K10 {hi : svH} {hl : svL} {tw dr : Nat} {pm : Nat → Nat} {C L T Gn K N X : Nat} (I : Inv hi hl tw dr pm C L T Gn K N X) : K ≤ 10 := I.2.2.2.2.2.2.2.2.2.2.1
theorem Inv.xK {hi : svH} {hl : svL} {tw dr : Nat} {pm : Nat → Nat} {C L T Gn K N X : Nat} (I : Inv hi hl tw dr pm C L T Gn K N X) : hi 21 0 = nI K := I.2.2.2.2.2.2.2.2.2.2.2.1
theorem Inv.mK {hi : svH} {hl : svL} {tw dr : Nat} {pm : Nat → Nat} {C L T Gn K N X : Nat} (I : Inv hi hl tw dr pm C L T Gn K N X) : hi 169 27 = nI K := I.2.2.2.2.2.2.2.2.2.2.2.2.1
theorem Inv.rows {hi : svH} {hl : svL} {tw dr : Nat} {pm : Nat → Nat} {C L T Gn K N X : Nat} (I : Inv hi hl tw dr pm C L T Gn K N X) : ∀ j, j < K → dayR C T hi (pm j) (hi 169) (28 + 27 * j) := I.2.2.2.2.2.2.2.2.2.2.2.2.2.1
theorem Inv.im0 {hi : svH} {hl : svL} {tw dr : Nat} {pm : Nat → Nat} {C L T Gn K N X : Nat} (I : Inv hi hl tw dr pm C L T Gn K N X) : imgR C T hi 70 0 := I.2.2.2.2.2.2.2.2.2.2.2.2.2.2.1
theorem Inv.im1 {hi : svH} {hl : svL} {tw dr : Nat} {pm : Nat → Nat} {C L T Gn K N X : Nat} (I : Inv hi hl tw dr pm C L T Gn K N X) : imgR C T hi 117 1 := I.2.2.2.2.2.2.2.2.2.2.2.2.2.2.2.1
theorem Inv.N4 {hi : svH} {hl : svL} {tw dr : Nat} {pm : Nat → Nat} {C L T Gn K N X : Nat} (I : Inv hi hl tw dr pm C L T Gn K N X) : N ≤ 4 := I.2.2.2.2.2.2.2.2.2.2.2.2.2.2.2.2.1
theorem Inv.xN {hi : svH} {hl : svL} {tw dr : Nat} {pm : Nat → Nat} {C L T Gn K N X : Nat} (I : Inv hi hl tw dr pm C L T Gn K N X) : hi 66 0 = nI N := I.2.2.2.2.2.2.2.2.2.2.2.2.2.2.2.2.2.1
theorem Inv.mN {hi : svH} {hl : svL} {tw dr : Nat} {pm : Nat → Nat} {C L T Gn K N X : Nat} (I : Inv hi hl tw dr pm C L T Gn K N X) : hi 164 11 = nI N := I.2.2.2.2.2.2.2.2.2.2.2.2.2.2.2.2.2.2.1
theorem Inv.chosen {hi : svH} {hl : svL} {tw dr : Nat} {pm : Nat → Nat} {C L T Gn K N X : Nat} (I : Inv hi hl tw dr pm C L T Gn K N X) : ∀ i, i < N → hi 67 i = hi 172 (2 * i) := I.2.2.2.2.2.2.2.2.2.2.2.2.2.2.2.2.2.2.2.1
theorem Inv.other {hi : svH} {hl : svL} {tw dr : Nat} {pm : Nat → Nat} {C L T Gn K N X : Nat} (I : Inv hi hl tw dr pm C L T Gn K N X) : ∀ i, i < N → hi 68 i = hi 172 (2 * i + 1) := I.2.2.2.2.2.2.2.2.2.2.2.2.2.2.2.2.2.2.2.2.1
theorem Inv.X120 {hi : svH} {hl : svL} {tw dr : Nat} {pm : Nat → Nat} {C L T Gn K N X : Nat} (I : Inv hi hl tw dr pm C L T Gn K N X) : X ≤ 120 := I.2.2.2.2.2.2.2.2.2.2.2.2.2.2.2.2.2.2.2.2.2.1
theorem Inv.xX {hi : svH} {hl : svL} {tw dr : Nat} {pm : Nat → Nat} {C L T Gn K N X : Nat} (I : Inv hi hl tw dr pm C L T Gn K N X) : hi 15 0 = nI X := I.2.2.2.2.2.2.2.2.2.2.2.2.2.2.2.2.2.2.2.2.2.2.1
theorem Inv.mX {hi : svH} {hl : svL} {tw dr : Nat} {pm : Nat → Nat} {C L T Gn K N X : Nat} (I : Inv hi hl tw dr pm C L T Gn K N X) : hi 164 15 = nI X := I.2.2.2.2.2.2.2.2.2.2.2.2.2.2.2.2.2.2.2.2.2.2.2.1
theorem Inv.bytes {hi : svH} {hl : svL} {tw dr : Nat} {pm : Nat → Nat} {C L T Gn K N X : Nat} (I : Inv hi hl tw dr pm C L T Gn K N X) : ∀ i, i < X → hi 16 i = hi 173 i ∧ ∃ k, k < 256 ∧ hi 173 i = nI k := I.2.2.2.2.2.2.2.2.2.2.2.2.2.2.2.2.2.2.2.2.2.2.2.2.1
theorem Inv.trace {hi : svH} {hl : svL} {tw dr : Nat} {pm : Nat → Nat} {C L T Gn K N X : Nat} (I : Inv hi hl tw dr pm C L T Gn K N X) : hl 0 9 = hl 164 13 := I.2.2.2.2.2.2.2.2.2.2.2.2.2.2.2.2.2.2.2.2.2.2.2.2.2
/-! like rows, like numbers -/
theorem mOpen_congr {s h : Int32} {f g : Nat → Int32} : ∀ {n : Nat}, (∀ t, t < n → f t = g t) → mOpen s h f n = mOpen s h g n := by
  intro n
  induction n with
  | zero => intro _; rfl
  | succ n ih => intro e; rw [mOpen, mOpen, ih (fun t ht => e t (by omega)), e n (by omega)]
theorem mCast_congr {v v' c c' l l' : Nat → Int32} {stops canv by' : Int32} (hv : ∀ k, k < 6 → v k = v' k) : ∀ {n : Nat}, (∀ t, t < n → c t = c' t) → (∀ t, t < n → l t = l' t) → ∀ k, k < 6 → mCast v c l stops canv by' n k = mCast v' c' l' stops canv by' n k := by
  intro n
  induction n with
  | zero => intro _ _ k hk; exact hv k hk
  | succ n ih =>
    intro hc hl k hk
    have h := ih (fun t ht => hc t (by omega)) (fun t ht => hl t (by omega))
    have e : mTo canv by' l n = mTo canv by' l' n := by unfold mTo; rw [hl n (by omega)]
    rw [mCast, mCast]
    by_cases hb : bt stops n = true
    · rw [if_pos hb, if_pos hb, e]
      unfold upd
      by_cases hk2 : k = mTo canv by' l' n
      · rw [if_pos hk2, if_pos hk2, h _ (by omega), hc n (by omega)]
      · rw [if_neg hk2, if_neg hk2]; exact h k hk
    · rw [if_neg hb, if_neg hb]; exact h k hk
theorem mBack_congr {p p' f f' s s' : Nat → Int32} {g m : Int32} : ∀ {n : Nat}, (∀ r, r < n → p r = p' r) → (∀ r, r < n → f r = f' r) → (∀ r, r < n → s r = s' r) → mBack p f s g m n = mBack p' f' s' g m n := by
  intro n
  induction n with
  | zero => intro _ _ _; rfl
  | succ n ih => intro h1 h2 h3; rw [mBack, mBack, ih (fun r hr => h1 r (by omega)) (fun r hr => h2 r (by omega)) (fun r hr => h3 r (by omega)), h1 n (by omega), h2 n (by omega), h3 n (by omega)]
theorem mWin_congr2 {C Gn : Nat} {p p' f f' s s' : Nat → Int32} {g : Int32} {u v : Nat → Int32} (h1 : ∀ r, r < Gn → p r = p' r) (h2 : ∀ r, r < Gn → f r = f' r) (h3 : ∀ r, r < Gn → s r = s' r) (h4 : ∀ k, k < C → u k = v k) (many : Nat) : mWin C Gn p f s g u many = mWin C Gn p' f' s' g v many := by
  rw [mWin_congr h4]
  unfold mWin
  rw [mBack_congr h1 h2 h3]
theorem dayR.to0 {C T : Nat} {hi : svH} {s : Nat} {g : Nat → Int32} (h : dayR C T hi s g 0) : hi s 0 = g 0 ∧ hi s 1 = g 1 ∧ hi s 2 = g 2 ∧ hi s 3 = g 25 ∧ hi s 4 = g 26 ∧ (∀ k, k < 6 → hi (s + 1) k = g (3 + k)) ∧ (∀ t, t < T → hi (s + 2) t = g (9 + t)) ∧ (∀ t, t < T → hi (s + 3) t = g (17 + t)) := by
  obtain ⟨a0, a1, a2, a3, a4, a5, a6, a7, _⟩ := h
  simp only [Nat.zero_add] at a0 a1 a2 a3 a4 a5 a6 a7
  exact ⟨a0, a1, a2, a3, a4, a5, a6, a7⟩
theorem e_open {hi : svH} {hl : svL} {tw dr : Nat} {pm : Nat → Nat} {C L T Gn K N X : Nat} (I : Inv hi hl tw dr pm C L T Gn K N X) : mOpen (hi 17 3) (hi 17 0) (hi 19) T = mOpen (hi 169 25) (hi 169 0) (fun t => hi 169 (9 + t)) T := by
  obtain ⟨d0, d1, d2, d3, d4, d5, d6, d7⟩ := I.day.to0
  rw [d0, d3, mOpen_congr d6]
theorem e_sum {hi : svH} {hl : svL} {tw dr : Nat} {pm : Nat → Nat} {C L T Gn K N X : Nat} (I : Inv hi hl tw dr pm C L T Gn K N X) (stops canv by' : Int32) : ∀ k, k < 6 → mCast (hi 18) (hi (tw + 2)) (hi 20) stops canv by' T k = mSumM hi T stops canv by' k := by
  obtain ⟨d0, d1, d2, d3, d4, d5, d6, d7⟩ := I.day.to0
  exact mCast_congr d5 I.crowds d7
theorem e_winC {hi : svH} {hl : svL} {tw dr : Nat} {pm : Nat → Nat} {C L T Gn K N X : Nat} (I : Inv hi hl tw dr pm C L T Gn K N X) (stops canv by' : Int32) (many : Nat) : xWinC hi tw C T Gn stops canv by' many = mWinM hi C T Gn stops canv by' many := by
  obtain ⟨d0, d1, d2, d3, d4, d5, d6, d7⟩ := I.day.to0
  have hC6 := I.x.2.2.2.2.2.2.1
  unfold xWinC mWinM
  rw [d4, mWin_congr2 I.people I.firsts I.seconds (fun k hk => e_sum I stops canv by' k (by omega))]
theorem e_win {hi : svH} {hl : svL} {tw dr : Nat} {pm : Nat → Nat} {C L T Gn K N X : Nat} (I : Inv hi hl tw dr pm C L T Gn K N X) (stops : Int32) (many : Nat) : xWin hi tw C T Gn stops many = mWinM hi C T Gn stops 0 0 many := e_winC I stops 0 0 many
theorem e_left {hi : svH} {hl : svL} {tw dr : Nat} {pm : Nat → Nat} {C L T Gn K N X : Nat} (I : Inv hi hl tw dr pm C L T Gn K N X) (stops : Int32) (many : Nat) : mLeft C (xSum hi tw T stops) many = mLeft C (mSumM hi T stops 0 0) many := by
  have hC6 := I.x.2.2.2.2.2.2.1
  exact mLeft_congr (fun k hk => e_sum I stops 0 0 k (by omega)) many
theorem clamp_lt {x : Int32} {n : Nat} (h : 0 ≤ x ∧ x < nI n) (hn : n < 2 ^ 31) : x.toNatClampNeg < n := by
  obtain ⟨j, hj, rfl⟩ := sv_ix h hn
  rw [nI_clamp (by omega)]; exact hj
theorem e_train {hi : svH} {hl : svL} {tw dr : Nat} {pm : Nat → Nat} {C L T Gn K N X : Nat} (I : Inv hi hl tw dr pm C L T Gn K N X) (x what : Int32) : fTrain T (hi 19) (hi (tw + 2)) (hi 20) (hi 17 3) x what = fTrain T (fun t => hi 169 (9 + t)) (hi 165) (fun t => hi 169 (17 + t)) (hi 169 25) x what := by
  obtain ⟨d0, d1, d2, d3, d4, d5, d6, d7⟩ := I.day.to0
  have hT8 := I.x.2.2.2.2.2.2.2.2.2.1
  unfold fTrain
  by_cases h : 0 ≤ x ∧ x < nI T
  · have hx := clamp_lt h (by omega)
    rw [if_pos h, if_pos h, d6 _ hx, d7 _ hx, I.crowds _ hx, d3]
  · rw [if_neg h, if_neg h]
theorem e_group {hi : svH} {hl : svL} {tw dr : Nat} {pm : Nat → Nat} {C L T Gn K N X : Nat} (I : Inv hi hl tw dr pm C L T Gn K N X) (x what : Int32) : fGroup Gn (hi (tw + 4)) (hi (tw + 5)) (hi (tw + 6)) (hi 17 4) x what = fGroup Gn (hi 166) (hi 167) (hi 168) (hi 169 26) x what := by
  obtain ⟨d0, d1, d2, d3, d4, d5, d6, d7⟩ := I.day.to0
  have hG6 := I.x.2.2.2.2.2.2.2.2.2.2.1
  unfold fGroup
  by_cases h : 0 ≤ x ∧ x < nI Gn
  · have hx := clamp_lt h (by omega)
    rw [if_pos h, if_pos h, I.people _ hx, I.firsts _ hx, I.seconds _ hx, d4]
  · rw [if_neg h, if_neg h]
theorem e_count {hi : svH} {hl : svL} {tw dr : Nat} {pm : Nat → Nat} {C L T Gn K N X : Nat} (I : Inv hi hl tw dr pm C L T Gn K N X) (what : Int32) : fCount C L T Gn (hi 66 0) (hi 21 0) (hi 15 0) what = fCount C L T Gn (hi 164 11) (hi 169 27) (hi 164 15) what := by
  rw [I.xN, I.xK, I.xX, I.mN, I.mK, I.mX]
theorem e_now {hi : svH} {hl : svL} {tw dr : Nat} {pm : Nat → Nat} {C L T Gn K N X : Nat} (I : Inv hi hl tw dr pm C L T Gn K N X) (what : Int32) : fNow (hi 17 0) (hi 17 1) (hi 17 2) (mLeft C (xSum hi tw T 0) L) (mLeft C (xSum hi tw T (mOpen (hi 17 3) (hi 17 0) (hi 19) T)) L) (nI (xWin hi tw C T Gn 0 L)) (nI (xWin hi tw C T Gn (mOpen (hi 17 3) (hi 17 0) (hi 19) T) L)) what = fNow (hi 169 0) (hi 169 1) (hi 169 2) (mLeft C (mSumM hi T 0 0 0) L) (mLeft C (mSumM hi T (mOpen (hi 169 25) (hi 169 0) (fun t => hi 169 (9 + t)) T) 0 0) L) (nI (mWinM hi C T Gn 0 0 0 L)) (nI (mWinM hi C T Gn (mOpen (hi 169 25) (hi 169 0) (fun t => hi 169 (9 + t)) T) 0 0 L)) what := by
  obtain ⟨d0, d1, d2, d3, d4, d5, d6, d7⟩ := I.day.to0
  rw [e_left I, e_left I, e_win I, e_win I, e_open I, d0, d1, d2]
theorem e_votes {hi : svH} {hl : svL} {tw dr : Nat} {pm : Nat → Nat} {C L T Gn K N X : Nat} (I : Inv hi hl tw dr pm C L T Gn K N X) (x en : Int32) : fVotes C (xSum hi tw T 0) (xSum hi tw T (mOpen (hi 17 3) (hi 17 0) (hi 19) T)) x en = fVotes C (mSumM hi T 0 0 0) (mSumM hi T (mOpen (hi 169 25) (hi 169 0) (fun t => hi 169 (9 + t)) T) 0 0) x en := by
  have hC6 := I.x.2.2.2.2.2.2.1
  unfold fVotes
  by_cases h : 0 ≤ x ∧ x < nI C
  · have hx := clamp_lt h (by omega)
    rw [e_open I, show xSum hi tw T 0 x.toNatClampNeg = mSumM hi T 0 0 0 x.toNatClampNeg from e_sum I 0 0 0 _ (by omega), show xSum hi tw T (mOpen (hi 169 25) (hi 169 0) (fun t => hi 169 (9 + t)) T) x.toNatClampNeg = mSumM hi T (mOpen (hi 169 25) (hi 169 0) (fun t => hi 169 (9 + t)) T) 0 0 x.toNatClampNeg from e_sum I _ 0 0 _ (by omega)]
  · rw [if_pos (Or.inl h), if_pos (Or.inl h)]
theorem mLaws_congr {f g : Nat → Bool} : ∀ {n : Nat}, (∀ k, f k = g k) → mLaws f n = mLaws g n := by
  intro n
  induction n with
  | zero => intro _; rfl
  | succ n ih => intro h; rw [mLaws, mLaws, ih h, h]
theorem e_laws {hi : svH} {hl : svL} {tw dr : Nat} {pm : Nat → Nat} {C L T Gn K N X : Nat} (I : Inv hi hl tw dr pm C L T Gn K N X) (x : Int32) : (if 0 ≤ x ∧ x < nI C then mLaws (fun many => decide (nI (xWin hi tw C T Gn (mOpen (hi 17 3) (hi 17 0) (hi 19) T) many) = x)) C else -1) = (if 0 ≤ x ∧ x < nI C then mLaws (fun many => decide (nI (mWinM hi C T Gn (mOpen (hi 169 25) (hi 169 0) (fun t => hi 169 (9 + t)) T) 0 0 many) = x)) C else -1) := by
  rw [mLaws_congr (fun many => by rw [e_win I, e_open I])]
