theorem mRun_congr {P P' : Nat → Bool} {n : Nat} (h : ∀ q, q < n → P q = P' q) : ∀ d p, p + d ≤ n → mRun P d p = mRun P' d p := by
  intro d
  induction d with
  | zero => intro p _; rfl
  | succ d ih => intro p hp; rw [mRun, mRun, h p (by omega), ih (p + 1) (by omega)]
theorem rE_congr {P P' : Nat → Bool} {n : Nat} (h : ∀ q, q < n → P q = P' q) (p : Nat) : rE P n p = rE P' n p := by
  unfold rE
  by_cases hp : p ≤ n
  · exact mRun_congr h _ _ (by omega)
  · rw [show n - p = 0 by omega]; rfl
theorem mVal_congr {P P' : Nat → Bool} {s s' : Nat → Int32} {n : Nat} (h : ∀ q, q < n → P q = P' q) (hs : ∀ q, q < n → s q = s' q) : ∀ d p v, p + d ≤ n → mVal P s d p v = mVal P' s' d p v := by
  intro d
  induction d with
  | zero => intro p v _; rfl
  | succ d ih => intro p v hp; rw [mVal, mVal, h p (by omega), hs p (by omega), ih (p + 1) _ (by omega)]
theorem vE_congr {P P' : Nat → Bool} {s s' : Nat → Int32} {n : Nat} (h : ∀ q, q < n → P q = P' q) (hs : ∀ q, q < n → s q = s' q) (p v : Nat) : vE P s n p v = vE P' s' n p v := by
  unfold vE
  by_cases hp : p ≤ n
  · exact mVal_congr h hs _ _ _ (by omega)
  · rw [show n - p = 0 by omega]; rfl
theorem lxL_c {s s' : Nat → Int32} {n : Nat} (hs : ∀ q, q < n → s q = s' q) : ∀ q, q < n → lxL s q = lxL s' q := fun q hq => by unfold lxL; rw [hs q hq]
theorem lxD_c {s s' : Nat → Int32} {n : Nat} (hs : ∀ q, q < n → s q = s' q) : ∀ q, q < n → lxD s q = lxD s' q := fun q hq => by unfold lxD; rw [hs q hq]
theorem lxS_c {s s' : Nat → Int32} {n : Nat} (hs : ∀ q, q < n → s q = s' q) : ∀ q, q < n → lxS s q = lxS s' q := fun q hq => by unfold lxS; rw [hs q hq]
theorem tkS_c {s s' : Nat → Int32} {n : Nat} (hs : ∀ q, q < n → s q = s' q) (p : Nat) : tkS s n p = tkS s' n p := rE_congr (lxS_c hs) p
theorem tkT_c {s s' : Nat → Int32} {n : Nat} (hs : ∀ q, q < n → s q = s' q) (p : Nat) : tkT s n p = tkT s' n p := by
  unfold tkT
  rw [show rE (lxS s) n p = rE (lxS s') n p from rE_congr (lxS_c hs) p]
  unfold lxTok
  by_cases h : n ≤ rE (lxS s') n p
  · rw [if_pos h, if_pos h]
  · rw [if_neg h, if_neg h, lxL_c hs _ (by omega), lxD_c hs _ (by omega), hs _ (show rE (lxS s') n p < n by omega), rE_congr (lxD_c hs), vE_congr (lxD_c hs) hs]
theorem tkN_c {s s' : Nat → Int32} {n : Nat} (hs : ∀ q, q < n → s q = s' q) (p : Nat) : tkN s n p = tkN s' n p := by
  unfold tkN
  rw [show rE (lxS s) n p = rE (lxS s') n p from rE_congr (lxS_c hs) p]
  unfold lxNext
  by_cases h : n ≤ rE (lxS s') n p
  · rw [if_pos h, if_pos h]
  · rw [if_neg h, if_neg h, lxL_c hs _ (by omega), lxD_c hs _ (by omega), rE_congr (lxD_c hs), rE_congr (lxL_c hs)]
theorem tkV_c {s s' : Nat → Int32} {n : Nat} (hs : ∀ q, q < n → s q = s' q) (p : Nat) (h0 : ¬ tkT s n p = 0) : tkV s n p = tkV s' n p := by
  have h : ¬ n ≤ rE (lxS s') n p := fun z => h0 (by rw [tkT_c hs]; unfold tkT lxTok; rw [if_pos z])
  unfold tkV
  rw [show rE (lxS s) n p = rE (lxS s') n p from rE_congr (lxS_c hs) p]
  unfold lxVal
  rw [lxL_c hs _ (by omega), hs _ (show rE (lxS s') n p < n by omega), rE_congr (lxL_c hs), vE_congr (lxD_c hs) hs]
theorem num_c2 {s s' : Nat → Int32} {n : Nat} (hs : ∀ q, q < n → s q = s' q) (p : Nat) (lo hh : Int32) : num s n p lo hh = num s' n p lo hh := by
  unfold num
  by_cases h : tkT s n p = 2
  · rw [tkV_c hs p (by rw [h]; decide), tkT_c hs p]
  · have h' : ¬ tkT s' n p = 2 := by rw [← tkT_c hs p]; exact h
    rw [decide_eq_false (fun z => h z.1), decide_eq_false (fun z => h' z.1)]
theorem rdStop_c {s s' : Nat → Int32} {n : Nat} (hs : ∀ q, q < n → s q = s' q) (D : svH) (p : Nat) : rdStop s n D p = rdStop s' n D p := by unfold rdStop; rw [tkT_c hs, tkN_c hs, tkS_c hs]
theorem numV {s s' : Nat → Int32} {n : Nat} (hs : ∀ q, q < n → s q = s' q) {p : Nat} {lo hh : Int32} (h : num s n p lo hh = true) : tkV s n p = tkV s' n p := tkV_c hs p (by rw [(num_v h).1]; decide)
theorem rdTrain_c {s s' : Nat → Int32} {n : Nat} (hs : ∀ q, q < n → s q = s' q) (D : svH) (p : Nat) : rdTrain s n D p = rdTrain s' n D p := by
  unfold rdTrain
  simp only [tkN_c hs, tkS_c hs]
  by_cases h1 : num s n p 0 23 = true
  · have h1' : num s' n p 0 23 = true := by rw [← num_c2 hs]; exact h1
    rw [if_pos h1, if_pos h1', num_c2 hs (tkN s' n p)]
    by_cases h2 : num s' n (tkN s' n p) 1 30 = true
    · rw [if_pos h2, if_pos h2, num_c2 hs (tkN s' n (tkN s' n p))]
      by_cases h3 : num s' n (tkN s' n (tkN s' n p)) 0 (D 0 0 - 1) = true
      · rw [if_pos h3, if_pos h3, rdStop_c hs, numV hs h1, numV hs (by rw [num_c2 hs]; exact h2), numV hs (by rw [num_c2 hs]; exact h3)]
      · rw [if_neg h3, if_neg h3]
    · rw [if_neg h2, if_neg h2]
  · rw [if_neg h1, if_neg (by rw [← num_c2 hs]; exact h1)]
theorem rdChoice_c {s s' : Nat → Int32} {n : Nat} (hs : ∀ q, q < n → s q = s' q) (D : svH) (p : Nat) : rdChoice s n D p = rdChoice s' n D p := by
  unfold rdChoice
  simp only [tkN_c hs, tkS_c hs]
  by_cases h1 : num s n p 2 6 = true
  · have h1' : num s' n p 2 6 = true := by rw [← num_c2 hs]; exact h1
    rw [if_pos h1, if_pos h1', numV hs h1, num_c2 hs (tkN s' n p)]
    by_cases h2 : num s' n (tkN s' n p) 1 (tkV s' n p) = true
    · rw [if_pos h2, if_pos h2, num_c2 hs (tkN s' n (tkN s' n p))]
      by_cases h3 : num s' n (tkN s' n (tkN s' n p)) 0 20 = true
      · rw [if_pos h3, if_pos h3, rdStop_c hs, numV hs (by rw [num_c2 hs]; exact h2), numV hs (by rw [num_c2 hs]; exact h3)]
      · rw [if_neg h3, if_neg h3]
    · rw [if_neg h2, if_neg h2]
  · rw [if_neg h1, if_neg (by rw [← num_c2 hs]; exact h1)]
theorem rdGroup_c {s s' : Nat → Int32} {n : Nat} (hs : ∀ q, q < n → s q = s' q) (D : svH) (p : Nat) : rdGroup s n D p = rdGroup s' n D p := by
  unfold rdGroup
  simp only [tkN_c hs, tkS_c hs]
  by_cases h1 : num s n p 1 30 = true
  · have h1' : num s' n p 1 30 = true := by rw [← num_c2 hs]; exact h1
    rw [if_pos h1, if_pos h1', num_c2 hs (tkN s' n p)]
    by_cases h2 : num s' n (tkN s' n p) 0 (D 0 0 - 1) = true
    · have v2 : tkV s n (tkN s' n p) = tkV s' n (tkN s' n p) := numV hs (by rw [num_c2 hs]; exact h2)
      rw [if_pos h2, if_pos h2, num_c2 hs (tkN s' n (tkN s' n p)), v2]
      by_cases h3 : num s' n (tkN s' n (tkN s' n p)) 0 (D 0 0 - 1) = true
      · have v3 : tkV s n (tkN s' n (tkN s' n p)) = tkV s' n (tkN s' n (tkN s' n p)) := numV hs (by rw [num_c2 hs]; exact h3)
        rw [v3, rdStop_c hs, numV hs h1]
      · rw [if_neg (fun z => h3 z.1), if_neg (fun z => h3 z.1)]
    · rw [if_neg h2, if_neg h2]
  · rw [if_neg h1, if_neg (by rw [← num_c2 hs]; exact h1)]
theorem rdItem_c {s s' : Nat → Int32} {n : Nat} (hs : ∀ q, q < n → s q = s' q) (D : svH) (items p : Nat) : rdItem s n D items p = rdItem s' n D items p := by
  unfold rdItem
  by_cases h : tkT s n p = 1
  · rw [tkV_c hs p (by rw [h]; decide), tkT_c hs, tkN_c hs, tkS_c hs, rdChoice_c hs, rdTrain_c hs, rdGroup_c hs]
  · have h' : ¬ tkT s' n p = 1 := by rw [← tkT_c hs]; exact h
    rw [if_neg (fun z => h z.1), if_neg (fun z => h z.1), if_neg (fun z => h z.1), if_neg (fun z => h' z.1), if_neg (fun z => h' z.1), if_neg (fun z => h' z.1), tkS_c hs]
theorem rdAll_c {s s' : Nat → Int32} {n : Nat} (hs : ∀ q, q < n → s q = s' q) : ∀ (d : Nat) (D : svH) (items p : Nat), rdAll s n d D items p = rdAll s' n d D items p := by
  intro d
  induction d with
  | zero => intro D items p; rfl
  | succ d ih =>
    intro D items p
    rw [rdAll, rdAll, tkT_c hs, rdItem_c hs]
    split
    · rfl
    · split
      · rfl
      · exact ih _ _ _
