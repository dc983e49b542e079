theorem mCnt_sub {p q : Nat → Bool} : ∀ {n : Nat}, (∀ i, i < n → p i = true → q i = true) → mCnt p n ≤ mCnt q n ∧ (mCnt p n = mCnt q n → ∀ i, i < n → p i = q i) := by
  intro n
  induction n with
  | zero => exact fun _ => ⟨Nat.le_refl _, fun _ i hi => by omega⟩
  | succ n ih =>
    intro h
    obtain ⟨h1, h2⟩ := ih (fun i hi => h i (by omega))
    have h3 := h n (by omega)
    rw [mCnt, mCnt]
    cases hp : p n with
    | false =>
      cases hq : q n with
      | false =>
        refine ⟨by simpa using h1, fun e i hi => ?_⟩
        by_cases ei : i = n
        · rw [ei, hp, hq]
        · exact h2 (by simpa using e) i (by omega)
      | true =>
        simp only [Bool.toNat_false, Bool.toNat_true]
        exact ⟨by omega, fun e => by omega⟩
    | true =>
      rw [h3 hp]
      simp only [Bool.toNat_true]
      refine ⟨by omega, fun e i hi => ?_⟩
      by_cases ei : i = n
      · rw [ei, hp, h3 hp]
      · exact h2 (by omega) i (by omega)
theorem mPl_some {p : Nat → Bool} {w : Nat → Nat} : ∀ {n b : Nat}, mPl p w n = some b → p b = true ∧ b < n ∧ ∀ s, s < n → p s = true → w b < w s ∨ (w b = w s ∧ b ≤ s) := by
  intro n
  induction n with
  | zero => intro b h; cases h
  | succ n ih =>
    intro b h
    rw [mPl] at h
    cases ho : mPl p w n with
    | none =>
      rw [ho] at h
      have hnone : ∀ s, s < n → p s = false := by
        clear ih h
        induction n with
        | zero => intro s hs; omega
        | succ n ih2 =>
          rw [mPl] at ho
          split at ho
          · cases ho
          · rename_i hc
            have ho2 := ho
            intro s hs
            by_cases e : s = n
            · subst e
              rw [ho2] at hc
              cases hp : p s with
              | false => rfl
              | true => exact absurd ⟨hp, rfl⟩ hc
            · exact ih2 ho2 s (by omega)
      split at h
      · rename_i hc
        cases h
        refine ⟨hc.1, by omega, fun s hs hp => ?_⟩
        by_cases e : s = n
        · exact Or.inr ⟨by rw [e], by omega⟩
        · rw [hnone s (by omega)] at hp; cases hp
      · cases h
    | some c =>
      rw [ho] at h
      obtain ⟨i1, i2, i3⟩ := ih ho
      split at h
      · rename_i hc
        cases h
        have hl : w n < w c := by have := hc.2; unfold less at this; exact of_decide_eq_true this
        refine ⟨hc.1, by omega, fun s hs hp => ?_⟩
        by_cases e : s = n
        · exact Or.inr ⟨by rw [e], by omega⟩
        · have := i3 s (by omega) hp; exact Or.inl (by omega)
      · rename_i hc
        cases h
        refine ⟨i1, by omega, fun s hs hp => ?_⟩
        by_cases e : s = n
        · subst e
          by_cases hl : w s < w b
          · exact absurd ⟨hp, by unfold less; exact decide_eq_true hl⟩ hc
          · by_cases he : w b = w s
            · exact Or.inr ⟨he, by omega⟩
            · exact Or.inl (by omega)
        · exact i3 s (by omega) hp
theorem mPl_none {p : Nat → Bool} {w : Nat → Nat} : ∀ {n : Nat}, mPl p w n = none → ∀ s, s < n → p s = false := by
  intro n
  induction n with
  | zero => intro _ s hs; omega
  | succ n ih =>
    intro ho s hs
    rw [mPl] at ho
    split at ho
    · cases ho
    · rename_i hc
      by_cases e : s = n
      · subst e
        rw [ho] at hc
        cases hp : p s with
        | false => rfl
        | true => exact absurd ⟨hp, rfl⟩ hc
      · exact ih ho s (by omega)
theorem mPl_same {pc pm : Nat → Bool} {w : Nat → Nat} {n m : Nat} (h1 : ∀ s, s < n → pc s = true → s < m ∧ pm s = true) (h2 : ∀ s, s < m → pm s = true → ∃ s', s' < n ∧ s' ≤ s ∧ pc s' = true ∧ (s' = s ∨ w s' < w s)) : mPl pc w n = mPl pm w m := by
  cases hm : mPl pm w m with
  | none =>
    cases hc : mPl pc w n with
    | none => rfl
    | some b =>
      obtain ⟨a1, a2, _⟩ := mPl_some hc
      obtain ⟨b1, b2⟩ := h1 b a2 a1
      rw [mPl_none hm b b1] at b2
      cases b2
  | some b' =>
    obtain ⟨a1, a2, a3⟩ := mPl_some hm
    obtain ⟨s', c1, c2, c3, c4⟩ := h2 b' a2 a1
    cases hc : mPl pc w n with
    | none => rw [mPl_none hc s' c1] at c3; cases c3
    | some b =>
      obtain ⟨d1, d2, d3⟩ := mPl_some hc
      obtain ⟨e1, e2⟩ := h1 b d2 d1
      have f1 := a3 b e1 e2
      have f2 := d3 s' c1 c3
      congr 1
      rcases c4 with rfl | c4 <;> omega
def plim (b : Nat) (o : Option Nat) : Nat := match o with
  | none => b + 1
  | some k => bcw k
theorem bcw_bc {s : Nat} (hs : s < 256) : sv_bc (nI s) = nI (bcw s) := by rw [pop_all s hs, pop8_def]; rfl
theorem bcw_le (s : Nat) : bcw s ≤ 8 := mCnt_le _ _
theorem mPlan_mPl {ok wins : Nat → Bool} {b : Nat} (hb : b ≤ 20) : ∀ n, n ≤ 256 → mPlan ok wins (nI b) n = (mI9 (mPl (fun s => ok s && decide (bcw s ≤ b) && wins s) bcw n), nI (plim b (mPl (fun s => ok s && decide (bcw s ≤ b) && wins s) bcw n))) := by
  intro n
  induction n with
  | zero => intro _; rw [mPlan, ← nI_succ]; rfl
  | succ n ih =>
    intro hn
    have h := ih (by omega)
    have w8 := bcw_le n
    rw [mPl]
    cases ho : mPl (fun s => ok s && decide (bcw s ≤ b) && wins s) bcw n with
    | none =>
      rw [ho] at h
      have el : plim b none = b + 1 := rfl
      rw [el] at h
      by_cases hc : ok n = true ∧ sv_bc (nI n) < (mPlan ok wins (nI b) n).2 ∧ wins n = true
      · rw [mPlan_yes hc, bcw_bc (by omega)]
        obtain ⟨g1, g2, g3⟩ := hc
        rw [h, bcw_bc (by omega), nI_ltI (by omega) (by omega)] at g2
        rw [if_pos ⟨by rw [g1, g3, decide_eq_true (show bcw n ≤ b by omega)]; rfl, rfl⟩]
        rfl
      · rw [mPlan_no hc, h]
        rw [if_neg]
        · rfl
        intro q
        refine hc ⟨?_, ?_, ?_⟩
        · have := q.1; simp only [Bool.and_eq_true] at this; exact this.1.1
        · rw [h, bcw_bc (by omega), nI_ltI (by omega) (by omega)]; have := q.1; simp only [Bool.and_eq_true, decide_eq_true_eq] at this; omega
        · have := q.1; simp only [Bool.and_eq_true] at this; exact this.2
    | some k =>
      rw [ho] at h
      have el : plim b (some k) = bcw k := rfl
      rw [el] at h
      have hk := (mPl_some ho).1
      simp only [Bool.and_eq_true, decide_eq_true_eq] at hk
      have k8 := bcw_le k
      by_cases hc : ok n = true ∧ sv_bc (nI n) < (mPlan ok wins (nI b) n).2 ∧ wins n = true
      · rw [mPlan_yes hc, bcw_bc (by omega)]
        obtain ⟨g1, g2, g3⟩ := hc
        rw [h, bcw_bc (by omega), nI_ltI (by omega) (by omega)] at g2
        rw [if_pos ⟨by rw [g1, g3, decide_eq_true (show bcw n ≤ b by omega)]; rfl, by unfold less; exact decide_eq_true g2⟩]
        rfl
      · rw [mPlan_no hc, h]
        rw [if_neg]
        · rfl
        intro q
        refine hc ⟨?_, ?_, ?_⟩
        · have := q.1; simp only [Bool.and_eq_true] at this; exact this.1.1
        · rw [h, bcw_bc (by omega), nI_ltI (by omega) (by omega)]; have := q.2; unfold less at this; exact of_decide_eq_true this
        · have := q.1; simp only [Bool.and_eq_true] at this; exact this.2
theorem mFor_bt {l : Nat → Int32} {z : Int32} : ∀ {T : Nat}, T ≤ 32 → ∀ t, t < T → bt (mFor l z T) t = decide (l t = z) := by
  intro T
  induction T with
  | zero => intro _ t ht; omega
  | succ T ih =>
    intro hT t ht
    rw [mFor]
    by_cases e : t = T
    · subst e
      by_cases h : l t = z
      · rw [if_neg (fun q => q h), hb_set _ (by omega) (by omega), mFor_bits (by omega) t (Nat.le_refl _) (by omega)]; simp [h]
      · rw [if_pos h, mFor_bits (by omega) t (Nat.le_refl _) (by omega)]; simp [h]
    · by_cases h : l T = z
      · rw [if_neg (fun q => q h), hb_set _ (by omega) (by omega), ih (by omega) t (by omega)]; simp [e]
      · rw [if_pos h]; exact ih (by omega) t (by omega)
theorem mCast_canv {v c l : Nat → Int32} {stops k k' z : Int32} : ∀ {n : Nat}, (∀ t, t < n → mTo k z l t = mTo k' z l t) → mCast v c l stops k z n = mCast v c l stops k' z n := by
  intro n
  induction n with
  | zero => intro _; rfl
  | succ n ih => intro h; rw [mCast, mCast, ih (fun t ht => h t (by omega)), h n (by omega)]
theorem nI_inj {a b : Nat} (ha : a < 256) (hb : b < 256) (h : ∀ i, i < 8 → bt (nI a) i = bt (nI b) i) : a = b := by
  refine (nI_eq (by omega) (by omega)).mp (b_ext (fun i hi => ?_))
  by_cases h8 : i < 8
  · exact h i h8
  · rw [bt_lt256 ha i (by omega) hi, bt_lt256 hb i (by omega) hi]
theorem e_plan {hi : svH} {hl : svL} {tw dr : Nat} {pm : Nat → Nat} {C L T Gn K N X : Nat} (I : Inv hi hl tw dr pm C L T Gn K N X) (x z : Int32) : (if (0 ≤ x ∧ x < nI C) ∧ 0 ≤ z ∧ z < nI C then (mPlan (xOk ((mOpen (hi 17 3) (hi 17 0) (hi 19) T) &&& (mFor (hi 20) (z) T ^^^ (-1)))) (fun s => decide (nI (xWinC hi tw C T Gn (mOpen (hi 17 3) (hi 17 0) (hi 19) T) (nI s) (z) L) = x)) (hi 17 1) 256).1 else -1) = (if (0 ≤ x ∧ x < nI C) ∧ 0 ≤ z ∧ z < nI C then mI9 (mPl (fun s => xOk (mOpen (hi 169 25) (hi 169 0) (fun t => hi 169 (9 + t)) T) s && decide (nI (bcw s) ≤ hi 169 1) && decide (nI (mWinM hi C T Gn (mOpen (hi 169 25) (hi 169 0) (fun t => hi 169 (9 + t)) T) (nI s) z L) = x)) bcw (2 ^ T)) else -1) := by
  have hT8 : T ≤ 8 := I.x.2.2.2.2.2.2.2.2.2.1
  have hC6 := I.x.2.2.2.2.2.2.1
  obtain ⟨d0, d1, d2, d3, d4, d5, d6, d7⟩ := I.day.to0
  obtain ⟨b, hb, eb⟩ := I.day.2.2.2.2.2.2.2.2.2.1
  by_cases h : (0 ≤ x ∧ x < nI C) ∧ 0 ≤ z ∧ z < nI C
  · rw [if_pos h, if_pos h, e_open I, eb, mPlan_mPl hb 256 (by decide)]
    show mI9 _ = mI9 _
    have ht2 := two_le hT8
    have ho : ∀ i, T ≤ i → i < 32 → bt (mOpen (hi 169 25) (hi 169 0) (fun t => hi 169 (9 + t)) T) i = false := mOpen_bits (by omega)
    congr 1
    refine mPl_same (fun s hs hp => ?_) (fun s hs hp => ?_)
    · simp only [Bool.and_eq_true, decide_eq_true_eq] at hp
      obtain ⟨⟨p1, p2⟩, p3⟩ := hp
      have hok : xOk (mOpen (hi 169 25) (hi 169 0) (fun t => hi 169 (9 + t)) T) s = true := xOk_iff.mpr (fun i hi hb2 => by have := xOk_iff.mp p1 i hi hb2; rw [b_and, Bool.and_eq_true] at this; exact this.1)
      refine ⟨xOk_lt ho hT8 hs hok, ?_⟩
      simp only [Bool.and_eq_true, decide_eq_true_eq]
      refine ⟨⟨hok, ?_⟩, by rw [← e_winC I]; exact p3⟩
      have := bcw_le s
      rw [← d1, eb, nI_leI (by omega) (by omega)]; exact p2
    · simp only [Bool.and_eq_true, decide_eq_true_eq] at hp
      obtain ⟨⟨p1, p2⟩, p3⟩ := hp
      have hs256 : s < 256 := by omega
      have w8 := bcw_le s
      rw [← d1, eb, nI_leI (by omega) (by omega)] at p2
      obtain ⟨m, hm, em⟩ : ∃ m, m < 256 ∧ nI s &&& (mFor (hi 20) z T ^^^ (-1)) = nI m := bt_small8 (fun i h1 h2 => by rw [b_and, bt_lt256 hs256 i h1 h2]; rfl)
      have hbm : ∀ i, i < 32 → bt (nI m) i = (bt (nI s) i && !(bt (mFor (hi 20) z T) i)) := fun i hi => by rw [← em, b_and, hb_not _ hi]
      have hsub := mCnt_sub (p := bt (nI m)) (q := bt (nI s)) (n := 8) (fun i hi hb2 => by rw [hbm i (by omega), Bool.and_eq_true] at hb2; exact hb2.1)
      have hms : m ≤ s := by
        have e : m = s &&& m := by
          apply Nat.eq_of_testBit_eq
          intro i
          rw [Nat.testBit_and]
          by_cases hi : i < 32
          · have := hbm i hi
            rw [hb_nat (by omega), hb_nat (by omega)] at this
            rw [this]
            cases s.testBit i <;> simp
          · rw [Nat.testBit_lt_two_pow (x := m) (i := i) (Nat.lt_of_lt_of_le (show m < 2 ^ 8 by omega) (Nat.pow_le_pow_right (by decide) (by omega)))]; simp
        rw [e]
        exact Nat.and_le_left
      refine ⟨m, hm, hms, ?_, ?_⟩
      · simp only [Bool.and_eq_true, decide_eq_true_eq]
        refine ⟨⟨xOk_iff.mpr (fun i hi hb2 => ?_), by have := hsub.1; unfold bcw at p2 ⊢; omega⟩, ?_⟩
        · rw [hbm i hi, Bool.and_eq_true] at hb2
          rw [b_and, hb_not _ hi, xOk_iff.mp p1 i hi hb2.1, hb2.2]; rfl
        · rw [e_winC I, ← p3]
          unfold mWinM mSumM
          rw [mCast_canv (k := nI m) (k' := nI s) (fun t ht => ?_)]
          unfold mTo
          rw [hbm t (by omega), mFor_bt (by omega) t ht, d7 t ht]
          by_cases hl : hi 169 (17 + t) = z
          · have hl2 : (fun t => hi 169 (17 + t)) t = z := hl
            rw [hl2]; split <;> split <;> rfl
          · rw [decide_eq_false hl]; simp
      · by_cases e : m = s
        · exact Or.inl e
        · refine Or.inr (Nat.lt_of_le_of_ne hsub.1 (fun q => e ?_))
          exact nI_inj hm hs256 (hsub.2 q)
  · rw [if_neg h, if_neg h]
theorem lib_same {T : Nat} (hT : T ≤ 8) {l l' : Nat → Int32} {st x : Int32} (hl : ∀ t, t < T → l t = l' t) : sv_bc (mFor l x T &&& (st ^^^ (-1))) = nI (mCnt (fun t => !(bt st t) && decide (l' t = x)) T) := by
  have h8 : ∀ i, T ≤ i → i < 32 → bt (mFor l x T &&& (st ^^^ (-1))) i = false := fun i h1 h2 => by rw [b_and, mFor_bits (by omega) i h1 h2]; rfl
  rw [pop_of (fun i h1 h2 => h8 i (by omega) h2), pop8_def, mCnt_more hT (fun k h1 h2 => h8 k h1 (by omega))]
  congr 1
  refine mCnt_congr (fun t ht => ?_)
  rw [b_and, hb_not _ (by omega), mFor_bt (by omega) t ht, hl t ht, Bool.and_comm]
theorem fMark_congr {C : Nat} {v v' a a' b b' : Nat → Int32} {h k x : Int32} (hC : C ≤ 6) (h1 : ∀ j, j < C → v j = v' j) (h2 : ∀ j, j < C → a j = a' j) (h3 : ∀ j, j < C → b j = b' j) : fMark C v a b h k x = fMark C v' a' b' h k x := by
  unfold fMark
  by_cases hx : 0 ≤ x ∧ x < nI C
  · have := clamp_lt hx (by omega)
    rw [if_pos hx, if_pos hx, h1 _ this, h2 _ this, h3 _ this]
  · rw [if_neg hx, if_neg hx]
theorem e_mark {hi : svH} {hl : svL} {tw dr : Nat} {pm : Nat → Nat} {C L T Gn K N X : Nat} (I : Inv hi hl tw dr pm C L T Gn K N X) (what x : Int32) : fMark C (hi 18) (fun j => hi 18 j + sv_bc (mFor (hi 20) (nI j) T &&& (hi 17 3 ^^^ (-1)))) (fun j => hi 18 j - nI (mCnt (fun r => decide (hi (tw + 5) r = nI j)) Gn)) (hi 17 0) what x = fMark C (fun j => hi 169 (3 + j)) (fun j => hi 169 (3 + j) + nI (mLib hi T (nI j))) (fun j => hi 169 (3 + j) - nI (mTor hi Gn (nI j))) (hi 169 0) what x := by
  have hT8 : T ≤ 8 := I.x.2.2.2.2.2.2.2.2.2.1
  have hC6 := I.x.2.2.2.2.2.2.1
  obtain ⟨d0, d1, d2, d3, d4, d5, d6, d7⟩ := I.day.to0
  rw [d0]
  refine fMark_congr hC6 (fun j hj => d5 j (by omega)) (fun j hj => ?_) (fun j hj => ?_)
  · show hi 18 j + _ = hi 169 (3 + j) + _
    rw [← d5 j (by omega), lib_same hT8 (l' := fun t => hi 169 (17 + t)) d7, d3]; rfl
  · show hi 18 j - _ = hi 169 (3 + j) - _
    rw [← d5 j (by omega)]
    unfold mTor
    rw [mCnt_congr (fun r hr => by rw [I.firsts r hr])]
theorem mSoUp_congr {c c' o o' : Nat → Int32} {f s : Int32} : ∀ {n : Nat}, (∀ i, i < n → c i = c' i) → (∀ i, i < n → o i = o' i) → mSoUp c o f s n = mSoUp c' o' f s n := by
  intro n
  induction n with
  | zero => intro _ _; rfl
  | succ n ih => intro h1 h2; rw [mSoUp, mSoUp, ih (fun i hi => h1 i (by omega)) (fun i hi => h2 i (by omega)), h1 n (by omega), h2 n (by omega)]
theorem e_ok {hi : svH} {hl : svL} {tw dr : Nat} {pm : Nat → Nat} {C L T Gn K N X : Nat} (I : Inv hi hl tw dr pm C L T Gn K N X) : mOkL C N (hi 67) (hi 68) = mOkL C N (fun i => hi 172 (2 * i)) (fun i => hi 172 (2 * i + 1)) := by
  funext u
  unfold mOkL
  rw [mSoUp_congr I.chosen I.other]
theorem e_fog {hi : svH} {hl : svL} {tw dr : Nat} {pm : Nat → Nat} {C L T Gn K N X : Nat} (I : Inv hi hl tw dr pm C L T Gn K N X) : nI T - sv_bc (hi 17 3) = nI T - nI (mCnt (bt (hi 169 25)) 8) := by
  have hT8 : T ≤ 8 := I.x.2.2.2.2.2.2.2.2.2.1
  obtain ⟨d0, d1, d2, d3, d4, d5, d6, d7⟩ := I.day.to0
  have h8 := I.day.2.2.2.2.2.2.2.2.2.2.2.1
  rw [pop_of (fun i h1 h2 => h8 i (by omega) h2), pop8_def, d3]
