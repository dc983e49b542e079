theorem sv_u2_u2 {α : Type} {f : Nat → Nat → α} {i k : Nat} {u v : α} : sv_u2 (sv_u2 f i k u) i k v = sv_u2 f i k v := by
  funext x z
  by_cases h : x = i ∧ z = k <;> simp [sv_u2, h]
def pop8 (x : Int32) : Nat := (bt x 0).toNat + (bt x 1).toNat + (bt x 2).toNat + (bt x 3).toNat + (bt x 4).toNat + (bt x 5).toNat + (bt x 6).toNat + (bt x 7).toNat
theorem pop_all : ∀ k, k < 256 → sv_bc (nI k) = nI (pop8 (nI k)) := by decide +kernel
theorem bt_small8 {x : Int32} (h : ∀ i, 8 ≤ i → i < 32 → bt x i = false) : ∃ m, m < 256 ∧ x = nI m := by
  refine ⟨x.toBitVec.toNat, ?_, Int32.toBitVec_inj.mp (by show _ = BitVec.ofNat 32 _; simp)⟩
  apply Nat.lt_of_not_le
  intro hle
  have h2 : x.toBitVec.toNat < 2 ^ 32 := x.toBitVec.isLt
  obtain ⟨i, h3, h4⟩ : ∃ i, 8 ≤ i ∧ x.toBitVec.toNat.testBit i = true := Nat.exists_ge_and_testBit_of_ge_two_pow (n := 8) hle
  by_cases hi : i < 32
  · have h5 := h i h3 hi
    unfold bt BitVec.getLsbD at h5
    rw [h5] at h4
    cases h4
  · rw [Nat.testBit_lt_two_pow (Nat.lt_of_lt_of_le h2 (Nat.pow_le_pow_right (by decide) (by omega)))] at h4
    cases h4
theorem pop_of {x : Int32} (h : ∀ i, 8 ≤ i → i < 32 → bt x i = false) : sv_bc x = nI (pop8 x) := by
  obtain ⟨m, hm, rfl⟩ := bt_small8 h
  exact pop_all m hm
theorem pop8_le (x : Int32) : pop8 x ≤ 8 := by
  unfold pop8
  have h : ∀ b : Bool, b.toNat ≤ 1 := fun b => by cases b <;> decide
  have := h (bt x 0); have := h (bt x 1); have := h (bt x 2); have := h (bt x 3); have := h (bt x 4); have := h (bt x 5); have := h (bt x 6); have := h (bt x 7)
  omega
theorem bt_lt256 {s : Nat} (hs : s < 256) : ∀ i, 8 ≤ i → i < 32 → bt (nI s) i = false := fun i h1 h2 => by
  rw [hb_nat (by omega)]
  exact Nat.testBit_lt_two_pow (Nat.lt_of_lt_of_le hs (Nat.pow_le_pow_right (n := 2) (by decide) h1))
theorem mOpen_bits {stopped hour : Int32} {hours : Nat → Int32} : ∀ {T : Nat}, T ≤ 32 → ∀ i, T ≤ i → i < 32 → bt (mOpen stopped hour hours T) i = false := by
  intro T
  induction T with
  | zero => intro _ i _ _; exact b_0 i
  | succ T ih =>
    intro hT i h1 h2
    rw [mOpen]
    split
    · exact ih (by omega) i (by omega) h2
    · rw [hb_set _ (by omega) h2, ih (by omega) i (by omega) h2]
      simp; omega
theorem mFor_bits {likes : Nat → Int32} {cd : Int32} : ∀ {T : Nat}, T ≤ 32 → ∀ i, T ≤ i → i < 32 → bt (mFor likes cd T) i = false := by
  intro T
  induction T with
  | zero => intro _ i _ _; exact b_0 i
  | succ T ih =>
    intro hT i h1 h2
    rw [mFor]
    split
    · exact ih (by omega) i (by omega) h2
    · rw [hb_set _ (by omega) h2, ih (by omega) i (by omega) h2]
      simp; omega
/-- how many below n are so -/
def mCnt (p : Nat → Bool) : Nat → Nat
  | 0 => 0
  | n + 1 => mCnt p n + (p n).toNat
theorem mCnt_t {p : Nat → Bool} {n : Nat} (h : p n = true) : mCnt p (n + 1) = mCnt p n + 1 := by rw [mCnt, h]; rfl
theorem mCnt_f {p : Nat → Bool} {n : Nat} (h : p n = false) : mCnt p (n + 1) = mCnt p n := by rw [mCnt, h]; rfl
def mLaws (f : Nat → Bool) : Nat → Int32
  | 0 => 0
  | n + 1 => if f (n + 1) = true then mLaws f n ||| (1 <<< (nI (n + 1) &&& 31)) else mLaws f n
def mSum (p : Nat → Bool) (g : Nat → Nat) : Nat → Nat
  | 0 => 0
  | n + 1 => mSum p g n + (if p n = true then g n else 0)
def mPlan (ok wins : Nat → Bool) (buns : Int32) : Nat → Int32 × Int32
  | 0 => (-9, buns + 1)
  | s + 1 => if ok s = true ∧ sv_bc (nI s) < (mPlan ok wins buns s).2 ∧ wins s = true then (nI s, sv_bc (nI s)) else mPlan ok wins buns s
set_option maxRecDepth 20000 in
set_option maxHeartbeats 2000000 in
theorem lo_X6_groupsOf {l : Launch} {G : svG} {hi : svH} {hl : svL} {tw dr : Nat} {pm : Nat → Nat} {Gn : Nat} {x : Int32} (htw : svSH[tw]? = some (0, 6)) (hGn : hi tw 4 = nI Gn) (hG6 : Gn ≤ 6) : ∀ t, t ≤ Gn → svJ l G rX6_groupsOf mX6_groupsOf (sv_Fm G (fun v sh a b c => ∃ r, v = some (.int r) ∧ sh = svSH ∧ ((nI (mCnt (fun r => decide (hi (tw + 5) r = x)) Gn)) = r ∧ hi = a ∧ hl = b ∧ (sv_hr tw dr pm) = c)) 0 0) 0 0 4 [some (sv_rf G.1 tw), some (.int x), some (.int (nI (mCnt (fun r => decide (hi (tw + 5) r = x)) t))), some (.int (nI t))] [] svSH hi hl (sv_hr tw dr pm) := by
  refine sv_up (fun t ht ih => ?_)
  refine S_iload_3 (pc := 4) dX6_groupsOf_4 ?_
  refine S_aload_0 (pc := 5) dX6_groupsOf_5 ?_
  refine fgX6_24 (pc := 6) htw dX6_groupsOf_6 ?_
  refine J_icmp_ge (pc := 9) 33 dX6_groupsOf_9 (by decide) (fun h9 => ?_) (fun h9 => ?_)
  · rw [hGn, nI_leI (by omega) (by omega)] at h9
    obtain rfl : t = Gn := by omega
    refine S_iload_2 (pc := 33) dX6_groupsOf_33 ?_
    exact J_ireturn (pc := 34) dX6_groupsOf_34 rfl rfl ⟨_, rfl, rfl, ⟨rfl, rfl, rfl, rfl⟩⟩
  · rw [hGn, nI_leI (by omega) (by omega)] at h9
    refine S_aload_0 (pc := 12) dX6_groupsOf_12 ?_
    refine fgX6_40 (pc := 13) htw (hv_T9 htw) dX6_groupsOf_13 ?_
    refine S_iload_3 (pc := 16) dX6_groupsOf_16 ?_
    refine caX6_50 (pc := 17) (t_X7_at_n (l := l) (G := G) (j := t) (ar_T9 htw) (by omega) (by decide)) (Nat.le_of_ble_eq_true rfl) ⟨rfl, rfl, ⟨by decide, by decide⟩, by decide, by decide⟩ dX6_groupsOf_17 (fun r17 a17 b17 c17 p17 => ?_)
    obtain ⟨rfl, rfl, rfl, rfl⟩ := p17
    refine S_iload_1 (pc := 20) dX6_groupsOf_20 ?_
    refine J_icmp_ne (pc := 21) 27 dX6_groupsOf_21 (by decide) (fun h21 => ?_) (fun h21 => ?_)
    · refine S_inc_3 (pc := 27) (1) rfl dX6_groupsOf_27 (by decide) ?_
      refine J_goto (pc := 30) 4 dX6_groupsOf_30 (by decide) ?_
      exact svJ_ls (by simp [mCnt, nI_succ, h9, h21]) (ih (t + 1) (by omega) (by omega))
    · refine S_inc_2 (pc := 24) (1) rfl dX6_groupsOf_24 (by decide) ?_
      refine S_inc_3 (pc := 27) (1) rfl dX6_groupsOf_27 (by decide) ?_
      refine J_goto (pc := 30) 4 dX6_groupsOf_30 (by decide) ?_
      exact svJ_ls (by simp [mCnt, nI_succ, h9, h21]) (ih (t + 1) (by omega) (by omega))
set_option maxRecDepth 20000 in
set_option maxHeartbeats 2000000 in
theorem t_X6_groupsOf {l : Launch} {G : svG} {hi : svH} {hl : svL} {tw dr : Nat} {pm : Nat → Nat} {Gn : Nat} {x : Int32} (htw : svSH[tw]? = some (0, 6)) (hGn : hi tw 4 = nI Gn) (hG6 : Gn ≤ 6) : svIp l G yX6_groupsOf mX6_groupsOf rX6_groupsOf [sv_rf G.1 tw, .int x] hi hl (sv_hr tw dr pm) (nI (mCnt (fun r => decide (hi (tw + 5) r = x)) Gn)) := by
  refine sv_entry (by decide +kernel) rfl rfl (Nat.le_of_ble_eq_true rfl) (by simp [Value.category, sv_rf]) [some (sv_rf G.1 tw), some (.int x), none, none] rfl ?_
  refine J_iconst (pc := 0) (0) rfl dX6_groupsOf_0 ?_
  refine S_istore_2 (pc := 1) dX6_groupsOf_1 (by decide) ?_
  refine J_iconst (pc := 2) (0) rfl dX6_groupsOf_2 ?_
  refine S_istore_3 (pc := 3) dX6_groupsOf_3 (by decide) ?_
  
  exact lo_X6_groupsOf htw hGn hG6 0 (Nat.zero_le _)
set_option maxRecDepth 20000 in
set_option maxHeartbeats 2000000 in
theorem t_X7_markOfOne {l : Launch} {G : svG} {hi : svH} {hl : svL} {tw dr : Nat} {pm : Nat → Nat} {C L T Gn : Nat} (hx : xT hi tw C L T Gn) {j : Nat} (hj : j < C)  : svI l G yX7_markOfOne mX7_markOfOne rX7_markOfOne [sv_rf G.1 0, .int (nI j)] hi hl (sv_hr tw dr pm) (fun r a b c => hi 18 j = r ∧ hi = a ∧ sv_u2 hl 0 9 (hl 0 9 + 1) = b ∧ sv_hr tw dr pm = c) := by
  obtain ⟨htw, hCc, hLc, hT, hGn, hC2, hC6, hL1, hLC, hT8, hG6, hf, hs, hk⟩ := id hx
  have htw2 := sv_tw htw
  have hk6 : ∀ t, t < T → ∃ j, j < 6 ∧ hi 20 t = nI j := fun t ht => (hk t ht).elim fun j h => ⟨j, by omega, h.2⟩
  have hf6 : ∀ r, r < Gn → ∃ j, j < 6 ∧ hi (tw + 5) r = nI j := fun r hr => (hf r hr).elim fun j h => ⟨j, by omega, h.2⟩
  have hs6 : ∀ r, r < Gn → ∃ j, j < 6 ∧ hi (tw + 6) r = nI j := fun r hr => (hs r hr).elim fun j h => ⟨j, by omega, h.2⟩
  refine sv_entry (by decide +kernel) rfl rfl (Nat.le_of_ble_eq_true rfl) (by simp [Value.category, sv_rf]) [some (sv_rf G.1 0), some (.int (nI j))] rfl ?_
  refine S_aload_0 (pc := 0) dX7_markOfOne_0 ?_
  refine J_dup (pc := 1) rfl dX7_markOfOne_1 ?_
  refine fgX7_64 (pc := 2) sh_0 dX7_markOfOne_2 ?_
  refine J_lconst (pc := 5) (1) rfl dX7_markOfOne_5 ?_
  refine J_ladd (pc := 6) dX7_markOfOne_6 ?_
  refine fpX7_64 (pc := 7) sh_0 dX7_markOfOne_7 ?_
  refine S_aload_0 (pc := 10) dX7_markOfOne_10 ?_
  refine fgX7_29 (pc := 11) sh_0 hv_0_3 dX7_markOfOne_11 ?_
  refine fgX7_179 (pc := 14) sh_17 hv_17_5 dX7_markOfOne_14 ?_
  refine S_iload_1 (pc := 17) dX7_markOfOne_17 ?_
  refine caX7_105 (pc := 18) (t_X7_at_n (l := l) (G := G) (j := j) sh_18 (by omega) (by decide)) (Nat.le_of_ble_eq_true rfl) ⟨rfl, rfl, ⟨by decide, by decide⟩, by decide, by decide⟩ dX7_markOfOne_18 (fun r18 a18 b18 c18 p18 => ?_)
  obtain ⟨rfl, rfl, rfl, rfl⟩ := p18
  exact J_ireturn (pc := 21) dX7_markOfOne_21 rfl rfl ⟨_, rfl, rfl, ⟨rfl, rfl, by simp only [sv_u2_u2, sv_u2_at], rfl⟩⟩
set_option maxRecDepth 20000 in
set_option maxHeartbeats 2000000 in
theorem t_X7_markOfLiberal {l : Launch} {G : svG} {hi : svH} {hl : svL} {tw dr : Nat} {pm : Nat → Nat} {C L T Gn : Nat} (hx : xT hi tw C L T Gn) {j : Nat} (hj : j < C)  : svI l G yX7_markOfLiberal mX7_markOfLiberal rX7_markOfLiberal [sv_rf G.1 0, .int (nI j)] hi hl (sv_hr tw dr pm) (fun r a b c => hi 18 j + sv_bc (mFor (hi 20) (nI j) T &&& (hi 17 3 ^^^ (-1))) = r ∧ hi = a ∧ sv_u2 hl 0 9 (hl 0 9 + 10 + 1) = b ∧ sv_hr tw dr pm = c) := by
  obtain ⟨htw, hCc, hLc, hT, hGn, hC2, hC6, hL1, hLC, hT8, hG6, hf, hs, hk⟩ := id hx
  have htw2 := sv_tw htw
  have hk6 : ∀ t, t < T → ∃ j, j < 6 ∧ hi 20 t = nI j := fun t ht => (hk t ht).elim fun j h => ⟨j, by omega, h.2⟩
  have hf6 : ∀ r, r < Gn → ∃ j, j < 6 ∧ hi (tw + 5) r = nI j := fun r hr => (hf r hr).elim fun j h => ⟨j, by omega, h.2⟩
  have hs6 : ∀ r, r < Gn → ∃ j, j < 6 ∧ hi (tw + 6) r = nI j := fun r hr => (hs r hr).elim fun j h => ⟨j, by omega, h.2⟩
  refine sv_entry (by decide +kernel) rfl rfl (Nat.le_of_ble_eq_true rfl) (by simp [Value.category, sv_rf]) [some (sv_rf G.1 0), some (.int (nI j))] rfl ?_
  refine S_aload_0 (pc := 0) dX7_markOfLiberal_0 ?_
  refine J_dup (pc := 1) rfl dX7_markOfLiberal_1 ?_
  refine fgX7_64 (pc := 2) sh_0 dX7_markOfLiberal_2 ?_
  refine ldX7_267 (pc := 5) dX7_markOfLiberal_5 ?_
  refine J_ladd (pc := 8) dX7_markOfLiberal_8 ?_
  refine fpX7_64 (pc := 9) sh_0 dX7_markOfLiberal_9 ?_
  refine S_aload_0 (pc := 12) dX7_markOfLiberal_12 ?_
  refine S_iload_1 (pc := 13) dX7_markOfLiberal_13 ?_
  refine caX7_228 (pc := 14) (t_X7_markOfOne (l := l) (G := G) hx hj) sh_0 (Nat.le_of_ble_eq_true rfl) ⟨rfl, rfl, ⟨by decide, by decide⟩, by decide, by decide⟩ dX7_markOfLiberal_14 (fun r14 a14 b14 c14 p14 => ?_)
  obtain ⟨rfl, rfl, rfl, rfl⟩ := p14
  refine S_aload_0 (pc := 17) dX7_markOfLiberal_17 ?_
  refine S_iload_1 (pc := 18) dX7_markOfLiberal_18 ?_
  refine caX7_194 (pc := 19) (t_X7_trainsFor (l := l) (G := G) htw hT hT8) sh_0 (Nat.le_of_ble_eq_true rfl) ⟨rfl, rfl, ⟨by decide, by decide⟩, by decide, by decide⟩ dX7_markOfLiberal_19 (fun r19 a19 b19 c19 p19 => ?_)
  obtain ⟨rfl, rfl, rfl, rfl⟩ := p19
  refine S_aload_0 (pc := 22) dX7_markOfLiberal_22 ?_
  refine fgX7_29 (pc := 23) sh_0 hv_0_3 dX7_markOfLiberal_23 ?_
  refine fgX7_115 (pc := 26) sh_17 dX7_markOfLiberal_26 ?_
  refine J_iconst (pc := 29) (-1) rfl dX7_markOfLiberal_29 ?_
  refine J_ixor (pc := 30) dX7_markOfLiberal_30 ?_
  refine J_iand (pc := 31) dX7_markOfLiberal_31 ?_
  refine caX7_173 (pc := 32) (t_J6_bitCount_0f7a4 (l := l) (G := G)) (Nat.le_of_ble_eq_true rfl) ⟨rfl, rfl, ⟨by decide, by decide⟩, by decide, by decide⟩ dX7_markOfLiberal_32 (fun r32 a32 b32 c32 p32 => ?_)
  obtain ⟨rfl, rfl, rfl, rfl⟩ := p32
  refine J_iadd (pc := 35) dX7_markOfLiberal_35 ?_
  exact J_ireturn (pc := 36) dX7_markOfLiberal_36 rfl rfl ⟨_, rfl, rfl, ⟨rfl, rfl, by simp only [sv_u2_u2, sv_u2_at], rfl⟩⟩
set_option maxRecDepth 20000 in
set_option maxHeartbeats 2000000 in
theorem t_X7_markOfTory {l : Launch} {G : svG} {hi : svH} {hl : svL} {tw dr : Nat} {pm : Nat → Nat} {C L T Gn : Nat} (hx : xT hi tw C L T Gn) {j : Nat} (hj : j < C)  : svI l G yX7_markOfTory mX7_markOfTory rX7_markOfTory [sv_rf G.1 0, .int (nI j)] hi hl (sv_hr tw dr pm) (fun r a b c => hi 18 j - nI (mCnt (fun r => decide (hi (tw + 5) r = nI j)) Gn) = r ∧ hi = a ∧ sv_u2 hl 0 9 (hl 0 9 + 100 + 1) = b ∧ sv_hr tw dr pm = c) := by
  obtain ⟨htw, hCc, hLc, hT, hGn, hC2, hC6, hL1, hLC, hT8, hG6, hf, hs, hk⟩ := id hx
  have htw2 := sv_tw htw
  have hk6 : ∀ t, t < T → ∃ j, j < 6 ∧ hi 20 t = nI j := fun t ht => (hk t ht).elim fun j h => ⟨j, by omega, h.2⟩
  have hf6 : ∀ r, r < Gn → ∃ j, j < 6 ∧ hi (tw + 5) r = nI j := fun r hr => (hf r hr).elim fun j h => ⟨j, by omega, h.2⟩
  have hs6 : ∀ r, r < Gn → ∃ j, j < 6 ∧ hi (tw + 6) r = nI j := fun r hr => (hs r hr).elim fun j h => ⟨j, by omega, h.2⟩
  refine sv_entry (by decide +kernel) rfl rfl (Nat.le_of_ble_eq_true rfl) (by simp [Value.category, sv_rf]) [some (sv_rf G.1 0), some (.int (nI j))] rfl ?_
  refine S_aload_0 (pc := 0) dX7_markOfTory_0 ?_
  refine J_dup (pc := 1) rfl dX7_markOfTory_1 ?_
  refine fgX7_64 (pc := 2) sh_0 dX7_markOfTory_2 ?_
  refine ldX7_269 (pc := 5) dX7_markOfTory_5 ?_
  refine J_ladd (pc := 8) dX7_markOfTory_8 ?_
  refine fpX7_64 (pc := 9) sh_0 dX7_markOfTory_9 ?_
  refine S_aload_0 (pc := 12) dX7_markOfTory_12 ?_
  refine S_iload_1 (pc := 13) dX7_markOfTory_13 ?_
  refine caX7_228 (pc := 14) (t_X7_markOfOne (l := l) (G := G) hx hj) sh_0 (Nat.le_of_ble_eq_true rfl) ⟨rfl, rfl, ⟨by decide, by decide⟩, by decide, by decide⟩ dX7_markOfTory_14 (fun r14 a14 b14 c14 p14 => ?_)
  obtain ⟨rfl, rfl, rfl, rfl⟩ := p14
  refine S_aload_0 (pc := 17) dX7_markOfTory_17 ?_
  refine fgX7_10 (pc := 18) sh_0 hv_0_0 dX7_markOfTory_18 ?_
  refine S_iload_1 (pc := 21) dX7_markOfTory_21 ?_
  refine caX7_271 (pc := 22) (t_X6_groupsOf (l := l) (G := G) htw hGn hG6) htw (Nat.le_of_ble_eq_true rfl) ⟨rfl, rfl, ⟨by decide, by decide⟩, by decide, by decide⟩ dX7_markOfTory_22 (fun r22 a22 b22 c22 p22 => ?_)
  obtain ⟨rfl, rfl, rfl, rfl⟩ := p22
  refine J_isub (pc := 25) dX7_markOfTory_25 ?_
  exact J_ireturn (pc := 26) dX7_markOfTory_26 rfl rfl ⟨_, rfl, rfl, ⟨rfl, rfl, by simp only [sv_u2_u2, sv_u2_at], rfl⟩⟩
set_option maxRecDepth 20000 in
set_option maxHeartbeats 2000000 in
theorem t_X7_markOfGuard {l : Launch} {G : svG} {hi : svH} {hl : svL} {tw dr : Nat} {pm : Nat → Nat} {C L T Gn : Nat} (hx : xT hi tw C L T Gn) {j : Nat} (hj : j < C)  : svI l G yX7_markOfGuard mX7_markOfGuard rX7_markOfGuard [sv_rf G.1 0, .int (nI j)] hi hl (sv_hr tw dr pm) (fun r a b c => (hi 18 j + sv_bc (mFor (hi 20) (nI j) T &&& (hi 17 3 ^^^ (-1)))) * 2 = r ∧ hi = a ∧ sv_u2 hl 0 9 (hl 0 9 + 1000 + 10 + 1) = b ∧ sv_hr tw dr pm = c) := by
  obtain ⟨htw, hCc, hLc, hT, hGn, hC2, hC6, hL1, hLC, hT8, hG6, hf, hs, hk⟩ := id hx
  have htw2 := sv_tw htw
  have hk6 : ∀ t, t < T → ∃ j, j < 6 ∧ hi 20 t = nI j := fun t ht => (hk t ht).elim fun j h => ⟨j, by omega, h.2⟩
  have hf6 : ∀ r, r < Gn → ∃ j, j < 6 ∧ hi (tw + 5) r = nI j := fun r hr => (hf r hr).elim fun j h => ⟨j, by omega, h.2⟩
  have hs6 : ∀ r, r < Gn → ∃ j, j < 6 ∧ hi (tw + 6) r = nI j := fun r hr => (hs r hr).elim fun j h => ⟨j, by omega, h.2⟩
  refine sv_entry (by decide +kernel) rfl rfl (Nat.le_of_ble_eq_true rfl) (by simp [Value.category, sv_rf]) [some (sv_rf G.1 0), some (.int (nI j))] rfl ?_
  refine S_aload_0 (pc := 0) dX7_markOfGuard_0 ?_
  refine J_dup (pc := 1) rfl dX7_markOfGuard_1 ?_
  refine fgX7_64 (pc := 2) sh_0 dX7_markOfGuard_2 ?_
  refine ldX7_274 (pc := 5) dX7_markOfGuard_5 ?_
  refine J_ladd (pc := 8) dX7_markOfGuard_8 ?_
  refine fpX7_64 (pc := 9) sh_0 dX7_markOfGuard_9 ?_
  refine S_aload_0 (pc := 12) dX7_markOfGuard_12 ?_
  refine S_iload_1 (pc := 13) dX7_markOfGuard_13 ?_
  refine caX7_231 (pc := 14) (t_X7_markOfLiberal (l := l) (G := G) hx hj) sh_0 (Nat.le_of_ble_eq_true rfl) ⟨rfl, rfl, ⟨by decide, by decide⟩, by decide, by decide⟩ dX7_markOfGuard_14 (fun r14 a14 b14 c14 p14 => ?_)
  obtain ⟨rfl, rfl, rfl, rfl⟩ := p14
  refine J_iconst (pc := 17) (2) rfl dX7_markOfGuard_17 ?_
  refine J_imul (pc := 18) dX7_markOfGuard_18 ?_
  exact J_ireturn (pc := 19) dX7_markOfGuard_19 rfl rfl ⟨_, rfl, rfl, ⟨rfl, rfl, by simp only [sv_u2_u2, sv_u2_at], rfl⟩⟩
set_option maxRecDepth 20000 in
set_option maxHeartbeats 2000000 in
theorem t_X7_markOfPorter {l : Launch} {G : svG} {hi : svH} {hl : svL} {tw dr : Nat} {pm : Nat → Nat} {C L T Gn : Nat} (hx : xT hi tw C L T Gn) {j : Nat} (hj : j < C)  : svI l G yX7_markOfPorter mX7_markOfPorter rX7_markOfPorter [sv_rf G.1 0, .int (nI j)] hi hl (sv_hr tw dr pm) (fun r a b c => hi 18 j - nI (mCnt (fun r => decide (hi (tw + 5) r = nI j)) Gn) + nI j = r ∧ hi = a ∧ sv_u2 hl 0 9 (hl 0 9 + 10000 + 100 + 1) = b ∧ sv_hr tw dr pm = c) := by
  obtain ⟨htw, hCc, hLc, hT, hGn, hC2, hC6, hL1, hLC, hT8, hG6, hf, hs, hk⟩ := id hx
  have htw2 := sv_tw htw
  have hk6 : ∀ t, t < T → ∃ j, j < 6 ∧ hi 20 t = nI j := fun t ht => (hk t ht).elim fun j h => ⟨j, by omega, h.2⟩
  have hf6 : ∀ r, r < Gn → ∃ j, j < 6 ∧ hi (tw + 5) r = nI j := fun r hr => (hf r hr).elim fun j h => ⟨j, by omega, h.2⟩
  have hs6 : ∀ r, r < Gn → ∃ j, j < 6 ∧ hi (tw + 6) r = nI j := fun r hr => (hs r hr).elim fun j h => ⟨j, by omega, h.2⟩
  refine sv_entry (by decide +kernel) rfl rfl (Nat.le_of_ble_eq_true rfl) (by simp [Value.category, sv_rf]) [some (sv_rf G.1 0), some (.int (nI j))] rfl ?_
  refine S_aload_0 (pc := 0) dX7_markOfPorter_0 ?_
  refine J_dup (pc := 1) rfl dX7_markOfPorter_1 ?_
  refine fgX7_64 (pc := 2) sh_0 dX7_markOfPorter_2 ?_
  refine ldX7_276 (pc := 5) dX7_markOfPorter_5 ?_
  refine J_ladd (pc := 8) dX7_markOfPorter_8 ?_
  refine fpX7_64 (pc := 9) sh_0 dX7_markOfPorter_9 ?_
  refine S_aload_0 (pc := 12) dX7_markOfPorter_12 ?_
  refine S_iload_1 (pc := 13) dX7_markOfPorter_13 ?_
  refine caX7_234 (pc := 14) (t_X7_markOfTory (l := l) (G := G) hx hj) sh_0 (Nat.le_of_ble_eq_true rfl) ⟨rfl, rfl, ⟨by decide, by decide⟩, by decide, by decide⟩ dX7_markOfPorter_14 (fun r14 a14 b14 c14 p14 => ?_)
  obtain ⟨rfl, rfl, rfl, rfl⟩ := p14
  refine S_iload_1 (pc := 17) dX7_markOfPorter_17 ?_
  refine J_iadd (pc := 18) dX7_markOfPorter_18 ?_
  exact J_ireturn (pc := 19) dX7_markOfPorter_19 rfl rfl ⟨_, rfl, rfl, ⟨rfl, rfl, by simp only [sv_u2_u2, sv_u2_at], rfl⟩⟩
set_option maxRecDepth 20000 in
set_option maxHeartbeats 2000000 in
theorem t_X7_markOfMayor {l : Launch} {G : svG} {hi : svH} {hl : svL} {tw dr : Nat} {pm : Nat → Nat} {C L T Gn : Nat} (hx : xT hi tw C L T Gn) {j : Nat} (hj : j < C)  : svI l G yX7_markOfMayor mX7_markOfMayor rX7_markOfMayor [sv_rf G.1 0, .int (nI j)] hi hl (sv_hr tw dr pm) (fun r a b c => hi 18 j + hi 17 0 = r ∧ hi = a ∧ sv_u2 hl 0 9 (hl 0 9 + 100000 + 1) = b ∧ sv_hr tw dr pm = c) := by
  obtain ⟨htw, hCc, hLc, hT, hGn, hC2, hC6, hL1, hLC, hT8, hG6, hf, hs, hk⟩ := id hx
  have htw2 := sv_tw htw
  have hk6 : ∀ t, t < T → ∃ j, j < 6 ∧ hi 20 t = nI j := fun t ht => (hk t ht).elim fun j h => ⟨j, by omega, h.2⟩
  have hf6 : ∀ r, r < Gn → ∃ j, j < 6 ∧ hi (tw + 5) r = nI j := fun r hr => (hf r hr).elim fun j h => ⟨j, by omega, h.2⟩
  have hs6 : ∀ r, r < Gn → ∃ j, j < 6 ∧ hi (tw + 6) r = nI j := fun r hr => (hs r hr).elim fun j h => ⟨j, by omega, h.2⟩
  refine sv_entry (by decide +kernel) rfl rfl (Nat.le_of_ble_eq_true rfl) (by simp [Value.category, sv_rf]) [some (sv_rf G.1 0), some (.int (nI j))] rfl ?_
  refine S_aload_0 (pc := 0) dX7_markOfMayor_0 ?_
  refine J_dup (pc := 1) rfl dX7_markOfMayor_1 ?_
  refine fgX7_64 (pc := 2) sh_0 dX7_markOfMayor_2 ?_
  refine ldX7_278 (pc := 5) dX7_markOfMayor_5 ?_
  refine J_ladd (pc := 8) dX7_markOfMayor_8 ?_
  refine fpX7_64 (pc := 9) sh_0 dX7_markOfMayor_9 ?_
  refine S_aload_0 (pc := 12) dX7_markOfMayor_12 ?_
  refine S_iload_1 (pc := 13) dX7_markOfMayor_13 ?_
  refine caX7_228 (pc := 14) (t_X7_markOfOne (l := l) (G := G) hx hj) sh_0 (Nat.le_of_ble_eq_true rfl) ⟨rfl, rfl, ⟨by decide, by decide⟩, by decide, by decide⟩ dX7_markOfMayor_14 (fun r14 a14 b14 c14 p14 => ?_)
  obtain ⟨rfl, rfl, rfl, rfl⟩ := p14
  refine S_aload_0 (pc := 17) dX7_markOfMayor_17 ?_
  refine fgX7_29 (pc := 18) sh_0 hv_0_3 dX7_markOfMayor_18 ?_
  refine fgX7_150 (pc := 21) sh_17 dX7_markOfMayor_21 ?_
  refine J_iadd (pc := 24) dX7_markOfMayor_24 ?_
  exact J_ireturn (pc := 25) dX7_markOfMayor_25 rfl rfl ⟨_, rfl, rfl, ⟨rfl, rfl, by simp only [sv_u2_u2, sv_u2_at], rfl⟩⟩
def fMark (C : Nat) (votes : Nat → Int32) (lib tor : Nat → Int32) (hour kind x : Int32) : Int32 × Int64 := if 0 ≤ x ∧ x < nI C then (if kind = 0 then (votes x.toNatClampNeg, 1) else if kind = 1 then (lib x.toNatClampNeg, 11) else if kind = 2 then (tor x.toNatClampNeg, 101) else if kind = 3 then (lib x.toNatClampNeg * 2, 1011) else if kind = 4 then (tor x.toNatClampNeg + x, 10101) else if kind = 5 then (votes x.toNatClampNeg + hour, 100001) else (-1000000, 0)) else (-1000000, 0)
theorem sv_u2_same {α : Type} {f : Nat → Nat → α} {i k : Nat} : sv_u2 f i k (f i k) = f := by
  funext x z
  by_cases h : x = i ∧ z = k
  · simp [sv_u2, h]
  · simp [sv_u2, h]
theorem fMark_bad {C : Nat} {votes lib tor : Nat → Int32} {hour kind x : Int32} (h : ¬ (0 ≤ x ∧ x < nI C)) : fMark C votes lib tor hour kind x = (-1000000, 0) := if_neg h
theorem fMark_out {C : Nat} {votes lib tor : Nat → Int32} {hour kind x : Int32} (h : ¬ kind = 0 ∧ ¬ kind = 1 ∧ ¬ kind = 2 ∧ ¬ kind = 3 ∧ ¬ kind = 4 ∧ ¬ kind = 5) : fMark C votes lib tor hour kind x = (-1000000, 0) := by
  unfold fMark
  obtain ⟨h0, h1, h2, h3, h4, h5⟩ := h
  simp [h0, h1, h2, h3, h4, h5]
theorem fMark_0 {C j : Nat} {votes lib tor : Nat → Int32} {hour : Int32} (hj : j < C) (hC : C ≤ 6) : fMark C votes lib tor hour 0 (nI j) = (votes j, 1) := by
  unfold fMark
  rw [if_pos ⟨nI_pos' (by omega), nI_lt hj (by omega)⟩, nI_clamp (by omega), if_pos rfl]
theorem fMark_1 {C j : Nat} {votes lib tor : Nat → Int32} {hour : Int32} (hj : j < C) (hC : C ≤ 6) : fMark C votes lib tor hour 1 (nI j) = (lib j, 11) := by
  unfold fMark
  rw [if_pos ⟨nI_pos' (by omega), nI_lt hj (by omega)⟩, nI_clamp (by omega), if_neg (by decide), if_pos rfl]
theorem fMark_2 {C j : Nat} {votes lib tor : Nat → Int32} {hour : Int32} (hj : j < C) (hC : C ≤ 6) : fMark C votes lib tor hour 2 (nI j) = (tor j, 101) := by
  unfold fMark
  rw [if_pos ⟨nI_pos' (by omega), nI_lt hj (by omega)⟩, nI_clamp (by omega), if_neg (by decide), if_neg (by decide), if_pos rfl]
theorem fMark_3 {C j : Nat} {votes lib tor : Nat → Int32} {hour : Int32} (hj : j < C) (hC : C ≤ 6) : fMark C votes lib tor hour 3 (nI j) = (lib j * 2, 1011) := by
  unfold fMark
  rw [if_pos ⟨nI_pos' (by omega), nI_lt hj (by omega)⟩, nI_clamp (by omega), if_neg (by decide), if_neg (by decide), if_neg (by decide), if_pos rfl]
theorem fMark_4 {C j : Nat} {votes lib tor : Nat → Int32} {hour : Int32} (hj : j < C) (hC : C ≤ 6) : fMark C votes lib tor hour 4 (nI j) = (tor j + nI j, 10101) := by
  unfold fMark
  rw [if_pos ⟨nI_pos' (by omega), nI_lt hj (by omega)⟩, nI_clamp (by omega), if_neg (by decide), if_neg (by decide), if_neg (by decide), if_neg (by decide), if_pos rfl]
theorem fMark_5 {C j : Nat} {votes lib tor : Nat → Int32} {hour : Int32} (hj : j < C) (hC : C ≤ 6) : fMark C votes lib tor hour 5 (nI j) = (votes j + hour, 100001) := by
  unfold fMark
  rw [if_pos ⟨nI_pos' (by omega), nI_lt hj (by omega)⟩, nI_clamp (by omega), if_neg (by decide), if_neg (by decide), if_neg (by decide), if_neg (by decide), if_neg (by decide), if_pos rfl]
set_option maxRecDepth 20000 in
set_option maxHeartbeats 2000000 in
theorem t_X7_mark {l : Launch} {G : svG} {hi : svH} {hl : svL} {tw dr : Nat} {pm : Nat → Nat} {C L T Gn : Nat} (hx : xT hi tw C L T Gn) {what x : Int32} : svI l G yX7_mark mX7_mark rX7_mark [sv_rf G.1 0, .int what, .int x] hi hl (sv_hr tw dr pm) (fun r a b c => (fMark C (hi 18) (fun j => hi 18 j + sv_bc (mFor (hi 20) (nI j) T &&& (hi 17 3 ^^^ (-1)))) (fun j => hi 18 j - nI (mCnt (fun r => decide (hi (tw + 5) r = nI j)) Gn)) (hi 17 0) what x).1 = r ∧ hi = a ∧ sv_u2 hl 0 9 (hl 0 9 + (fMark C (hi 18) (fun j => hi 18 j + sv_bc (mFor (hi 20) (nI j) T &&& (hi 17 3 ^^^ (-1)))) (fun j => hi 18 j - nI (mCnt (fun r => decide (hi (tw + 5) r = nI j)) Gn)) (hi 17 0) what x).2) = b ∧ sv_hr tw dr pm = c) := by
  obtain ⟨htw, hCc, hLc, hT, hGn, hC2, hC6, hL1, hLC, hT8, hG6, hf, hs, hk⟩ := id hx
  have htw2 := sv_tw htw
  have hk6 : ∀ t, t < T → ∃ j, j < 6 ∧ hi 20 t = nI j := fun t ht => (hk t ht).elim fun j h => ⟨j, by omega, h.2⟩
  have hf6 : ∀ r, r < Gn → ∃ j, j < 6 ∧ hi (tw + 5) r = nI j := fun r hr => (hf r hr).elim fun j h => ⟨j, by omega, h.2⟩
  have hs6 : ∀ r, r < Gn → ∃ j, j < 6 ∧ hi (tw + 6) r = nI j := fun r hr => (hs r hr).elim fun j h => ⟨j, by omega, h.2⟩
  refine sv_entry (by decide +kernel) rfl rfl (Nat.le_of_ble_eq_true rfl) (by simp [Value.category, sv_rf]) [some (sv_rf G.1 0), some (.int what), some (.int x)] rfl ?_
  refine S_iload_2 (pc := 0) dX7_mark_0 ?_
  refine S_aload_0 (pc := 1) dX7_mark_1 ?_
  refine fgX7_10 (pc := 2) sh_0 hv_0_0 dX7_mark_2 ?_
  refine fgX7_137 (pc := 5) htw dX7_mark_5 ?_
  refine caX7_68 (pc := 8) (t_X7_isIn (l := l) (G := G)) (Nat.le_of_ble_eq_true rfl) ⟨rfl, rfl, ⟨by decide, by decide⟩, by decide, by decide⟩ dX7_mark_8 (fun r8 a8 b8 c8 p8 => ?_)
  obtain ⟨rfl, rfl, rfl, rfl⟩ := p8
  refine J_if_ne_b (pc := 11) 17 dX7_mark_11 (by decide) (fun h11 => ?_) (fun h11 => ?_)
  · rw [hCc] at h11
    obtain ⟨j, hj, rfl⟩ := sv_ix h11 (by omega)
    refine S_iload_1 (pc := 17) dX7_mark_17 ?_
    rcases sv_sw6 what with rfl | rfl | rfl | rfl | rfl | rfl | ⟨hne, hsw⟩
    · refine J_tableIn (pc := 18) 56 dX7_mark_18 (by decide) (by decide) rfl (by decide) ?_
      refine S_aload_0 (pc := 56) dX7_mark_56 ?_
      refine S_iload_2 (pc := 57) dX7_mark_57 ?_
      refine caX7_228 (pc := 58) (t_X7_markOfOne (l := l) (G := G) hx hj) sh_0 (Nat.le_of_ble_eq_true rfl) ⟨rfl, rfl, ⟨by decide, by decide⟩, by decide, by decide⟩ dX7_mark_58 (fun r58 a58 b58 c58 p58 => ?_)
      obtain ⟨rfl, rfl, rfl, rfl⟩ := p58
      exact J_ireturn (pc := 61) dX7_mark_61 rfl rfl ⟨_, rfl, rfl, (by rw [fMark_0 hj hC6]; exact ⟨rfl, rfl, by rw [show hl 0 9 + 1 = hl 0 9 + 1 from by rfl], rfl⟩)⟩
    · refine J_tableIn (pc := 18) 62 dX7_mark_18 (by decide) (by decide) rfl (by decide) ?_
      refine S_aload_0 (pc := 62) dX7_mark_62 ?_
      refine S_iload_2 (pc := 63) dX7_mark_63 ?_
      refine caX7_231 (pc := 64) (t_X7_markOfLiberal (l := l) (G := G) hx hj) sh_0 (Nat.le_of_ble_eq_true rfl) ⟨rfl, rfl, ⟨by decide, by decide⟩, by decide, by decide⟩ dX7_mark_64 (fun r64 a64 b64 c64 p64 => ?_)
      obtain ⟨rfl, rfl, rfl, rfl⟩ := p64
      exact J_ireturn (pc := 67) dX7_mark_67 rfl rfl ⟨_, rfl, rfl, (by rw [fMark_1 hj hC6]; exact ⟨rfl, rfl, by rw [show hl 0 9 + 10 + 1 = hl 0 9 + 11 from by simp only [Int64.add_assoc]; rfl], rfl⟩)⟩
    · refine J_tableIn (pc := 18) 68 dX7_mark_18 (by decide) (by decide) rfl (by decide) ?_
      refine S_aload_0 (pc := 68) dX7_mark_68 ?_
      refine S_iload_2 (pc := 69) dX7_mark_69 ?_
      refine caX7_234 (pc := 70) (t_X7_markOfTory (l := l) (G := G) hx hj) sh_0 (Nat.le_of_ble_eq_true rfl) ⟨rfl, rfl, ⟨by decide, by decide⟩, by decide, by decide⟩ dX7_mark_70 (fun r70 a70 b70 c70 p70 => ?_)
      obtain ⟨rfl, rfl, rfl, rfl⟩ := p70
      exact J_ireturn (pc := 73) dX7_mark_73 rfl rfl ⟨_, rfl, rfl, (by rw [fMark_2 hj hC6]; exact ⟨rfl, rfl, by rw [show hl 0 9 + 100 + 1 = hl 0 9 + 101 from by simp only [Int64.add_assoc]; rfl], rfl⟩)⟩
    · refine J_tableIn (pc := 18) 74 dX7_mark_18 (by decide) (by decide) rfl (by decide) ?_
      refine S_aload_0 (pc := 74) dX7_mark_74 ?_
      refine S_iload_2 (pc := 75) dX7_mark_75 ?_
      refine caX7_237 (pc := 76) (t_X7_markOfGuard (l := l) (G := G) hx hj) sh_0 (Nat.le_of_ble_eq_true rfl) ⟨rfl, rfl, ⟨by decide, by decide⟩, by decide, by decide⟩ dX7_mark_76 (fun r76 a76 b76 c76 p76 => ?_)
      obtain ⟨rfl, rfl, rfl, rfl⟩ := p76
      exact J_ireturn (pc := 79) dX7_mark_79 rfl rfl ⟨_, rfl, rfl, (by rw [fMark_3 hj hC6]; exact ⟨rfl, rfl, by rw [show hl 0 9 + 1000 + 10 + 1 = hl 0 9 + 1011 from by simp only [Int64.add_assoc]; rfl], rfl⟩)⟩
    · refine J_tableIn (pc := 18) 80 dX7_mark_18 (by decide) (by decide) rfl (by decide) ?_
      refine S_aload_0 (pc := 80) dX7_mark_80 ?_
      refine S_iload_2 (pc := 81) dX7_mark_81 ?_
      refine caX7_240 (pc := 82) (t_X7_markOfPorter (l := l) (G := G) hx hj) sh_0 (Nat.le_of_ble_eq_true rfl) ⟨rfl, rfl, ⟨by decide, by decide⟩, by decide, by decide⟩ dX7_mark_82 (fun r82 a82 b82 c82 p82 => ?_)
      obtain ⟨rfl, rfl, rfl, rfl⟩ := p82
      exact J_ireturn (pc := 85) dX7_mark_85 rfl rfl ⟨_, rfl, rfl, (by rw [fMark_4 hj hC6]; exact ⟨rfl, rfl, by rw [show hl 0 9 + 10000 + 100 + 1 = hl 0 9 + 10101 from by simp only [Int64.add_assoc]; rfl], rfl⟩)⟩
    · refine J_tableIn (pc := 18) 86 dX7_mark_18 (by decide) (by decide) rfl (by decide) ?_
      refine S_aload_0 (pc := 86) dX7_mark_86 ?_
      refine S_iload_2 (pc := 87) dX7_mark_87 ?_
      refine caX7_243 (pc := 88) (t_X7_markOfMayor (l := l) (G := G) hx hj) sh_0 (Nat.le_of_ble_eq_true rfl) ⟨rfl, rfl, ⟨by decide, by decide⟩, by decide, by decide⟩ dX7_mark_88 (fun r88 a88 b88 c88 p88 => ?_)
      obtain ⟨rfl, rfl, rfl, rfl⟩ := p88
      exact J_ireturn (pc := 91) dX7_mark_91 rfl rfl ⟨_, rfl, rfl, (by rw [fMark_5 hj hC6]; exact ⟨rfl, rfl, by rw [show hl 0 9 + 100000 + 1 = hl 0 9 + 100001 from by simp only [Int64.add_assoc]; rfl], rfl⟩)⟩
    · refine J_tableOut (pc := 18) 92 dX7_mark_18 hsw (by decide) ?_
      refine ldX7_227 (pc := 92) dX7_mark_92 ?_
      exact J_ireturn (pc := 94) dX7_mark_94 rfl rfl ⟨_, rfl, rfl, (by rw [fMark_out hne]; exact ⟨rfl, rfl, by rw [Int64.add_zero, sv_u2_same], rfl⟩)⟩
  · refine ldX7_227 (pc := 14) dX7_mark_14 ?_
    exact J_ireturn (pc := 16) dX7_mark_16 rfl rfl ⟨_, rfl, rfl, (by rw [fMark_bad (by rw [← hCc]; exact h11)]; exact ⟨rfl, rfl, by rw [Int64.add_zero, sv_u2_same], rfl⟩)⟩
set_option maxRecDepth 20000 in
set_option maxHeartbeats 2000000 in
theorem lo_X7_laws {l : Launch} {G : svG} {hi : svH} {hl : svL} {tw dr : Nat} {pm : Nat → Nat} {C L T Gn : Nat} (hx : xT hi tw C L T Gn) {x : Int32} (h11 : 0 ≤ x ∧ x < nI C) : ∀ t, t ≤ C → ∀ h', (∀ q, q ≠ 64 → q ≠ 65 → h' q = hi q) → svJ l G rX7_laws mX7_laws (sv_Fm G (fun v sh a b c => ∃ r, v = some (.int r) ∧ sh = svSH ∧ ((fun r a b c => (if 0 ≤ x ∧ x < nI C then mLaws (fun many => decide (nI (xWin hi tw C T Gn (mOpen (hi 17 3) (hi 17 0) (hi 19) T) many) = x)) C else -1) = r ∧ (∀ q, q ≠ 64 → q ≠ 65 → a q = hi q) ∧ hl = b ∧ sv_hr tw dr pm = c)) r a b c) 0 0) 0 0 26 [some (sv_rf G.1 0), some (.int x), some (.int (mOpen (hi 17 3) (hi 17 0) (hi 19) T)), some (.int (mLaws (fun many => decide (nI (xWin hi tw C T Gn (mOpen (hi 17 3) (hi 17 0) (hi 19) T) many) = x)) t)), some (.int (nI (t + 1)))] [] svSH h' hl (sv_hr tw dr pm) := by
  obtain ⟨htw, hCc, hLc, hT, hGn, hC2, hC6, hL1, hLC, hT8, hG6, hf, hs, hk⟩ := id hx
  have htw2 := sv_tw htw
  have hk6 : ∀ t, t < T → ∃ j, j < 6 ∧ hi 20 t = nI j := fun t ht => (hk t ht).elim fun j h => ⟨j, by omega, h.2⟩
  have hf6 : ∀ r, r < Gn → ∃ j, j < 6 ∧ hi (tw + 5) r = nI j := fun r hr => (hf r hr).elim fun j h => ⟨j, by omega, h.2⟩
  have hs6 : ∀ r, r < Gn → ∃ j, j < 6 ∧ hi (tw + 6) r = nI j := fun r hr => (hs r hr).elim fun j h => ⟨j, by omega, h.2⟩
  refine sv_up (fun t ht ih h' i1 => ?_)
  have et : h' tw = hi tw := i1 _ (by omega) (by omega)
  refine S_iload_4 (pc := 26) dX7_laws_26 ?_
  refine S_aload_0 (pc := 28) dX7_laws_28 ?_
  refine fgX7_10 (pc := 29) sh_0 hv_0_0 dX7_laws_29 ?_
  refine fgX7_137 (pc := 32) htw dX7_laws_32 ?_
  refine J_icmp_gt (pc := 35) 69 dX7_laws_35 (by decide) (fun h35 => ?_) (fun h35 => ?_)
  · rw [et, hCc, nI_ltI (by omega) (by omega)] at h35
    obtain rfl : t = C := by omega
    refine S_iload_3 (pc := 69) dX7_laws_69 ?_
    exact J_ireturn (pc := 70) dX7_laws_70 rfl rfl ⟨_, rfl, rfl, ⟨if_pos h11, i1, rfl, rfl⟩⟩
  · rw [et, hCc, nI_ltI (by omega) (by omega)] at h35
    refine S_iload_4 (pc := 38) dX7_laws_38 ?_
    refine J_bipush (pc := 40) (6) rfl dX7_laws_40 ?_
    refine J_icmp_gt (pc := 42) 69 dX7_laws_42 (by decide) (fun h42 => ?_) (fun h42 => ?_)
    · rw [show (6 : Int32) = nI 6 from rfl, nI_ltI (by omega) (by omega)] at h42
      exact absurd h42 (by omega)
    · refine S_aload_0 (pc := 45) dX7_laws_45 ?_
      refine S_iload_2 (pc := 46) dX7_laws_46 ?_
      refine S_iload_4 (pc := 47) dX7_laws_47 ?_
      refine caX7_191 (pc := 49) (t_X7_winnerAfter (l := l) (G := G) (hx.keep i1) (by omega) (by omega)) sh_0 (Nat.le_of_ble_eq_true rfl) ⟨rfl, rfl, ⟨by decide, by decide⟩, by decide, by decide⟩ dX7_laws_49 (fun r49 a49 b49 c49 p49 => ?_)
      obtain ⟨rfl, j1, rfl, rfl⟩ := p49
      refine S_iload_1 (pc := 52) dX7_laws_52 ?_
      refine J_icmp_ne (pc := 53) 63 dX7_laws_53 (by decide) (fun h53 => ?_) (fun h53 => ?_)
      · rw [xWin_keep htw i1] at h53
        refine S_inc_4 (pc := 63) (1) rfl dX7_laws_63 (by decide) ?_
        refine J_goto (pc := 66) 26 dX7_laws_66 (by decide) ?_
        refine svJ_ls (by rw [mLaws]; first | rw [if_neg (by simp only [decide_eq_true_eq]; exact h53), nI_succ (t + 1)] | rw [if_pos (by simp only [decide_eq_true_eq]; exact h53), nI_succ (t + 1)]) (ih (t + 1) (by omega) (by omega) _ (fun q g1 g2 => (j1 q g1 g2).trans (i1 q g1 g2)))
      · rw [xWin_keep htw i1] at h53
        refine S_iload_3 (pc := 56) dX7_laws_56 ?_
        refine J_iconst (pc := 57) (1) rfl dX7_laws_57 ?_
        refine S_iload_4 (pc := 58) dX7_laws_58 ?_
        refine J_ishl (pc := 60) dX7_laws_60 ?_
        refine J_ior (pc := 61) dX7_laws_61 ?_
        refine S_istore_3 (pc := 62) dX7_laws_62 (by decide) ?_
        refine S_inc_4 (pc := 63) (1) rfl dX7_laws_63 (by decide) ?_
        refine J_goto (pc := 66) 26 dX7_laws_66 (by decide) ?_
        refine svJ_ls (by rw [mLaws]; first | rw [if_neg (by simp only [decide_eq_true_eq]; exact h53), nI_succ (t + 1)] | rw [if_pos (by simp only [decide_eq_true_eq]; exact h53), nI_succ (t + 1)]) (ih (t + 1) (by omega) (by omega) _ (fun q g1 g2 => (j1 q g1 g2).trans (i1 q g1 g2)))
set_option maxRecDepth 20000 in
set_option maxHeartbeats 2000000 in
theorem t_X7_laws {l : Launch} {G : svG} {hi : svH} {hl : svL} {tw dr : Nat} {pm : Nat → Nat} {C L T Gn : Nat} (hx : xT hi tw C L T Gn) {x : Int32} : svI l G yX7_laws mX7_laws rX7_laws [sv_rf G.1 0, .int x] hi hl (sv_hr tw dr pm) (fun r a b c => (if 0 ≤ x ∧ x < nI C then mLaws (fun many => decide (nI (xWin hi tw C T Gn (mOpen (hi 17 3) (hi 17 0) (hi 19) T) many) = x)) C else -1) = r ∧ (∀ q, q ≠ 64 → q ≠ 65 → a q = hi q) ∧ hl = b ∧ sv_hr tw dr pm = c) := by
  obtain ⟨htw, hCc, hLc, hT, hGn, hC2, hC6, hL1, hLC, hT8, hG6, hf, hs, hk⟩ := id hx
  have htw2 := sv_tw htw
  have hk6 : ∀ t, t < T → ∃ j, j < 6 ∧ hi 20 t = nI j := fun t ht => (hk t ht).elim fun j h => ⟨j, by omega, h.2⟩
  have hf6 : ∀ r, r < Gn → ∃ j, j < 6 ∧ hi (tw + 5) r = nI j := fun r hr => (hf r hr).elim fun j h => ⟨j, by omega, h.2⟩
  have hs6 : ∀ r, r < Gn → ∃ j, j < 6 ∧ hi (tw + 6) r = nI j := fun r hr => (hs r hr).elim fun j h => ⟨j, by omega, h.2⟩
  refine sv_entry (by decide +kernel) rfl rfl (Nat.le_of_ble_eq_true rfl) (by simp [Value.category, sv_rf]) [some (sv_rf G.1 0), some (.int x), none, none, none] rfl ?_
  refine S_iload_1 (pc := 0) dX7_laws_0 ?_
  refine S_aload_0 (pc := 1) dX7_laws_1 ?_
  refine fgX7_10 (pc := 2) sh_0 hv_0_0 dX7_laws_2 ?_
  refine fgX7_137 (pc := 5) htw dX7_laws_5 ?_
  refine caX7_68 (pc := 8) (t_X7_isIn (l := l) (G := G)) (Nat.le_of_ble_eq_true rfl) ⟨rfl, rfl, ⟨by decide, by decide⟩, by decide, by decide⟩ dX7_laws_8 (fun r8 a8 b8 c8 p8 => ?_)
  obtain ⟨rfl, rfl, rfl, rfl⟩ := p8
  refine J_if_ne_b (pc := 11) 16 dX7_laws_11 (by decide) (fun h11 => ?_) (fun h11 => ?_)
  · refine S_aload_0 (pc := 16) dX7_laws_16 ?_
    refine caX7_140 (pc := 17) (t_X7_openTrains (l := l) (G := G) htw hT hT8) sh_0 (Nat.le_of_ble_eq_true rfl) ⟨rfl, rfl, ⟨by decide, by decide⟩, by decide, by decide⟩ dX7_laws_17 (fun r17 a17 b17 c17 p17 => ?_)
    obtain ⟨rfl, rfl, rfl, rfl⟩ := p17
    refine S_istore_2 (pc := 20) dX7_laws_20 (by decide) ?_
    refine J_iconst (pc := 21) (0) rfl dX7_laws_21 ?_
    refine S_istore_3 (pc := 22) dX7_laws_22 (by decide) ?_
    refine J_iconst (pc := 23) (1) rfl dX7_laws_23 ?_
    refine S_istore_4 (pc := 24) dX7_laws_24 (by decide) ?_
    exact lo_X7_laws hx (by rw [← hCc]; exact h11) 0 (Nat.zero_le _) hi (fun _ _ _ => rfl)
  · 
    refine J_iconst (pc := 14) (-1) rfl dX7_laws_14 ?_
    exact J_ireturn (pc := 15) dX7_laws_15 rfl rfl ⟨_, rfl, rfl, ⟨if_neg (by rw [← hCc]; exact h11), fun _ _ _ => rfl, rfl, rfl⟩⟩
set_option maxRecDepth 20000 in
set_option maxHeartbeats 2000000 in
theorem lo_X7_power {l : Launch} {G : svG} {hi : svH} {hl : svL} {tw dr : Nat} {pm : Nat → Nat} {C L T Gn : Nat} (hx : xT hi tw C L T Gn) {j : Nat} (hj : j < T) : ∀ t, t ≤ 256 → ∀ h', (∀ q, q ≠ 64 → q ≠ 65 → h' q = hi q) → svJ l G rX7_power mX7_power (sv_Fm G (fun v sh a b c => ∃ r, v = some (.int r) ∧ sh = svSH ∧ ((fun r a b c => nI (mCnt (fun s => decide (nI s &&& (((mOpen (hi 17 3) (hi 17 0) (hi 19) T) &&& ((1 <<< (nI j &&& 31)) ^^^ (-1))) ^^^ (-1)) = 0) && !(decide (nI (xWin hi tw C T Gn (nI s) L) = nI (xWin hi tw C T Gn (nI s ||| (1 <<< (nI j &&& 31))) L)))) 256) = r ∧ (∀ q, q ≠ 64 → q ≠ 65 → a q = hi q) ∧ hl = b ∧ sv_hr tw dr pm = c)) r a b c) 0 0) 0 0 46 [some (sv_rf G.1 0), some (.int (nI j)), some (.int (mOpen (hi 17 3) (hi 17 0) (hi 19) T)), some (.int ((mOpen (hi 17 3) (hi 17 0) (hi 19) T) &&& ((1 <<< (nI j &&& 31)) ^^^ (-1)))), some (.int (nI (mCnt (fun s => decide (nI s &&& (((mOpen (hi 17 3) (hi 17 0) (hi 19) T) &&& ((1 <<< (nI j &&& 31)) ^^^ (-1))) ^^^ (-1)) = 0) && !(decide (nI (xWin hi tw C T Gn (nI s) L) = nI (xWin hi tw C T Gn (nI s ||| (1 <<< (nI j &&& 31))) L)))) t))), some (.int (nI t))] [] svSH h' hl (sv_hr tw dr pm) := by
  obtain ⟨htw, hCc, hLc, hT, hGn, hC2, hC6, hL1, hLC, hT8, hG6, hf, hs, hk⟩ := id hx
  have htw2 := sv_tw htw
  have hk6 : ∀ t, t < T → ∃ j, j < 6 ∧ hi 20 t = nI j := fun t ht => (hk t ht).elim fun j h => ⟨j, by omega, h.2⟩
  have hf6 : ∀ r, r < Gn → ∃ j, j < 6 ∧ hi (tw + 5) r = nI j := fun r hr => (hf r hr).elim fun j h => ⟨j, by omega, h.2⟩
  have hs6 : ∀ r, r < Gn → ∃ j, j < 6 ∧ hi (tw + 6) r = nI j := fun r hr => (hs r hr).elim fun j h => ⟨j, by omega, h.2⟩
  refine sv_up (fun t ht ih h' i1 => ?_)
  refine S_iload_5 (pc := 46) dX7_power_46 ?_
  refine J_sipush (pc := 48) (256) rfl dX7_power_48 ?_
  refine J_icmp_ge (pc := 51) 108 dX7_power_51 (by decide) (fun h51 => ?_) (fun h51 => ?_)
  · rw [show (256 : Int32) = nI 256 from rfl, nI_leI (by omega) (by omega)] at h51
    obtain rfl : t = 256 := by omega
    refine S_iload_4 (pc := 108) dX7_power_108 ?_
    exact J_ireturn (pc := 110) dX7_power_110 rfl rfl ⟨_, rfl, rfl, ⟨rfl, i1, rfl, rfl⟩⟩
  · rw [show (256 : Int32) = nI 256 from rfl, nI_leI (by omega) (by omega)] at h51
    refine S_iload_5 (pc := 54) dX7_power_54 ?_
    refine S_iload_3 (pc := 56) dX7_power_56 ?_
    refine J_iconst (pc := 57) (-1) rfl dX7_power_57 ?_
    refine J_ixor (pc := 58) dX7_power_58 ?_
    refine J_iand (pc := 59) dX7_power_59 ?_
    refine J_if_eq (pc := 60) 66 dX7_power_60 (by decide) (fun h60 => ?_) (fun h60 => ?_)
    · refine S_aload_0 (pc := 66) dX7_power_66 ?_
      refine S_iload_5 (pc := 67) dX7_power_67 ?_
      refine S_aload_0 (pc := 69) dX7_power_69 ?_
      refine fgX7_10 (pc := 70) sh_0 hv_0_0 dX7_power_70 ?_
      refine fgX7_188 (pc := 73) htw dX7_power_73 ?_
      refine caX7_191 (pc := 76) (t_X7_winnerAfter_l (l := l) (G := G) (hx.keep i1)) sh_0 (Nat.le_of_ble_eq_true rfl) ⟨rfl, rfl, ⟨by decide, by decide⟩, by decide, by decide⟩ dX7_power_76 (fun r76 a76 b76 c76 p76 => ?_)
      obtain ⟨rfl, j1, rfl, rfl⟩ := p76
      refine S_aload_0 (pc := 79) dX7_power_79 ?_
      refine S_iload_5 (pc := 80) dX7_power_80 ?_
      refine J_iconst (pc := 82) (1) rfl dX7_power_82 ?_
      refine S_iload_1 (pc := 83) dX7_power_83 ?_
      refine J_ishl (pc := 84) dX7_power_84 ?_
      refine J_ior (pc := 85) dX7_power_85 ?_
      refine S_aload_0 (pc := 86) dX7_power_86 ?_
      refine fgX7_10 (pc := 87) sh_0 hv_0_0 dX7_power_87 ?_
      refine fgX7_188 (pc := 90) htw dX7_power_90 ?_
      refine caX7_191 (pc := 93) (t_X7_winnerAfter_l (l := l) (G := G) (hx.keep (fun q g1 g2 => (j1 q g1 g2).trans (i1 q g1 g2)))) sh_0 (Nat.le_of_ble_eq_true rfl) ⟨rfl, rfl, ⟨by decide, by decide⟩, by decide, by decide⟩ dX7_power_93 (fun r93 a93 b93 c93 p93 => ?_)
      obtain ⟨rfl, k1, rfl, rfl⟩ := p93
      refine J_icmp_eq (pc := 96) 102 dX7_power_96 (by decide) (fun h96 => ?_) (fun h96 => ?_)
      · rw [xWin_keep htw i1, xWin_keep htw (fun q g1 g2 => (j1 q g1 g2).trans (i1 q g1 g2))] at h96
        refine S_inc_5 (pc := 102) (1) rfl dX7_power_102 (by decide) ?_
        refine J_goto (pc := 105) 46 dX7_power_105 (by decide) ?_
        exact svJ_ls (by first | rw [mCnt_f (by show (decide _ && !(decide _)) = false; rw [decide_eq_true h60, decide_eq_true h96]; rfl), nI_succ] | rw [mCnt_t (by show (decide _ && !(decide _)) = true; rw [decide_eq_true h60, decide_eq_false h96]; rfl), nI_succ, nI_succ]) (ih (t + 1) (by omega) (by omega) _ (fun q g1 g2 => (k1 q g1 g2).trans ((j1 q g1 g2).trans (i1 q g1 g2))))
      · rw [xWin_keep htw i1, xWin_keep htw (fun q g1 g2 => (j1 q g1 g2).trans (i1 q g1 g2))] at h96
        refine S_inc_4 (pc := 99) (1) rfl dX7_power_99 (by decide) ?_
        refine S_inc_5 (pc := 102) (1) rfl dX7_power_102 (by decide) ?_
        refine J_goto (pc := 105) 46 dX7_power_105 (by decide) ?_
        exact svJ_ls (by first | rw [mCnt_f (by show (decide _ && !(decide _)) = false; rw [decide_eq_true h60, decide_eq_true h96]; rfl), nI_succ] | rw [mCnt_t (by show (decide _ && !(decide _)) = true; rw [decide_eq_true h60, decide_eq_false h96]; rfl), nI_succ, nI_succ]) (ih (t + 1) (by omega) (by omega) _ (fun q g1 g2 => (k1 q g1 g2).trans ((j1 q g1 g2).trans (i1 q g1 g2))))
    · refine J_goto (pc := 63) 102 dX7_power_63 (by decide) ?_
      refine S_inc_5 (pc := 102) (1) rfl dX7_power_102 (by decide) ?_
      refine J_goto (pc := 105) 46 dX7_power_105 (by decide) ?_
      exact svJ_ls (by rw [mCnt_f (by show (decide _ && _) = false; rw [decide_eq_false h60]; rfl), nI_succ]) (ih (t + 1) (by omega) (by omega) _ i1)
def fPow (T : Nat) (opn : Int32) (f : Nat → Nat) (x : Int32) : Int32 := if 0 ≤ x ∧ x < nI T then (if bt opn x.toNatClampNeg = true then nI (f x.toNatClampNeg) else -2) else -1
set_option maxRecDepth 20000 in
set_option maxHeartbeats 2000000 in
theorem t_X7_power {l : Launch} {G : svG} {hi : svH} {hl : svL} {tw dr : Nat} {pm : Nat → Nat} {C L T Gn : Nat} (hx : xT hi tw C L T Gn) {x : Int32} : svI l G yX7_power mX7_power rX7_power [sv_rf G.1 0, .int x] hi hl (sv_hr tw dr pm) (fun r a b c => fPow T (mOpen (hi 17 3) (hi 17 0) (hi 19) T) (fun j => mCnt (fun s => decide (nI s &&& (((mOpen (hi 17 3) (hi 17 0) (hi 19) T) &&& ((1 <<< (nI j &&& 31)) ^^^ (-1))) ^^^ (-1)) = 0) && !(decide (nI (xWin hi tw C T Gn (nI s) L) = nI (xWin hi tw C T Gn (nI s ||| (1 <<< (nI j &&& 31))) L)))) 256) x = r ∧ (∀ q, q ≠ 64 → q ≠ 65 → a q = hi q) ∧ hl = b ∧ sv_hr tw dr pm = c) := by
  obtain ⟨htw, hCc, hLc, hT, hGn, hC2, hC6, hL1, hLC, hT8, hG6, hf, hs, hk⟩ := id hx
  have htw2 := sv_tw htw
  have hk6 : ∀ t, t < T → ∃ j, j < 6 ∧ hi 20 t = nI j := fun t ht => (hk t ht).elim fun j h => ⟨j, by omega, h.2⟩
  have hf6 : ∀ r, r < Gn → ∃ j, j < 6 ∧ hi (tw + 5) r = nI j := fun r hr => (hf r hr).elim fun j h => ⟨j, by omega, h.2⟩
  have hs6 : ∀ r, r < Gn → ∃ j, j < 6 ∧ hi (tw + 6) r = nI j := fun r hr => (hs r hr).elim fun j h => ⟨j, by omega, h.2⟩
  refine sv_entry (by decide +kernel) rfl rfl (Nat.le_of_ble_eq_true rfl) (by simp [Value.category, sv_rf]) [some (sv_rf G.1 0), some (.int x), none, none, none, none] rfl ?_
  refine S_iload_1 (pc := 0) dX7_power_0 ?_
  refine S_aload_0 (pc := 1) dX7_power_1 ?_
  refine fgX7_10 (pc := 2) sh_0 hv_0_0 dX7_power_2 ?_
  refine fgX7_98 (pc := 5) htw dX7_power_5 ?_
  refine caX7_68 (pc := 8) (t_X7_isIn (l := l) (G := G)) (Nat.le_of_ble_eq_true rfl) ⟨rfl, rfl, ⟨by decide, by decide⟩, by decide, by decide⟩ dX7_power_8 (fun r8 a8 b8 c8 p8 => ?_)
  obtain ⟨rfl, rfl, rfl, rfl⟩ := p8
  refine J_if_ne_b (pc := 11) 16 dX7_power_11 (by decide) (fun h11 => ?_) (fun h11 => ?_)
  · rw [hT] at h11
    obtain ⟨j, hj, rfl⟩ := sv_ix h11 (by omega)
    refine S_aload_0 (pc := 16) dX7_power_16 ?_
    refine caX7_140 (pc := 17) (t_X7_openTrains (l := l) (G := G) htw hT hT8) sh_0 (Nat.le_of_ble_eq_true rfl) ⟨rfl, rfl, ⟨by decide, by decide⟩, by decide, by decide⟩ dX7_power_17 (fun r17 a17 b17 c17 p17 => ?_)
    obtain ⟨rfl, rfl, rfl, rfl⟩ := p17
    refine S_istore_2 (pc := 20) dX7_power_20 (by decide) ?_
    refine S_iload_2 (pc := 21) dX7_power_21 ?_
    refine S_iload_1 (pc := 22) dX7_power_22 ?_
    refine caX7_118 (pc := 23) (t_X7_bit_n (l := l) (G := G) (k := j) (by omega)) (Nat.le_of_ble_eq_true rfl) ⟨rfl, rfl, ⟨by decide, by decide⟩, by decide, by decide⟩ dX7_power_23 (fun r23 a23 b23 c23 p23 => ?_)
    obtain ⟨rfl, rfl, rfl, rfl⟩ := p23
    refine J_if_ne_b (pc := 26) 32 dX7_power_26 (by decide) (fun h26 => ?_) (fun h26 => ?_)
    · refine S_iload_2 (pc := 32) dX7_power_32 ?_
      refine J_iconst (pc := 33) (1) rfl dX7_power_33 ?_
      refine S_iload_1 (pc := 34) dX7_power_34 ?_
      refine J_ishl (pc := 35) dX7_power_35 ?_
      refine J_iconst (pc := 36) (-1) rfl dX7_power_36 ?_
      refine J_ixor (pc := 37) dX7_power_37 ?_
      refine J_iand (pc := 38) dX7_power_38 ?_
      refine S_istore_3 (pc := 39) dX7_power_39 (by decide) ?_
      refine J_iconst (pc := 40) (0) rfl dX7_power_40 ?_
      refine S_istore_4 (pc := 41) dX7_power_41 (by decide) ?_
      refine J_iconst (pc := 43) (0) rfl dX7_power_43 ?_
      refine S_istore_5 (pc := 44) dX7_power_44 (by decide) ?_
      have e0 : (fun (r : Int32) (a : svH) (b : svL) (c : svR) => fPow T (mOpen (hi 17 3) (hi 17 0) (hi 19) T) (fun j => mCnt (fun s => decide (nI s &&& (((mOpen (hi 17 3) (hi 17 0) (hi 19) T) &&& ((1 <<< (nI j &&& 31)) ^^^ (-1))) ^^^ (-1)) = 0) && !(decide (nI (xWin hi tw C T Gn (nI s) L) = nI (xWin hi tw C T Gn (nI s ||| (1 <<< (nI j &&& 31))) L)))) 256) (nI j) = r ∧ (∀ q, q ≠ 64 → q ≠ 65 → a q = hi q) ∧ hl = b ∧ sv_hr tw dr pm = c) = (fun r a b c => nI (mCnt (fun s => decide (nI s &&& (((mOpen (hi 17 3) (hi 17 0) (hi 19) T) &&& ((1 <<< (nI j &&& 31)) ^^^ (-1))) ^^^ (-1)) = 0) && !(decide (nI (xWin hi tw C T Gn (nI s) L) = nI (xWin hi tw C T Gn (nI s ||| (1 <<< (nI j &&& 31))) L)))) 256) = r ∧ (∀ q, q ≠ 64 → q ≠ 65 → a q = hi q) ∧ hl = b ∧ sv_hr tw dr pm = c) := by
        funext r a b c
        unfold fPow
        rw [if_pos ⟨nI_pos' (by omega), nI_lt hj (by omega)⟩, nI_clamp (by omega), if_pos h26]
      have e := lo_X7_power (l := l) (G := G) (hl := hl) (dr := dr) (pm := pm) hx hj 0 (Nat.zero_le _) hi (fun _ _ _ => rfl)
      rw [← e0] at e
      exact e
    · refine J_bipush (pc := 29) (-2) rfl dX7_power_29 ?_
      exact J_ireturn (pc := 31) dX7_power_31 rfl rfl ⟨_, rfl, rfl, ⟨by unfold fPow; rw [if_pos ⟨nI_pos' (by omega), nI_lt hj (by omega)⟩, nI_clamp (by omega)]; exact if_neg h26, fun _ _ _ => rfl, rfl, rfl⟩⟩
  · refine J_iconst (pc := 14) (-1) rfl dX7_power_14 ?_
    exact J_ireturn (pc := 15) dX7_power_15 rfl rfl ⟨_, rfl, rfl, ⟨by unfold fPow; exact if_neg (by rw [← hT]; exact h11), fun _ _ _ => rfl, rfl, rfl⟩⟩
