def mI (o : Option Nat) : Int32 := match o with
  | none => -1
  | some b => nI b
theorem mI_max (o : Option Nat) (h : ∀ b, o = some b → b < 2 ^ 31) : (if mI o < 0 then 0 else mI o) = nI (o.getD 0) := by
  cases o with
  | none => rfl
  | some b => exact if_neg (nI_pos (h b rfl))
theorem mLeft_congr {C : Nat} {f g : Nat → Int32} (h : ∀ k, k < C → f k = g k) : ∀ k, mLeft C f k = mLeft C g k := by
  intro k
  induction k with
  | zero => rfl
  | succ k ih =>
    unfold mLeft
    rw [ih, mBest_congr (fun _ _ => rfl) h]
theorem mB_all : ∀ C, C < 7 → ∀ i, i < 32 → bt ((1 <<< (nI C &&& 31)) - 1) i = decide (i < C) := by decide +kernel
theorem mB_left {C : Nat} (hC : C ≤ 6) {f : Nat → Int32} (m : Int32) : mBest (fun i => bt (((1 <<< (nI C &&& 31)) - 1) &&& (m ^^^ (-1))) i) f 6 = mBest (fun i => !(bt m i)) f C := by
  rw [mBest_more (n := C) hC]
  · apply mBest_congr
    · intro i hi
      rw [b_and, hb_not m (by omega), mB_all C (by omega) i (by omega)]
      simp [hi]
    · intro _ _; rfl
  · intro i h1 h2
    rw [b_and, mB_all C (by omega) i (by omega)]
    simp [Nat.not_lt.mpr h1]
theorem mPick_lt {C : Nat} (hC : 0 < C) {p : Nat → Bool} {f : Nat → Int32} : (mBest p f C).getD 0 < C := by
  cases h : mBest p f C with
  | none => exact hC
  | some b => exact (mBest_lt h).1
theorem mLeft_bits {C : Nat} (hC : 0 < C) (hC6 : C ≤ 6) {f : Nat → Int32} : ∀ k i, C ≤ i → i < 32 → bt (mLeft C f k) i = false := by
  intro k
  induction k with
  | zero => intro i _ _; exact b_0 i
  | succ k ih =>
    intro i h1 h2
    have := mPick_lt hC (p := fun c => !(bt (mLeft C f k) c)) (f := f)
    rw [mLeft, hb_set _ (by omega) h2, ih i h1 h2]
    simp
    omega
theorem mLeft_has {C : Nat} (hC : 0 < C) (hC6 : C ≤ 6) {f : Nat → Int32} {k : Nat} (hk : 0 < k) : ∃ i, i < C ∧ bt (mLeft C f k) i = true := by
  obtain ⟨k, rfl⟩ : ∃ n, k = n + 1 := ⟨k - 1, by omega⟩
  have := mPick_lt hC (p := fun c => !(bt (mLeft C f k) c)) (f := f)
  exact ⟨_, this, by rw [mLeft, hb_set _ (by omega) (by omega)]; simp⟩
theorem bt_small {x : Int32} (h : ∀ i, 6 ≤ i → i < 32 → bt x i = false) : ∃ m, m < 64 ∧ x = nI m := by
  refine ⟨x.toBitVec.toNat, ?_, Int32.toBitVec_inj.mp (by show _ = BitVec.ofNat 32 _; simp)⟩
  apply Nat.lt_of_not_le
  intro hle
  have h2 : x.toBitVec.toNat < 2 ^ 32 := x.toBitVec.isLt
  have : ∃ i, 6 ≤ i ∧ x.toBitVec.toNat.testBit i = true := Nat.exists_ge_and_testBit_of_ge_two_pow (n := 6) hle
  obtain ⟨i, h3, h4⟩ := this
  by_cases hi : i < 32
  · have h5 := h i h3 hi
    unfold bt BitVec.getLsbD at h5
    rw [h5] at h4
    cases h4
  · rw [Nat.testBit_lt_two_pow (Nat.lt_of_lt_of_le h2 (Nat.pow_le_pow_right (by decide) (by omega)))] at h4
    cases h4
theorem ntz_all : ∀ m, m < 64 → 0 < m → sv_ntz (nI m) = nI (mLow (nI m)) := by decide +kernel
theorem mLow_lt (m : Int32) : mLow m < 6 := by
  unfold mLow
  repeat' split
  all_goals omega
theorem ntz_left {C : Nat} (hC : 0 < C) (hC6 : C ≤ 6) {f : Nat → Int32} {k : Nat} (hk : 0 < k) : sv_ntz (mLeft C f k) = nI (mLow (mLeft C f k)) := by
  obtain ⟨m, hm, e⟩ := bt_small (x := mLeft C f k) (fun i h1 h2 => mLeft_bits hC hC6 k i (by omega) h2)
  obtain ⟨i, hi, hb⟩ := mLeft_has hC hC6 (f := f) hk
  rw [e] at hb ⊢
  refine ntz_all m hm (Nat.pos_of_ne_zero (fun z => ?_))
  subst z
  rw [show nI 0 = 0 from rfl, b_0] at hb
  cases hb
theorem mChoice_lt {left x y : Int32} (hx : x.toNatClampNeg < 6) (hy : y.toNatClampNeg < 6) : mChoice left x y < 6 := by
  unfold mChoice
  have := mLow_lt left
  repeat' split
  all_goals omega
theorem mWin_congr {C Gn : Nat} {people firsts seconds : Nat → Int32} {rugs : Int32} {f g : Nat → Int32} (h : ∀ k, k < C → f k = g k) (many : Nat) : mWin C Gn people firsts seconds rugs f many = mWin C Gn people firsts seconds rugs g many := by
  unfold mWin
  rw [mLeft_congr h]
set_option maxRecDepth 20000 in
set_option maxHeartbeats 2000000 in
theorem lo_X0_mostOf {l : Launch} {G : svG} {hi : svH} {hl : svL} {hr : svR} {q : Nat} {these : Int32} (hsh : svSH[q]? = some (1, 6)) : ∀ t, t ≤ 6 → svJ l G rX0_mostOf mX0_mostOf (sv_Fm G (fun v sh a b c => ∃ r, v = some (.int r) ∧ sh = svSH ∧ ((nI ((mBest (fun i => bt these i) (hi q) 6).getD 0)) = r ∧ hi = a ∧ hl = b ∧ hr = c)) 0 0) 0 0 4 [some (sv_rf G.1 q), some (.int these), some (.int (mI (mBest (fun i => bt these i) (hi q) t))), some (.int (nI t))] [] svSH hi hl hr := by
  refine sv_up (fun t ht ih => ?_)
  cases hb : mBest (fun i => bt these i) (hi q) t with
  | none =>
    refine S_iload_3 (pc := 4) dX0_mostOf_4 ?_
    refine S_aload_0 (pc := 5) dX0_mostOf_5 ?_
    refine J_alen1 (pc := 6) (6) hsh rfl dX0_mostOf_6 ?_
    refine J_icmp_ge (pc := 7) 42 dX0_mostOf_7 (by decide) (fun h7 => ?_) (fun h7 => ?_)
    · rw [show (6 : Int32) = nI 6 from rfl, nI_leI (by omega) (by omega)] at h7
      obtain rfl : t = 6 := by omega
      refine S_iload_2 (pc := 42) dX0_mostOf_42 ?_
      refine J_iconst (pc := 43) (0) rfl dX0_mostOf_43 ?_
      refine maX0_55 (pc := 44) (by decide) (Nat.le_of_ble_eq_true rfl) (by decide) (by decide) dX0_mostOf_44 ?_
      exact J_ireturn (pc := 47) dX0_mostOf_47 rfl rfl ⟨_, rfl, rfl, ⟨by rw [hb]; rfl, rfl, rfl, rfl⟩⟩
    · rw [show (6 : Int32) = nI 6 from rfl, nI_leI (by omega) (by omega)] at h7
      refine S_iload_1 (pc := 10) dX0_mostOf_10 ?_
      refine S_iload_3 (pc := 11) dX0_mostOf_11 ?_
      refine caX0_39 (pc := 12) (t_X7_bit_n (l := l) (G := G) (k := t) (by omega)) (Nat.le_of_ble_eq_true rfl) ⟨rfl, rfl, ⟨by decide, by decide⟩, by decide, by decide⟩ dX0_mostOf_12 (fun r12 a12 b12 c12 p12 => ?_)
      obtain ⟨rfl, rfl, rfl, rfl⟩ := p12
      refine J_iconst (pc := 15) (1) rfl dX0_mostOf_15 ?_
      refine J_icmp_ne (pc := 16) 36 dX0_mostOf_16 (by decide) (fun h16 => ?_) (fun h16 => ?_)
      · rw [sv_b_1] at h16
        refine S_inc_3 (pc := 36) (1) rfl dX0_mostOf_36 (by decide) ?_
        refine J_goto (pc := 39) 4 dX0_mostOf_39 (by decide) ?_
        exact svJ_ls (by simp [mBest, hb, mI, nI_succ, h7, h16]) (ih (t + 1) (by omega) (by omega))
      · rw [sv_b_1] at h16
        refine S_iload_2 (pc := 19) dX0_mostOf_19 ?_
        refine J_if_lt (pc := 20) 34 dX0_mostOf_20 (by decide) (fun h20 => ?_) (fun h20 => ?_)
        · refine S_iload_3 (pc := 34) dX0_mostOf_34 ?_
          refine S_istore_2 (pc := 35) dX0_mostOf_35 (by decide) ?_
          refine S_inc_3 (pc := 36) (1) rfl dX0_mostOf_36 (by decide) ?_
          refine J_goto (pc := 39) 4 dX0_mostOf_39 (by decide) ?_
          exact svJ_ls (by simp [mBest, hb, mI, nI_succ, h7, h16, h20]) (ih (t + 1) (by omega) (by omega))
        · exact absurd (by decide) h20
  | some b =>
    have hbl := (mBest_lt hb).1
    refine S_iload_3 (pc := 4) dX0_mostOf_4 ?_
    refine S_aload_0 (pc := 5) dX0_mostOf_5 ?_
    refine J_alen1 (pc := 6) (6) hsh rfl dX0_mostOf_6 ?_
    refine J_icmp_ge (pc := 7) 42 dX0_mostOf_7 (by decide) (fun h7 => ?_) (fun h7 => ?_)
    · rw [show (6 : Int32) = nI 6 from rfl, nI_leI (by omega) (by omega)] at h7
      obtain rfl : t = 6 := by omega
      refine S_iload_2 (pc := 42) dX0_mostOf_42 ?_
      refine J_iconst (pc := 43) (0) rfl dX0_mostOf_43 ?_
      refine maX0_55 (pc := 44) (by decide) (Nat.le_of_ble_eq_true rfl) (by decide) (by decide) dX0_mostOf_44 ?_
      exact J_ireturn (pc := 47) dX0_mostOf_47 rfl rfl ⟨_, rfl, rfl, ⟨by rw [hb]; exact (if_neg (nI_pos (by omega))).symm, rfl, rfl, rfl⟩⟩
    · rw [show (6 : Int32) = nI 6 from rfl, nI_leI (by omega) (by omega)] at h7
      refine S_iload_1 (pc := 10) dX0_mostOf_10 ?_
      refine S_iload_3 (pc := 11) dX0_mostOf_11 ?_
      refine caX0_39 (pc := 12) (t_X7_bit_n (l := l) (G := G) (k := t) (by omega)) (Nat.le_of_ble_eq_true rfl) ⟨rfl, rfl, ⟨by decide, by decide⟩, by decide, by decide⟩ dX0_mostOf_12 (fun r12 a12 b12 c12 p12 => ?_)
      obtain ⟨rfl, rfl, rfl, rfl⟩ := p12
      refine J_iconst (pc := 15) (1) rfl dX0_mostOf_15 ?_
      refine J_icmp_ne (pc := 16) 36 dX0_mostOf_16 (by decide) (fun h16 => ?_) (fun h16 => ?_)
      · rw [sv_b_1] at h16
        refine S_inc_3 (pc := 36) (1) rfl dX0_mostOf_36 (by decide) ?_
        refine J_goto (pc := 39) 4 dX0_mostOf_39 (by decide) ?_
        exact svJ_ls (by simp [mBest, hb, mI, nI_succ, h7, h16]) (ih (t + 1) (by omega) (by omega))
      · rw [sv_b_1] at h16
        refine S_iload_2 (pc := 19) dX0_mostOf_19 ?_
        refine J_if_lt (pc := 20) 34 dX0_mostOf_20 (by decide) (fun h20 => ?_) (fun h20 => ?_)
        · exact absurd h20 (nI_pos (by omega))
        · refine S_aload_0 (pc := 23) dX0_mostOf_23 ?_
          refine S_iload_3 (pc := 24) dX0_mostOf_24 ?_
          refine J_iald_n (pc := 25) t hsh rfl (by omega) (by decide) dX0_mostOf_25 ?_
          refine S_aload_0 (pc := 26) dX0_mostOf_26 ?_
          refine S_iload_2 (pc := 27) dX0_mostOf_27 ?_
          refine caX0_48 (pc := 28) (t_X7_at_n (l := l) (G := G) (j := b) hsh (by omega) (by decide)) (Nat.le_of_ble_eq_true rfl) ⟨rfl, rfl, ⟨by decide, by decide⟩, by decide, by decide⟩ dX0_mostOf_28 (fun r28 a28 b28 c28 p28 => ?_)
          obtain ⟨rfl, rfl, rfl, rfl⟩ := p28
          refine J_icmp_le (pc := 31) 36 dX0_mostOf_31 (by decide) (fun h31 => ?_) (fun h31 => ?_)
          · refine S_inc_3 (pc := 36) (1) rfl dX0_mostOf_36 (by decide) ?_
            refine J_goto (pc := 39) 4 dX0_mostOf_39 (by decide) ?_
            exact svJ_ls (by simp [mBest, hb, mI, nI_succ, h7, h16, h20, h31]) (ih (t + 1) (by omega) (by omega))
          · refine S_iload_3 (pc := 34) dX0_mostOf_34 ?_
            refine S_istore_2 (pc := 35) dX0_mostOf_35 (by decide) ?_
            refine S_inc_3 (pc := 36) (1) rfl dX0_mostOf_36 (by decide) ?_
            refine J_goto (pc := 39) 4 dX0_mostOf_39 (by decide) ?_
            exact svJ_ls (by simp [mBest, hb, mI, nI_succ, h7, h16, h20, h31]) (ih (t + 1) (by omega) (by omega))
set_option maxRecDepth 20000 in
set_option maxHeartbeats 2000000 in
theorem t_X0_mostOf {l : Launch} {G : svG} {hi : svH} {hl : svL} {hr : svR} {q : Nat} {these : Int32} (hsh : svSH[q]? = some (1, 6)) : svIp l G yX0_mostOf mX0_mostOf rX0_mostOf [sv_rf G.1 q, .int these] hi hl hr (nI ((mBest (fun i => bt these i) (hi q) 6).getD 0)) := by
  refine sv_entry (by decide +kernel) rfl rfl (Nat.le_of_ble_eq_true rfl) (by simp [Value.category, sv_rf]) [some (sv_rf G.1 q), some (.int these), none, none] rfl ?_
  refine J_iconst (pc := 0) (-1) rfl dX0_mostOf_0 ?_
  refine S_istore_2 (pc := 1) dX0_mostOf_1 (by decide) ?_
  refine J_iconst (pc := 2) (0) rfl dX0_mostOf_2 ?_
  refine S_istore_3 (pc := 3) dX0_mostOf_3 (by decide) ?_
  
  exact lo_X0_mostOf hsh 0 (Nat.zero_le _)
set_option maxRecDepth 20000 in
set_option maxHeartbeats 2000000 in
theorem lo_X0_whoIsLeft {l : Launch} {G : svG} {hi : svH} {hl : svL} {tw dr : Nat} {pm : Nat → Nat} {C L : Nat} (hC0 : 0 < C) (hC : C ≤ 6) (hL : L ≤ 6) : ∀ t, t ≤ L → svJ l G rX0_whoIsLeft mX0_whoIsLeft (sv_Fm G (fun v sh a b c => ∃ r, v = some (.int r) ∧ sh = svSH ∧ ((mLeft C (hi 64) L) = r ∧ hi = a ∧ hl = b ∧ (sv_hr tw dr pm) = c)) 0 0) 0 0 12 [some (sv_rf G.1 63), some (.int (nI C)), some (.int (nI L)), some (.int ((1 <<< (nI C &&& 31)) - 1)), some (.int (mLeft C (hi 64) t)), some (.int (nI t))] [] svSH hi hl (sv_hr tw dr pm) := by
  refine sv_up (fun t ht ih => ?_)
  refine S_iload_5 (pc := 12) dX0_whoIsLeft_12 ?_
  refine S_iload_2 (pc := 14) dX0_whoIsLeft_14 ?_
  refine J_icmp_ge (pc := 15) 44 dX0_whoIsLeft_15 (by decide) (fun h15 => ?_) (fun h15 => ?_)
  · rw [nI_leI (by omega) (by omega)] at h15
    obtain rfl : t = L := by omega
    refine S_iload_4 (pc := 44) dX0_whoIsLeft_44 ?_
    exact J_ireturn (pc := 46) dX0_whoIsLeft_46 rfl rfl ⟨_, rfl, rfl, ⟨rfl, rfl, rfl, rfl⟩⟩
  · rw [nI_leI (by omega) (by omega)] at h15
    refine S_iload_4 (pc := 18) dX0_whoIsLeft_18 ?_
    refine J_iconst (pc := 20) (1) rfl dX0_whoIsLeft_20 ?_
    refine S_aload_0 (pc := 21) dX0_whoIsLeft_21 ?_
    refine fgX0_9 (pc := 22) sh_63 hv_63_0 dX0_whoIsLeft_22 ?_
    refine S_iload_3 (pc := 25) dX0_whoIsLeft_25 ?_
    refine S_iload_4 (pc := 26) dX0_whoIsLeft_26 ?_
    refine J_iconst (pc := 28) (-1) rfl dX0_whoIsLeft_28 ?_
    refine J_ixor (pc := 29) dX0_whoIsLeft_29 ?_
    refine J_iand (pc := 30) dX0_whoIsLeft_30 ?_
    refine caX0_22 (pc := 31) (t_X0_mostOf (l := l) (G := G) (q := 64) sh_64) (Nat.le_of_ble_eq_true rfl) ⟨rfl, rfl, ⟨by decide, by decide⟩, by decide, by decide⟩ dX0_whoIsLeft_31 (fun r31 a31 b31 c31 p31 => ?_)
    obtain ⟨rfl, rfl, rfl, rfl⟩ := p31
    refine J_ishl (pc := 34) dX0_whoIsLeft_34 ?_
    refine J_ior (pc := 35) dX0_whoIsLeft_35 ?_
    refine S_istore_4 (pc := 36) dX0_whoIsLeft_36 (by decide) ?_
    refine S_inc_5 (pc := 38) (1) rfl dX0_whoIsLeft_38 (by decide) ?_
    refine J_goto (pc := 41) 12 dX0_whoIsLeft_41 (by decide) ?_
    exact svJ_ls (by rw [nI_succ, mLeft, ← mB_left hC]) (ih (t + 1) (by omega) (by omega))
set_option maxRecDepth 20000 in
set_option maxHeartbeats 2000000 in
theorem t_X0_whoIsLeft {l : Launch} {G : svG} {hi : svH} {hl : svL} {tw dr : Nat} {pm : Nat → Nat} {C L : Nat} (hC0 : 0 < C) (hC : C ≤ 6) (hL : L ≤ 6) : svIp l G yX0_whoIsLeft mX0_whoIsLeft rX0_whoIsLeft [sv_rf G.1 63, .int (nI C), .int (nI L)] hi hl (sv_hr tw dr pm) (mLeft C (hi 64) L) := by
  refine sv_entry (by decide +kernel) rfl rfl (Nat.le_of_ble_eq_true rfl) (by simp [Value.category, sv_rf]) [some (sv_rf G.1 63), some (.int (nI C)), some (.int (nI L)), none, none, none] rfl ?_
  refine J_iconst (pc := 0) (1) rfl dX0_whoIsLeft_0 ?_
  refine S_iload_1 (pc := 1) dX0_whoIsLeft_1 ?_
  refine J_ishl (pc := 2) dX0_whoIsLeft_2 ?_
  refine J_iconst (pc := 3) (1) rfl dX0_whoIsLeft_3 ?_
  refine J_isub (pc := 4) dX0_whoIsLeft_4 ?_
  refine S_istore_3 (pc := 5) dX0_whoIsLeft_5 (by decide) ?_
  refine J_iconst (pc := 6) (0) rfl dX0_whoIsLeft_6 ?_
  refine S_istore_4 (pc := 7) dX0_whoIsLeft_7 (by decide) ?_
  refine J_iconst (pc := 9) (0) rfl dX0_whoIsLeft_9 ?_
  refine S_istore_5 (pc := 10) dX0_whoIsLeft_10 (by decide) ?_
  
  exact lo_X0_whoIsLeft hC0 hC hL 0 (Nat.zero_le _)
set_option maxRecDepth 20000 in
set_option maxHeartbeats 2000000 in
theorem t_X6_choiceOf {l : Launch} {G : svG} {hi : svH} {hl : svL} {tw dr : Nat} {pm : Nat → Nat} {r x1 x2 : Nat} {left : Int32} (htw : svSH[tw]? = some (0, 6)) (hr6 : r < 6) (h1 : hi (tw + 5) r = nI x1) (hx1 : x1 < 6) (h2 : hi (tw + 6) r = nI x2) (hx2 : x2 < 6) (hz : sv_ntz left = nI (mLow left)) : svIp l G yX6_choiceOf mX6_choiceOf rX6_choiceOf [sv_rf G.1 tw, .int (nI r), .int left] hi hl (sv_hr tw dr pm) (nI (mChoice left (hi (tw + 5) r) (hi (tw + 6) r))) := by
  refine sv_entry (by decide +kernel) rfl rfl (Nat.le_of_ble_eq_true rfl) (by simp [Value.category, sv_rf]) [some (sv_rf G.1 tw), some (.int (nI r)), some (.int left)] rfl ?_
  refine S_iload_2 (pc := 0) dX6_choiceOf_0 ?_
  refine S_aload_0 (pc := 1) dX6_choiceOf_1 ?_
  refine fgX6_40 (pc := 2) htw (hv_T9 htw) dX6_choiceOf_2 ?_
  refine S_iload_1 (pc := 5) dX6_choiceOf_5 ?_
  refine caX6_50 (pc := 6) (t_X7_at_n (l := l) (G := G) (j := r) (ar_T9 htw) hr6 (by decide)) (Nat.le_of_ble_eq_true rfl) ⟨rfl, rfl, ⟨by decide, by decide⟩, by decide, by decide⟩ dX6_choiceOf_6 (fun r6 a6 b6 c6 p6 => ?_)
  obtain ⟨rfl, rfl, rfl, rfl⟩ := p6
  refine caX6_54 (pc := 9) (by have h := t_X7_bit_n (l := l) (G := G) (hi := hi) (hl := hl) (hr := sv_hr tw dr pm) (b := left) (k := x1) (by omega); rw [← h1] at h; exact h) (Nat.le_of_ble_eq_true rfl) ⟨rfl, rfl, ⟨by decide, by decide⟩, by decide, by decide⟩ dX6_choiceOf_9 (fun r9 a9 b9 c9 p9 => ?_)
  obtain ⟨rfl, rfl, rfl, rfl⟩ := p9
  refine J_iconst (pc := 12) (1) rfl dX6_choiceOf_12 ?_
  refine J_icmp_ne (pc := 13) 25 dX6_choiceOf_13 (by decide) (fun h13 => ?_) (fun h13 => ?_)
  · rw [sv_b_1] at h13
    refine S_iload_2 (pc := 25) dX6_choiceOf_25 ?_
    refine S_aload_0 (pc := 26) dX6_choiceOf_26 ?_
    refine fgX6_43 (pc := 27) htw (hv_T10 htw) dX6_choiceOf_27 ?_
    refine S_iload_1 (pc := 30) dX6_choiceOf_30 ?_
    refine caX6_50 (pc := 31) (t_X7_at_n (l := l) (G := G) (j := r) (ar_T10 htw) hr6 (by decide)) (Nat.le_of_ble_eq_true rfl) ⟨rfl, rfl, ⟨by decide, by decide⟩, by decide, by decide⟩ dX6_choiceOf_31 (fun r31 a31 b31 c31 p31 => ?_)
    obtain ⟨rfl, rfl, rfl, rfl⟩ := p31
    refine caX6_54 (pc := 34) (by have h := t_X7_bit_n (l := l) (G := G) (hi := hi) (hl := hl) (hr := sv_hr tw dr pm) (b := left) (k := x2) (by omega); rw [← h2] at h; exact h) (Nat.le_of_ble_eq_true rfl) ⟨rfl, rfl, ⟨by decide, by decide⟩, by decide, by decide⟩ dX6_choiceOf_34 (fun r34 a34 b34 c34 p34 => ?_)
    obtain ⟨rfl, rfl, rfl, rfl⟩ := p34
    refine J_iconst (pc := 37) (1) rfl dX6_choiceOf_37 ?_
    refine J_icmp_ne (pc := 38) 50 dX6_choiceOf_38 (by decide) (fun h38 => ?_) (fun h38 => ?_)
    · rw [sv_b_1] at h38
      refine S_iload_2 (pc := 50) dX6_choiceOf_50 ?_
      refine caX6_58 (pc := 51) (t_J6_numberOfTrailingZeros_0f7a4 (l := l) (G := G)) (Nat.le_of_ble_eq_true rfl) ⟨rfl, rfl, ⟨by decide, by decide⟩, by decide, by decide⟩ dX6_choiceOf_51 (fun r51 a51 b51 c51 p51 => ?_)
      obtain ⟨rfl, rfl, rfl, rfl⟩ := p51
      exact J_ireturn (pc := 54) dX6_choiceOf_54 rfl rfl ⟨_, rfl, rfl, ⟨by unfold mChoice; rw [h1, h2, nI_clamp (by omega), nI_clamp (by omega)]; simp [h13, h38, hz], rfl, rfl, rfl⟩⟩
    · rw [sv_b_1] at h38
      refine S_aload_0 (pc := 41) dX6_choiceOf_41 ?_
      refine fgX6_43 (pc := 42) htw (hv_T10 htw) dX6_choiceOf_42 ?_
      refine S_iload_1 (pc := 45) dX6_choiceOf_45 ?_
      refine caX6_50 (pc := 46) (t_X7_at_n (l := l) (G := G) (j := r) (ar_T10 htw) hr6 (by decide)) (Nat.le_of_ble_eq_true rfl) ⟨rfl, rfl, ⟨by decide, by decide⟩, by decide, by decide⟩ dX6_choiceOf_46 (fun r46 a46 b46 c46 p46 => ?_)
      obtain ⟨rfl, rfl, rfl, rfl⟩ := p46
      exact J_ireturn (pc := 49) dX6_choiceOf_49 rfl rfl ⟨_, rfl, rfl, ⟨by unfold mChoice; rw [h1, h2, nI_clamp (by omega), nI_clamp (by omega)]; simp [h13, h38, hz], rfl, rfl, rfl⟩⟩
  · rw [sv_b_1] at h13
    refine S_aload_0 (pc := 16) dX6_choiceOf_16 ?_
    refine fgX6_40 (pc := 17) htw (hv_T9 htw) dX6_choiceOf_17 ?_
    refine S_iload_1 (pc := 20) dX6_choiceOf_20 ?_
    refine caX6_50 (pc := 21) (t_X7_at_n (l := l) (G := G) (j := r) (ar_T9 htw) hr6 (by decide)) (Nat.le_of_ble_eq_true rfl) ⟨rfl, rfl, ⟨by decide, by decide⟩, by decide, by decide⟩ dX6_choiceOf_21 (fun r21 a21 b21 c21 p21 => ?_)
    obtain ⟨rfl, rfl, rfl, rfl⟩ := p21
    exact J_ireturn (pc := 24) dX6_choiceOf_24 rfl rfl ⟨_, rfl, rfl, ⟨by unfold mChoice; rw [h1, h2, nI_clamp (by omega), nI_clamp (by omega)]; simp [h13, hz], rfl, rfl, rfl⟩⟩
set_option maxRecDepth 20000 in
set_option maxHeartbeats 2000000 in
theorem lo2_X0_winner {l : Launch} {G : svG} {hi : svH} {hl : svL} {tw dr : Nat} {pm : Nat → Nat} {C L Gn : Nat} {rugs : Int32} (htw : svSH[tw]? = some (0, 6)) (hC0 : 0 < C) (hC : C ≤ 6) (hL0 : 0 < L) (hL : L ≤ 6) (hCc : hi tw 0 = nI C) (hGn : hi tw 4 = nI Gn) (hG6 : Gn ≤ 6) (hf : ∀ r, r < Gn → ∃ j, j < 6 ∧ hi (tw + 5) r = nI j) (hs : ∀ r, r < Gn → ∃ j, j < 6 ∧ hi (tw + 6) r = nI j) : ∀ t, t ≤ Gn → ∀ (h' : svH), (∀ q, q ≠ 65 → h' q = hi q) → (∀ k, k < 6 → h' 65 k = mBack (hi (tw + 4)) (hi (tw + 5)) (hi (tw + 6)) rugs (mLeft C (hi 64) L) t k) → svJ l G rX0_winner mX0_winner (sv_Fm G (fun v sh a b c => ∃ r, v = some (.int r) ∧ sh = svSH ∧ ((fun r a b c => nI (mWin C Gn (hi (tw + 4)) (hi (tw + 5)) (hi (tw + 6)) rugs (hi 64) L) = r ∧ (∀ q, q ≠ 65 → a q = hi q) ∧ hl = b ∧ sv_hr tw dr pm = c)) r a b c) 0 0) 0 0 41 [some (sv_rf G.1 63), some (sv_rf G.1 tw), some (.int rugs), some (.int (nI L)), some (.int (mLeft C (hi 64) L)), some (.int (nI t))] [] svSH h' hl (sv_hr tw dr pm) := by
  have htw2 := sv_tw htw
  have hz := ntz_left hC0 hC (f := hi 64) hL0
  refine sv_up (fun t ht ih h' i1 i2 => ?_)
  refine S_iload_5 (pc := 41) dX0_winner_41 ?_
  refine S_aload_1 (pc := 43) dX0_winner_43 ?_
  refine fgX0_36 (pc := 44) htw dX0_winner_44 ?_
  refine J_icmp_ge (pc := 47) 89 dX0_winner_47 (by decide) (fun h47 => ?_) (fun h47 => ?_)
  · rw [i1 tw (by omega), hGn, nI_leI (by omega) (by omega)] at h47
    obtain rfl : t = Gn := by omega
    refine S_aload_0 (pc := 89) dX0_winner_89 ?_
    refine fgX0_15 (pc := 90) sh_63 hv_63_1 dX0_winner_90 ?_
    refine S_iload_4 (pc := 93) dX0_winner_93 ?_
    refine caX0_22 (pc := 95) (t_X0_mostOf (l := l) (G := G) (q := 65) sh_65) (Nat.le_of_ble_eq_true rfl) ⟨rfl, rfl, ⟨by decide, by decide⟩, by decide, by decide⟩ dX0_winner_95 (fun r95 a95 b95 c95 p95 => ?_)
    obtain ⟨rfl, rfl, rfl, rfl⟩ := p95
    exact J_ireturn (pc := 98) dX0_winner_98 rfl rfl ⟨_, rfl, rfl, ⟨by
            unfold mWin
            rw [mBest_congr (p := fun i => bt (mLeft C (hi 64) L) i) (f := h' 65) (fun _ _ => rfl) i2, mBest_more hC (fun i h1 h2 => mLeft_bits hC0 hC L i h1 (by omega))], i1, rfl, rfl⟩⟩
  · rw [i1 tw (by omega), hGn, nI_leI (by omega) (by omega)] at h47
    obtain ⟨x1, hx1, e1⟩ := hf t (by omega)
    obtain ⟨x2, hx2, e2⟩ := hs t (by omega)
    have e1' := e1
    have e2' := e2
    rw [← i1 (tw + 5) (by omega)] at e1'
    rw [← i1 (tw + 6) (by omega)] at e2'
    have hlt : mChoice (mLeft C (hi 64) L) (h' (tw + 5) t) (h' (tw + 6) t) < 6 := mChoice_lt (by rw [e1', nI_clamp (by omega)]; exact hx1) (by rw [e2', nI_clamp (by omega)]; exact hx2)
    refine S_iload_2 (pc := 50) dX0_winner_50 ?_
    refine S_iload_5 (pc := 51) dX0_winner_51 ?_
    refine caX0_39 (pc := 53) (t_X7_bit_n (l := l) (G := G) (k := t) (by omega)) (Nat.le_of_ble_eq_true rfl) ⟨rfl, rfl, ⟨by decide, by decide⟩, by decide, by decide⟩ dX0_winner_53 (fun r53 a53 b53 c53 p53 => ?_)
    obtain ⟨rfl, rfl, rfl, rfl⟩ := p53
    refine J_if_ne_b (pc := 56) 83 dX0_winner_56 (by decide) (fun h56 => ?_) (fun h56 => ?_)
    · refine S_inc_5 (pc := 83) (1) rfl dX0_winner_83 (by decide) ?_
      refine J_goto (pc := 86) 41 dX0_winner_86 (by decide) ?_
      exact svJ_ls (by rw [nI_succ]) (ih (t + 1) (by omega) (by omega) _ (fun q hq => by first | exact i1 q hq | exact (sv_u2_off hq).trans (i1 q hq)) (fun k hk => by
        rw [mBack]
        first
        | (rw [if_pos h56]; exact i2 k hk)
        | (rw [if_neg h56, sv_u2_row]
           unfold upd
           have hlt' := hlt
           rw [i1 (tw + 5) (by omega), i1 (tw + 6) (by omega)] at hlt'
           rw [i1 (tw + 5) (by omega), i1 (tw + 6) (by omega), i1 (tw + 4) (by omega), i2 _ hlt']
           by_cases hkk : k = mChoice (mLeft C (hi 64) L) (hi (tw + 5) t) (hi (tw + 6) t)
           · rw [if_pos hkk, if_pos hkk]
           · rw [if_neg hkk, if_neg hkk]; exact i2 k hk)))
    · refine S_aload_0 (pc := 59) dX0_winner_59 ?_
      refine fgX0_15 (pc := 60) sh_63 hv_63_1 dX0_winner_60 ?_
      refine S_aload_1 (pc := 63) dX0_winner_63 ?_
      refine S_iload_5 (pc := 64) dX0_winner_64 ?_
      refine S_iload_4 (pc := 66) dX0_winner_66 ?_
      refine caX0_42 (pc := 68) (t_X6_choiceOf (l := l) (G := G) (r := t) htw (by omega) e1' hx1 e2' hx2 hz) htw (Nat.le_of_ble_eq_true rfl) ⟨rfl, rfl, ⟨by decide, by decide⟩, by decide, by decide⟩ dX0_winner_68 (fun r68 a68 b68 c68 p68 => ?_)
      obtain ⟨rfl, rfl, rfl, rfl⟩ := p68
      refine S_aload_1 (pc := 71) dX0_winner_71 ?_
      refine fgX0_45 (pc := 72) htw (hv_T8 htw) dX0_winner_72 ?_
      refine S_iload_5 (pc := 75) dX0_winner_75 ?_
      refine caX0_48 (pc := 77) (t_X7_at_n (l := l) (G := G) (j := t) (ar_T8 htw) (by omega) (by decide)) (Nat.le_of_ble_eq_true rfl) ⟨rfl, rfl, ⟨by decide, by decide⟩, by decide, by decide⟩ dX0_winner_77 (fun r77 a77 b77 c77 p77 => ?_)
      obtain ⟨rfl, rfl, rfl, rfl⟩ := p77
      refine caX0_51 (pc := 80) (t_X7_raise_x (l := l) (G := G) _ rfl sh_65 hlt (by decide)) (Nat.le_of_ble_eq_true rfl) ⟨rfl, rfl, ⟨by decide, by decide⟩, by decide, by decide⟩ dX0_winner_80 (fun a80 b80 c80 p80 => ?_)
      obtain ⟨rfl, rfl, rfl⟩ := p80
      refine S_inc_5 (pc := 83) (1) rfl dX0_winner_83 (by decide) ?_
      refine J_goto (pc := 86) 41 dX0_winner_86 (by decide) ?_
      exact svJ_ls (by rw [nI_succ]) (ih (t + 1) (by omega) (by omega) _ (fun q hq => by first | exact i1 q hq | exact (sv_u2_off hq).trans (i1 q hq)) (fun k hk => by
        rw [mBack]
        first
        | (rw [if_pos h56]; exact i2 k hk)
        | (rw [if_neg h56, sv_u2_row]
           unfold upd
           have hlt' := hlt
           rw [i1 (tw + 5) (by omega), i1 (tw + 6) (by omega)] at hlt'
           rw [i1 (tw + 5) (by omega), i1 (tw + 6) (by omega), i1 (tw + 4) (by omega), i2 _ hlt']
           by_cases hkk : k = mChoice (mLeft C (hi 64) L) (hi (tw + 5) t) (hi (tw + 6) t)
           · rw [if_pos hkk, if_pos hkk]
           · rw [if_neg hkk, if_neg hkk]; exact i2 k hk)))
set_option maxRecDepth 20000 in
set_option maxHeartbeats 2000000 in
theorem lo1_X0_winner {l : Launch} {G : svG} {hi : svH} {hl : svL} {tw dr : Nat} {pm : Nat → Nat} {C L Gn : Nat} {rugs : Int32} (htw : svSH[tw]? = some (0, 6)) (hC0 : 0 < C) (hC : C ≤ 6) (hL0 : 0 < L) (hL : L ≤ 6) (hCc : hi tw 0 = nI C) (hGn : hi tw 4 = nI Gn) (hG6 : Gn ≤ 6) (hf : ∀ r, r < Gn → ∃ j, j < 6 ∧ hi (tw + 5) r = nI j) (hs : ∀ r, r < Gn → ∃ j, j < 6 ∧ hi (tw + 6) r = nI j) : ∀ t, t ≤ 6 → ∀ (h' : svH), (∀ q, q ≠ 65 → h' q = hi q) → (∀ k, k < t → h' 65 k = 0) → svJ l G rX0_winner mX0_winner (sv_Fm G (fun v sh a b c => ∃ r, v = some (.int r) ∧ sh = svSH ∧ ((fun r a b c => nI (mWin C Gn (hi (tw + 4)) (hi (tw + 5)) (hi (tw + 6)) rugs (hi 64) L) = r ∧ (∀ q, q ≠ 65 → a q = hi q) ∧ hl = b ∧ sv_hr tw dr pm = c)) r a b c) 0 0) 0 0 14 [some (sv_rf G.1 63), some (sv_rf G.1 tw), some (.int rugs), some (.int (nI L)), some (.int (mLeft C (hi 64) L)), some (.int (nI t))] [] svSH h' hl (sv_hr tw dr pm) := by
  refine sv_up (fun t ht ih h' i1 i2 => ?_)
  refine S_iload_5 (pc := 14) dX0_winner_14 ?_
  refine S_aload_0 (pc := 16) dX0_winner_16 ?_
  refine fgX0_15 (pc := 17) sh_63 hv_63_1 dX0_winner_17 ?_
  refine J_alen1 (pc := 20) (6) sh_65 rfl dX0_winner_20 ?_
  refine J_icmp_ge (pc := 21) 38 dX0_winner_21 (by decide) (fun h21 => ?_) (fun h21 => ?_)
  · rw [show (6 : Int32) = nI 6 from rfl, nI_leI (by omega) (by omega)] at h21
    obtain rfl : t = 6 := by omega
    refine J_iconst (pc := 38) (0) rfl dX0_winner_38 ?_
    refine S_istore_5 (pc := 39) dX0_winner_39 (by decide) ?_
    exact lo2_X0_winner htw hC0 hC hL0 hL hCc hGn hG6 hf hs 0 (Nat.zero_le _) h' i1 (fun k hk => by rw [mBack]; exact i2 k hk)
  · rw [show (6 : Int32) = nI 6 from rfl, nI_leI (by omega) (by omega)] at h21
    refine S_aload_0 (pc := 24) dX0_winner_24 ?_
    refine fgX0_15 (pc := 25) sh_63 hv_63_1 dX0_winner_25 ?_
    refine S_iload_5 (pc := 28) dX0_winner_28 ?_
    refine J_iconst (pc := 30) (0) rfl dX0_winner_30 ?_
    refine J_iast_n (pc := 31) t sh_65 rfl (by omega) (by decide) dX0_winner_31 ?_
    refine S_inc_5 (pc := 32) (1) rfl dX0_winner_32 (by decide) ?_
    refine J_goto (pc := 35) 14 dX0_winner_35 (by decide) ?_
    exact svJ_ls (by rw [nI_succ]) (ih (t + 1) (by omega) (by omega) _ (fun q hq => (sv_u2_off hq).trans (i1 q hq)) (fun k hk => by
      rw [sv_u2_row]
      unfold upd
      by_cases hkk : k = t
      · rw [if_pos hkk]
      · rw [if_neg hkk]; exact i2 k (by omega)))
set_option maxRecDepth 20000 in
set_option maxHeartbeats 2000000 in
theorem t_X0_winner {l : Launch} {G : svG} {hi : svH} {hl : svL} {tw dr : Nat} {pm : Nat → Nat} {C L Gn : Nat} {rugs : Int32} (htw : svSH[tw]? = some (0, 6)) (hC0 : 0 < C) (hC : C ≤ 6) (hL0 : 0 < L) (hL : L ≤ 6) (hCc : hi tw 0 = nI C) (hGn : hi tw 4 = nI Gn) (hG6 : Gn ≤ 6) (hf : ∀ r, r < Gn → ∃ j, j < 6 ∧ hi (tw + 5) r = nI j) (hs : ∀ r, r < Gn → ∃ j, j < 6 ∧ hi (tw + 6) r = nI j) : svI l G yX0_winner mX0_winner rX0_winner [sv_rf G.1 63, sv_rf G.1 tw, .int rugs, .int (nI L)] hi hl (sv_hr tw dr pm) (fun r a b c => nI (mWin C Gn (hi (tw + 4)) (hi (tw + 5)) (hi (tw + 6)) rugs (hi 64) L) = r ∧ (∀ q, q ≠ 65 → a q = hi q) ∧ hl = b ∧ sv_hr tw dr pm = c) := by
  refine sv_entry (by decide +kernel) rfl rfl (Nat.le_of_ble_eq_true rfl) (by simp [Value.category, sv_rf]) [some (sv_rf G.1 63), some (sv_rf G.1 tw), some (.int rugs), some (.int (nI L)), none, none] rfl ?_
  refine S_aload_0 (pc := 0) dX0_winner_0 ?_
  refine S_aload_1 (pc := 1) dX0_winner_1 ?_
  refine fgX0_26 (pc := 2) htw dX0_winner_2 ?_
  refine S_iload_3 (pc := 5) dX0_winner_5 ?_
  refine caX0_32 (pc := 6) (by have h := t_X0_whoIsLeft (l := l) (G := G) (hi := hi) (hl := hl) (tw := tw) (dr := dr) (pm := pm) hC0 hC hL; rw [← hCc] at h; exact h) sh_63 (Nat.le_of_ble_eq_true rfl) ⟨rfl, rfl, ⟨by decide, by decide⟩, by decide, by decide⟩ dX0_winner_6 (fun r6 a6 b6 c6 p6 => ?_)
  obtain ⟨rfl, rfl, rfl, rfl⟩ := p6
  refine S_istore_4 (pc := 9) dX0_winner_9 (by decide) ?_
  refine J_iconst (pc := 11) (0) rfl dX0_winner_11 ?_
  refine S_istore_5 (pc := 12) dX0_winner_12 (by decide) ?_
  
  exact lo1_X0_winner htw hC0 hC hL0 hL hCc hGn hG6 hf hs 0 (Nat.zero_le _) hi (fun _ _ => rfl) (fun k hk => by omega)
