theorem mWinM_keep {hi a : svH} (hq : ∀ q, q ≠ 180 → q ≠ 181 → a q = hi q) (C T Gn : Nat) (stops canv by' : Int32) (many : Nat) : mWinM a C T Gn stops canv by' many = mWinM hi C T Gn stops canv by' many := by
  unfold mWinM mSumM
  rw [hq 165 (by decide) (by decide), hq 166 (by decide) (by decide), hq 167 (by decide) (by decide), hq 168 (by decide) (by decide), hq 169 (by decide) (by decide)]
theorem mWinM_eq {hi a : svH} {C L T Gn : Nat} {stops canv by' : Int32} (hC6 : C ≤ 6) (i1 : ∀ q, q ≠ 180 → q ≠ 181 → a q = hi q) (i2 : ∀ k, k < 6 → a 180 k = mSumM hi T stops canv by' k) : (mBest (fun i => bt (mLeft C (a 180) L) i) (mBack (a 166) (a 167) (a 168) (a 169 26) (mLeft C (a 180) L) Gn) C).getD 0 = mWinM hi C T Gn stops canv by' L := by
  unfold mWinM mWin
  rw [mLeft_congr (g := mSumM hi T stops canv by') (fun k hk => i2 k (by omega)) L, i1 166 (by decide) (by decide), i1 167 (by decide) (by decide), i1 168 (by decide) (by decide), i1 169 (by decide) (by decide)]
theorem nI_shl : ∀ T, T ≤ 8 → 1 <<< (nI T &&& 31) = nI (2 ^ T) := by decide +kernel
theorem two_le {T : Nat} (h : T ≤ 8) : 2 ^ T ≤ 256 := Nat.le_trans (Nat.pow_le_pow_right (by decide) h) (by decide)
/-- less of the sets: fewer bits than the one found -/
def less (w : Nat → Nat) (s : Nat) (o : Option Nat) : Bool := match o with
  | none => true
  | some b => decide (w s < w b)
def mPl (p : Nat → Bool) (w : Nat → Nat) : Nat → Option Nat
  | 0 => none
  | s + 1 => if p s = true ∧ less w s (mPl p w s) = true then some s else mPl p w s
theorem mPl_lt {p : Nat → Bool} {w : Nat → Nat} : ∀ {n b : Nat}, mPl p w n = some b → b < n := by
  intro n
  induction n with
  | zero => intro b h; cases h
  | succ n ih =>
    intro b h
    rw [mPl] at h
    split at h
    · cases h; omega
    · have := ih h; omega
def bcw (s : Nat) : Nat := mCnt (bt (nI s)) 8
theorem mCnt_le (p : Nat → Bool) : ∀ n, mCnt p n ≤ n
  | 0 => Nat.le_refl _
  | n + 1 => by rw [mCnt]; have := mCnt_le p n; have : (p n).toNat ≤ 1 := by cases p n <;> decide
                omega
set_option maxRecDepth 20000 in
set_option maxHeartbeats 2000000 in
theorem t_X8_isLess {l : Launch} {G : svG} {hi : svH} {hl : svL} {hr : svR} {s : Nat} {o : Option Nat} (hs : s < 256) (ho : ∀ b, o = some b → b ≤ s) : svIp l G yX8_isLess mX8_isLess rX8_isLess [.int (nI s), .int (mI9 o)] hi hl hr (sv_b (less bcw s o = true)) := by
  cases o with
  | none =>
    refine sv_entry (by decide +kernel) rfl rfl (Nat.le_of_ble_eq_true rfl) (by simp [Value.category, sv_rf]) [some (.int (nI s)), some (.int (mI9 none))] rfl ?_
    refine S_iload_1 (pc := 0) dX8_isLess_0 ?_
    refine J_if_lt (pc := 1) 31 dX8_isLess_1 (by decide) (fun h1 => ?_) (fun h1 => ?_)
    · refine J_iconst (pc := 31) (1) rfl dX8_isLess_31 ?_
      refine J_goto (pc := 32) 36 dX8_isLess_32 (by decide) ?_
      exact J_ireturn (pc := 36) dX8_isLess_36 rfl rfl ⟨_, rfl, rfl, ⟨rfl, rfl, rfl, rfl⟩⟩
    · exact absurd (by decide) h1
  | some b =>
    have hb := ho b rfl
    have w1 : mCnt (bt (nI s)) 8 ≤ 8 := mCnt_le _ _
    have w2 : mCnt (bt (nI b)) 8 ≤ 8 := mCnt_le _ _
    refine sv_entry (by decide +kernel) rfl rfl (Nat.le_of_ble_eq_true rfl) (by simp [Value.category, sv_rf]) [some (.int (nI s)), some (.int (mI9 (some b)))] rfl ?_
    refine S_iload_1 (pc := 0) dX8_isLess_0 ?_
    refine J_if_lt (pc := 1) 31 dX8_isLess_1 (by decide) (fun h1 => ?_) (fun h1 => ?_)
    · exact absurd h1 (nI_pos (by omega))
    · refine S_iload_0 (pc := 4) dX8_isLess_4 ?_
      refine caX8_195 (pc := 5) (t_X8_bits (l := l) (G := G)) (Nat.le_of_ble_eq_true rfl) ⟨rfl, rfl, ⟨by decide, by decide⟩, by decide, by decide⟩ dX8_isLess_5 (fun r5 a5 b5 c5 p5 => ?_)
      obtain ⟨rfl, rfl, rfl, rfl⟩ := p5
      refine S_iload_1 (pc := 8) dX8_isLess_8 ?_
      refine caX8_195 (pc := 9) (t_X8_bits (l := l) (G := G)) (Nat.le_of_ble_eq_true rfl) ⟨rfl, rfl, ⟨by decide, by decide⟩, by decide, by decide⟩ dX8_isLess_9 (fun r9 a9 b9 c9 p9 => ?_)
      obtain ⟨rfl, rfl, rfl, rfl⟩ := p9
      refine J_icmp_lt (pc := 12) 31 dX8_isLess_12 (by decide) (fun h12 => ?_) (fun h12 => ?_)
      · change nI (mCnt (bt (nI s)) 8) < nI (mCnt (bt (nI b)) 8) at h12
        rw [nI_ltI (by omega) (by omega)] at h12
        refine J_iconst (pc := 31) (1) rfl dX8_isLess_31 ?_
        refine J_goto (pc := 32) 36 dX8_isLess_32 (by decide) ?_
        exact J_ireturn (pc := 36) dX8_isLess_36 rfl rfl ⟨_, rfl, rfl, ⟨by first | exact sv_b_t (by unfold less bcw; exact decide_eq_true h12) | exact sv_b_f (by unfold less bcw; rw [decide_eq_true_eq]; exact h12), rfl, rfl, rfl⟩⟩
      · change ¬ nI (mCnt (bt (nI s)) 8) < nI (mCnt (bt (nI b)) 8) at h12
        rw [nI_ltI (by omega) (by omega)] at h12
        refine S_iload_0 (pc := 15) dX8_isLess_15 ?_
        refine caX8_195 (pc := 16) (t_X8_bits (l := l) (G := G)) (Nat.le_of_ble_eq_true rfl) ⟨rfl, rfl, ⟨by decide, by decide⟩, by decide, by decide⟩ dX8_isLess_16 (fun r16 a16 b16 c16 p16 => ?_)
        obtain ⟨rfl, rfl, rfl, rfl⟩ := p16
        refine S_iload_1 (pc := 19) dX8_isLess_19 ?_
        refine caX8_195 (pc := 20) (t_X8_bits (l := l) (G := G)) (Nat.le_of_ble_eq_true rfl) ⟨rfl, rfl, ⟨by decide, by decide⟩, by decide, by decide⟩ dX8_isLess_20 (fun r20 a20 b20 c20 p20 => ?_)
        obtain ⟨rfl, rfl, rfl, rfl⟩ := p20
        refine J_icmp_ne (pc := 23) 35 dX8_isLess_23 (by decide) (fun h23 => ?_) (fun h23 => ?_)
        · refine J_iconst (pc := 35) (0) rfl dX8_isLess_35 ?_
          exact J_ireturn (pc := 36) dX8_isLess_36 rfl rfl ⟨_, rfl, rfl, ⟨by first | exact sv_b_t (by unfold less bcw; exact decide_eq_true h12) | exact sv_b_f (by unfold less bcw; rw [decide_eq_true_eq]; exact h12), rfl, rfl, rfl⟩⟩
        · refine S_iload_0 (pc := 26) dX8_isLess_26 ?_
          refine S_iload_1 (pc := 27) dX8_isLess_27 ?_
          refine J_icmp_ge (pc := 28) 35 dX8_isLess_28 (by decide) (fun h28 => ?_) (fun h28 => ?_)
          · refine J_iconst (pc := 35) (0) rfl dX8_isLess_35 ?_
            exact J_ireturn (pc := 36) dX8_isLess_36 rfl rfl ⟨_, rfl, rfl, ⟨by first | exact sv_b_t (by unfold less bcw; exact decide_eq_true h12) | exact sv_b_f (by unfold less bcw; rw [decide_eq_true_eq]; exact h12), rfl, rfl, rfl⟩⟩
          · exact absurd (nI_le hb (by omega)) h28
set_option maxRecDepth 20000 in
set_option maxHeartbeats 2000000 in
theorem lo_X8_plan {l : Launch} {G : svG} {hi : svH} {hl : svL} {tw dr : Nat} {pm : Nat → Nat} {C L T Gn : Nat} (hm : mT hi C L T Gn) {x z : Int32} (hbad : (0 ≤ x ∧ x < nI C) ∧ 0 ≤ z ∧ z < nI C) : ∀ s, s ≤ 2 ^ T → ∀ (h' : svH), (∀ q, q ≠ 180 → q ≠ 181 → h' q = hi q) → svJ l G rX8_plan mX8_plan (sv_Fm G (fun v sh a b c => ∃ r, v = some (.int r) ∧ sh = svSH ∧ ((fun r a b c => (if (0 ≤ x ∧ x < nI C) ∧ 0 ≤ z ∧ z < nI C then mI9 (mPl (fun s => xOk (mOpen (hi 169 25) (hi 169 0) (fun t => hi 169 (9 + t)) T) s && decide (nI (bcw s) ≤ hi 169 1) && decide (nI (mWinM hi C T Gn (mOpen (hi 169 25) (hi 169 0) (fun t => hi 169 (9 + t)) T) (nI s) z L) = x)) bcw (2 ^ T)) else -1) = r ∧ (∀ q, q ≠ 180 → q ≠ 181 → a q = hi q) ∧ hl = b ∧ sv_hr tw dr pm = c)) r a b c) 0 0) 0 0 30 [some (sv_rf G.1 164), some (.int x), some (.int z), some (.int (mOpen (hi 169 25) (hi 169 0) (fun t => hi 169 (9 + t)) T)), some (.int (mI9 (mPl (fun s => xOk (mOpen (hi 169 25) (hi 169 0) (fun t => hi 169 (9 + t)) T) s && decide (nI (bcw s) ≤ hi 169 1) && decide (nI (mWinM hi C T Gn (mOpen (hi 169 25) (hi 169 0) (fun t => hi 169 (9 + t)) T) (nI s) z L) = x)) bcw s))), some (.int (nI s))] [] svSH h' hl (sv_hr tw dr pm) := by
  obtain ⟨hCc, hLc, hT, hGn, hC2, hC6, hL1, hLC, hT8, hG6, hf, hs, hk⟩ := id hm
  obtain ⟨jz, hjz, ez⟩ := sv_ix hbad.2 (by omega)
  have ht2 := two_le hT8
  refine sv_up (fun s hs2 ih h' i1 => ?_)
  have hm' := hm.keep i1
  have w1 : mCnt (bt (nI s)) 8 ≤ 8 := mCnt_le _ _
  refine S_iload_5 (pc := 30) dX8_plan_30 ?_
  refine J_iconst (pc := 32) (1) rfl dX8_plan_32 ?_
  refine S_aload_0 (pc := 33) dX8_plan_33 ?_
  refine fgX8_73 (pc := 34) sh_164 dX8_plan_34 ?_
  refine J_ishl (pc := 37) dX8_plan_37 ?_
  refine J_icmp_ge (pc := 38) 113 dX8_plan_38 (by decide) (fun h38 => ?_) (fun h38 => ?_)
  · rw [i1 164 (by decide) (by decide), hT, nI_shl T hT8, nI_leI (by omega) (by omega)] at h38
    obtain rfl : s = 2 ^ T := by omega
    refine S_iload_4 (pc := 113) dX8_plan_113 ?_
    exact J_ireturn (pc := 115) dX8_plan_115 rfl rfl ⟨_, rfl, rfl, ⟨if_pos hbad, i1, rfl, rfl⟩⟩
  · rw [i1 164 (by decide) (by decide), hT, nI_shl T hT8, nI_leI (by omega) (by omega)] at h38
    refine S_iload_5 (pc := 41) dX8_plan_41 ?_
    refine S_iload_3 (pc := 43) dX8_plan_43 ?_
    refine J_iconst (pc := 44) (-1) rfl dX8_plan_44 ?_
    refine J_ixor (pc := 45) dX8_plan_45 ?_
    refine J_iand (pc := 46) dX8_plan_46 ?_
    refine J_if_ne (pc := 47) 107 dX8_plan_47 (by decide) (fun h47 => ?_) (fun h47 => ?_)
    · refine S_inc_5 (pc := 107) (1) rfl dX8_plan_107 (by decide) ?_
      refine J_goto (pc := 110) 30 dX8_plan_110 (by decide) ?_
      exact svJ_ls (by rw [mPl, if_neg (fun q => by have := q.1; rw [Bool.and_eq_true, Bool.and_eq_true] at this; exact h47 (of_decide_eq_true this.1.1)), nI_succ]) (ih (s + 1) (by omega) (by omega) _ (fun q g1 g2 => i1 q g1 g2))
    · refine S_iload_5 (pc := 50) dX8_plan_50 ?_
      refine caX8_195 (pc := 52) (t_X8_bits (l := l) (G := G)) (Nat.le_of_ble_eq_true rfl) ⟨rfl, rfl, ⟨by decide, by decide⟩, by decide, by decide⟩ dX8_plan_52 (fun r52 a52 b52 c52 p52 => ?_)
      obtain ⟨rfl, rfl, rfl, rfl⟩ := p52
      refine S_aload_0 (pc := 55) dX8_plan_55 ?_
      refine fgX8_29 (pc := 56) sh_164 hv_164_8 dX8_plan_56 ?_
      refine J_iconst (pc := 59) (1) rfl dX8_plan_59 ?_
      refine J_iald_n (pc := 60) 1 sh_169 rfl (by decide) (by decide) dX8_plan_60 ?_
      refine J_icmp_gt (pc := 61) 107 dX8_plan_61 (by decide) (fun h61 => ?_) (fun h61 => ?_)
      · rw [i1 169 (by decide) (by decide)] at h61
        have h61 := Int32.not_le.mpr h61
        refine S_inc_5 (pc := 107) (1) rfl dX8_plan_107 (by decide) ?_
        refine J_goto (pc := 110) 30 dX8_plan_110 (by decide) ?_
        exact svJ_ls (by rw [mPl, if_neg (fun q => by have := q.1; rw [Bool.and_eq_true, Bool.and_eq_true] at this; exact h61 (of_decide_eq_true this.1.2)), nI_succ]) (ih (s + 1) (by omega) (by omega) _ (fun q g1 g2 => i1 q g1 g2))
      · rw [i1 169 (by decide) (by decide)] at h61
        have h61 := Int32.not_lt.mp h61
        refine S_iload_5 (pc := 64) dX8_plan_64 ?_
        refine S_iload_4 (pc := 66) dX8_plan_66 ?_
        refine caX8_204 (pc := 68) (t_X8_isLess (l := l) (G := G) (by omega) (fun b hb => by have := mPl_lt hb; omega)) (Nat.le_of_ble_eq_true rfl) ⟨rfl, rfl, ⟨by decide, by decide⟩, by decide, by decide⟩ dX8_plan_68 (fun r68 a68 b68 c68 p68 => ?_)
        obtain ⟨rfl, rfl, rfl, rfl⟩ := p68
        refine J_if_eq_b (pc := 71) 107 dX8_plan_71 (by decide) (fun h71 => ?_) (fun h71 => ?_)
        · refine S_inc_5 (pc := 107) (1) rfl dX8_plan_107 (by decide) ?_
          refine J_goto (pc := 110) 30 dX8_plan_110 (by decide) ?_
          exact svJ_ls (by rw [mPl, if_neg (fun q => h71 q.2), nI_succ]) (ih (s + 1) (by omega) (by omega) _ (fun q g1 g2 => i1 q g1 g2))
        · refine S_aload_0 (pc := 74) dX8_plan_74 ?_
          refine S_iload_3 (pc := 75) dX8_plan_75 ?_
          refine S_iload_5 (pc := 76) dX8_plan_76 ?_
          refine S_iload_2 (pc := 78) dX8_plan_78 ?_
          refine caX8_169 (pc := 79) (t_X8_tries (l := l) (G := G) hm' (by rw [i1 169 (by decide) (by decide)]; exact hm.to2 ez hjz)) sh_164 (Nat.le_of_ble_eq_true rfl) ⟨rfl, rfl, ⟨by decide, by decide⟩, by decide, by decide⟩ dX8_plan_79 (fun a79 b79 c79 p79 => ?_)
          obtain ⟨k1, k2, rfl, rfl⟩ := p79
          have k3 : ∀ q, q ≠ 180 → q ≠ 181 → a79 q = hi q := fun q g1 g2 => (k1 q g1).trans (i1 q g1 g2)
          have hm2 : mT a79 C L T Gn := hm.keep k3
          have eL : a79 164 1 = nI L := hm2.2.1
          have k4 : ∀ k, k < 6 → a79 180 k = mSumM hi T (mOpen (hi 169 25) (hi 169 0) (fun t => hi 169 (9 + t)) T) (nI s) z k := fun k hk => by rw [k2 k hk, i1 169 (by decide) (by decide), i1 165 (by decide) (by decide)]; rfl
          refine S_aload_0 (pc := 82) dX8_plan_82 ?_
          refine S_aload_0 (pc := 83) dX8_plan_83 ?_
          refine S_aload_0 (pc := 84) dX8_plan_84 ?_
          refine fgX8_13 (pc := 85) sh_164 dX8_plan_85 ?_
          refine caX8_173 (pc := 88) (by rw [eL]; exact t_X8_whoIsLeft (l := l) (G := G) hm2 hLC) sh_164 (Nat.le_of_ble_eq_true rfl) ⟨rfl, rfl, ⟨by decide, by decide⟩, by decide, by decide⟩ dX8_plan_88 (fun r88 a88 b88 c88 p88 => ?_)
          obtain ⟨rfl, rfl, rfl, rfl⟩ := p88
          refine caX8_176 (pc := 91) (t_X8_winnerOf (l := l) (G := G) hm2 (setOk_left (by omega) hC6 (by omega))) sh_164 (Nat.le_of_ble_eq_true rfl) ⟨rfl, rfl, ⟨by decide, by decide⟩, by decide, by decide⟩ dX8_plan_91 (fun r91 a91 b91 c91 p91 => ?_)
          obtain ⟨rfl, j1, rfl, rfl⟩ := p91
          refine S_iload_1 (pc := 94) dX8_plan_94 ?_
          refine J_icmp_ne (pc := 95) 103 dX8_plan_95 (by decide) (fun h95 => ?_) (fun h95 => ?_)
          · rw [mWinM_eq hC6 k3 k4] at h95
            refine S_iload_4 (pc := 103) dX8_plan_103 ?_
            refine S_istore_4 (pc := 105) dX8_plan_105 (by decide) ?_
            refine S_inc_5 (pc := 107) (1) rfl dX8_plan_107 (by decide) ?_
            refine J_goto (pc := 110) 30 dX8_plan_110 (by decide) ?_
            first
            | exact svJ_ls (by rw [mPl, if_neg (fun q => by have := q.1; rw [Bool.and_eq_true, Bool.and_eq_true] at this; exact h95 (of_decide_eq_true this.2)), nI_succ]) (ih (s + 1) (by omega) (by omega) _ (fun q g1 g2 => (j1 q g2).trans ((k1 q g1).trans (i1 q g1 g2))))
            | exact svJ_ls (by rw [mPl, if_pos ⟨by rw [Bool.and_eq_true, Bool.and_eq_true]; exact ⟨⟨decide_eq_true h47, decide_eq_true h61⟩, decide_eq_true h95⟩, h71⟩, nI_succ]; rfl) (ih (s + 1) (by omega) (by omega) _ (fun q g1 g2 => (j1 q g2).trans ((k1 q g1).trans (i1 q g1 g2))))
          · rw [mWinM_eq hC6 k3 k4] at h95
            refine S_iload_5 (pc := 98) dX8_plan_98 ?_
            refine J_goto (pc := 100) 105 dX8_plan_100 (by decide) ?_
            refine S_istore_4 (pc := 105) dX8_plan_105 (by decide) ?_
            refine S_inc_5 (pc := 107) (1) rfl dX8_plan_107 (by decide) ?_
            refine J_goto (pc := 110) 30 dX8_plan_110 (by decide) ?_
            first
            | exact svJ_ls (by rw [mPl, if_neg (fun q => by have := q.1; rw [Bool.and_eq_true, Bool.and_eq_true] at this; exact h95 (of_decide_eq_true this.2)), nI_succ]) (ih (s + 1) (by omega) (by omega) _ (fun q g1 g2 => (j1 q g2).trans ((k1 q g1).trans (i1 q g1 g2))))
            | exact svJ_ls (by rw [mPl, if_pos ⟨by rw [Bool.and_eq_true, Bool.and_eq_true]; exact ⟨⟨decide_eq_true h47, decide_eq_true h61⟩, decide_eq_true h95⟩, h71⟩, nI_succ]; rfl) (ih (s + 1) (by omega) (by omega) _ (fun q g1 g2 => (j1 q g2).trans ((k1 q g1).trans (i1 q g1 g2))))
set_option maxRecDepth 20000 in
set_option maxHeartbeats 2000000 in
theorem t_X8_plan {l : Launch} {G : svG} {hi : svH} {hl : svL} {tw dr : Nat} {pm : Nat → Nat} {C L T Gn : Nat} (hm : mT hi C L T Gn) {x z : Int32} : svI l G yX8_plan mX8_plan rX8_plan [sv_rf G.1 164, .int x, .int z] hi hl (sv_hr tw dr pm) (fun r a b c => (if (0 ≤ x ∧ x < nI C) ∧ 0 ≤ z ∧ z < nI C then mI9 (mPl (fun s => xOk (mOpen (hi 169 25) (hi 169 0) (fun t => hi 169 (9 + t)) T) s && decide (nI (bcw s) ≤ hi 169 1) && decide (nI (mWinM hi C T Gn (mOpen (hi 169 25) (hi 169 0) (fun t => hi 169 (9 + t)) T) (nI s) z L) = x)) bcw (2 ^ T)) else -1) = r ∧ (∀ q, q ≠ 180 → q ≠ 181 → a q = hi q) ∧ hl = b ∧ sv_hr tw dr pm = c) := by
  obtain ⟨hCc, hLc, hT, hGn, hC2, hC6, hL1, hLC, hT8, hG6, hf, hs, hk⟩ := id hm
  refine sv_entry (by decide +kernel) rfl rfl (Nat.le_of_ble_eq_true rfl) (by simp [Value.category, sv_rf]) [some (sv_rf G.1 164), some (.int x), some (.int z), none, none, none] rfl ?_
  refine S_aload_0 (pc := 0) dX8_plan_0 ?_
  refine S_iload_1 (pc := 1) dX8_plan_1 ?_
  refine caX8_185 (pc := 2) (t_X8_isOne_n (l := l) (G := G) hm) sh_164 (Nat.le_of_ble_eq_true rfl) ⟨rfl, rfl, ⟨by decide, by decide⟩, by decide, by decide⟩ dX8_plan_2 (fun r2 a2 b2 c2 p2 => ?_)
  obtain ⟨rfl, rfl, rfl, rfl⟩ := p2
  refine J_if_eq_b (pc := 5) 16 dX8_plan_5 (by decide) (fun h5 => ?_) (fun h5 => ?_)
  · refine J_iconst (pc := 16) (-1) rfl dX8_plan_16 ?_
    exact J_ireturn (pc := 17) dX8_plan_17 rfl rfl ⟨_, rfl, rfl, ⟨by first | exact if_neg (fun q => h5 q.1) | exact if_neg (fun q => h13 q.2), fun _ _ _ => rfl, rfl, rfl⟩⟩
  · refine S_aload_0 (pc := 8) dX8_plan_8 ?_
    refine S_iload_2 (pc := 9) dX8_plan_9 ?_
    refine caX8_185 (pc := 10) (t_X8_isOne_n (l := l) (G := G) hm) sh_164 (Nat.le_of_ble_eq_true rfl) ⟨rfl, rfl, ⟨by decide, by decide⟩, by decide, by decide⟩ dX8_plan_10 (fun r10 a10 b10 c10 p10 => ?_)
    obtain ⟨rfl, rfl, rfl, rfl⟩ := p10
    refine J_if_ne_b (pc := 13) 18 dX8_plan_13 (by decide) (fun h13 => ?_) (fun h13 => ?_)
    · refine S_aload_0 (pc := 18) dX8_plan_18 ?_
      refine caX8_188 (pc := 19) (t_X8_toCome (l := l) (G := G) hm) sh_164 (Nat.le_of_ble_eq_true rfl) ⟨rfl, rfl, ⟨by decide, by decide⟩, by decide, by decide⟩ dX8_plan_19 (fun r19 a19 b19 c19 p19 => ?_)
      obtain ⟨rfl, rfl, rfl, rfl⟩ := p19
      refine S_istore_3 (pc := 22) dX8_plan_22 (by decide) ?_
      refine J_bipush (pc := 23) (-9) rfl dX8_plan_23 ?_
      refine S_istore_4 (pc := 25) dX8_plan_25 (by decide) ?_
      refine J_iconst (pc := 27) (0) rfl dX8_plan_27 ?_
      refine S_istore_5 (pc := 28) dX8_plan_28 (by decide) ?_
      exact lo_X8_plan hm ⟨h5, h13⟩ 0 (Nat.zero_le _) hi (fun _ _ _ => rfl)
    · refine J_iconst (pc := 16) (-1) rfl dX8_plan_16 ?_
      exact J_ireturn (pc := 17) dX8_plan_17 rfl rfl ⟨_, rfl, rfl, ⟨by first | exact if_neg (fun q => h5 q.1) | exact if_neg (fun q => h13 q.2), fun _ _ _ => rfl, rfl, rfl⟩⟩
def pPow (hi : svH) (C L T Gn j s : Nat) : Bool := (decide (nI s &&& ((mOpen (hi 169 25) (hi 169 0) (fun t => hi 169 (9 + t)) T) ^^^ (-1)) = 0) && !(bt (nI s) j) && !(decide (nI (mWinM hi C T Gn (nI s) 0 0 L) = nI (mWinM hi C T Gn (nI s ||| (1 <<< (nI j &&& 31))) 0 0 L))))
set_option maxRecDepth 20000 in
set_option maxHeartbeats 2000000 in
theorem lo_X8_power {l : Launch} {G : svG} {hi : svH} {hl : svL} {tw dr : Nat} {pm : Nat → Nat} {C L T Gn : Nat} (hm : mT hi C L T Gn) {j : Nat} (hj : j < T) : ∀ s, s ≤ 2 ^ T → ∀ (h' : svH), (∀ q, q ≠ 180 → q ≠ 181 → h' q = hi q) → ∀ z5, svJ l G rX8_power mX8_power (sv_Fm G (fun v sh a b c => ∃ r, v = some (.int r) ∧ sh = svSH ∧ ((fun r a b c => nI (mCnt (pPow hi C L T Gn j) (2 ^ T)) = r ∧ (∀ q, q ≠ 180 → q ≠ 181 → a q = hi q) ∧ hl = b ∧ sv_hr tw dr pm = c)) r a b c) 0 0) 0 0 31 [some (sv_rf G.1 164), some (.int (nI j)), some (.int (mOpen (hi 169 25) (hi 169 0) (fun t => hi 169 (9 + t)) T)), some (.int (nI (mCnt (pPow hi C L T Gn j) s))), some (.int (nI s)), z5] [] svSH h' hl (sv_hr tw dr pm) := by
  obtain ⟨hCc, hLc, hT, hGn, hC2, hC6, hL1, hLC, hT8, hG6, hf, hs, hk⟩ := id hm
  have ht2 := two_le hT8
  refine sv_up (fun s hs2 ih h' i1 z5 => ?_)
  have hm' := hm.keep i1
  have hq : (pPow hi C L T Gn j) s = (decide (nI s &&& ((mOpen (hi 169 25) (hi 169 0) (fun t => hi 169 (9 + t)) T) ^^^ (-1)) = 0) && !(bt (nI s) j) && !(decide (nI (mWinM hi C T Gn (nI s) 0 0 L) = nI (mWinM hi C T Gn (nI s ||| (1 <<< (nI j &&& 31))) 0 0 L)))) := rfl
  refine S_iload_4 (pc := 31) dX8_power_31 ?_
  refine J_iconst (pc := 33) (1) rfl dX8_power_33 ?_
  refine S_aload_0 (pc := 34) dX8_power_34 ?_
  refine fgX8_73 (pc := 35) sh_164 dX8_power_35 ?_
  refine J_ishl (pc := 38) dX8_power_38 ?_
  refine J_icmp_ge (pc := 39) 105 dX8_power_39 (by decide) (fun h39 => ?_) (fun h39 => ?_)
  · rw [i1 164 (by decide) (by decide), hT, nI_shl T hT8, nI_leI (by omega) (by omega)] at h39
    obtain rfl : s = 2 ^ T := by omega
    refine S_iload_3 (pc := 105) dX8_power_105 ?_
    exact J_ireturn (pc := 106) dX8_power_106 rfl rfl ⟨_, rfl, rfl, ⟨rfl, i1, rfl, rfl⟩⟩
  · rw [i1 164 (by decide) (by decide), hT, nI_shl T hT8, nI_leI (by omega) (by omega)] at h39
    refine S_iload_4 (pc := 42) dX8_power_42 ?_
    refine S_iload_2 (pc := 44) dX8_power_44 ?_
    refine J_iconst (pc := 45) (-1) rfl dX8_power_45 ?_
    refine J_ixor (pc := 46) dX8_power_46 ?_
    refine J_iand (pc := 47) dX8_power_47 ?_
    refine J_if_ne (pc := 48) 83 dX8_power_48 (by decide) (fun h48 => ?_) (fun h48 => ?_)
    · refine J_iconst (pc := 83) (0) rfl dX8_power_83 ?_
      refine S_istore_5 (pc := 84) dX8_power_84 (by decide) ?_
      refine S_iload_3 (pc := 86) dX8_power_86 ?_
      refine S_iload_5 (pc := 87) dX8_power_87 ?_
      refine J_if_eq (pc := 89) 96 dX8_power_89 (by decide) (fun h89 => ?_) (fun h89 => absurd h89 (by decide))
      refine J_iconst (pc := 96) (0) rfl dX8_power_96 ?_
      refine J_iadd (pc := 97) dX8_power_97 ?_
      refine S_istore_3 (pc := 98) dX8_power_98 (by decide) ?_
      refine S_inc_4 (pc := 99) (1) rfl dX8_power_99 (by decide) ?_
      refine J_goto (pc := 102) 31 dX8_power_102 (by decide) ?_
      have hv : pPow hi C L T Gn j s = false := by rw [hq, decide_eq_false h48]; rfl
      exact svJ_ls (by rw [mCnt, hv, nI_succ, Int32.add_zero]; rfl) (ih (s + 1) (by omega) (by omega) _ i1 (some (.int 0)))
    · refine S_iload_4 (pc := 51) dX8_power_51 ?_
      refine S_iload_1 (pc := 53) dX8_power_53 ?_
      refine caX8_159 (pc := 54) (t_X8_has_x (l := l) (G := G) j rfl (by omega)) (Nat.le_of_ble_eq_true rfl) ⟨rfl, rfl, ⟨by decide, by decide⟩, by decide, by decide⟩ dX8_power_54 (fun r54 a54 b54 c54 p54 => ?_)
      obtain ⟨rfl, rfl, rfl, rfl⟩ := p54
      refine J_if_ne_b (pc := 57) 83 dX8_power_57 (by decide) (fun h57 => ?_) (fun h57 => ?_)
      · refine J_iconst (pc := 83) (0) rfl dX8_power_83 ?_
        refine S_istore_5 (pc := 84) dX8_power_84 (by decide) ?_
        refine S_iload_3 (pc := 86) dX8_power_86 ?_
        refine S_iload_5 (pc := 87) dX8_power_87 ?_
        refine J_if_eq (pc := 89) 96 dX8_power_89 (by decide) (fun h89 => ?_) (fun h89 => absurd h89 (by decide))
        refine J_iconst (pc := 96) (0) rfl dX8_power_96 ?_
        refine J_iadd (pc := 97) dX8_power_97 ?_
        refine S_istore_3 (pc := 98) dX8_power_98 (by decide) ?_
        refine S_inc_4 (pc := 99) (1) rfl dX8_power_99 (by decide) ?_
        refine J_goto (pc := 102) 31 dX8_power_102 (by decide) ?_
        have hv : pPow hi C L T Gn j s = false := by rw [hq, decide_eq_true h48, h57]; rfl
        exact svJ_ls (by rw [mCnt, hv, nI_succ, Int32.add_zero]; rfl) (ih (s + 1) (by omega) (by omega) _ i1 (some (.int 0)))
      · refine S_aload_0 (pc := 60) dX8_power_60 ?_
        refine S_iload_4 (pc := 61) dX8_power_61 ?_
        refine caX8_201 (pc := 63) (t_X8_winnerBy (l := l) (G := G) hm') sh_164 (Nat.le_of_ble_eq_true rfl) ⟨rfl, rfl, ⟨by decide, by decide⟩, by decide, by decide⟩ dX8_power_63 (fun r63 a63 b63 c63 p63 => ?_)
        obtain ⟨rfl, j1, rfl, rfl⟩ := p63
        have k1 : ∀ q, q ≠ 180 → q ≠ 181 → a63 q = hi q := fun q g1 g2 => (j1 q g1 g2).trans (i1 q g1 g2)
        refine S_aload_0 (pc := 66) dX8_power_66 ?_
        refine S_iload_4 (pc := 67) dX8_power_67 ?_
        refine J_iconst (pc := 69) (1) rfl dX8_power_69 ?_
        refine S_iload_1 (pc := 70) dX8_power_70 ?_
        refine J_ishl (pc := 71) dX8_power_71 ?_
        refine J_ior (pc := 72) dX8_power_72 ?_
        refine caX8_201 (pc := 73) (t_X8_winnerBy (l := l) (G := G) (hm.keep k1)) sh_164 (Nat.le_of_ble_eq_true rfl) ⟨rfl, rfl, ⟨by decide, by decide⟩, by decide, by decide⟩ dX8_power_73 (fun r73 a73 b73 c73 p73 => ?_)
        obtain ⟨rfl, j2, rfl, rfl⟩ := p73
        have k2 : ∀ q, q ≠ 180 → q ≠ 181 → a73 q = hi q := fun q g1 g2 => (j2 q g1 g2).trans (k1 q g1 g2)
        refine J_icmp_eq (pc := 76) 83 dX8_power_76 (by decide) (fun h76 => ?_) (fun h76 => ?_)
        · rw [mWinM_keep i1, mWinM_keep k1] at h76
          refine J_iconst (pc := 83) (0) rfl dX8_power_83 ?_
          refine S_istore_5 (pc := 84) dX8_power_84 (by decide) ?_
          refine S_iload_3 (pc := 86) dX8_power_86 ?_
          refine S_iload_5 (pc := 87) dX8_power_87 ?_
          refine J_if_eq (pc := 89) 96 dX8_power_89 (by decide) (fun h89 => ?_) (fun h89 => absurd h89 (by decide))
          refine J_iconst (pc := 96) (0) rfl dX8_power_96 ?_
          refine J_iadd (pc := 97) dX8_power_97 ?_
          refine S_istore_3 (pc := 98) dX8_power_98 (by decide) ?_
          refine S_inc_4 (pc := 99) (1) rfl dX8_power_99 (by decide) ?_
          refine J_goto (pc := 102) 31 dX8_power_102 (by decide) ?_
          have h57' : bt (nI s) j = false := by simpa using h57
          first
          | (have hv : pPow hi C L T Gn j s = false := by rw [hq, decide_eq_true h48, h57', decide_eq_true h76]; rfl
             exact svJ_ls (by rw [mCnt, hv, nI_succ, Int32.add_zero]; rfl) (ih (s + 1) (by omega) (by omega) _ k2 (some (.int 0))))
          | (have hv : pPow hi C L T Gn j s = true := by rw [hq, decide_eq_true h48, h57', decide_eq_false h76]; rfl
             exact svJ_ls (by rw [mCnt, hv, nI_succ, show (true.toNat) = 1 from rfl, nI_succ]) (ih (s + 1) (by omega) (by omega) _ k2 (some (.int 1))))
        · rw [mWinM_keep i1, mWinM_keep k1] at h76
          refine J_iconst (pc := 79) (1) rfl dX8_power_79 ?_
          refine J_goto (pc := 80) 84 dX8_power_80 (by decide) ?_
          refine S_istore_5 (pc := 84) dX8_power_84 (by decide) ?_
          refine S_iload_3 (pc := 86) dX8_power_86 ?_
          refine S_iload_5 (pc := 87) dX8_power_87 ?_
          refine J_if_eq (pc := 89) 96 dX8_power_89 (by decide) (fun h89 => absurd h89 (by decide)) (fun h89 => ?_)
          refine J_iconst (pc := 92) (1) rfl dX8_power_92 ?_
          refine J_goto (pc := 93) 97 dX8_power_93 (by decide) ?_
          refine J_iadd (pc := 97) dX8_power_97 ?_
          refine S_istore_3 (pc := 98) dX8_power_98 (by decide) ?_
          refine S_inc_4 (pc := 99) (1) rfl dX8_power_99 (by decide) ?_
          refine J_goto (pc := 102) 31 dX8_power_102 (by decide) ?_
          have h57' : bt (nI s) j = false := by simpa using h57
          first
          | (have hv : pPow hi C L T Gn j s = false := by rw [hq, decide_eq_true h48, h57', decide_eq_true h76]; rfl
             exact svJ_ls (by rw [mCnt, hv, nI_succ, Int32.add_zero]; rfl) (ih (s + 1) (by omega) (by omega) _ k2 (some (.int 0))))
          | (have hv : pPow hi C L T Gn j s = true := by rw [hq, decide_eq_true h48, h57', decide_eq_false h76]; rfl
             exact svJ_ls (by rw [mCnt, hv, nI_succ, show (true.toNat) = 1 from rfl, nI_succ]) (ih (s + 1) (by omega) (by omega) _ k2 (some (.int 1))))
set_option maxRecDepth 20000 in
set_option maxHeartbeats 2000000 in
theorem t_X8_power {l : Launch} {G : svG} {hi : svH} {hl : svL} {tw dr : Nat} {pm : Nat → Nat} {C L T Gn : Nat} (hm : mT hi C L T Gn) {x : Int32} : svI l G yX8_power mX8_power rX8_power [sv_rf G.1 164, .int x] hi hl (sv_hr tw dr pm) (fun r a b c => fPow T (mOpen (hi 169 25) (hi 169 0) (fun t => hi 169 (9 + t)) T) (fun j => mCnt (pPow hi C L T Gn j) (2 ^ T)) x = r ∧ (∀ q, q ≠ 180 → q ≠ 181 → a q = hi q) ∧ hl = b ∧ sv_hr tw dr pm = c) := by
  obtain ⟨hCc, hLc, hT, hGn, hC2, hC6, hL1, hLC, hT8, hG6, hf, hs, hk⟩ := id hm
  refine sv_entry (by decide +kernel) rfl rfl (Nat.le_of_ble_eq_true rfl) (by simp [Value.category, sv_rf]) [some (sv_rf G.1 164), some (.int x), none, none, none, none] rfl ?_
  refine S_aload_0 (pc := 0) dX8_power_0 ?_
  refine S_iload_1 (pc := 1) dX8_power_1 ?_
  refine caX8_179 (pc := 2) (t_X8_isTrain_n (l := l) (G := G) hm) sh_164 (Nat.le_of_ble_eq_true rfl) ⟨rfl, rfl, ⟨by decide, by decide⟩, by decide, by decide⟩ dX8_power_2 (fun r2 a2 b2 c2 p2 => ?_)
  obtain ⟨rfl, rfl, rfl, rfl⟩ := p2
  refine J_if_ne_b (pc := 5) 10 dX8_power_5 (by decide) (fun h5 => ?_) (fun h5 => ?_)
  · obtain ⟨j, hj, rfl⟩ := sv_ix h5 (by omega)
    have hcl : (nI j).toNatClampNeg = j := nI_clamp (by omega)
    refine S_aload_0 (pc := 10) dX8_power_10 ?_
    refine caX8_188 (pc := 11) (t_X8_toCome (l := l) (G := G) hm) sh_164 (Nat.le_of_ble_eq_true rfl) ⟨rfl, rfl, ⟨by decide, by decide⟩, by decide, by decide⟩ dX8_power_11 (fun r11 a11 b11 c11 p11 => ?_)
    obtain ⟨rfl, rfl, rfl, rfl⟩ := p11
    refine S_istore_2 (pc := 14) dX8_power_14 (by decide) ?_
    refine S_iload_2 (pc := 15) dX8_power_15 ?_
    refine S_iload_1 (pc := 16) dX8_power_16 ?_
    refine caX8_159 (pc := 17) (t_X8_has_x (l := l) (G := G) j rfl (by omega)) (Nat.le_of_ble_eq_true rfl) ⟨rfl, rfl, ⟨by decide, by decide⟩, by decide, by decide⟩ dX8_power_17 (fun r17 a17 b17 c17 p17 => ?_)
    obtain ⟨rfl, rfl, rfl, rfl⟩ := p17
    refine J_if_ne_b (pc := 20) 26 dX8_power_20 (by decide) (fun h20 => ?_) (fun h20 => ?_)
    · refine J_iconst (pc := 26) (0) rfl dX8_power_26 ?_
      refine S_istore_3 (pc := 27) dX8_power_27 (by decide) ?_
      refine J_iconst (pc := 28) (0) rfl dX8_power_28 ?_
      refine S_istore_4 (pc := 29) dX8_power_29 (by decide) ?_
      have h := lo_X8_power (l := l) (G := G) (hl := hl) (dr := dr) (pm := pm) (tw := tw) hm hj 0 (Nat.zero_le _) hi (fun _ _ _ => rfl) none
      have e : fPow T (mOpen (hi 169 25) (hi 169 0) (fun t => hi 169 (9 + t)) T) (fun j => mCnt (pPow hi C L T Gn j) (2 ^ T)) (nI j) = nI (mCnt (pPow hi C L T Gn j) (2 ^ T)) := by unfold fPow; rw [if_pos h5, hcl, if_pos h20]
      rw [e]
      exact h
    · refine J_bipush (pc := 23) (-2) rfl dX8_power_23 ?_
      exact J_ireturn (pc := 25) dX8_power_25 rfl rfl ⟨_, rfl, rfl, ⟨by unfold fPow; first | exact if_neg h5 | (rw [if_pos h5, hcl, if_neg h20]), fun _ _ _ => rfl, rfl, rfl⟩⟩
  · refine J_iconst (pc := 8) (-1) rfl dX8_power_8 ?_
    exact J_ireturn (pc := 9) dX8_power_9 rfl rfl ⟨_, rfl, rfl, ⟨by unfold fPow; first | exact if_neg h5 | (rw [if_pos h5, hcl, if_neg h20]), fun _ _ _ => rfl, rfl, rfl⟩⟩
set_option maxRecDepth 20000 in
set_option maxHeartbeats 2000000 in
theorem lo_X8_laws {l : Launch} {G : svG} {hi : svH} {hl : svL} {tw dr : Nat} {pm : Nat → Nat} {C L T Gn : Nat} (hm : mT hi C L T Gn) {x : Int32} (h5 : 0 ≤ x ∧ x < nI C) : ∀ t, t ≤ C → ∀ (h' : svH), (∀ q, q ≠ 180 → q ≠ 181 → h' q = hi q) → (∀ k, k < 6 → h' 180 k = mSumM hi T (mOpen (hi 169 25) (hi 169 0) (fun t => hi 169 (9 + t)) T) 0 0 k) → svJ l G rX8_laws mX8_laws (sv_Fm G (fun v sh a b c => ∃ r, v = some (.int r) ∧ sh = svSH ∧ ((fun r a b c => (if 0 ≤ x ∧ x < nI C then mLaws (fun many => decide (nI (mWinM hi C T Gn (mOpen (hi 169 25) (hi 169 0) (fun t => hi 169 (9 + t)) T) 0 0 many) = x)) C else -1) = r ∧ (∀ q, q ≠ 180 → q ≠ 181 → a q = hi q) ∧ hl = b ∧ sv_hr tw dr pm = c)) r a b c) 0 0) 0 0 24 [some (sv_rf G.1 164), some (.int x), some (.int (mLaws (fun many => decide (nI (mWinM hi C T Gn (mOpen (hi 169 25) (hi 169 0) (fun t => hi 169 (9 + t)) T) 0 0 many) = x)) t)), some (.int (nI (t + 1)))] [] svSH h' hl (sv_hr tw dr pm) := by
  obtain ⟨hCc, hLc, hT, hGn, hC2, hC6, hL1, hLC, hT8, hG6, hf, hs, hk⟩ := id hm
  refine sv_up (fun t ht ih h' i1 i2 => ?_)
  have hm' := hm.keep i1
  refine S_iload_3 (pc := 24) dX8_laws_24 ?_
  refine S_aload_0 (pc := 25) dX8_laws_25 ?_
  refine fgX8_7 (pc := 26) sh_164 dX8_laws_26 ?_
  refine J_icmp_gt (pc := 29) 61 dX8_laws_29 (by decide) (fun h29 => ?_) (fun h29 => ?_)
  · rw [i1 164 (by decide) (by decide), hCc, nI_ltI (by omega) (by omega)] at h29
    obtain rfl : t = C := by omega
    refine S_iload_2 (pc := 61) dX8_laws_61 ?_
    exact J_ireturn (pc := 62) dX8_laws_62 rfl rfl ⟨_, rfl, rfl, ⟨if_pos h5, i1, rfl, rfl⟩⟩
  · rw [i1 164 (by decide) (by decide), hCc, nI_ltI (by omega) (by omega)] at h29
    refine S_iload_2 (pc := 32) dX8_laws_32 ?_
    refine S_aload_0 (pc := 33) dX8_laws_33 ?_
    refine S_aload_0 (pc := 34) dX8_laws_34 ?_
    refine S_iload_3 (pc := 35) dX8_laws_35 ?_
    refine caX8_173 (pc := 36) (t_X8_whoIsLeft (l := l) (G := G) hm' (many := t + 1) (by omega)) sh_164 (Nat.le_of_ble_eq_true rfl) ⟨rfl, rfl, ⟨by decide, by decide⟩, by decide, by decide⟩ dX8_laws_36 (fun r36 a36 b36 c36 p36 => ?_)
    obtain ⟨rfl, rfl, rfl, rfl⟩ := p36
    refine caX8_176 (pc := 39) (t_X8_winnerOf (l := l) (G := G) hm' (setOk_left (by omega) hC6 (by omega))) sh_164 (Nat.le_of_ble_eq_true rfl) ⟨rfl, rfl, ⟨by decide, by decide⟩, by decide, by decide⟩ dX8_laws_39 (fun r39 a39 b39 c39 p39 => ?_)
    obtain ⟨rfl, j1, rfl, rfl⟩ := p39
    refine S_iload_1 (pc := 42) dX8_laws_42 ?_
    refine J_icmp_ne (pc := 43) 52 dX8_laws_43 (by decide) (fun h43 => ?_) (fun h43 => ?_)
    · rw [mWinM_eq hC6 i1 i2] at h43
      refine J_iconst (pc := 52) (0) rfl dX8_laws_52 ?_
      refine J_ior (pc := 53) dX8_laws_53 ?_
      refine S_istore_2 (pc := 54) dX8_laws_54 (by decide) ?_
      refine S_inc_3 (pc := 55) (1) rfl dX8_laws_55 (by decide) ?_
      refine J_goto (pc := 58) 24 dX8_laws_58 (by decide) ?_
      first
      | (have hv : (fun many => decide (nI (mWinM hi C T Gn (mOpen (hi 169 25) (hi 169 0) (fun t => hi 169 (9 + t)) T) 0 0 many) = x)) (t + 1) = true := decide_eq_true h43
         exact svJ_ls (by rw [mLaws, if_pos hv, nI_succ (t + 1)]) (ih (t + 1) (by omega) (by omega) _ (fun q g1 g2 => (j1 q g2).trans (i1 q g1 g2)) (fun k hk => by rw [j1 180 (by decide)]; exact i2 k hk)))
      | (have hv : ¬ (fun many => decide (nI (mWinM hi C T Gn (mOpen (hi 169 25) (hi 169 0) (fun t => hi 169 (9 + t)) T) 0 0 many) = x)) (t + 1) = true := fun z => h43 (of_decide_eq_true z)
         exact svJ_ls (by rw [mLaws, if_neg hv, nI_succ (t + 1), Int32.or_zero]) (ih (t + 1) (by omega) (by omega) _ (fun q g1 g2 => (j1 q g2).trans (i1 q g1 g2)) (fun k hk => by rw [j1 180 (by decide)]; exact i2 k hk)))
    · rw [mWinM_eq hC6 i1 i2] at h43
      refine J_iconst (pc := 46) (1) rfl dX8_laws_46 ?_
      refine S_iload_3 (pc := 47) dX8_laws_47 ?_
      refine J_ishl (pc := 48) dX8_laws_48 ?_
      refine J_goto (pc := 49) 53 dX8_laws_49 (by decide) ?_
      refine J_ior (pc := 53) dX8_laws_53 ?_
      refine S_istore_2 (pc := 54) dX8_laws_54 (by decide) ?_
      refine S_inc_3 (pc := 55) (1) rfl dX8_laws_55 (by decide) ?_
      refine J_goto (pc := 58) 24 dX8_laws_58 (by decide) ?_
      first
      | (have hv : (fun many => decide (nI (mWinM hi C T Gn (mOpen (hi 169 25) (hi 169 0) (fun t => hi 169 (9 + t)) T) 0 0 many) = x)) (t + 1) = true := decide_eq_true h43
         exact svJ_ls (by rw [mLaws, if_pos hv, nI_succ (t + 1)]) (ih (t + 1) (by omega) (by omega) _ (fun q g1 g2 => (j1 q g2).trans (i1 q g1 g2)) (fun k hk => by rw [j1 180 (by decide)]; exact i2 k hk)))
      | (have hv : ¬ (fun many => decide (nI (mWinM hi C T Gn (mOpen (hi 169 25) (hi 169 0) (fun t => hi 169 (9 + t)) T) 0 0 many) = x)) (t + 1) = true := fun z => h43 (of_decide_eq_true z)
         exact svJ_ls (by rw [mLaws, if_neg hv, nI_succ (t + 1), Int32.or_zero]) (ih (t + 1) (by omega) (by omega) _ (fun q g1 g2 => (j1 q g2).trans (i1 q g1 g2)) (fun k hk => by rw [j1 180 (by decide)]; exact i2 k hk)))
set_option maxRecDepth 20000 in
set_option maxHeartbeats 2000000 in
theorem t_X8_laws {l : Launch} {G : svG} {hi : svH} {hl : svL} {tw dr : Nat} {pm : Nat → Nat} {C L T Gn : Nat} (hm : mT hi C L T Gn) {x : Int32} : svI l G yX8_laws mX8_laws rX8_laws [sv_rf G.1 164, .int x] hi hl (sv_hr tw dr pm) (fun r a b c => (if 0 ≤ x ∧ x < nI C then mLaws (fun many => decide (nI (mWinM hi C T Gn (mOpen (hi 169 25) (hi 169 0) (fun t => hi 169 (9 + t)) T) 0 0 many) = x)) C else -1) = r ∧ (∀ q, q ≠ 180 → q ≠ 181 → a q = hi q) ∧ hl = b ∧ sv_hr tw dr pm = c) := by
  obtain ⟨hCc, hLc, hT, hGn, hC2, hC6, hL1, hLC, hT8, hG6, hf, hs, hk⟩ := id hm
  refine sv_entry (by decide +kernel) rfl rfl (Nat.le_of_ble_eq_true rfl) (by simp [Value.category, sv_rf]) [some (sv_rf G.1 164), some (.int x), none, none] rfl ?_
  refine S_aload_0 (pc := 0) dX8_laws_0 ?_
  refine S_iload_1 (pc := 1) dX8_laws_1 ?_
  refine caX8_185 (pc := 2) (t_X8_isOne_n (l := l) (G := G) hm) sh_164 (Nat.le_of_ble_eq_true rfl) ⟨rfl, rfl, ⟨by decide, by decide⟩, by decide, by decide⟩ dX8_laws_2 (fun r2 a2 b2 c2 p2 => ?_)
  obtain ⟨rfl, rfl, rfl, rfl⟩ := p2
  refine J_if_ne_b (pc := 5) 10 dX8_laws_5 (by decide) (fun h5 => ?_) (fun h5 => ?_)
  · refine J_iconst (pc := 10) (0) rfl dX8_laws_10 ?_
    refine S_istore_2 (pc := 11) dX8_laws_11 (by decide) ?_
    refine S_aload_0 (pc := 12) dX8_laws_12 ?_
    refine S_aload_0 (pc := 13) dX8_laws_13 ?_
    refine caX8_188 (pc := 14) (t_X8_toCome (l := l) (G := G) hm) sh_164 (Nat.le_of_ble_eq_true rfl) ⟨rfl, rfl, ⟨by decide, by decide⟩, by decide, by decide⟩ dX8_laws_14 (fun r14 a14 b14 c14 p14 => ?_)
    obtain ⟨rfl, rfl, rfl, rfl⟩ := p14
    refine J_iconst (pc := 17) (0) rfl dX8_laws_17 ?_
    refine J_iconst (pc := 18) (0) rfl dX8_laws_18 ?_
    refine caX8_169 (pc := 19) (t_X8_tries (l := l) (G := G) hm hm.to) sh_164 (Nat.le_of_ble_eq_true rfl) ⟨rfl, rfl, ⟨by decide, by decide⟩, by decide, by decide⟩ dX8_laws_19 (fun a19 b19 c19 p19 => ?_)
    obtain ⟨k1, k2, rfl, rfl⟩ := p19
    refine J_iconst (pc := 22) (1) rfl dX8_laws_22 ?_
    refine S_istore_3 (pc := 23) dX8_laws_23 (by decide) ?_
    exact lo_X8_laws hm h5 0 (Nat.zero_le _) _ (fun q g1 _ => k1 q g1) k2
  · refine J_iconst (pc := 8) (-1) rfl dX8_laws_8 ?_
    exact J_ireturn (pc := 9) dX8_laws_9 rfl rfl ⟨_, rfl, rfl, ⟨if_neg h5, fun _ _ _ => rfl, rfl, rfl⟩⟩
theorem ex_X8_lowest {l : Launch} {G : svG} {hi : svH} {hl : svL} {hr : svR} {u0 v0 x : Nat} {what : Int32} {z5 : Option Value} (hx : x < 2 ^ 31) (h0 : 0 < x) (hg : x = Nat.gcd u0 v0) : svJ l G rX8_lowest mX8_lowest (sv_Fm G (fun v sh a b c => ∃ r, v = some (.int r) ∧ sh = svSH ∧ (((if what = 0 then nI u0 else nI v0) / nI (Nat.gcd u0 v0)) = r ∧ hi = a ∧ hl = b ∧ hr = c)) 0 0) 0 0 5 [some (.int (nI u0)), some (.int (nI v0)), some (.int what), some (.int (nI x)), some (.int (nI 0)), z5] [] svSH hi hl hr := by
  subst hg
  refine S_iload_4 (pc := 5) dX8_lowest_5 ?_
  refine J_if_le (pc := 7) 26 dX8_lowest_7 (by decide) (fun h7 => ?_) (fun h7 => ?_)
  · refine S_iload_2 (pc := 26) dX8_lowest_26 ?_
    refine J_if_ne (pc := 27) 34 dX8_lowest_27 (by decide) (fun h27 => ?_) (fun h27 => ?_)
    · refine S_iload_1 (pc := 34) dX8_lowest_34 ?_
      refine S_iload_3 (pc := 35) dX8_lowest_35 ?_
      refine J_idiv (pc := 36) (nI_ne0 h0 hx) dX8_lowest_36 ?_
      exact J_ireturn (pc := 37) dX8_lowest_37 rfl rfl ⟨_, rfl, rfl, ⟨by first | rw [if_pos h27] | rw [if_neg h27], rfl, rfl, rfl⟩⟩
    · refine S_iload_0 (pc := 30) dX8_lowest_30 ?_
      refine J_goto (pc := 31) 35 dX8_lowest_31 (by decide) ?_
      refine S_iload_3 (pc := 35) dX8_lowest_35 ?_
      refine J_idiv (pc := 36) (nI_ne0 h0 hx) dX8_lowest_36 ?_
      exact J_ireturn (pc := 37) dX8_lowest_37 rfl rfl ⟨_, rfl, rfl, ⟨by first | rw [if_pos h27] | rw [if_neg h27], rfl, rfl, rfl⟩⟩
  · exact absurd (by decide) h7
theorem st_X8_lowest {l : Launch} {G : svG} {hi : svH} {hl : svL} {hr : svR} {u0 v0 x y : Nat} {what : Int32} {z5 : Option Value} (hx : x < 2 ^ 31) (hy : y < 2 ^ 31) (h0 : 0 < y) (hnext : svJ l G rX8_lowest mX8_lowest (sv_Fm G (fun v sh a b c => ∃ r, v = some (.int r) ∧ sh = svSH ∧ (((if what = 0 then nI u0 else nI v0) / nI (Nat.gcd u0 v0)) = r ∧ hi = a ∧ hl = b ∧ hr = c)) 0 0) 0 0 5 [some (.int (nI u0)), some (.int (nI v0)), some (.int what), some (.int (nI y)), some (.int (nI (x % y))), some (.int (nI (x % y)))] [] svSH hi hl hr) : svJ l G rX8_lowest mX8_lowest (sv_Fm G (fun v sh a b c => ∃ r, v = some (.int r) ∧ sh = svSH ∧ (((if what = 0 then nI u0 else nI v0) / nI (Nat.gcd u0 v0)) = r ∧ hi = a ∧ hl = b ∧ hr = c)) 0 0) 0 0 5 [some (.int (nI u0)), some (.int (nI v0)), some (.int what), some (.int (nI x)), some (.int (nI y)), z5] [] svSH hi hl hr := by
  refine S_iload_4 (pc := 5) dX8_lowest_5 ?_
  refine J_if_le (pc := 7) 26 dX8_lowest_7 (by decide) (fun h7 => ?_) (fun h7 => ?_)
  · exact absurd h7 (nI_nle h0 hy)
  · refine S_iload_3 (pc := 10) dX8_lowest_10 ?_
    refine S_iload_4 (pc := 11) dX8_lowest_11 ?_
    refine J_irem (pc := 13) (nI_ne0 h0 hy) dX8_lowest_13 ?_
    refine S_istore_5 (pc := 14) dX8_lowest_14 (by decide) ?_
    refine S_iload_4 (pc := 16) dX8_lowest_16 ?_
    refine S_istore_3 (pc := 18) dX8_lowest_18 (by decide) ?_
    refine S_iload_5 (pc := 19) dX8_lowest_19 ?_
    refine S_istore_4 (pc := 21) dX8_lowest_21 (by decide) ?_
    refine J_goto (pc := 23) 5 dX8_lowest_23 (by decide) ?_
    exact svJ_ls (by rw [pk_rem hx h0 hy]) hnext
theorem lo_X8_lowest {l : Launch} {G : svG} {hi : svH} {hl : svL} {hr : svR} {u0 v0 : Nat} {what : Int32} : ∀ (m y : Nat), y ≤ m → ∀ (x : Nat) (z5 : Option Value), x < 2 ^ 31 → y < 2 ^ 31 → 0 < Nat.gcd u0 v0 → Nat.gcd x y = Nat.gcd u0 v0 → svJ l G rX8_lowest mX8_lowest (sv_Fm G (fun v sh a b c => ∃ r, v = some (.int r) ∧ sh = svSH ∧ (((if what = 0 then nI u0 else nI v0) / nI (Nat.gcd u0 v0)) = r ∧ hi = a ∧ hl = b ∧ hr = c)) 0 0) 0 0 5 [some (.int (nI u0)), some (.int (nI v0)), some (.int what), some (.int (nI x)), some (.int (nI y)), z5] [] svSH hi hl hr := by
  intro m
  induction m with
  | zero =>
    intro y hy x z5 h1 h2 h3 hg
    obtain rfl : y = 0 := by omega
    rw [Nat.gcd_zero_right] at hg
    exact ex_X8_lowest h1 (by omega) hg
  | succ m ih =>
    intro y hy x z5 h1 h2 h3 hg
    by_cases h0 : y = 0
    · subst h0
      rw [Nat.gcd_zero_right] at hg
      exact ex_X8_lowest h1 (by omega) hg
    · have hp : 0 < y := by omega
      have := Nat.mod_lt x hp
      exact st_X8_lowest h1 h2 hp (ih _ (by omega) _ _ h2 (by omega) h3 (by rw [← hg, Nat.gcd_comm y, ← Nat.gcd_rec, Nat.gcd_comm]))
set_option maxRecDepth 20000 in
set_option maxHeartbeats 2000000 in
theorem t_X8_lowest {l : Launch} {G : svG} {hi : svH} {hl : svL} {hr : svR} {u0 v0 : Nat} {what : Int32} (hu : u0 < 2 ^ 31) (hv : v0 < 2 ^ 31) (hg : 0 < Nat.gcd u0 v0) : svIp l G yX8_lowest mX8_lowest rX8_lowest [.int (nI u0), .int (nI v0), .int what] hi hl hr ((if what = 0 then nI u0 else nI v0) / nI (Nat.gcd u0 v0)) := by
  refine sv_entry (by decide +kernel) rfl rfl (Nat.le_of_ble_eq_true rfl) (by simp [Value.category, sv_rf]) [some (.int (nI u0)), some (.int (nI v0)), some (.int what), none, none, none] rfl ?_
  refine S_iload_0 (pc := 0) dX8_lowest_0 ?_
  refine S_istore_3 (pc := 1) dX8_lowest_1 (by decide) ?_
  refine S_iload_1 (pc := 2) dX8_lowest_2 ?_
  refine S_istore_4 (pc := 3) dX8_lowest_3 (by decide) ?_
  
  exact lo_X8_lowest v0 v0 (Nat.le_refl _) u0 none hu hv hg rfl
