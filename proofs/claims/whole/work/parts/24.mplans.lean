theorem mWinM_keep {hi a : svH} (hq : ∀ q, q ≠ 180 → q ≠ 181 → a q = hi q) (C T Gn : Nat) (stops canv by' : Int32) (many : Nat) : mWinM a C T Gn stops canv by' many = mWinM hi C T Gn stops canv by' many := by
  unfold mWinM mSumM
  rw [hq 165 (by decide) (by decide), hq 166 (by decide) (by decide), hq 167 (by decide) (by decide), hq 168 (by decide) (by decide), hq 169 (by decide) (by decide)]
theorem mWinM_eq {hi a : svH} {C L T Gn : Nat} {stops canv by' : Int32} (hC6 : C ≤ 6) (i1 : ∀ q, q ≠ 180 → q ≠ 181 → a q = hi q) (i2 : ∀ k, k < 6 → a 180 k = mSumM hi T stops canv by' k) : (mBest (fun i => bt (mLeft C (a 180) L) i) (mBack (a 166) (a 167) (a 168) (a 169 26) (mLeft C (a 180) L) Gn) C).getD 0 = mWinM hi C T Gn stops canv by' L := by
  unfold mWinM mWin
  rw [mLeft_congr (g := mSumM hi T stops canv by') (fun k hk => i2 k (by omega)) L, i1 166 (by decide) (by decide), i1 167 (by decide) (by decide), i1 168 (by decide) (by decide), i1 169 (by decide) (by decide)]
theorem nI_shl : ∀ T, T ≤ 8 → 1 <<< (nI T &&& 31) = nI (2 ^ T) := by decide +kernel
theorem two_le {T : Nat} (h : T ≤ 8) : 2 ^ T ≤ 256 := Nat.le_trans (Nat.pow_le_pow_right (by decide) h) (by decide)
/-- less of the sets: fewer bits than the one found -/
def less (w : Nat → Nat) (s : Nat) (o : Option Nat) : Bool := match o with
  | none => true
  | some b => decide (w s < w b)
def mPl (p : Nat → Bool) (w : Nat → Nat) : Nat → Option Nat
  | 0 => none
  | s + 1 => if p s = true ∧ less w s (mPl p w s) = true then some s else mPl p w s
theorem mPl_lt {p : Nat → Bool} {w : Nat → Nat} : ∀ {n b : Nat}, mPl p w n = some b → b < n := by
  intro n
  induction n with
  | zero => intro b h; cases h
  | succ n ih =>
    intro b h
    rw [mPl] at h
    split at h
    · cases h; omega
    · have := ih h; omega
def bcw (s : Nat) : Nat := mCnt (bt (nI s)) 8
theorem mCnt_le (p : Nat → Bool) : ∀ n, mCnt p n ≤ n
  | 0 => Nat.le_refl _
  | n + 1 => by rw [mCnt]; have := mCnt_le p n; have : (p n).toNat ≤ 1 := by cases p n <;> decide
                omega
set_option maxRecDepth 20000 in
set_option maxHeartbeats 2000000 in
theorem t_X8_isLess {l : Launch} {G : svG} {hi : svH} {hl : svL} {hr : svR} {s : Nat} {o : Option Nat} (hs : s < 256) (ho : ∀ b, o = some b → b ≤ s) : svIp l G yX8_isLess mX8_isLess rX8_isLess [.int (nI s), .int (mI9 o)] hi hl hr (sv_b (less bcw s o = true)) := by
  cases o with
  | none =>
    refine sv_entry (by decide +kernel) rfl rfl (Nat.le_of_ble_eq_true rfl) (by simp [Value.category, sv_rf]) [some (.int (nI s)), some (.int (mI9 none))] rfl ?_
    refine S_iload_1 (pc := 0) dX8_isLess_0 ?_
    refine J_if_lt (pc := 1) 31 dX8_isLess_1 (by decide) (fun h1 => ?_) (fun h1 => ?_)
    · refine J_iconst (pc := 31) (1) rfl dX8_isLess_31 ?_
      refine J_goto (pc := 32) 36 dX8_isLess_32 (by decide) ?_
      exact J_ireturn (pc := 36) dX8_isLess_36 rfl rfl ⟨_, rfl, rfl, ⟨rfl, rfl, rfl, rfl⟩⟩
    · exact absurd (by decide) h1
  | some b =>
    have hb := ho b rfl
    have w1 : mCnt (bt (nI s)) 8 ≤ 8 := mCnt_le _ _
    have w2 : mCnt (bt (nI b)) 8 ≤ 8 := mCnt_le _ _
    refine sv_entry (by decide +kernel) rfl rfl (Nat.le_of_ble_eq_true rfl) (by simp [Value.category, sv_rf]) [some (.int (nI s)), some (.int (mI9 (some b)))] rfl ?_
    refine S_iload_1 (pc := 0) dX8_isLess_0 ?_
    refine J_if_lt (pc := 1) 31 dX8_isLess_1 (by decide) (fun h1 => ?_) (fun h1 => ?_)
    · exact absurd h1 (nI_pos (by omega))
    · refine S_iload_0 (pc := 4) dX8_isLess_4 ?_
      refine caX8_195 (pc := 5) (t_X8_bits (l := l) (G := G)) (Nat.le_of_ble_eq_true rfl) ⟨rfl, rfl, ⟨by decide, by decide⟩, by decide, by decide⟩ dX8_isLess_5 (fun r5 a5 b5 c5 p5 => ?_)
      obtain ⟨rfl, rfl, rfl, rfl⟩ := p5
      refine S_iload_1 (pc := 8) dX8_isLess_8 ?_
      refine caX8_195 (pc := 9) (t_X8_bits (l := l) (G := G)) (Nat.le_of_ble_eq_true rfl) ⟨rfl, rfl, ⟨by decide, by decide⟩, by decide, by decide⟩ dX8_isLess_9 (fun r9 a9 b9 c9 p9 => ?_)
      obtain ⟨rfl, rfl, rfl, rfl⟩ := p9
      refine J_icmp_lt (pc := 12) 31 dX8_isLess_12 (by decide) (fun h12 => ?_) (fun h12 => ?_)
      · rw [nI_ltI (by omega) (by omega)] at h12
        refine J_iconst (pc := 31) (1) rfl dX8_isLess_31 ?_
        refine J_goto (pc := 32) 36 dX8_isLess_32 (by decide) ?_
        exact J_ireturn (pc := 36) dX8_isLess_36 rfl rfl ⟨_, rfl, rfl, ⟨by first | exact sv_b_t (by unfold less bcw; exact decide_eq_true h12) | exact sv_b_f (by unfold less bcw; rw [decide_eq_true_eq]; exact h12), rfl, rfl, rfl⟩⟩
      · rw [nI_ltI (by omega) (by omega)] at h12
        refine S_iload_0 (pc := 15) dX8_isLess_15 ?_
        refine caX8_195 (pc := 16) (t_X8_bits (l := l) (G := G)) (Nat.le_of_ble_eq_true rfl) ⟨rfl, rfl, ⟨by decide, by decide⟩, by decide, by decide⟩ dX8_isLess_16 (fun r16 a16 b16 c16 p16 => ?_)
        obtain ⟨rfl, rfl, rfl, rfl⟩ := p16
        refine S_iload_1 (pc := 19) dX8_isLess_19 ?_
        refine caX8_195 (pc := 20) (t_X8_bits (l := l) (G := G)) (Nat.le_of_ble_eq_true rfl) ⟨rfl, rfl, ⟨by decide, by decide⟩, by decide, by decide⟩ dX8_isLess_20 (fun r20 a20 b20 c20 p20 => ?_)
        obtain ⟨rfl, rfl, rfl, rfl⟩ := p20
        refine J_icmp_ne (pc := 23) 35 dX8_isLess_23 (by decide) (fun h23 => ?_) (fun h23 => ?_)
        · refine J_iconst (pc := 35) (0) rfl dX8_isLess_35 ?_
          exact J_ireturn (pc := 36) dX8_isLess_36 rfl rfl ⟨_, rfl, rfl, ⟨by first | exact sv_b_t (by unfold less bcw; exact decide_eq_true h12) | exact sv_b_f (by unfold less bcw; rw [decide_eq_true_eq]; exact h12), rfl, rfl, rfl⟩⟩
        · refine S_iload_0 (pc := 26) dX8_isLess_26 ?_
          refine S_iload_1 (pc := 27) dX8_isLess_27 ?_
          refine J_icmp_ge (pc := 28) 35 dX8_isLess_28 (by decide) (fun h28 => ?_) (fun h28 => ?_)
          · refine J_iconst (pc := 35) (0) rfl dX8_isLess_35 ?_
            exact J_ireturn (pc := 36) dX8_isLess_36 rfl rfl ⟨_, rfl, rfl, ⟨by first | exact sv_b_t (by unfold less bcw; exact decide_eq_true h12) | exact sv_b_f (by unfold less bcw; rw [decide_eq_true_eq]; exact h12), rfl, rfl, rfl⟩⟩
          · exact absurd (nI_le hb (by omega)) h28
set_option maxRecDepth 20000 in
set_option maxHeartbeats 2000000 in
theorem lo_X8_plan {l : Launch} {G : svG} {hi : svH} {hl : svL} {tw dr : Nat} {pm : Nat → Nat} {C L T Gn : Nat} (hm : mT hi C L T Gn) {x z : Int32} (hbad : (0 ≤ x ∧ x < nI C) ∧ 0 ≤ z ∧ z < nI C) : ∀ s, s ≤ 2 ^ T → ∀ (h' : svH), (∀ q, q ≠ 180 → q ≠ 181 → h' q = hi q) → svJ l G rX8_plan mX8_plan (sv_Fm G (fun v sh a b c => ∃ r, v = some (.int r) ∧ sh = svSH ∧ ((fun r a b c => (if (0 ≤ x ∧ x < nI C) ∧ 0 ≤ z ∧ z < nI C then mI9 (mPl (fun s => xOk (mOpen (hi 169 25) (hi 169 0) (fun t => hi 169 (9 + t)) T) s && decide (nI (bcw s) ≤ hi 169 1) && decide (nI (mWinM hi C T Gn (mOpen (hi 169 25) (hi 169 0) (fun t => hi 169 (9 + t)) T) (nI s) z L) = x)) bcw (2 ^ T)) else -1) = r ∧ (∀ q, q ≠ 180 → q ≠ 181 → a q = hi q) ∧ hl = b ∧ sv_hr tw dr pm = c)) r a b c) 0 0) 0 0 30 [some (sv_rf G.1 164), some (.int x), some (.int z), some (.int (mOpen (hi 169 25) (hi 169 0) (fun t => hi 169 (9 + t)) T)), some (.int (mI9 (mPl (fun s => xOk (mOpen (hi 169 25) (hi 169 0) (fun t => hi 169 (9 + t)) T) s && decide (nI (bcw s) ≤ hi 169 1) && decide (nI (mWinM hi C T Gn (mOpen (hi 169 25) (hi 169 0) (fun t => hi 169 (9 + t)) T) (nI s) z L) = x)) bcw s))), some (.int (nI s))] [] svSH h' hl (sv_hr tw dr pm) := by
  obtain ⟨hCc, hLc, hT, hGn, hC2, hC6, hL1, hLC, hT8, hG6, hf, hs, hk⟩ := id hm
  obtain ⟨jz, hjz, ez⟩ := sv_ix hbad.2 (by omega)
  have ht2 := two_le hT8
  refine sv_up (fun s hs2 ih h' i1 => ?_)
  have hm' := hm.keep i1
  have w1 : mCnt (bt (nI s)) 8 ≤ 8 := mCnt_le _ _
  refine S_iload_5 (pc := 30) dX8_plan_30 ?_
  refine J_iconst (pc := 32) (1) rfl dX8_plan_32 ?_
  refine S_aload_0 (pc := 33) dX8_plan_33 ?_
  refine fgX8_73 (pc := 34) sh_164 dX8_plan_34 ?_
  refine J_ishl (pc := 37) dX8_plan_37 ?_
  refine J_icmp_ge (pc := 38) 113 dX8_plan_38 (by decide) (fun h38 => ?_) (fun h38 => ?_)
  · rw [i1 164 (by decide) (by decide), hT, nI_shl T hT8, nI_leI (by omega) (by omega)] at h38
    obtain rfl : s = 2 ^ T := by omega
    refine S_iload_4 (pc := 113) dX8_plan_113 ?_
    exact J_ireturn (pc := 115) dX8_plan_115 rfl rfl ⟨_, rfl, rfl, ⟨if_pos hbad, i1, rfl, rfl⟩⟩
  · rw [i1 164 (by decide) (by decide), hT, nI_shl T hT8, nI_leI (by omega) (by omega)] at h38
    refine S_iload_5 (pc := 41) dX8_plan_41 ?_
    refine S_iload_3 (pc := 43) dX8_plan_43 ?_
    refine J_iconst (pc := 44) (-1) rfl dX8_plan_44 ?_
    refine J_ixor (pc := 45) dX8_plan_45 ?_
    refine J_iand (pc := 46) dX8_plan_46 ?_
    refine J_if_ne (pc := 47) 107 dX8_plan_47 (by decide) (fun h47 => ?_) (fun h47 => ?_)
    · refine S_inc_5 (pc := 107) (1) rfl dX8_plan_107 (by decide) ?_
      refine J_goto (pc := 110) 30 dX8_plan_110 (by decide) ?_
      exact svJ_ls (by rw [mPl, if_neg (fun q => by have := q.1; rw [Bool.and_eq_true, Bool.and_eq_true] at this; exact h47 (of_decide_eq_true this.1.1)), nI_succ]) (ih (s + 1) (by omega) (by omega) _ (fun q g1 g2 => i1 q g1 g2))
    · refine S_iload_5 (pc := 50) dX8_plan_50 ?_
      refine caX8_195 (pc := 52) (t_X8_bits (l := l) (G := G)) (Nat.le_of_ble_eq_true rfl) ⟨rfl, rfl, ⟨by decide, by decide⟩, by decide, by decide⟩ dX8_plan_52 (fun r52 a52 b52 c52 p52 => ?_)
      obtain ⟨rfl, rfl, rfl, rfl⟩ := p52
      refine S_aload_0 (pc := 55) dX8_plan_55 ?_
      refine fgX8_29 (pc := 56) sh_164 hv_164_8 dX8_plan_56 ?_
      refine J_iconst (pc := 59) (1) rfl dX8_plan_59 ?_
      refine J_iald_n (pc := 60) 1 sh_169 rfl (by decide) (by decide) dX8_plan_60 ?_
      refine J_icmp_gt (pc := 61) 107 dX8_plan_61 (by decide) (fun h61 => ?_) (fun h61 => ?_)
      · rw [i1 169 (by decide) (by decide)] at h61
        refine S_inc_5 (pc := 107) (1) rfl dX8_plan_107 (by decide) ?_
        refine J_goto (pc := 110) 30 dX8_plan_110 (by decide) ?_
        exact svJ_ls (by rw [mPl, if_neg (fun q => by have := q.1; rw [Bool.and_eq_true, Bool.and_eq_true] at this; exact h61 (of_decide_eq_true this.1.2)), nI_succ]) (ih (s + 1) (by omega) (by omega) _ (fun q g1 g2 => i1 q g1 g2))
      · rw [i1 169 (by decide) (by decide)] at h61
        have h61 := Int32.not_lt.mp h61
        refine S_iload_5 (pc := 64) dX8_plan_64 ?_
        refine S_iload_4 (pc := 66) dX8_plan_66 ?_
        refine caX8_204 (pc := 68) (t_X8_isLess (l := l) (G := G) (by omega) (fun b hb => by have := mPl_lt hb; omega)) (Nat.le_of_ble_eq_true rfl) ⟨rfl, rfl, ⟨by decide, by decide⟩, by decide, by decide⟩ dX8_plan_68 (fun r68 a68 b68 c68 p68 => ?_)
        obtain ⟨rfl, rfl, rfl, rfl⟩ := p68
        refine J_if_eq_b (pc := 71) 107 dX8_plan_71 (by decide) (fun h71 => ?_) (fun h71 => ?_)
        · refine S_inc_5 (pc := 107) (1) rfl dX8_plan_107 (by decide) ?_
          refine J_goto (pc := 110) 30 dX8_plan_110 (by decide) ?_
          exact svJ_ls (by rw [mPl, if_neg (fun q => h71 q.2), nI_succ]) (ih (s + 1) (by omega) (by omega) _ (fun q g1 g2 => i1 q g1 g2))
        · refine S_aload_0 (pc := 74) dX8_plan_74 ?_
          refine S_iload_3 (pc := 75) dX8_plan_75 ?_
          refine S_iload_5 (pc := 76) dX8_plan_76 ?_
          refine S_iload_2 (pc := 78) dX8_plan_78 ?_
          refine caX8_169 (pc := 79) (t_X8_tries (l := l) (G := G) hm' (by rw [i1 169 (by decide) (by decide)]; exact hm.to2 ez hjz)) sh_164 (Nat.le_of_ble_eq_true rfl) ⟨rfl, rfl, ⟨by decide, by decide⟩, by decide, by decide⟩ dX8_plan_79 (fun a79 b79 c79 p79 => ?_)
          obtain ⟨k1, k2, rfl, rfl⟩ := p79
          have k3 : ∀ q, q ≠ 180 → q ≠ 181 → a79 q = hi q := fun q g1 g2 => (k1 q g1).trans (i1 q g1 g2)
          have hm2 : mT a79 C L T Gn := hm.keep k3
          have eL : a79 164 1 = nI L := hm2.2.1
          have k4 : ∀ k, k < 6 → a79 180 k = mSumM hi T (mOpen (hi 169 25) (hi 169 0) (fun t => hi 169 (9 + t)) T) (nI s) z k := fun k hk => by rw [k2 k hk, i1 169 (by decide) (by decide), i1 165 (by decide) (by decide)]; rfl
          refine S_aload_0 (pc := 82) dX8_plan_82 ?_
          refine S_aload_0 (pc := 83) dX8_plan_83 ?_
          refine S_aload_0 (pc := 84) dX8_plan_84 ?_
          refine fgX8_13 (pc := 85) sh_164 dX8_plan_85 ?_
          refine caX8_173 (pc := 88) (by rw [eL]; exact t_X8_whoIsLeft (l := l) (G := G) hm2 hLC) sh_164 (Nat.le_of_ble_eq_true rfl) ⟨rfl, rfl, ⟨by decide, by decide⟩, by decide, by decide⟩ dX8_plan_88 (fun r88 a88 b88 c88 p88 => ?_)
          obtain ⟨rfl, rfl, rfl, rfl⟩ := p88
          refine caX8_176 (pc := 91) (t_X8_winnerOf (l := l) (G := G) hm2 (setOk_left (by omega) hC6 (by omega))) sh_164 (Nat.le_of_ble_eq_true rfl) ⟨rfl, rfl, ⟨by decide, by decide⟩, by decide, by decide⟩ dX8_plan_91 (fun r91 a91 b91 c91 p91 => ?_)
          obtain ⟨rfl, j1, rfl, rfl⟩ := p91
          refine S_iload_1 (pc := 94) dX8_plan_94 ?_
          refine J_icmp_ne (pc := 95) 103 dX8_plan_95 (by decide) (fun h95 => ?_) (fun h95 => ?_)
          · rw [mWinM_eq hC6 k3 k4] at h95
            refine S_iload_4 (pc := 103) dX8_plan_103 ?_
            refine S_istore_4 (pc := 105) dX8_plan_105 (by decide) ?_
            refine S_inc_5 (pc := 107) (1) rfl dX8_plan_107 (by decide) ?_
            refine J_goto (pc := 110) 30 dX8_plan_110 (by decide) ?_
            first
            | exact svJ_ls (by rw [mPl, if_neg (fun q => by have := q.1; rw [Bool.and_eq_true, Bool.and_eq_true] at this; exact h95 (of_decide_eq_true this.2)), nI_succ]) (ih (s + 1) (by omega) (by omega) _ (fun q g1 g2 => (j1 q g2).trans ((k1 q g1).trans (i1 q g1 g2))))
            | exact svJ_ls (by rw [mPl, if_pos ⟨by rw [Bool.and_eq_true, Bool.and_eq_true]; exact ⟨⟨decide_eq_true h47, decide_eq_true h61⟩, decide_eq_true h95⟩, h71⟩, nI_succ]; rfl) (ih (s + 1) (by omega) (by omega) _ (fun q g1 g2 => (j1 q g2).trans ((k1 q g1).trans (i1 q g1 g2))))
          · rw [mWinM_eq hC6 k3 k4] at h95
            refine S_iload_5 (pc := 98) dX8_plan_98 ?_
            refine J_goto (pc := 100) 105 dX8_plan_100 (by decide) ?_
            refine S_istore_4 (pc := 105) dX8_plan_105 (by decide) ?_
            refine S_inc_5 (pc := 107) (1) rfl dX8_plan_107 (by decide) ?_
            refine J_goto (pc := 110) 30 dX8_plan_110 (by decide) ?_
            first
            | exact svJ_ls (by rw [mPl, if_neg (fun q => by have := q.1; rw [Bool.and_eq_true, Bool.and_eq_true] at this; exact h95 (of_decide_eq_true this.2)), nI_succ]) (ih (s + 1) (by omega) (by omega) _ (fun q g1 g2 => (j1 q g2).trans ((k1 q g1).trans (i1 q g1 g2))))
            | exact svJ_ls (by rw [mPl, if_pos ⟨by rw [Bool.and_eq_true, Bool.and_eq_true]; exact ⟨⟨decide_eq_true h47, decide_eq_true h61⟩, decide_eq_true h95⟩, h71⟩, nI_succ]; rfl) (ih (s + 1) (by omega) (by omega) _ (fun q g1 g2 => (j1 q g2).trans ((k1 q g1).trans (i1 q g1 g2))))
set_option maxRecDepth 20000 in
set_option maxHeartbeats 2000000 in
theorem t_X8_plan {l : Launch} {G : svG} {hi : svH} {hl : svL} {tw dr : Nat} {pm : Nat → Nat} {C L T Gn : Nat} (hm : mT hi C L T Gn) {x z : Int32} : svI l G yX8_plan mX8_plan rX8_plan [sv_rf G.1 164, .int x, .int z] hi hl (sv_hr tw dr pm) (fun r a b c => (if (0 ≤ x ∧ x < nI C) ∧ 0 ≤ z ∧ z < nI C then mI9 (mPl (fun s => xOk (mOpen (hi 169 25) (hi 169 0) (fun t => hi 169 (9 + t)) T) s && decide (nI (bcw s) ≤ hi 169 1) && decide (nI (mWinM hi C T Gn (mOpen (hi 169 25) (hi 169 0) (fun t => hi 169 (9 + t)) T) (nI s) z L) = x)) bcw (2 ^ T)) else -1) = r ∧ (∀ q, q ≠ 180 → q ≠ 181 → a q = hi q) ∧ hl = b ∧ sv_hr tw dr pm = c) := by
  obtain ⟨hCc, hLc, hT, hGn, hC2, hC6, hL1, hLC, hT8, hG6, hf, hs, hk⟩ := id hm
  refine sv_entry (by decide +kernel) rfl rfl (Nat.le_of_ble_eq_true rfl) (by simp [Value.category, sv_rf]) [some (sv_rf G.1 164), some (.int x), some (.int z), none, none, none] rfl ?_
  refine S_aload_0 (pc := 0) dX8_plan_0 ?_
  refine S_iload_1 (pc := 1) dX8_plan_1 ?_
  refine caX8_185 (pc := 2) (t_X8_isOne_n (l := l) (G := G) hm) sh_164 (Nat.le_of_ble_eq_true rfl) ⟨rfl, rfl, ⟨by decide, by decide⟩, by decide, by decide⟩ dX8_plan_2 (fun r2 a2 b2 c2 p2 => ?_)
  obtain ⟨rfl, rfl, rfl, rfl⟩ := p2
  refine J_if_eq_b (pc := 5) 16 dX8_plan_5 (by decide) (fun h5 => ?_) (fun h5 => ?_)
  · refine J_iconst (pc := 16) (-1) rfl dX8_plan_16 ?_
    exact J_ireturn (pc := 17) dX8_plan_17 rfl rfl ⟨_, rfl, rfl, ⟨by first | exact if_neg (fun q => h5 q.1) | exact if_neg (fun q => h13 q.2), fun _ _ _ => rfl, rfl, rfl⟩⟩
  · refine S_aload_0 (pc := 8) dX8_plan_8 ?_
    refine S_iload_2 (pc := 9) dX8_plan_9 ?_
    refine caX8_185 (pc := 10) (t_X8_isOne_n (l := l) (G := G) hm) sh_164 (Nat.le_of_ble_eq_true rfl) ⟨rfl, rfl, ⟨by decide, by decide⟩, by decide, by decide⟩ dX8_plan_10 (fun r10 a10 b10 c10 p10 => ?_)
    obtain ⟨rfl, rfl, rfl, rfl⟩ := p10
    refine J_if_ne_b (pc := 13) 18 dX8_plan_13 (by decide) (fun h13 => ?_) (fun h13 => ?_)
    · refine S_aload_0 (pc := 18) dX8_plan_18 ?_
      refine caX8_188 (pc := 19) (t_X8_toCome (l := l) (G := G) hm) sh_164 (Nat.le_of_ble_eq_true rfl) ⟨rfl, rfl, ⟨by decide, by decide⟩, by decide, by decide⟩ dX8_plan_19 (fun r19 a19 b19 c19 p19 => ?_)
      obtain ⟨rfl, rfl, rfl, rfl⟩ := p19
      refine S_istore_3 (pc := 22) dX8_plan_22 (by decide) ?_
      refine J_bipush (pc := 23) (-9) rfl dX8_plan_23 ?_
      refine S_istore_4 (pc := 25) dX8_plan_25 (by decide) ?_
      refine J_iconst (pc := 27) (0) rfl dX8_plan_27 ?_
      refine S_istore_5 (pc := 28) dX8_plan_28 (by decide) ?_
      exact lo_X8_plan hm ⟨h5, h13⟩ 0 (Nat.zero_le _) hi (fun _ _ _ => rfl)
    · refine J_iconst (pc := 16) (-1) rfl dX8_plan_16 ?_
      exact J_ireturn (pc := 17) dX8_plan_17 rfl rfl ⟨_, rfl, rfl, ⟨by first | exact if_neg (fun q => h5 q.1) | exact if_neg (fun q => h13 q.2), fun _ _ _ => rfl, rfl, rfl⟩⟩
