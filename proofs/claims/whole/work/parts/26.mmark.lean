theorem mCnt_f' {p : Nat → Bool} {n : Nat} (h : p n = false) : mCnt p (n + 1) = mCnt p n := by rw [mCnt, h]; rfl
set_option maxRecDepth 20000 in
set_option maxHeartbeats 2000000 in
theorem lo_X8_likedBy {l : Launch} {G : svG} {hi : svH} {hl : svL} {tw dr : Nat} {pm : Nat → Nat} {C L T Gn : Nat} (hm : mT hi C L T Gn) {x : Int32} : ∀ t, t ≤ T → svJ l G rX8_likedBy mX8_likedBy (sv_Fm G (fun v sh a b c => ∃ r, v = some (.int r) ∧ sh = svSH ∧ ((nI (mCnt (fun t => !(bt (hi 169 25) t) && decide (hi 169 (17 + t) = x)) T)) = r ∧ hi = a ∧ hl = b ∧ (sv_hr tw dr pm) = c)) 0 0) 0 0 4 [some (sv_rf G.1 164), some (.int x), some (.int (nI (mCnt (fun t => !(bt (hi 169 25) t) && decide (hi 169 (17 + t) = x)) t))), some (.int (nI t))] [] svSH hi hl (sv_hr tw dr pm) := by
  obtain ⟨hCc, hLc, hT, hGn, hC2, hC6, hL1, hLC, hT8, hG6, hf, hs, hk⟩ := id hm
  refine sv_up (fun t ht ih => ?_)
  refine S_iload_3 (pc := 4) dX8_likedBy_4 ?_
  refine S_aload_0 (pc := 5) dX8_likedBy_5 ?_
  refine fgX8_73 (pc := 6) sh_164 dX8_likedBy_6 ?_
  refine J_icmp_ge (pc := 9) 47 dX8_likedBy_9 (by decide) (fun h9 => ?_) (fun h9 => ?_)
  · rw [hT, nI_leI (by omega) (by omega)] at h9
    obtain rfl : t = T := by omega
    refine S_iload_2 (pc := 47) dX8_likedBy_47 ?_
    exact J_ireturn (pc := 48) dX8_likedBy_48 rfl rfl ⟨_, rfl, rfl, ⟨rfl, rfl, rfl, rfl⟩⟩
  · rw [hT, nI_leI (by omega) (by omega)] at h9
    refine S_iload_2 (pc := 12) dX8_likedBy_12 ?_
    refine S_aload_0 (pc := 13) dX8_likedBy_13 ?_
    refine S_iload_3 (pc := 14) dX8_likedBy_14 ?_
    refine caX8_163 (pc := 15) (t_X8_isStopped_x (l := l) (G := G) t rfl (by omega)) sh_164 (Nat.le_of_ble_eq_true rfl) ⟨rfl, rfl, ⟨by decide, by decide⟩, by decide, by decide⟩ dX8_likedBy_15 (fun r15 a15 b15 c15 p15 => ?_)
    obtain ⟨rfl, rfl, rfl, rfl⟩ := p15
    refine J_if_ne_b (pc := 18) 38 dX8_likedBy_18 (by decide) (fun h18 => ?_) (fun h18 => ?_)
    · refine J_iconst (pc := 38) (0) rfl dX8_likedBy_38 ?_
      refine J_iadd (pc := 39) dX8_likedBy_39 ?_
      refine S_istore_2 (pc := 40) dX8_likedBy_40 (by decide) ?_
      refine S_inc_3 (pc := 41) (1) rfl dX8_likedBy_41 (by decide) ?_
      refine J_goto (pc := 44) 4 dX8_likedBy_44 (by decide) ?_
      have hv : (fun t => !(bt (hi 169 25) t) && decide (hi 169 (17 + t) = x)) t = false := by simp [h18]
      exact svJ_ls (by rw [mCnt_f' hv, nI_succ, Int32.add_zero]) (ih (t + 1) (by omega) (by omega))
    · refine S_aload_0 (pc := 21) dX8_likedBy_21 ?_
      refine fgX8_29 (pc := 22) sh_164 hv_164_8 dX8_likedBy_22 ?_
      refine J_bipush (pc := 25) (17) rfl dX8_likedBy_25 ?_
      refine S_iload_3 (pc := 27) dX8_likedBy_27 ?_
      refine J_iadd (pc := 28) dX8_likedBy_28 ?_
      refine J_iald_n (pc := 29) (17 + t) sh_169 (by rw [show (17 : Int32) = nI 17 from rfl, nI_add]) (by omega) (by decide) dX8_likedBy_29 ?_
      refine S_iload_1 (pc := 30) dX8_likedBy_30 ?_
      refine J_icmp_ne (pc := 31) 38 dX8_likedBy_31 (by decide) (fun h31 => ?_) (fun h31 => ?_)
      · refine J_iconst (pc := 38) (0) rfl dX8_likedBy_38 ?_
        refine J_iadd (pc := 39) dX8_likedBy_39 ?_
        refine S_istore_2 (pc := 40) dX8_likedBy_40 (by decide) ?_
        refine S_inc_3 (pc := 41) (1) rfl dX8_likedBy_41 (by decide) ?_
        refine J_goto (pc := 44) 4 dX8_likedBy_44 (by decide) ?_
        first
        | (have hv : (fun t => !(bt (hi 169 25) t) && decide (hi 169 (17 + t) = x)) t = true := by simp [h18, h31]
           exact svJ_ls (by rw [mCnt_t hv, nI_succ, nI_succ]) (ih (t + 1) (by omega) (by omega)))
        | (have hv : (fun t => !(bt (hi 169 25) t) && decide (hi 169 (17 + t) = x)) t = false := by simp [h31]
           exact svJ_ls (by rw [mCnt_f' hv, nI_succ, Int32.add_zero]) (ih (t + 1) (by omega) (by omega)))
      · refine J_iconst (pc := 34) (1) rfl dX8_likedBy_34 ?_
        refine J_goto (pc := 35) 39 dX8_likedBy_35 (by decide) ?_
        refine J_iadd (pc := 39) dX8_likedBy_39 ?_
        refine S_istore_2 (pc := 40) dX8_likedBy_40 (by decide) ?_
        refine S_inc_3 (pc := 41) (1) rfl dX8_likedBy_41 (by decide) ?_
        refine J_goto (pc := 44) 4 dX8_likedBy_44 (by decide) ?_
        first
        | (have hv : (fun t => !(bt (hi 169 25) t) && decide (hi 169 (17 + t) = x)) t = true := by simp [h18, h31]
           exact svJ_ls (by rw [mCnt_t hv, nI_succ, nI_succ]) (ih (t + 1) (by omega) (by omega)))
        | (have hv : (fun t => !(bt (hi 169 25) t) && decide (hi 169 (17 + t) = x)) t = false := by simp [h31]
           exact svJ_ls (by rw [mCnt_f' hv, nI_succ, Int32.add_zero]) (ih (t + 1) (by omega) (by omega)))
set_option maxRecDepth 20000 in
set_option maxHeartbeats 2000000 in
theorem t_X8_likedBy {l : Launch} {G : svG} {hi : svH} {hl : svL} {tw dr : Nat} {pm : Nat → Nat} {C L T Gn : Nat} (hm : mT hi C L T Gn) {x : Int32} : svIp l G yX8_likedBy mX8_likedBy rX8_likedBy [sv_rf G.1 164, .int x] hi hl (sv_hr tw dr pm) (nI (mCnt (fun t => !(bt (hi 169 25) t) && decide (hi 169 (17 + t) = x)) T)) := by
  refine sv_entry (by decide +kernel) rfl rfl (Nat.le_of_ble_eq_true rfl) (by simp [Value.category, sv_rf]) [some (sv_rf G.1 164), some (.int x), none, none] rfl ?_
  refine J_iconst (pc := 0) (0) rfl dX8_likedBy_0 ?_
  refine S_istore_2 (pc := 1) dX8_likedBy_1 (by decide) ?_
  refine J_iconst (pc := 2) (0) rfl dX8_likedBy_2 ?_
  refine S_istore_3 (pc := 3) dX8_likedBy_3 (by decide) ?_
  
  exact lo_X8_likedBy hm 0 (Nat.zero_le _)
set_option maxRecDepth 20000 in
set_option maxHeartbeats 2000000 in
theorem lo_X8_firstOf {l : Launch} {G : svG} {hi : svH} {hl : svL} {tw dr : Nat} {pm : Nat → Nat} {C L T Gn : Nat} (hm : mT hi C L T Gn) {x : Int32} : ∀ t, t ≤ Gn → svJ l G rX8_firstOf mX8_firstOf (sv_Fm G (fun v sh a b c => ∃ r, v = some (.int r) ∧ sh = svSH ∧ ((nI (mCnt (fun r => decide (hi 167 r = x)) Gn)) = r ∧ hi = a ∧ hl = b ∧ (sv_hr tw dr pm) = c)) 0 0) 0 0 4 [some (sv_rf G.1 164), some (.int x), some (.int (nI (mCnt (fun r => decide (hi 167 r = x)) t))), some (.int (nI t))] [] svSH hi hl (sv_hr tw dr pm) := by
  obtain ⟨hCc, hLc, hT, hGn, hC2, hC6, hL1, hLC, hT8, hG6, hf, hs, hk⟩ := id hm
  refine sv_up (fun t ht ih => ?_)
  refine S_iload_3 (pc := 4) dX8_firstOf_4 ?_
  refine S_aload_0 (pc := 5) dX8_firstOf_5 ?_
  refine fgX8_76 (pc := 6) sh_164 dX8_firstOf_6 ?_
  refine J_icmp_ge (pc := 9) 36 dX8_firstOf_9 (by decide) (fun h9 => ?_) (fun h9 => ?_)
  · rw [hGn, nI_leI (by omega) (by omega)] at h9
    obtain rfl : t = Gn := by omega
    refine S_iload_2 (pc := 36) dX8_firstOf_36 ?_
    exact J_ireturn (pc := 37) dX8_firstOf_37 rfl rfl ⟨_, rfl, rfl, ⟨rfl, rfl, rfl, rfl⟩⟩
  · rw [hGn, nI_leI (by omega) (by omega)] at h9
    refine S_iload_2 (pc := 12) dX8_firstOf_12 ?_
    refine S_aload_0 (pc := 13) dX8_firstOf_13 ?_
    refine fgX8_23 (pc := 14) sh_164 hv_164_6 dX8_firstOf_14 ?_
    refine S_iload_3 (pc := 17) dX8_firstOf_17 ?_
    refine J_iald_n (pc := 18) t sh_167 rfl (by omega) (by decide) dX8_firstOf_18 ?_
    refine S_iload_1 (pc := 19) dX8_firstOf_19 ?_
    refine J_icmp_ne (pc := 20) 27 dX8_firstOf_20 (by decide) (fun h20 => ?_) (fun h20 => ?_)
    · refine J_iconst (pc := 27) (0) rfl dX8_firstOf_27 ?_
      refine J_iadd (pc := 28) dX8_firstOf_28 ?_
      refine S_istore_2 (pc := 29) dX8_firstOf_29 (by decide) ?_
      refine S_inc_3 (pc := 30) (1) rfl dX8_firstOf_30 (by decide) ?_
      refine J_goto (pc := 33) 4 dX8_firstOf_33 (by decide) ?_
      first
      | (have hv : (fun r => decide (hi 167 r = x)) t = true := decide_eq_true h20
         exact svJ_ls (by rw [mCnt_t hv, nI_succ, nI_succ]) (ih (t + 1) (by omega) (by omega)))
      | (have hv : (fun r => decide (hi 167 r = x)) t = false := decide_eq_false h20
         exact svJ_ls (by rw [mCnt_f' hv, nI_succ, Int32.add_zero]) (ih (t + 1) (by omega) (by omega)))
    · refine J_iconst (pc := 23) (1) rfl dX8_firstOf_23 ?_
      refine J_goto (pc := 24) 28 dX8_firstOf_24 (by decide) ?_
      refine J_iadd (pc := 28) dX8_firstOf_28 ?_
      refine S_istore_2 (pc := 29) dX8_firstOf_29 (by decide) ?_
      refine S_inc_3 (pc := 30) (1) rfl dX8_firstOf_30 (by decide) ?_
      refine J_goto (pc := 33) 4 dX8_firstOf_33 (by decide) ?_
      first
      | (have hv : (fun r => decide (hi 167 r = x)) t = true := decide_eq_true h20
         exact svJ_ls (by rw [mCnt_t hv, nI_succ, nI_succ]) (ih (t + 1) (by omega) (by omega)))
      | (have hv : (fun r => decide (hi 167 r = x)) t = false := decide_eq_false h20
         exact svJ_ls (by rw [mCnt_f' hv, nI_succ, Int32.add_zero]) (ih (t + 1) (by omega) (by omega)))
set_option maxRecDepth 20000 in
set_option maxHeartbeats 2000000 in
theorem t_X8_firstOf {l : Launch} {G : svG} {hi : svH} {hl : svL} {tw dr : Nat} {pm : Nat → Nat} {C L T Gn : Nat} (hm : mT hi C L T Gn) {x : Int32} : svIp l G yX8_firstOf mX8_firstOf rX8_firstOf [sv_rf G.1 164, .int x] hi hl (sv_hr tw dr pm) (nI (mCnt (fun r => decide (hi 167 r = x)) Gn)) := by
  refine sv_entry (by decide +kernel) rfl rfl (Nat.le_of_ble_eq_true rfl) (by simp [Value.category, sv_rf]) [some (sv_rf G.1 164), some (.int x), none, none] rfl ?_
  refine J_iconst (pc := 0) (0) rfl dX8_firstOf_0 ?_
  refine S_istore_2 (pc := 1) dX8_firstOf_1 (by decide) ?_
  refine J_iconst (pc := 2) (0) rfl dX8_firstOf_2 ?_
  refine S_istore_3 (pc := 3) dX8_firstOf_3 (by decide) ?_
  
  exact lo_X8_firstOf hm 0 (Nat.zero_le _)
theorem sv_k05 {x : Int32} (h : 0 ≤ x ∧ x < 6) : x = 1 ∨ x = 2 ∨ x = 3 ∨ x = 4 ∨ x = 5 ∨ (x = 0 ∧ (x.toInt < 1 ∨ 5 < x.toInt)) := by
  obtain ⟨j, hj, rfl⟩ := sv_ix (n := 6) h (by decide)
  rcases (show j = 0 ∨ j = 1 ∨ j = 2 ∨ j = 3 ∨ j = 4 ∨ j = 5 by omega) with rfl | rfl | rfl | rfl | rfl | rfl <;> decide
def mLib (hi : svH) (T : Nat) (x : Int32) : Nat := mCnt (fun t => !(bt (hi 169 25) t) && decide (hi 169 (17 + t) = x)) T
def mTor (hi : svH) (Gn : Nat) (x : Int32) : Nat := mCnt (fun r => decide (hi 167 r = x)) Gn
theorem Int32.comm2 (x : Int32) : 2 * x = x * 2 := Int32.mul_comm 2 x
set_option maxRecDepth 20000 in
set_option maxHeartbeats 2000000 in
theorem t_X8_mark {l : Launch} {G : svG} {hi : svH} {hl : svL} {tw dr : Nat} {pm : Nat → Nat} {C L T Gn : Nat} (hm : mT hi C L T Gn) {what x : Int32} : svI l G yX8_mark mX8_mark rX8_mark [sv_rf G.1 164, .int what, .int x] hi hl (sv_hr tw dr pm) (fun r a b c => (fMark C (fun j => hi 169 (3 + j)) (fun j => hi 169 (3 + j) + nI (mLib hi T (nI j))) (fun j => hi 169 (3 + j) - nI (mTor hi Gn (nI j))) (hi 169 0) what x).1 = r ∧ hi = a ∧ sv_u2 hl 164 13 (hl 164 13 + (fMark C (fun j => hi 169 (3 + j)) (fun j => hi 169 (3 + j) + nI (mLib hi T (nI j))) (fun j => hi 169 (3 + j) - nI (mTor hi Gn (nI j))) (hi 169 0) what x).2) = b ∧ sv_hr tw dr pm = c) := by
  obtain ⟨hCc, hLc, hT, hGn, hC2, hC6, hL1, hLC, hT8, hG6, hf, hs, hk⟩ := id hm
  refine sv_entry (by decide +kernel) rfl rfl (Nat.le_of_ble_eq_true rfl) (by simp [Value.category, sv_rf]) [some (sv_rf G.1 164), some (.int what), some (.int x), none, none, none] rfl ?_
  refine S_iload_1 (pc := 0) dX8_mark_0 ?_
  refine J_iconst (pc := 1) (0) rfl dX8_mark_1 ?_
  refine J_iconst (pc := 2) (5) rfl dX8_mark_2 ?_
  refine caX8_69 (pc := 3) (t_X8_in_n (l := l) (G := G) (b := 6) 6 (by decide) rfl rfl) (Nat.le_of_ble_eq_true rfl) ⟨rfl, rfl, ⟨by decide, by decide⟩, by decide, by decide⟩ dX8_mark_3 (fun r3 a3 b3 c3 p3 => ?_)
  obtain ⟨rfl, rfl, rfl, rfl⟩ := p3
  refine J_if_eq_b (pc := 6) 17 dX8_mark_6 (by decide) (fun h6 => ?_) (fun h6 => ?_)
  · refine ldX8_220 (pc := 17) dX8_mark_17 ?_
    exact J_ireturn (pc := 19) dX8_mark_19 rfl rfl ⟨_, rfl, rfl, (by
        have e : (fMark C (fun j => hi 169 (3 + j)) (fun j => hi 169 (3 + j) + nI (mLib hi T (nI j))) (fun j => hi 169 (3 + j) - nI (mTor hi Gn (nI j))) (hi 169 0) what x) = (-1000000, 0) := by unfold fMark; by_cases hc : 0 ≤ x ∧ x < nI C; (rw [if_pos hc, if_neg (fun q => h6 (by rw [q]; decide)), if_neg (fun q => h6 (by rw [q]; decide)), if_neg (fun q => h6 (by rw [q]; decide)), if_neg (fun q => h6 (by rw [q]; decide)), if_neg (fun q => h6 (by rw [q]; decide)), if_neg (fun q => h6 (by rw [q]; decide))]); (rw [if_neg hc])
        rw [e]
        exact ⟨rfl, rfl, by rw [Int64.add_zero, sv_u2_same], rfl⟩)⟩
  · refine S_aload_0 (pc := 9) dX8_mark_9 ?_
    refine S_iload_2 (pc := 10) dX8_mark_10 ?_
    refine caX8_185 (pc := 11) (t_X8_isOne_n (l := l) (G := G) hm) sh_164 (Nat.le_of_ble_eq_true rfl) ⟨rfl, rfl, ⟨by decide, by decide⟩, by decide, by decide⟩ dX8_mark_11 (fun r11 a11 b11 c11 p11 => ?_)
    obtain ⟨rfl, rfl, rfl, rfl⟩ := p11
    refine J_if_ne_b (pc := 14) 20 dX8_mark_14 (by decide) (fun h14 => ?_) (fun h14 => ?_)
    · obtain ⟨j, hj, rfl⟩ := sv_ix h14 (by omega)
      refine S_aload_0 (pc := 20) dX8_mark_20 ?_
      refine fgX8_29 (pc := 21) sh_164 hv_164_8 dX8_mark_21 ?_
      refine J_iconst (pc := 24) (3) rfl dX8_mark_24 ?_
      refine S_iload_2 (pc := 25) dX8_mark_25 ?_
      refine J_iadd (pc := 26) dX8_mark_26 ?_
      refine J_iald_n (pc := 27) (3 + j) sh_169 (by rw [show (3 : Int32) = nI 3 from rfl, nI_add]) (by omega) (by decide) dX8_mark_27 ?_
      refine S_istore_3 (pc := 28) dX8_mark_28 (by decide) ?_
      refine S_iload_3 (pc := 29) dX8_mark_29 ?_
      refine S_aload_0 (pc := 30) dX8_mark_30 ?_
      refine S_iload_2 (pc := 31) dX8_mark_31 ?_
      refine caX8_221 (pc := 32) (t_X8_likedBy (l := l) (G := G) hm) sh_164 (Nat.le_of_ble_eq_true rfl) ⟨rfl, rfl, ⟨by decide, by decide⟩, by decide, by decide⟩ dX8_mark_32 (fun r32 a32 b32 c32 p32 => ?_)
      obtain ⟨rfl, rfl, rfl, rfl⟩ := p32
      refine J_iadd (pc := 35) dX8_mark_35 ?_
      refine S_istore_4 (pc := 36) dX8_mark_36 (by decide) ?_
      refine S_iload_3 (pc := 38) dX8_mark_38 ?_
      refine S_aload_0 (pc := 39) dX8_mark_39 ?_
      refine S_iload_2 (pc := 40) dX8_mark_40 ?_
      refine caX8_224 (pc := 41) (t_X8_firstOf (l := l) (G := G) hm) sh_164 (Nat.le_of_ble_eq_true rfl) ⟨rfl, rfl, ⟨by decide, by decide⟩, by decide, by decide⟩ dX8_mark_41 (fun r41 a41 b41 c41 p41 => ?_)
      obtain ⟨rfl, rfl, rfl, rfl⟩ := p41
      refine J_isub (pc := 44) dX8_mark_44 ?_
      refine S_istore_5 (pc := 45) dX8_mark_45 (by decide) ?_
      refine S_iload_1 (pc := 47) dX8_mark_47 ?_
      rcases sv_k05 h6 with rfl | rfl | rfl | rfl | rfl | ⟨rfl, hsw⟩
      · refine J_tableIn (pc := 48) 84 dX8_mark_48 (by decide) (by decide) rfl (by decide) ?_
        refine S_aload_0 (pc := 84) dX8_mark_84 ?_
        refine J_dup (pc := 85) rfl dX8_mark_85 ?_
        refine fgX8_227 (pc := 86) sh_164 dX8_mark_86 ?_
        refine ldX8_231 (pc := 89) dX8_mark_89 ?_
        refine J_ladd (pc := 92) dX8_mark_92 ?_
        refine fpX8_227 (pc := 93) sh_164 dX8_mark_93 ?_
        refine S_iload_4 (pc := 96) dX8_mark_96 ?_
        exact J_ireturn (pc := 98) dX8_mark_98 rfl rfl ⟨_, rfl, rfl, (by rw [fMark_1 hj hC6]; exact ⟨rfl, rfl, rfl, rfl⟩)⟩
      · refine J_tableIn (pc := 48) 99 dX8_mark_48 (by decide) (by decide) rfl (by decide) ?_
        refine S_aload_0 (pc := 99) dX8_mark_99 ?_
        refine J_dup (pc := 100) rfl dX8_mark_100 ?_
        refine fgX8_227 (pc := 101) sh_164 dX8_mark_101 ?_
        refine ldX8_233 (pc := 104) dX8_mark_104 ?_
        refine J_ladd (pc := 107) dX8_mark_107 ?_
        refine fpX8_227 (pc := 108) sh_164 dX8_mark_108 ?_
        refine S_iload_5 (pc := 111) dX8_mark_111 ?_
        exact J_ireturn (pc := 113) dX8_mark_113 rfl rfl ⟨_, rfl, rfl, (by rw [fMark_2 hj hC6]; exact ⟨rfl, rfl, rfl, rfl⟩)⟩
      · refine J_tableIn (pc := 48) 114 dX8_mark_48 (by decide) (by decide) rfl (by decide) ?_
        refine S_aload_0 (pc := 114) dX8_mark_114 ?_
        refine J_dup (pc := 115) rfl dX8_mark_115 ?_
        refine fgX8_227 (pc := 116) sh_164 dX8_mark_116 ?_
        refine ldX8_235 (pc := 119) dX8_mark_119 ?_
        refine J_ladd (pc := 122) dX8_mark_122 ?_
        refine fpX8_227 (pc := 123) sh_164 dX8_mark_123 ?_
        refine J_iconst (pc := 126) (2) rfl dX8_mark_126 ?_
        refine S_iload_4 (pc := 127) dX8_mark_127 ?_
        refine J_imul (pc := 129) dX8_mark_129 ?_
        exact J_ireturn (pc := 130) dX8_mark_130 rfl rfl ⟨_, rfl, rfl, (by rw [fMark_3 hj hC6]; exact ⟨Int32.mul_comm _ _, rfl, rfl, rfl⟩)⟩
      · refine J_tableIn (pc := 48) 131 dX8_mark_48 (by decide) (by decide) rfl (by decide) ?_
        refine S_aload_0 (pc := 131) dX8_mark_131 ?_
        refine J_dup (pc := 132) rfl dX8_mark_132 ?_
        refine fgX8_227 (pc := 133) sh_164 dX8_mark_133 ?_
        refine ldX8_237 (pc := 136) dX8_mark_136 ?_
        refine J_ladd (pc := 139) dX8_mark_139 ?_
        refine fpX8_227 (pc := 140) sh_164 dX8_mark_140 ?_
        refine S_iload_5 (pc := 143) dX8_mark_143 ?_
        refine S_iload_2 (pc := 145) dX8_mark_145 ?_
        refine J_iadd (pc := 146) dX8_mark_146 ?_
        exact J_ireturn (pc := 147) dX8_mark_147 rfl rfl ⟨_, rfl, rfl, (by rw [fMark_4 hj hC6]; exact ⟨rfl, rfl, rfl, rfl⟩)⟩
      · refine J_tableIn (pc := 48) 148 dX8_mark_48 (by decide) (by decide) rfl (by decide) ?_
        refine S_aload_0 (pc := 148) dX8_mark_148 ?_
        refine J_dup (pc := 149) rfl dX8_mark_149 ?_
        refine fgX8_227 (pc := 150) sh_164 dX8_mark_150 ?_
        refine ldX8_239 (pc := 153) dX8_mark_153 ?_
        refine J_ladd (pc := 156) dX8_mark_156 ?_
        refine fpX8_227 (pc := 157) sh_164 dX8_mark_157 ?_
        refine S_iload_3 (pc := 160) dX8_mark_160 ?_
        refine S_aload_0 (pc := 161) dX8_mark_161 ?_
        refine fgX8_29 (pc := 162) sh_164 hv_164_8 dX8_mark_162 ?_
        refine J_iconst (pc := 165) (0) rfl dX8_mark_165 ?_
        refine J_iald_n (pc := 166) 0 sh_169 rfl (by decide) (by decide) dX8_mark_166 ?_
        refine J_iadd (pc := 167) dX8_mark_167 ?_
        exact J_ireturn (pc := 168) dX8_mark_168 rfl rfl ⟨_, rfl, rfl, (by rw [fMark_5 hj hC6]; exact ⟨rfl, rfl, rfl, rfl⟩)⟩
      · refine J_tableOut (pc := 48) 169 dX8_mark_48 hsw (by decide) ?_
        refine S_aload_0 (pc := 169) dX8_mark_169 ?_
        refine J_dup (pc := 170) rfl dX8_mark_170 ?_
        refine fgX8_227 (pc := 171) sh_164 dX8_mark_171 ?_
        refine J_lconst (pc := 174) (1) rfl dX8_mark_174 ?_
        refine J_ladd (pc := 175) dX8_mark_175 ?_
        refine fpX8_227 (pc := 176) sh_164 dX8_mark_176 ?_
        refine S_iload_3 (pc := 179) dX8_mark_179 ?_
        exact J_ireturn (pc := 180) dX8_mark_180 rfl rfl ⟨_, rfl, rfl, (by rw [fMark_0 hj hC6]; exact ⟨rfl, rfl, rfl, rfl⟩)⟩
    · refine ldX8_220 (pc := 17) dX8_mark_17 ?_
      exact J_ireturn (pc := 19) dX8_mark_19 rfl rfl ⟨_, rfl, rfl, (by
          first
          | (rw [fMark_bad h14]; exact ⟨rfl, rfl, by rw [Int64.add_zero, sv_u2_same], rfl⟩)
          | (first | rw [fMark_0 hj hC6] | rw [fMark_1 hj hC6] | rw [fMark_2 hj hC6] | (rw [fMark_3 hj hC6, Int32.mul_comm]) | rw [fMark_4 hj hC6] | rw [fMark_5 hj hC6]
             exact ⟨rfl, rfl, rfl, rfl⟩))⟩
def imgM (x : Int32) : Option Nat := if x = 0 then some 0 else if x = 1 then some 1 else none
set_option maxRecDepth 20000 in
set_option maxHeartbeats 2000000 in
theorem lo_X8_keep {l : Launch} {G : svG} {hi : svH} {hl : svL} {tw dr : Nat} {pm : Nat → Nat} {im : Nat} (him : im < 2) : ∀ t, t ≤ 298 → ∀ (h' : svH), (∀ q, q ≠ 170 → h' q = hi q) → (∀ k, k < t → h' 170 (298 * im + k) = hi 169 k) → (∀ i, i < 298 * im ∨ 298 * im + t ≤ i → h' 170 i = hi 170 i) → svJ l G rX8_keep mX8_keep (sv_Fm G (fun v sh a b c => ∃ r, v = some (.int r) ∧ sh = svSH ∧ ((fun r a b c => (¬ (0 ≤ (nI im) ∧ (nI im) < 2) ∧ r = -1 ∧ hi = a ∧ hl = b ∧ sv_hr tw dr pm = c) ∨ (∃ iq, iq < 2 ∧ (nI im) = nI iq ∧ r = hi 169 0 ∧ (∀ k, k < 298 → a 170 (298 * iq + k) = hi 169 k) ∧ (∀ i, i < 298 * iq ∨ 298 * iq + 298 ≤ i → a 170 i = hi 170 i) ∧ a 171 = upd (hi 171) iq 1 ∧ (∀ q, q ≠ 170 → q ≠ 171 → a q = hi q) ∧ hl = b ∧ sv_hr tw dr pm = c))) r a b c) 0 0) 0 0 13 [some (sv_rf G.1 164), some (.int (nI im)), some (.int (nI t))] [] svSH h' hl (sv_hr tw dr pm) := by
  refine sv_up (fun t ht ih h' i1 i2 i3 => ?_)
  refine S_iload_2 (pc := 13) dX8_keep_13 ?_
  refine J_sipush (pc := 14) (298) rfl dX8_keep_14 ?_
  refine J_icmp_ge (pc := 17) 44 dX8_keep_17 (by decide) (fun h17 => ?_) (fun h17 => ?_)
  · rw [show (298 : Int32) = nI 298 from rfl, nI_leI (by omega) (by omega)] at h17
    obtain rfl : t = 298 := by omega
    refine S_aload_0 (pc := 44) dX8_keep_44 ?_
    refine fgX8_35 (pc := 45) sh_164 hv_164_10 dX8_keep_45 ?_
    refine S_iload_1 (pc := 48) dX8_keep_48 ?_
    refine J_iconst (pc := 49) (1) rfl dX8_keep_49 ?_
    refine J_zast_n (pc := 50) im sh_171 rfl him (by decide) rfl dX8_keep_50 ?_
    refine S_aload_0 (pc := 51) dX8_keep_51 ?_
    refine fgX8_29 (pc := 52) sh_164 hv_164_8 dX8_keep_52 ?_
    refine J_iconst (pc := 55) (0) rfl dX8_keep_55 ?_
    refine J_iald_n (pc := 56) 0 sh_169 rfl (by decide) (by decide) dX8_keep_56 ?_
    exact J_ireturn (pc := 57) dX8_keep_57 rfl rfl ⟨_, rfl, rfl, (Or.inr ⟨im, him, rfl, by rw [sv_u2_off (by decide), i1 169 (by decide)], fun k hk => by rw [sv_u2_off (by decide)]; exact i2 k hk, fun i h1 => by rw [sv_u2_off (by decide)]; exact i3 i h1, by rw [sv_u2_row, i1 171 (by decide)], fun q g1 g2 => by rw [sv_u2_off g2]; exact i1 q g1, rfl, rfl⟩)⟩
  · rw [show (298 : Int32) = nI 298 from rfl, nI_leI (by omega) (by omega)] at h17
    refine S_aload_0 (pc := 20) dX8_keep_20 ?_
    refine fgX8_32 (pc := 21) sh_164 hv_164_9 dX8_keep_21 ?_
    refine J_sipush (pc := 24) (298) rfl dX8_keep_24 ?_
    refine S_iload_1 (pc := 27) dX8_keep_27 ?_
    refine J_imul (pc := 28) dX8_keep_28 ?_
    refine S_iload_2 (pc := 29) dX8_keep_29 ?_
    refine J_iadd (pc := 30) dX8_keep_30 ?_
    refine S_aload_0 (pc := 31) dX8_keep_31 ?_
    refine fgX8_29 (pc := 32) sh_164 hv_164_8 dX8_keep_32 ?_
    refine S_iload_2 (pc := 35) dX8_keep_35 ?_
    refine J_iald_n (pc := 36) t sh_169 rfl (by omega) (by decide) dX8_keep_36 ?_
    refine J_iast_n (pc := 37) (298 * im + t) sh_170 (by rw [show (298 : Int32) = nI 298 from rfl, pk_mul, nI_add]) (by omega) (by decide) dX8_keep_37 ?_
    refine S_inc_2 (pc := 38) (1) rfl dX8_keep_38 (by decide) ?_
    refine J_goto (pc := 41) 13 dX8_keep_41 (by decide) ?_
    refine svJ_ls (by rw [nI_succ]) (ih (t + 1) (by omega) (by omega) _ (fun q hq => by rw [sv_u2_off hq]; exact i1 q hq) (fun k hk => ?_) (fun i h1 => by rw [sv_u2_k (by omega)]; exact i3 i (by omega)))
    by_cases e : k = t
    · rw [e, sv_u2_at, i1 169 (by decide)]
    · rw [sv_u2_k (by omega)]; exact i2 k (by omega)
set_option maxRecDepth 20000 in
set_option maxHeartbeats 2000000 in
theorem t_X8_keep {l : Launch} {G : svG} {hi : svH} {hl : svL} {tw dr : Nat} {pm : Nat → Nat} {x : Int32} : svI l G yX8_keep mX8_keep rX8_keep [sv_rf G.1 164, .int x] hi hl (sv_hr tw dr pm) (fun r a b c => (¬ (0 ≤ x ∧ x < 2) ∧ r = -1 ∧ hi = a ∧ hl = b ∧ sv_hr tw dr pm = c) ∨ (∃ im, im < 2 ∧ x = nI im ∧ r = hi 169 0 ∧ (∀ k, k < 298 → a 170 (298 * im + k) = hi 169 k) ∧ (∀ i, i < 298 * im ∨ 298 * im + 298 ≤ i → a 170 i = hi 170 i) ∧ a 171 = upd (hi 171) im 1 ∧ (∀ q, q ≠ 170 → q ≠ 171 → a q = hi q) ∧ hl = b ∧ sv_hr tw dr pm = c)) := by
  refine sv_entry (by decide +kernel) rfl rfl (Nat.le_of_ble_eq_true rfl) (by simp [Value.category, sv_rf]) [some (sv_rf G.1 164), some (.int x), none] rfl ?_
  refine S_iload_1 (pc := 0) dX8_keep_0 ?_
  refine J_iconst (pc := 1) (0) rfl dX8_keep_1 ?_
  refine J_iconst (pc := 2) (1) rfl dX8_keep_2 ?_
  refine caX8_69 (pc := 3) (t_X8_in_n (l := l) (G := G) (b := 2) 2 (by decide) rfl rfl) (Nat.le_of_ble_eq_true rfl) ⟨rfl, rfl, ⟨by decide, by decide⟩, by decide, by decide⟩ dX8_keep_3 (fun r3 a3 b3 c3 p3 => ?_)
  obtain ⟨rfl, rfl, rfl, rfl⟩ := p3
  refine J_if_ne_b (pc := 6) 11 dX8_keep_6 (by decide) (fun h6 => ?_) (fun h6 => ?_)
  · obtain ⟨im, him, rfl⟩ := sv_ix (n := 2) h6 (by decide)
    refine J_iconst (pc := 11) (0) rfl dX8_keep_11 ?_
    refine S_istore_2 (pc := 12) dX8_keep_12 (by decide) ?_
    exact lo_X8_keep him 0 (Nat.zero_le _) hi (fun _ _ => rfl) (fun k hk => by omega) (fun _ _ => rfl)
  · refine J_iconst (pc := 9) (-1) rfl dX8_keep_9 ?_
    exact J_ireturn (pc := 10) dX8_keep_10 rfl rfl ⟨_, rfl, rfl, (Or.inl ⟨h6, rfl, rfl, rfl, rfl⟩)⟩
set_option maxRecDepth 20000 in
set_option maxHeartbeats 2000000 in
theorem lo_X8_back {l : Launch} {G : svG} {hi : svH} {hl : svL} {tw dr : Nat} {pm : Nat → Nat} {im : Nat} (him : im < 2) (hk : ¬ hi 171 im = 0) : ∀ t, t ≤ 298 → ∀ (h' : svH), (∀ q, q ≠ 169 → h' q = hi q) → (∀ k, k < t → h' 169 k = hi 170 (298 * im + k)) → svJ l G rX8_back mX8_back (sv_Fm G (fun v sh a b c => ∃ r, v = some (.int r) ∧ sh = svSH ∧ ((fun r a b c => (¬ (0 ≤ (nI im) ∧ (nI im) < 2) ∧ r = -1 ∧ hi = a ∧ hl = b ∧ sv_hr tw dr pm = c) ∨ (∃ iq, iq < 2 ∧ (nI im) = nI iq ∧ hi 171 iq = 0 ∧ r = -2 ∧ hi = a ∧ hl = b ∧ sv_hr tw dr pm = c) ∨ (∃ iq, iq < 2 ∧ (nI im) = nI iq ∧ ¬ hi 171 iq = 0 ∧ r = hi 170 (298 * iq) ∧ (∀ k, k < 298 → a 169 k = hi 170 (298 * iq + k)) ∧ (∀ q, q ≠ 169 → a q = hi q) ∧ hl = b ∧ sv_hr tw dr pm = c))) r a b c) 0 0) 0 0 25 [some (sv_rf G.1 164), some (.int (nI im)), some (.int (nI t))] [] svSH h' hl (sv_hr tw dr pm) := by
  refine sv_up (fun t ht ih h' i1 i2 => ?_)
  refine S_iload_2 (pc := 25) dX8_back_25 ?_
  refine J_sipush (pc := 26) (298) rfl dX8_back_26 ?_
  refine J_icmp_ge (pc := 29) 56 dX8_back_29 (by decide) (fun h29 => ?_) (fun h29 => ?_)
  · rw [show (298 : Int32) = nI 298 from rfl, nI_leI (by omega) (by omega)] at h29
    obtain rfl : t = 298 := by omega
    refine S_aload_0 (pc := 56) dX8_back_56 ?_
    refine fgX8_29 (pc := 57) sh_164 hv_164_8 dX8_back_57 ?_
    refine J_iconst (pc := 60) (0) rfl dX8_back_60 ?_
    refine J_iald_n (pc := 61) 0 sh_169 rfl (by decide) (by decide) dX8_back_61 ?_
    exact J_ireturn (pc := 62) dX8_back_62 rfl rfl ⟨_, rfl, rfl, (Or.inr (Or.inr ⟨im, him, rfl, hk, i2 0 (by decide), i2, i1, rfl, rfl⟩))⟩
  · rw [show (298 : Int32) = nI 298 from rfl, nI_leI (by omega) (by omega)] at h29
    refine S_aload_0 (pc := 32) dX8_back_32 ?_
    refine fgX8_29 (pc := 33) sh_164 hv_164_8 dX8_back_33 ?_
    refine S_iload_2 (pc := 36) dX8_back_36 ?_
    refine S_aload_0 (pc := 37) dX8_back_37 ?_
    refine fgX8_32 (pc := 38) sh_164 hv_164_9 dX8_back_38 ?_
    refine J_sipush (pc := 41) (298) rfl dX8_back_41 ?_
    refine S_iload_1 (pc := 44) dX8_back_44 ?_
    refine J_imul (pc := 45) dX8_back_45 ?_
    refine S_iload_2 (pc := 46) dX8_back_46 ?_
    refine J_iadd (pc := 47) dX8_back_47 ?_
    refine J_iald_n (pc := 48) (298 * im + t) sh_170 (by rw [show (298 : Int32) = nI 298 from rfl, pk_mul, nI_add]) (by omega) (by decide) dX8_back_48 ?_
    refine J_iast_n (pc := 49) t sh_169 rfl (by omega) (by decide) dX8_back_49 ?_
    refine S_inc_2 (pc := 50) (1) rfl dX8_back_50 (by decide) ?_
    refine J_goto (pc := 53) 25 dX8_back_53 (by decide) ?_
    refine svJ_ls (by rw [nI_succ]) (ih (t + 1) (by omega) (by omega) _ (fun q hq => by rw [sv_u2_off hq]; exact i1 q hq) (fun k hk => ?_))
    by_cases e : k = t
    · rw [e, sv_u2_at, i1 170 (by decide)]
    · rw [sv_u2_k (by omega)]; exact i2 k (by omega)
set_option maxRecDepth 20000 in
set_option maxHeartbeats 2000000 in
theorem t_X8_back {l : Launch} {G : svG} {hi : svH} {hl : svL} {tw dr : Nat} {pm : Nat → Nat} {x : Int32} : svI l G yX8_back mX8_back rX8_back [sv_rf G.1 164, .int x] hi hl (sv_hr tw dr pm) (fun r a b c => (¬ (0 ≤ x ∧ x < 2) ∧ r = -1 ∧ hi = a ∧ hl = b ∧ sv_hr tw dr pm = c) ∨ (∃ im, im < 2 ∧ x = nI im ∧ hi 171 im = 0 ∧ r = -2 ∧ hi = a ∧ hl = b ∧ sv_hr tw dr pm = c) ∨ (∃ im, im < 2 ∧ x = nI im ∧ ¬ hi 171 im = 0 ∧ r = hi 170 (298 * im) ∧ (∀ k, k < 298 → a 169 k = hi 170 (298 * im + k)) ∧ (∀ q, q ≠ 169 → a q = hi q) ∧ hl = b ∧ sv_hr tw dr pm = c)) := by
  refine sv_entry (by decide +kernel) rfl rfl (Nat.le_of_ble_eq_true rfl) (by simp [Value.category, sv_rf]) [some (sv_rf G.1 164), some (.int x), none] rfl ?_
  refine S_iload_1 (pc := 0) dX8_back_0 ?_
  refine J_iconst (pc := 1) (0) rfl dX8_back_1 ?_
  refine J_iconst (pc := 2) (1) rfl dX8_back_2 ?_
  refine caX8_69 (pc := 3) (t_X8_in_n (l := l) (G := G) (b := 2) 2 (by decide) rfl rfl) (Nat.le_of_ble_eq_true rfl) ⟨rfl, rfl, ⟨by decide, by decide⟩, by decide, by decide⟩ dX8_back_3 (fun r3 a3 b3 c3 p3 => ?_)
  obtain ⟨rfl, rfl, rfl, rfl⟩ := p3
  refine J_if_ne_b (pc := 6) 11 dX8_back_6 (by decide) (fun h6 => ?_) (fun h6 => ?_)
  · obtain ⟨im, him, rfl⟩ := sv_ix (n := 2) h6 (by decide)
    refine S_aload_0 (pc := 11) dX8_back_11 ?_
    refine fgX8_35 (pc := 12) sh_164 hv_164_10 dX8_back_12 ?_
    refine S_iload_1 (pc := 15) dX8_back_15 ?_
    refine J_zald_n (pc := 16) im sh_171 rfl him (by decide) dX8_back_16 ?_
    refine J_if_ne (pc := 17) 23 dX8_back_17 (by decide) (fun h17 => ?_) (fun h17 => ?_)
    · refine J_iconst (pc := 23) (0) rfl dX8_back_23 ?_
      refine S_istore_2 (pc := 24) dX8_back_24 (by decide) ?_
      exact lo_X8_back him (by exact h17) 0 (Nat.zero_le _) hi (fun _ _ => rfl) (fun k hk => by omega)
    · refine J_bipush (pc := 20) (-2) rfl dX8_back_20 ?_
      exact J_ireturn (pc := 22) dX8_back_22 rfl rfl ⟨_, rfl, rfl, (by first | exact Or.inl ⟨h6, rfl, rfl, rfl, rfl⟩ | exact Or.inr (Or.inl ⟨im, him, rfl, by first | exact h17 | exact Classical.not_not.mp h17, rfl, rfl, rfl, rfl⟩))⟩
  · refine J_iconst (pc := 9) (-1) rfl dX8_back_9 ?_
    exact J_ireturn (pc := 10) dX8_back_10 rfl rfl ⟨_, rfl, rfl, (by first | exact Or.inl ⟨h6, rfl, rfl, rfl, rfl⟩ | exact Or.inr (Or.inl ⟨im, him, rfl, by first | exact h17 | exact Classical.not_not.mp h17, rfl, rfl, rfl, rfl⟩))⟩
