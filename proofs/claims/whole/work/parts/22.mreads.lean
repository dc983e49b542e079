theorem sv_bit01 {x : Int32} (h : 0 ≤ x ∧ x < 2) : x = 0 ∨ x = 1 := by
  obtain ⟨j, hj, rfl⟩ := sv_ix (n := 2) h (by decide)
  rcases (show j = 0 ∨ j = 1 by omega) with rfl | rfl
  · exact Or.inl rfl
  · exact Or.inr rfl
theorem sv_in1 {x : Int32} {C : Nat} (hC : C < 2 ^ 31) : (0 ≤ x ∧ x ≤ nI C - 1) ↔ (0 ≤ x ∧ x < nI C) := by
  cases C with
  | zero =>
    constructor
    · intro h; exact absurd (Int32.le_trans h.1 h.2) (by decide)
    · intro h; exact absurd h.2 (Int32.not_lt.mpr h.1)
  | succ n =>
    rw [nI_pred]
    refine and_congr_right fun _ => ?_
    rw [Int32.le_iff_toInt_le, Int32.lt_iff_toInt_lt, nI_toInt (by omega), nI_toInt (by omega)]
    omega
theorem t_X8_isOne_n {l : Launch} {G : svG} {hi : svH} {hl : svL} {tw dr : Nat} {pm : Nat → Nat} {C L T Gn : Nat} (hm : mT hi C L T Gn) {x : Int32} : svIp l G yX8_isOne mX8_isOne rX8_isOne [sv_rf G.1 164, .int x] hi hl (sv_hr tw dr pm) (sv_b (0 ≤ x ∧ x < nI C)) := by
  obtain ⟨hCc, hLc, hT, hGn, hC2, hC6, hL1, hLC, hT8, hG6, hf, hs, hk⟩ := id hm
  have h := t_X8_isOne (l := l) (G := G) (hi := hi) (hl := hl) (tw := tw) (dr := dr) (pm := pm) (x := x)
  rw [hCc, sv_b_iff (sv_in1 (by omega))] at h
  exact h
theorem t_X8_isTrain_n {l : Launch} {G : svG} {hi : svH} {hl : svL} {tw dr : Nat} {pm : Nat → Nat} {C L T Gn : Nat} (hm : mT hi C L T Gn) {x : Int32} : svIp l G yX8_isTrain mX8_isTrain rX8_isTrain [sv_rf G.1 164, .int x] hi hl (sv_hr tw dr pm) (sv_b (0 ≤ x ∧ x < nI T)) := by
  obtain ⟨hCc, hLc, hT, hGn, hC2, hC6, hL1, hLC, hT8, hG6, hf, hs, hk⟩ := id hm
  have h := t_X8_isTrain (l := l) (G := G) (hi := hi) (hl := hl) (tw := tw) (dr := dr) (pm := pm) (x := x)
  rw [hT, sv_b_iff (sv_in1 (by omega))] at h
  exact h
theorem t_X8_isGroup_n {l : Launch} {G : svG} {hi : svH} {hl : svL} {tw dr : Nat} {pm : Nat → Nat} {C L T Gn : Nat} (hm : mT hi C L T Gn) {x : Int32} : svIp l G yX8_isGroup mX8_isGroup rX8_isGroup [sv_rf G.1 164, .int x] hi hl (sv_hr tw dr pm) (sv_b (0 ≤ x ∧ x < nI Gn)) := by
  obtain ⟨hCc, hLc, hT, hGn, hC2, hC6, hL1, hLC, hT8, hG6, hf, hs, hk⟩ := id hm
  have h := t_X8_isGroup (l := l) (G := G) (hi := hi) (hl := hl) (tw := tw) (dr := dr) (pm := pm) (x := x)
  rw [hGn, sv_b_iff (sv_in1 (by omega))] at h
  exact h
theorem t_X8_in_n {l : Launch} {G : svG} {hi : svH} {hl : svL} {hr : svR} {x e b : Int32} (n : Nat) (hn : n < 2 ^ 31) (he : nI n - 1 = e) (hb : nI n = b) : svIp l G yX8_in mX8_in rX8_in [.int x, .int 0, .int e] hi hl hr (sv_b (0 ≤ x ∧ x < b)) := by
  subst he; subst hb
  have h := t_X8_in (l := l) (G := G) (hi := hi) (hl := hl) (hr := hr) (x := x) (a := 0) (b := nI n - 1)
  rw [sv_b_iff (sv_in1 hn)] at h
  exact h
/-- votes if these trains stop; who wins by them -/
def mSumM (hi : svH) (T : Nat) (stops canv by' : Int32) : Nat → Int32 := mCast (fun k => hi 169 (3 + k)) (hi 165) (fun t => hi 169 (17 + t)) stops canv by' T
def mWinM (hi : svH) (C T Gn : Nat) (stops canv by' : Int32) (many : Nat) : Nat := mWin C Gn (hi 166) (hi 167) (hi 168) (hi 169 26) (mSumM hi T stops canv by') many
theorem mT.to {hi : svH} {C L T Gn : Nat} (hm : mT hi C L T Gn) {by' : Int32} : ∀ t, t < T → (if bt 0 t = true then by' else hi 169 (17 + t)) = nI (mTo 0 by' (fun t => hi 169 (17 + t)) t) ∧ mTo 0 by' (fun t => hi 169 (17 + t)) t < 6 := by
  intro t ht
  obtain ⟨j, hj, e⟩ := hm.2.2.2.2.2.2.2.2.2.2.2.2 t ht
  have := hm.2.2.2.2.2.1
  exact mTo_0 (likes := fun t => hi 169 (17 + t)) e (by omega)
theorem mT.to2 {hi : svH} {C L T Gn : Nat} (hm : mT hi C L T Gn) {canv by' : Int32} {z : Nat} (hz : by' = nI z) (hzC : z < C) : ∀ t, t < T → (if bt canv t = true then by' else hi 169 (17 + t)) = nI (mTo canv by' (fun t => hi 169 (17 + t)) t) ∧ mTo canv by' (fun t => hi 169 (17 + t)) t < 6 := by
  intro t ht
  obtain ⟨j, hj, e⟩ := hm.2.2.2.2.2.2.2.2.2.2.2.2 t ht
  have := hm.2.2.2.2.2.1
  unfold mTo
  split
  · rw [hz, nI_clamp (by omega)]; exact ⟨rfl, by omega⟩
  · show hi 169 (17 + t) = nI (hi 169 (17 + t)).toNatClampNeg ∧ (hi 169 (17 + t)).toNatClampNeg < 6
    rw [e, nI_clamp (by omega)]; exact ⟨rfl, by omega⟩
set_option maxRecDepth 20000 in
set_option maxHeartbeats 2000000 in
theorem t_X8_leftBy {l : Launch} {G : svG} {hi : svH} {hl : svL} {tw dr : Nat} {pm : Nat → Nat} {C L T Gn : Nat} (hm : mT hi C L T Gn) {stops : Int32} : svI l G yX8_leftBy mX8_leftBy rX8_leftBy [sv_rf G.1 164, .int stops] hi hl (sv_hr tw dr pm) (fun r a b c => mLeft C (mSumM hi T stops 0 0) L = r ∧ (∀ q, q ≠ 180 → q ≠ 181 → a q = hi q) ∧ hl = b ∧ sv_hr tw dr pm = c) := by
  obtain ⟨hCc, hLc, hT, hGn, hC2, hC6, hL1, hLC, hT8, hG6, hf, hs, hk⟩ := id hm
  refine sv_entry (by decide +kernel) rfl rfl (Nat.le_of_ble_eq_true rfl) (by simp [Value.category, sv_rf]) [some (sv_rf G.1 164), some (.int stops)] rfl ?_
  refine S_aload_0 (pc := 0) dX8_leftBy_0 ?_
  refine S_iload_1 (pc := 1) dX8_leftBy_1 ?_
  refine J_iconst (pc := 2) (0) rfl dX8_leftBy_2 ?_
  refine J_iconst (pc := 3) (0) rfl dX8_leftBy_3 ?_
  refine caX8_169 (pc := 4) (t_X8_tries (l := l) (G := G) hm hm.to) sh_164 (Nat.le_of_ble_eq_true rfl) ⟨rfl, rfl, ⟨by decide, by decide⟩, by decide, by decide⟩ dX8_leftBy_4 (fun a4 b4 c4 p4 => ?_)
  obtain ⟨i1, i2, rfl, rfl⟩ := p4
  have hm2 : mT a4 C L T Gn := hm.keep (fun q h _ => i1 q h)
  have eL : a4 164 1 = nI L := hm2.2.1
  refine S_aload_0 (pc := 7) dX8_leftBy_7 ?_
  refine S_aload_0 (pc := 8) dX8_leftBy_8 ?_
  refine fgX8_13 (pc := 9) sh_164 dX8_leftBy_9 ?_
  refine caX8_173 (pc := 12) (by rw [eL]; exact t_X8_whoIsLeft (l := l) (G := G) hm2 hLC) sh_164 (Nat.le_of_ble_eq_true rfl) ⟨rfl, rfl, ⟨by decide, by decide⟩, by decide, by decide⟩ dX8_leftBy_12 (fun r12 a12 b12 c12 p12 => ?_)
  obtain ⟨rfl, rfl, rfl, rfl⟩ := p12
  exact J_ireturn (pc := 15) dX8_leftBy_15 rfl rfl ⟨_, rfl, rfl, ⟨(mLeft_congr (fun k hk => i2 k (by omega)) L).symm, fun q h1 _ => i1 q h1, rfl, rfl⟩⟩
theorem mBack_off {p f s : Nat → Int32} {g left : Int32} {n : Nat} : mBack p f s g left n = mBack p f s g left n := rfl
set_option maxRecDepth 20000 in
set_option maxHeartbeats 2000000 in
theorem t_X8_winnerBy {l : Launch} {G : svG} {hi : svH} {hl : svL} {tw dr : Nat} {pm : Nat → Nat} {C L T Gn : Nat} (hm : mT hi C L T Gn) {stops : Int32} : svI l G yX8_winnerBy mX8_winnerBy rX8_winnerBy [sv_rf G.1 164, .int stops] hi hl (sv_hr tw dr pm) (fun r a b c => nI (mWinM hi C T Gn stops 0 0 L) = r ∧ (∀ q, q ≠ 180 → q ≠ 181 → a q = hi q) ∧ hl = b ∧ sv_hr tw dr pm = c) := by
  obtain ⟨hCc, hLc, hT, hGn, hC2, hC6, hL1, hLC, hT8, hG6, hf, hs, hk⟩ := id hm
  refine sv_entry (by decide +kernel) rfl rfl (Nat.le_of_ble_eq_true rfl) (by simp [Value.category, sv_rf]) [some (sv_rf G.1 164), some (.int stops)] rfl ?_
  refine S_aload_0 (pc := 0) dX8_winnerBy_0 ?_
  refine S_iload_1 (pc := 1) dX8_winnerBy_1 ?_
  refine J_iconst (pc := 2) (0) rfl dX8_winnerBy_2 ?_
  refine J_iconst (pc := 3) (0) rfl dX8_winnerBy_3 ?_
  refine caX8_169 (pc := 4) (t_X8_tries (l := l) (G := G) hm hm.to) sh_164 (Nat.le_of_ble_eq_true rfl) ⟨rfl, rfl, ⟨by decide, by decide⟩, by decide, by decide⟩ dX8_winnerBy_4 (fun a4 b4 c4 p4 => ?_)
  obtain ⟨i1, i2, rfl, rfl⟩ := p4
  have hm2 : mT a4 C L T Gn := hm.keep (fun q h _ => i1 q h)
  have eL : a4 164 1 = nI L := hm2.2.1
  refine S_aload_0 (pc := 7) dX8_winnerBy_7 ?_
  refine S_aload_0 (pc := 8) dX8_winnerBy_8 ?_
  refine S_aload_0 (pc := 9) dX8_winnerBy_9 ?_
  refine fgX8_13 (pc := 10) sh_164 dX8_winnerBy_10 ?_
  refine caX8_173 (pc := 13) (by rw [eL]; exact t_X8_whoIsLeft (l := l) (G := G) hm2 hLC) sh_164 (Nat.le_of_ble_eq_true rfl) ⟨rfl, rfl, ⟨by decide, by decide⟩, by decide, by decide⟩ dX8_winnerBy_13 (fun r13 a13 b13 c13 p13 => ?_)
  obtain ⟨rfl, rfl, rfl, rfl⟩ := p13
  refine caX8_176 (pc := 16) (t_X8_winnerOf (l := l) (G := G) hm2 (setOk_left (by omega) hC6 (by omega))) sh_164 (Nat.le_of_ble_eq_true rfl) ⟨rfl, rfl, ⟨by decide, by decide⟩, by decide, by decide⟩ dX8_winnerBy_16 (fun r16 a16 b16 c16 p16 => ?_)
  obtain ⟨rfl, j1, rfl, rfl⟩ := p16
  exact J_ireturn (pc := 19) dX8_winnerBy_19 rfl rfl ⟨_, rfl, rfl, ⟨by
      unfold mWinM mWin mSumM
      rw [mLeft_congr (g := mCast (fun k => hi 169 (3 + k)) (hi 165) (fun t => hi 169 (17 + t)) stops 0 0 T) (fun k hk => i2 k (by omega)) L]
      rw [i1 166 (by decide), i1 167 (by decide), i1 168 (by decide), i1 169 (by decide)], fun q h1 h2 => (j1 q h2).trans (i1 q h1), rfl, rfl⟩⟩
set_option maxRecDepth 20000 in
set_option maxHeartbeats 2000000 in
theorem t_X8_train {l : Launch} {G : svG} {hi : svH} {hl : svL} {tw dr : Nat} {pm : Nat → Nat} {C L T Gn : Nat} (hm : mT hi C L T Gn) {x what : Int32} : svIp l G yX8_train mX8_train rX8_train [sv_rf G.1 164, .int x, .int what] hi hl (sv_hr tw dr pm) (fTrain T (fun t => hi 169 (9 + t)) (hi 165) (fun t => hi 169 (17 + t)) (hi 169 25) x what) := by
  obtain ⟨hCc, hLc, hT, hGn, hC2, hC6, hL1, hLC, hT8, hG6, hf, hs, hk⟩ := id hm
  refine sv_entry (by decide +kernel) rfl rfl (Nat.le_of_ble_eq_true rfl) (by simp [Value.category, sv_rf]) [some (sv_rf G.1 164), some (.int x), some (.int what)] rfl ?_
  refine S_aload_0 (pc := 0) dX8_train_0 ?_
  refine S_iload_1 (pc := 1) dX8_train_1 ?_
  refine caX8_179 (pc := 2) (t_X8_isTrain_n (l := l) (G := G) hm) sh_164 (Nat.le_of_ble_eq_true rfl) ⟨rfl, rfl, ⟨by decide, by decide⟩, by decide, by decide⟩ dX8_train_2 (fun r2 a2 b2 c2 p2 => ?_)
  obtain ⟨rfl, rfl, rfl, rfl⟩ := p2
  refine J_if_ne_b (pc := 5) 10 dX8_train_5 (by decide) (fun h5 => ?_) (fun h5 => ?_)
  · obtain ⟨j, hj, rfl⟩ := sv_ix h5 (by omega)
    refine S_iload_2 (pc := 10) dX8_train_10 ?_
    rcases sv_sw4 what with rfl | rfl | rfl | rfl | ⟨hne, hsw⟩
    · refine J_tableIn (pc := 11) 40 dX8_train_11 (by decide) (by decide) rfl (by decide) ?_
      refine S_aload_0 (pc := 40) dX8_train_40 ?_
      refine fgX8_29 (pc := 41) sh_164 hv_164_8 dX8_train_41 ?_
      refine J_bipush (pc := 44) (9) rfl dX8_train_44 ?_
      refine S_iload_1 (pc := 46) dX8_train_46 ?_
      refine J_iadd (pc := 47) dX8_train_47 ?_
      refine J_iald_n (pc := 48) (9 + j) sh_169 (by rw [show (9 : Int32) = nI 9 from rfl, nI_add]) (by omega) (by decide) dX8_train_48 ?_
      exact J_ireturn (pc := 49) dX8_train_49 rfl rfl ⟨_, rfl, rfl, ⟨by unfold fTrain; first | (rw [if_neg h5]) | (rw [if_pos ⟨nI_pos' (by omega), nI_lt hj (by omega)⟩, nI_clamp (by omega)]; first | rfl | (simp [sv_b_t h72]; done) | (simp [sv_b_f h72]; done) | (simp [hne]; done)), rfl, rfl, rfl⟩⟩
    · refine J_tableIn (pc := 11) 50 dX8_train_11 (by decide) (by decide) rfl (by decide) ?_
      refine S_aload_0 (pc := 50) dX8_train_50 ?_
      refine fgX8_16 (pc := 51) sh_164 hv_164_3 dX8_train_51 ?_
      refine S_iload_1 (pc := 54) dX8_train_54 ?_
      refine J_iald_n (pc := 55) j sh_165 rfl (by omega) (by decide) dX8_train_55 ?_
      exact J_ireturn (pc := 56) dX8_train_56 rfl rfl ⟨_, rfl, rfl, ⟨by unfold fTrain; first | (rw [if_neg h5]) | (rw [if_pos ⟨nI_pos' (by omega), nI_lt hj (by omega)⟩, nI_clamp (by omega)]; first | rfl | (simp [sv_b_t h72]; done) | (simp [sv_b_f h72]; done) | (simp [hne]; done)), rfl, rfl, rfl⟩⟩
    · refine J_tableIn (pc := 11) 57 dX8_train_11 (by decide) (by decide) rfl (by decide) ?_
      refine S_aload_0 (pc := 57) dX8_train_57 ?_
      refine fgX8_29 (pc := 58) sh_164 hv_164_8 dX8_train_58 ?_
      refine J_bipush (pc := 61) (17) rfl dX8_train_61 ?_
      refine S_iload_1 (pc := 63) dX8_train_63 ?_
      refine J_iadd (pc := 64) dX8_train_64 ?_
      refine J_iald_n (pc := 65) (17 + j) sh_169 (by rw [show (17 : Int32) = nI 17 from rfl, nI_add]) (by omega) (by decide) dX8_train_65 ?_
      exact J_ireturn (pc := 66) dX8_train_66 rfl rfl ⟨_, rfl, rfl, ⟨by unfold fTrain; first | (rw [if_neg h5]) | (rw [if_pos ⟨nI_pos' (by omega), nI_lt hj (by omega)⟩, nI_clamp (by omega)]; first | rfl | (simp [sv_b_t h72]; done) | (simp [sv_b_f h72]; done) | (simp [hne]; done)), rfl, rfl, rfl⟩⟩
    · refine J_tableIn (pc := 11) 67 dX8_train_11 (by decide) (by decide) rfl (by decide) ?_
      refine S_aload_0 (pc := 67) dX8_train_67 ?_
      refine S_iload_1 (pc := 68) dX8_train_68 ?_
      refine caX8_163 (pc := 69) (t_X8_isStopped_x (l := l) (G := G) j rfl (by omega)) sh_164 (Nat.le_of_ble_eq_true rfl) ⟨rfl, rfl, ⟨by decide, by decide⟩, by decide, by decide⟩ dX8_train_69 (fun r69 a69 b69 c69 p69 => ?_)
      obtain ⟨rfl, rfl, rfl, rfl⟩ := p69
      refine J_if_eq_b (pc := 72) 79 dX8_train_72 (by decide) (fun h72 => ?_) (fun h72 => ?_)
      · refine J_iconst (pc := 79) (0) rfl dX8_train_79 ?_
        exact J_ireturn (pc := 80) dX8_train_80 rfl rfl ⟨_, rfl, rfl, ⟨by unfold fTrain; first | (rw [if_neg h5]) | (rw [if_pos ⟨nI_pos' (by omega), nI_lt hj (by omega)⟩, nI_clamp (by omega)]; first | rfl | (simp [sv_b_t h72]; done) | (simp [sv_b_f h72]; done) | (simp [hne]; done)), rfl, rfl, rfl⟩⟩
      · refine J_iconst (pc := 75) (1) rfl dX8_train_75 ?_
        refine J_goto (pc := 76) 80 dX8_train_76 (by decide) ?_
        exact J_ireturn (pc := 80) dX8_train_80 rfl rfl ⟨_, rfl, rfl, ⟨by unfold fTrain; first | (rw [if_neg h5]) | (rw [if_pos ⟨nI_pos' (by omega), nI_lt hj (by omega)⟩, nI_clamp (by omega)]; first | rfl | (simp [sv_b_t h72]; done) | (simp [sv_b_f h72]; done) | (simp [hne]; done)), rfl, rfl, rfl⟩⟩
    · refine J_tableOut (pc := 11) 81 dX8_train_11 hsw (by decide) ?_
      refine J_iconst (pc := 81) (-1) rfl dX8_train_81 ?_
      exact J_ireturn (pc := 82) dX8_train_82 rfl rfl ⟨_, rfl, rfl, ⟨by unfold fTrain; first | (rw [if_neg h5]) | (rw [if_pos ⟨nI_pos' (by omega), nI_lt hj (by omega)⟩, nI_clamp (by omega)]; first | rfl | (simp [sv_b_t h72]; done) | (simp [sv_b_f h72]; done) | (simp [hne]; done)), rfl, rfl, rfl⟩⟩
  · refine J_iconst (pc := 8) (-1) rfl dX8_train_8 ?_
    exact J_ireturn (pc := 9) dX8_train_9 rfl rfl ⟨_, rfl, rfl, ⟨by unfold fTrain; first | (rw [if_neg h5]) | (rw [if_pos ⟨nI_pos' (by omega), nI_lt hj (by omega)⟩, nI_clamp (by omega)]; first | rfl | (simp [sv_b_t h72]; done) | (simp [sv_b_f h72]; done) | (simp [hne]; done)), rfl, rfl, rfl⟩⟩
set_option maxRecDepth 20000 in
set_option maxHeartbeats 2000000 in
theorem t_X8_group {l : Launch} {G : svG} {hi : svH} {hl : svL} {tw dr : Nat} {pm : Nat → Nat} {C L T Gn : Nat} (hm : mT hi C L T Gn) {x what : Int32} : svIp l G yX8_group mX8_group rX8_group [sv_rf G.1 164, .int x, .int what] hi hl (sv_hr tw dr pm) (fGroup Gn (hi 166) (hi 167) (hi 168) (hi 169 26) x what) := by
  obtain ⟨hCc, hLc, hT, hGn, hC2, hC6, hL1, hLC, hT8, hG6, hf, hs, hk⟩ := id hm
  refine sv_entry (by decide +kernel) rfl rfl (Nat.le_of_ble_eq_true rfl) (by simp [Value.category, sv_rf]) [some (sv_rf G.1 164), some (.int x), some (.int what)] rfl ?_
  refine S_aload_0 (pc := 0) dX8_group_0 ?_
  refine S_iload_1 (pc := 1) dX8_group_1 ?_
  refine caX8_182 (pc := 2) (t_X8_isGroup_n (l := l) (G := G) hm) sh_164 (Nat.le_of_ble_eq_true rfl) ⟨rfl, rfl, ⟨by decide, by decide⟩, by decide, by decide⟩ dX8_group_2 (fun r2 a2 b2 c2 p2 => ?_)
  obtain ⟨rfl, rfl, rfl, rfl⟩ := p2
  refine J_if_ne_b (pc := 5) 10 dX8_group_5 (by decide) (fun h5 => ?_) (fun h5 => ?_)
  · obtain ⟨j, hj, rfl⟩ := sv_ix h5 (by omega)
    refine S_iload_2 (pc := 10) dX8_group_10 ?_
    rcases sv_sw4 what with rfl | rfl | rfl | rfl | ⟨hne, hsw⟩
    · refine J_tableIn (pc := 11) 40 dX8_group_11 (by decide) (by decide) rfl (by decide) ?_
      refine S_aload_0 (pc := 40) dX8_group_40 ?_
      refine fgX8_20 (pc := 41) sh_164 hv_164_5 dX8_group_41 ?_
      refine S_iload_1 (pc := 44) dX8_group_44 ?_
      refine J_iald_n (pc := 45) j sh_166 rfl (by omega) (by decide) dX8_group_45 ?_
      exact J_ireturn (pc := 46) dX8_group_46 rfl rfl ⟨_, rfl, rfl, ⟨by unfold fGroup; first | (rw [if_neg h5]) | (rw [if_pos ⟨nI_pos' (by omega), nI_lt hj (by omega)⟩, nI_clamp (by omega)]; first | rfl | (simp [sv_b_t h72]; done) | (simp [sv_b_f h72]; done) | (simp [hne]; done)), rfl, rfl, rfl⟩⟩
    · refine J_tableIn (pc := 11) 47 dX8_group_11 (by decide) (by decide) rfl (by decide) ?_
      refine S_aload_0 (pc := 47) dX8_group_47 ?_
      refine fgX8_23 (pc := 48) sh_164 hv_164_6 dX8_group_48 ?_
      refine S_iload_1 (pc := 51) dX8_group_51 ?_
      refine J_iald_n (pc := 52) j sh_167 rfl (by omega) (by decide) dX8_group_52 ?_
      exact J_ireturn (pc := 53) dX8_group_53 rfl rfl ⟨_, rfl, rfl, ⟨by unfold fGroup; first | (rw [if_neg h5]) | (rw [if_pos ⟨nI_pos' (by omega), nI_lt hj (by omega)⟩, nI_clamp (by omega)]; first | rfl | (simp [sv_b_t h72]; done) | (simp [sv_b_f h72]; done) | (simp [hne]; done)), rfl, rfl, rfl⟩⟩
    · refine J_tableIn (pc := 11) 54 dX8_group_11 (by decide) (by decide) rfl (by decide) ?_
      refine S_aload_0 (pc := 54) dX8_group_54 ?_
      refine fgX8_26 (pc := 55) sh_164 hv_164_7 dX8_group_55 ?_
      refine S_iload_1 (pc := 58) dX8_group_58 ?_
      refine J_iald_n (pc := 59) j sh_168 rfl (by omega) (by decide) dX8_group_59 ?_
      exact J_ireturn (pc := 60) dX8_group_60 rfl rfl ⟨_, rfl, rfl, ⟨by unfold fGroup; first | (rw [if_neg h5]) | (rw [if_pos ⟨nI_pos' (by omega), nI_lt hj (by omega)⟩, nI_clamp (by omega)]; first | rfl | (simp [sv_b_t h72]; done) | (simp [sv_b_f h72]; done) | (simp [hne]; done)), rfl, rfl, rfl⟩⟩
    · refine J_tableIn (pc := 11) 61 dX8_group_11 (by decide) (by decide) rfl (by decide) ?_
      refine S_aload_0 (pc := 61) dX8_group_61 ?_
      refine fgX8_29 (pc := 62) sh_164 hv_164_8 dX8_group_62 ?_
      refine J_bipush (pc := 65) (26) rfl dX8_group_65 ?_
      refine J_iald_n (pc := 67) 26 sh_169 rfl (by decide) (by decide) dX8_group_67 ?_
      refine S_iload_1 (pc := 68) dX8_group_68 ?_
      refine caX8_159 (pc := 69) (t_X8_has_x (l := l) (G := G) j rfl (by omega)) (Nat.le_of_ble_eq_true rfl) ⟨rfl, rfl, ⟨by decide, by decide⟩, by decide, by decide⟩ dX8_group_69 (fun r69 a69 b69 c69 p69 => ?_)
      obtain ⟨rfl, rfl, rfl, rfl⟩ := p69
      refine J_if_eq_b (pc := 72) 79 dX8_group_72 (by decide) (fun h72 => ?_) (fun h72 => ?_)
      · refine J_iconst (pc := 79) (0) rfl dX8_group_79 ?_
        exact J_ireturn (pc := 80) dX8_group_80 rfl rfl ⟨_, rfl, rfl, ⟨by unfold fGroup; first | (rw [if_neg h5]) | (rw [if_pos ⟨nI_pos' (by omega), nI_lt hj (by omega)⟩, nI_clamp (by omega)]; first | rfl | (simp [sv_b_t h72]; done) | (simp [sv_b_f h72]; done) | (simp [hne]; done)), rfl, rfl, rfl⟩⟩
      · refine J_iconst (pc := 75) (1) rfl dX8_group_75 ?_
        refine J_goto (pc := 76) 80 dX8_group_76 (by decide) ?_
        exact J_ireturn (pc := 80) dX8_group_80 rfl rfl ⟨_, rfl, rfl, ⟨by unfold fGroup; first | (rw [if_neg h5]) | (rw [if_pos ⟨nI_pos' (by omega), nI_lt hj (by omega)⟩, nI_clamp (by omega)]; first | rfl | (simp [sv_b_t h72]; done) | (simp [sv_b_f h72]; done) | (simp [hne]; done)), rfl, rfl, rfl⟩⟩
    · refine J_tableOut (pc := 11) 81 dX8_group_11 hsw (by decide) ?_
      refine J_iconst (pc := 81) (-1) rfl dX8_group_81 ?_
      exact J_ireturn (pc := 82) dX8_group_82 rfl rfl ⟨_, rfl, rfl, ⟨by unfold fGroup; first | (rw [if_neg h5]) | (rw [if_pos ⟨nI_pos' (by omega), nI_lt hj (by omega)⟩, nI_clamp (by omega)]; first | rfl | (simp [sv_b_t h72]; done) | (simp [sv_b_f h72]; done) | (simp [hne]; done)), rfl, rfl, rfl⟩⟩
  · refine J_iconst (pc := 8) (-1) rfl dX8_group_8 ?_
    exact J_ireturn (pc := 9) dX8_group_9 rfl rfl ⟨_, rfl, rfl, ⟨by unfold fGroup; first | (rw [if_neg h5]) | (rw [if_pos ⟨nI_pos' (by omega), nI_lt hj (by omega)⟩, nI_clamp (by omega)]; first | rfl | (simp [sv_b_t h72]; done) | (simp [sv_b_f h72]; done) | (simp [hne]; done)), rfl, rfl, rfl⟩⟩
set_option maxRecDepth 20000 in
set_option maxHeartbeats 2000000 in
theorem t_X8_count {l : Launch} {G : svG} {hi : svH} {hl : svL} {tw dr : Nat} {pm : Nat → Nat} {C L T Gn : Nat} (hm : mT hi C L T Gn) {what : Int32} : svIp l G yX8_count mX8_count rX8_count [sv_rf G.1 164, .int what] hi hl (sv_hr tw dr pm) (fCount C L T Gn (hi 164 11) (hi 169 27) (hi 164 15) what) := by
  obtain ⟨hCc, hLc, hT, hGn, hC2, hC6, hL1, hLC, hT8, hG6, hf, hs, hk⟩ := id hm
  refine sv_entry (by decide +kernel) rfl rfl (Nat.le_of_ble_eq_true rfl) (by simp [Value.category, sv_rf]) [some (sv_rf G.1 164), some (.int what)] rfl ?_
  refine S_iload_1 (pc := 0) dX8_count_0 ?_
  rcases sv_sw7 what with rfl | rfl | rfl | rfl | rfl | rfl | rfl | ⟨hne, hsw⟩
  · refine J_tableIn (pc := 1) 44 dX8_count_1 (by decide) (by decide) rfl (by decide) ?_
    refine S_aload_0 (pc := 44) dX8_count_44 ?_
    refine fgX8_7 (pc := 45) sh_164 dX8_count_45 ?_
    exact J_ireturn (pc := 48) dX8_count_48 rfl rfl ⟨_, rfl, rfl, ⟨by unfold fCount; first | rfl | exact hCc.symm | exact hLc.symm | exact hT.symm | exact hGn.symm | simp [hne], rfl, rfl, rfl⟩⟩
  · refine J_tableIn (pc := 1) 49 dX8_count_1 (by decide) (by decide) rfl (by decide) ?_
    refine S_aload_0 (pc := 49) dX8_count_49 ?_
    refine fgX8_13 (pc := 50) sh_164 dX8_count_50 ?_
    exact J_ireturn (pc := 53) dX8_count_53 rfl rfl ⟨_, rfl, rfl, ⟨by unfold fCount; first | rfl | exact hCc.symm | exact hLc.symm | exact hT.symm | exact hGn.symm | simp [hne], rfl, rfl, rfl⟩⟩
  · refine J_tableIn (pc := 1) 54 dX8_count_1 (by decide) (by decide) rfl (by decide) ?_
    refine S_aload_0 (pc := 54) dX8_count_54 ?_
    refine fgX8_73 (pc := 55) sh_164 dX8_count_55 ?_
    exact J_ireturn (pc := 58) dX8_count_58 rfl rfl ⟨_, rfl, rfl, ⟨by unfold fCount; first | rfl | exact hCc.symm | exact hLc.symm | exact hT.symm | exact hGn.symm | simp [hne], rfl, rfl, rfl⟩⟩
  · refine J_tableIn (pc := 1) 59 dX8_count_1 (by decide) (by decide) rfl (by decide) ?_
    refine S_aload_0 (pc := 59) dX8_count_59 ?_
    refine fgX8_76 (pc := 60) sh_164 dX8_count_60 ?_
    exact J_ireturn (pc := 63) dX8_count_63 rfl rfl ⟨_, rfl, rfl, ⟨by unfold fCount; first | rfl | exact hCc.symm | exact hLc.symm | exact hT.symm | exact hGn.symm | simp [hne], rfl, rfl, rfl⟩⟩
  · refine J_tableIn (pc := 1) 64 dX8_count_1 (by decide) (by decide) rfl (by decide) ?_
    refine S_aload_0 (pc := 64) dX8_count_64 ?_
    refine fgX8_156 (pc := 65) sh_164 dX8_count_65 ?_
    exact J_ireturn (pc := 68) dX8_count_68 rfl rfl ⟨_, rfl, rfl, ⟨by unfold fCount; first | rfl | exact hCc.symm | exact hLc.symm | exact hT.symm | exact hGn.symm | simp [hne], rfl, rfl, rfl⟩⟩
  · refine J_tableIn (pc := 1) 69 dX8_count_1 (by decide) (by decide) rfl (by decide) ?_
    refine S_aload_0 (pc := 69) dX8_count_69 ?_
    refine fgX8_29 (pc := 70) sh_164 hv_164_8 dX8_count_70 ?_
    refine J_bipush (pc := 73) (27) rfl dX8_count_73 ?_
    refine J_iald_n (pc := 75) 27 sh_169 rfl (by decide) (by decide) dX8_count_75 ?_
    exact J_ireturn (pc := 76) dX8_count_76 rfl rfl ⟨_, rfl, rfl, ⟨by unfold fCount; first | rfl | exact hCc.symm | exact hLc.symm | exact hT.symm | exact hGn.symm | simp [hne], rfl, rfl, rfl⟩⟩
  · refine J_tableIn (pc := 1) 77 dX8_count_1 (by decide) (by decide) rfl (by decide) ?_
    refine S_aload_0 (pc := 77) dX8_count_77 ?_
    refine fgX8_79 (pc := 78) sh_164 dX8_count_78 ?_
    exact J_ireturn (pc := 81) dX8_count_81 rfl rfl ⟨_, rfl, rfl, ⟨by unfold fCount; first | rfl | exact hCc.symm | exact hLc.symm | exact hT.symm | exact hGn.symm | simp [hne], rfl, rfl, rfl⟩⟩
  · refine J_tableOut (pc := 1) 82 dX8_count_1 hsw (by decide) ?_
    refine J_iconst (pc := 82) (-1) rfl dX8_count_82 ?_
    exact J_ireturn (pc := 83) dX8_count_83 rfl rfl ⟨_, rfl, rfl, ⟨by unfold fCount; first | rfl | exact hCc.symm | exact hLc.symm | exact hT.symm | exact hGn.symm | simp [hne], rfl, rfl, rfl⟩⟩
set_option maxRecDepth 20000 in
set_option maxHeartbeats 2000000 in
theorem t_X8_trace {l : Launch} {G : svG} {hi : svH} {hl : svL} {tw dr : Nat} {pm : Nat → Nat} : svW l G yX8_trace mX8_trace rX8_trace [sv_rf G.1 164] hi hl (sv_hr tw dr pm) (fun r a b c => hl 164 13 = r ∧ hi = a ∧ hl = b ∧ sv_hr tw dr pm = c) := by
  refine sv_entry (by decide +kernel) rfl rfl (Nat.le_of_ble_eq_true rfl) (by simp [Value.category, sv_rf]) [some (sv_rf G.1 164)] rfl ?_
  refine S_aload_0 (pc := 0) dX8_trace_0 ?_
  refine fgX8_227 (pc := 1) sh_164 dX8_trace_1 ?_
  exact J_lreturn (pc := 4) dX8_trace_4 rfl ⟨_, rfl, rfl, ⟨rfl, rfl, rfl, rfl⟩⟩
set_option maxRecDepth 20000 in
set_option maxHeartbeats 2000000 in
theorem t_X8_clear {l : Launch} {G : svG} {hi : svH} {hl : svL} {tw dr : Nat} {pm : Nat → Nat} : svIh l G yX8_clear mX8_clear rX8_clear [sv_rf G.1 164] hi hl (sv_hr tw dr pm) (hi 164 15) (sv_u2 hi 164 15 0) := by
  refine sv_entry (by decide +kernel) rfl rfl (Nat.le_of_ble_eq_true rfl) (by simp [Value.category, sv_rf]) [some (sv_rf G.1 164), none] rfl ?_
  refine S_aload_0 (pc := 0) dX8_clear_0 ?_
  refine fgX8_79 (pc := 1) sh_164 dX8_clear_1 ?_
  refine S_istore_1 (pc := 4) dX8_clear_4 (by decide) ?_
  refine S_aload_0 (pc := 5) dX8_clear_5 ?_
  refine J_iconst (pc := 6) (0) rfl dX8_clear_6 ?_
  refine fpX8_79 (pc := 7) sh_164 dX8_clear_7 ?_
  refine S_iload_1 (pc := 10) dX8_clear_10 ?_
  exact J_ireturn (pc := 11) dX8_clear_11 rfl rfl ⟨_, rfl, rfl, ⟨rfl, rfl, rfl, rfl⟩⟩
set_option maxRecDepth 20000 in
set_option maxHeartbeats 2000000 in
theorem t_X8_forget {l : Launch} {G : svG} {hi : svH} {hl : svL} {tw dr : Nat} {pm : Nat → Nat} : svIh l G yX8_forget mX8_forget rX8_forget [sv_rf G.1 164] hi hl (sv_hr tw dr pm) (hi 164 11) (sv_u2 hi 164 11 0) := by
  refine sv_entry (by decide +kernel) rfl rfl (Nat.le_of_ble_eq_true rfl) (by simp [Value.category, sv_rf]) [some (sv_rf G.1 164), none] rfl ?_
  refine S_aload_0 (pc := 0) dX8_forget_0 ?_
  refine fgX8_156 (pc := 1) sh_164 dX8_forget_1 ?_
  refine S_istore_1 (pc := 4) dX8_forget_4 (by decide) ?_
  refine S_aload_0 (pc := 5) dX8_forget_5 ?_
  refine J_iconst (pc := 6) (0) rfl dX8_forget_6 ?_
  refine fpX8_156 (pc := 7) sh_164 dX8_forget_7 ?_
  refine S_iload_1 (pc := 10) dX8_forget_10 ?_
  exact J_ireturn (pc := 11) dX8_forget_11 rfl rfl ⟨_, rfl, rfl, ⟨rfl, rfl, rfl, rfl⟩⟩
set_option maxRecDepth 20000 in
set_option maxHeartbeats 2000000 in
theorem t_X8_now {l : Launch} {G : svG} {hi : svH} {hl : svL} {tw dr : Nat} {pm : Nat → Nat} {C L T Gn : Nat} (hm : mT hi C L T Gn) {what : Int32} : svI l G yX8_now mX8_now rX8_now [sv_rf G.1 164, .int what] hi hl (sv_hr tw dr pm) (fun r a b c => fNow (hi 169 0) (hi 169 1) (hi 169 2) (mLeft C (mSumM hi T 0 0 0) L) (mLeft C (mSumM hi T (mOpen (hi 169 25) (hi 169 0) (fun t => hi 169 (9 + t)) T) 0 0) L) (nI (mWinM hi C T Gn 0 0 0 L)) (nI (mWinM hi C T Gn (mOpen (hi 169 25) (hi 169 0) (fun t => hi 169 (9 + t)) T) 0 0 L)) what = r ∧ (∀ q, q ≠ 180 → q ≠ 181 → a q = hi q) ∧ hl = b ∧ sv_hr tw dr pm = c) := by
  obtain ⟨hCc, hLc, hT, hGn, hC2, hC6, hL1, hLC, hT8, hG6, hf, hs, hk⟩ := id hm
  refine sv_entry (by decide +kernel) rfl rfl (Nat.le_of_ble_eq_true rfl) (by simp [Value.category, sv_rf]) [some (sv_rf G.1 164), some (.int what)] rfl ?_
  refine S_iload_1 (pc := 0) dX8_now_0 ?_
  rcases sv_sw7 what with rfl | rfl | rfl | rfl | rfl | rfl | rfl | ⟨hne, hsw⟩
  · refine J_tableIn (pc := 1) 44 dX8_now_1 (by decide) (by decide) rfl (by decide) ?_
    refine S_aload_0 (pc := 44) dX8_now_44 ?_
    refine fgX8_29 (pc := 45) sh_164 hv_164_8 dX8_now_45 ?_
    refine J_iconst (pc := 48) (0) rfl dX8_now_48 ?_
    refine J_iald_n (pc := 49) 0 sh_169 rfl (by decide) (by decide) dX8_now_49 ?_
    exact J_ireturn (pc := 50) dX8_now_50 rfl rfl ⟨_, rfl, rfl, ⟨by unfold fNow; first | rfl | simp [hne], by first | exact i1 | exact fun _ _ _ => rfl, rfl, rfl⟩⟩
  · refine J_tableIn (pc := 1) 51 dX8_now_1 (by decide) (by decide) rfl (by decide) ?_
    refine S_aload_0 (pc := 51) dX8_now_51 ?_
    refine fgX8_29 (pc := 52) sh_164 hv_164_8 dX8_now_52 ?_
    refine J_iconst (pc := 55) (1) rfl dX8_now_55 ?_
    refine J_iald_n (pc := 56) 1 sh_169 rfl (by decide) (by decide) dX8_now_56 ?_
    exact J_ireturn (pc := 57) dX8_now_57 rfl rfl ⟨_, rfl, rfl, ⟨by unfold fNow; first | rfl | simp [hne], by first | exact i1 | exact fun _ _ _ => rfl, rfl, rfl⟩⟩
  · refine J_tableIn (pc := 1) 58 dX8_now_1 (by decide) (by decide) rfl (by decide) ?_
    refine S_aload_0 (pc := 58) dX8_now_58 ?_
    refine fgX8_29 (pc := 59) sh_164 hv_164_8 dX8_now_59 ?_
    refine J_iconst (pc := 62) (2) rfl dX8_now_62 ?_
    refine J_iald_n (pc := 63) 2 sh_169 rfl (by decide) (by decide) dX8_now_63 ?_
    exact J_ireturn (pc := 64) dX8_now_64 rfl rfl ⟨_, rfl, rfl, ⟨by unfold fNow; first | rfl | simp [hne], by first | exact i1 | exact fun _ _ _ => rfl, rfl, rfl⟩⟩
  · refine J_tableIn (pc := 1) 65 dX8_now_1 (by decide) (by decide) rfl (by decide) ?_
    refine S_aload_0 (pc := 65) dX8_now_65 ?_
    refine J_iconst (pc := 66) (0) rfl dX8_now_66 ?_
    refine caX8_198 (pc := 67) (t_X8_leftBy (l := l) (G := G) hm) sh_164 (Nat.le_of_ble_eq_true rfl) ⟨rfl, rfl, ⟨by decide, by decide⟩, by decide, by decide⟩ dX8_now_67 (fun r67 a67 b67 c67 p67 => ?_)
    obtain ⟨rfl, i1, rfl, rfl⟩ := p67
    exact J_ireturn (pc := 70) dX8_now_70 rfl rfl ⟨_, rfl, rfl, ⟨by unfold fNow; first | rfl | simp [hne], by first | exact i1 | exact fun _ _ _ => rfl, rfl, rfl⟩⟩
  · refine J_tableIn (pc := 1) 71 dX8_now_1 (by decide) (by decide) rfl (by decide) ?_
    refine S_aload_0 (pc := 71) dX8_now_71 ?_
    refine S_aload_0 (pc := 72) dX8_now_72 ?_
    refine caX8_188 (pc := 73) (t_X8_toCome (l := l) (G := G) hm) sh_164 (Nat.le_of_ble_eq_true rfl) ⟨rfl, rfl, ⟨by decide, by decide⟩, by decide, by decide⟩ dX8_now_73 (fun r73 a73 b73 c73 p73 => ?_)
    obtain ⟨rfl, rfl, rfl, rfl⟩ := p73
    refine caX8_198 (pc := 76) (t_X8_leftBy (l := l) (G := G) hm) sh_164 (Nat.le_of_ble_eq_true rfl) ⟨rfl, rfl, ⟨by decide, by decide⟩, by decide, by decide⟩ dX8_now_76 (fun r76 a76 b76 c76 p76 => ?_)
    obtain ⟨rfl, i1, rfl, rfl⟩ := p76
    exact J_ireturn (pc := 79) dX8_now_79 rfl rfl ⟨_, rfl, rfl, ⟨by unfold fNow; first | rfl | simp [hne], by first | exact i1 | exact fun _ _ _ => rfl, rfl, rfl⟩⟩
  · refine J_tableIn (pc := 1) 80 dX8_now_1 (by decide) (by decide) rfl (by decide) ?_
    refine S_aload_0 (pc := 80) dX8_now_80 ?_
    refine J_iconst (pc := 81) (0) rfl dX8_now_81 ?_
    refine caX8_201 (pc := 82) (t_X8_winnerBy (l := l) (G := G) hm) sh_164 (Nat.le_of_ble_eq_true rfl) ⟨rfl, rfl, ⟨by decide, by decide⟩, by decide, by decide⟩ dX8_now_82 (fun r82 a82 b82 c82 p82 => ?_)
    obtain ⟨rfl, i1, rfl, rfl⟩ := p82
    exact J_ireturn (pc := 85) dX8_now_85 rfl rfl ⟨_, rfl, rfl, ⟨by unfold fNow; first | rfl | simp [hne], by first | exact i1 | exact fun _ _ _ => rfl, rfl, rfl⟩⟩
  · refine J_tableIn (pc := 1) 86 dX8_now_1 (by decide) (by decide) rfl (by decide) ?_
    refine S_aload_0 (pc := 86) dX8_now_86 ?_
    refine S_aload_0 (pc := 87) dX8_now_87 ?_
    refine caX8_188 (pc := 88) (t_X8_toCome (l := l) (G := G) hm) sh_164 (Nat.le_of_ble_eq_true rfl) ⟨rfl, rfl, ⟨by decide, by decide⟩, by decide, by decide⟩ dX8_now_88 (fun r88 a88 b88 c88 p88 => ?_)
    obtain ⟨rfl, rfl, rfl, rfl⟩ := p88
    refine caX8_201 (pc := 91) (t_X8_winnerBy (l := l) (G := G) hm) sh_164 (Nat.le_of_ble_eq_true rfl) ⟨rfl, rfl, ⟨by decide, by decide⟩, by decide, by decide⟩ dX8_now_91 (fun r91 a91 b91 c91 p91 => ?_)
    obtain ⟨rfl, i1, rfl, rfl⟩ := p91
    exact J_ireturn (pc := 94) dX8_now_94 rfl rfl ⟨_, rfl, rfl, ⟨by unfold fNow; first | rfl | simp [hne], by first | exact i1 | exact fun _ _ _ => rfl, rfl, rfl⟩⟩
  · refine J_tableOut (pc := 1) 95 dX8_now_1 hsw (by decide) ?_
    refine J_iconst (pc := 95) (-1) rfl dX8_now_95 ?_
    exact J_ireturn (pc := 96) dX8_now_96 rfl rfl ⟨_, rfl, rfl, ⟨by unfold fNow; first | rfl | simp [hne], by first | exact i1 | exact fun _ _ _ => rfl, rfl, rfl⟩⟩
set_option maxRecDepth 20000 in
set_option maxHeartbeats 2000000 in
theorem t_X8_votes {l : Launch} {G : svG} {hi : svH} {hl : svL} {tw dr : Nat} {pm : Nat → Nat} {C L T Gn : Nat} (hm : mT hi C L T Gn) {x en : Int32} : svI l G yX8_votes mX8_votes rX8_votes [sv_rf G.1 164, .int x, .int en] hi hl (sv_hr tw dr pm) (fun r a b c => fVotes C (mSumM hi T 0 0 0) (mSumM hi T (mOpen (hi 169 25) (hi 169 0) (fun t => hi 169 (9 + t)) T) 0 0) x en = r ∧ (∀ q, q ≠ 180 → q ≠ 181 → a q = hi q) ∧ hl = b ∧ sv_hr tw dr pm = c) := by
  obtain ⟨hCc, hLc, hT, hGn, hC2, hC6, hL1, hLC, hT8, hG6, hf, hs, hk⟩ := id hm
  refine sv_entry (by decide +kernel) rfl rfl (Nat.le_of_ble_eq_true rfl) (by simp [Value.category, sv_rf]) [some (sv_rf G.1 164), some (.int x), some (.int en)] rfl ?_
  refine S_aload_0 (pc := 0) dX8_votes_0 ?_
  refine S_iload_1 (pc := 1) dX8_votes_1 ?_
  refine caX8_185 (pc := 2) (t_X8_isOne_n (l := l) (G := G) hm) sh_164 (Nat.le_of_ble_eq_true rfl) ⟨rfl, rfl, ⟨by decide, by decide⟩, by decide, by decide⟩ dX8_votes_2 (fun r2 a2 b2 c2 p2 => ?_)
  obtain ⟨rfl, rfl, rfl, rfl⟩ := p2
  refine J_if_eq_b (pc := 5) 17 dX8_votes_5 (by decide) (fun h5 => ?_) (fun h5 => ?_)
  · refine J_iconst (pc := 17) (-1) rfl dX8_votes_17 ?_
    exact J_ireturn (pc := 18) dX8_votes_18 rfl rfl ⟨_, rfl, rfl, ⟨by
        unfold fVotes
        first
        | (rw [if_pos (Or.inl h5)])
        | (rw [if_pos (Or.inr h14)])
        | (rw [if_neg (by simp only [not_or, Classical.not_not]; exact ⟨h5, by rcases h14 with rfl | rfl <;> decide⟩), nI_clamp (by omega)]
           rcases h14 with rfl | rfl
           · first | exact absurd rfl h21 | (rw [if_neg (by decide)]; exact (i2 j (by omega)).symm)
           · first | exact absurd h21 (by decide) | (rw [if_pos rfl]; exact (i2 j (by omega)).symm)), by first | exact (fun q h1 _ => i1 q h1) | exact fun _ _ _ => rfl, rfl, rfl⟩⟩
  · obtain ⟨j, hj, rfl⟩ := sv_ix h5 (by omega)
    refine S_iload_2 (pc := 8) dX8_votes_8 ?_
    refine J_iconst (pc := 9) (0) rfl dX8_votes_9 ?_
    refine J_iconst (pc := 10) (1) rfl dX8_votes_10 ?_
    refine caX8_69 (pc := 11) (t_X8_in_n (l := l) (G := G) (b := 2) 2 (by decide) rfl rfl) (Nat.le_of_ble_eq_true rfl) ⟨rfl, rfl, ⟨by decide, by decide⟩, by decide, by decide⟩ dX8_votes_11 (fun r11 a11 b11 c11 p11 => ?_)
    obtain ⟨rfl, rfl, rfl, rfl⟩ := p11
    refine J_if_ne_b (pc := 14) 19 dX8_votes_14 (by decide) (fun h14 => ?_) (fun h14 => ?_)
    · have h14 : en = 0 ∨ en = 1 := sv_bit01 h14
      refine S_aload_0 (pc := 19) dX8_votes_19 ?_
      refine S_iload_2 (pc := 20) dX8_votes_20 ?_
      refine J_if_ne (pc := 21) 28 dX8_votes_21 (by decide) (fun h21 => ?_) (fun h21 => ?_)
      · refine S_aload_0 (pc := 28) dX8_votes_28 ?_
        refine caX8_188 (pc := 29) (t_X8_toCome (l := l) (G := G) hm) sh_164 (Nat.le_of_ble_eq_true rfl) ⟨rfl, rfl, ⟨by decide, by decide⟩, by decide, by decide⟩ dX8_votes_29 (fun r29 a29 b29 c29 p29 => ?_)
        obtain ⟨rfl, rfl, rfl, rfl⟩ := p29
        refine J_iconst (pc := 32) (0) rfl dX8_votes_32 ?_
        refine J_iconst (pc := 33) (0) rfl dX8_votes_33 ?_
        refine caX8_169 (pc := 34) (t_X8_tries (l := l) (G := G) hm hm.to) sh_164 (Nat.le_of_ble_eq_true rfl) ⟨rfl, rfl, ⟨by decide, by decide⟩, by decide, by decide⟩ dX8_votes_34 (fun a34 b34 c34 p34 => ?_)
        obtain ⟨i1, i2, rfl, rfl⟩ := p34
        refine S_aload_0 (pc := 37) dX8_votes_37 ?_
        refine fgX8_63 (pc := 38) sh_164 hv_164_33 dX8_votes_38 ?_
        refine S_iload_1 (pc := 41) dX8_votes_41 ?_
        refine J_iald_n (pc := 42) j sh_180 rfl (by omega) (by decide) dX8_votes_42 ?_
        exact J_ireturn (pc := 43) dX8_votes_43 rfl rfl ⟨_, rfl, rfl, ⟨by
            unfold fVotes
            first
            | (rw [if_pos (Or.inl h5)])
            | (rw [if_pos (Or.inr h14)])
            | (rw [if_neg (by simp only [not_or, Classical.not_not]; exact ⟨h5, by rcases h14 with rfl | rfl <;> decide⟩), nI_clamp (by omega)]
               rcases h14 with rfl | rfl
               · first | exact absurd rfl h21 | (rw [if_neg (by decide)]; exact (i2 j (by omega)).symm)
               · first | exact absurd h21 (by decide) | (rw [if_pos rfl]; exact (i2 j (by omega)).symm)), by first | exact (fun q h1 _ => i1 q h1) | exact fun _ _ _ => rfl, rfl, rfl⟩⟩
      · refine J_iconst (pc := 24) (0) rfl dX8_votes_24 ?_
        refine J_goto (pc := 25) 32 dX8_votes_25 (by decide) ?_
        refine J_iconst (pc := 32) (0) rfl dX8_votes_32 ?_
        refine J_iconst (pc := 33) (0) rfl dX8_votes_33 ?_
        refine caX8_169 (pc := 34) (t_X8_tries (l := l) (G := G) hm hm.to) sh_164 (Nat.le_of_ble_eq_true rfl) ⟨rfl, rfl, ⟨by decide, by decide⟩, by decide, by decide⟩ dX8_votes_34 (fun a34 b34 c34 p34 => ?_)
        obtain ⟨i1, i2, rfl, rfl⟩ := p34
        refine S_aload_0 (pc := 37) dX8_votes_37 ?_
        refine fgX8_63 (pc := 38) sh_164 hv_164_33 dX8_votes_38 ?_
        refine S_iload_1 (pc := 41) dX8_votes_41 ?_
        refine J_iald_n (pc := 42) j sh_180 rfl (by omega) (by decide) dX8_votes_42 ?_
        exact J_ireturn (pc := 43) dX8_votes_43 rfl rfl ⟨_, rfl, rfl, ⟨by
            unfold fVotes
            first
            | (rw [if_pos (Or.inl h5)])
            | (rw [if_pos (Or.inr h14)])
            | (rw [if_neg (by simp only [not_or, Classical.not_not]; exact ⟨h5, by rcases h14 with rfl | rfl <;> decide⟩), nI_clamp (by omega)]
               rcases h14 with rfl | rfl
               · first | exact absurd rfl h21 | (rw [if_neg (by decide)]; exact (i2 j (by omega)).symm)
               · first | exact absurd h21 (by decide) | (rw [if_pos rfl]; exact (i2 j (by omega)).symm)), by first | exact (fun q h1 _ => i1 q h1) | exact fun _ _ _ => rfl, rfl, rfl⟩⟩
    · refine J_iconst (pc := 17) (-1) rfl dX8_votes_17 ?_
      exact J_ireturn (pc := 18) dX8_votes_18 rfl rfl ⟨_, rfl, rfl, ⟨by
          unfold fVotes
          first
          | (rw [if_pos (Or.inl h5)])
          | (rw [if_pos (Or.inr h14)])
          | (rw [if_neg (by simp only [not_or, Classical.not_not]; exact ⟨h5, by rcases h14 with rfl | rfl <;> decide⟩), nI_clamp (by omega)]
             rcases h14 with rfl | rfl
             · first | exact absurd rfl h21 | (rw [if_neg (by decide)]; exact (i2 j (by omega)).symm)
             · first | exact absurd h21 (by decide) | (rw [if_pos rfl]; exact (i2 j (by omega)).symm)), by first | exact (fun q h1 _ => i1 q h1) | exact fun _ _ _ => rfl, rfl, rfl⟩⟩
theorem nI_eqI {a b : Nat} (ha : a < 2 ^ 31) (hb : b < 2 ^ 31) : (nI a = nI b) ↔ a = b := nI_eq ha hb
set_option maxRecDepth 20000 in
set_option maxHeartbeats 2000000 in
theorem t_X8_type {l : Launch} {G : svG} {hi : svH} {hl : svL} {tw dr : Nat} {pm : Nat → Nat} {n : Nat} {x : Int32} (hn : hi 164 15 = nI n) (hn2 : n ≤ 120) : svIh l G yX8_type mX8_type rX8_type [sv_rf G.1 164, .int x] hi hl (sv_hr tw dr pm) (fType n x) (hType hi 173 164 n 15 x) := by
  refine sv_entry (by decide +kernel) rfl rfl (Nat.le_of_ble_eq_true rfl) (by simp [Value.category, sv_rf]) [some (sv_rf G.1 164), some (.int x)] rfl ?_
  refine S_iload_1 (pc := 0) dX8_type_0 ?_
  refine J_iconst (pc := 1) (0) rfl dX8_type_1 ?_
  refine J_sipush (pc := 2) (255) rfl dX8_type_2 ?_
  refine caX8_69 (pc := 5) (t_X8_in_n (l := l) (G := G) (b := 256) 256 (by decide) rfl rfl) (Nat.le_of_ble_eq_true rfl) ⟨rfl, rfl, ⟨by decide, by decide⟩, by decide, by decide⟩ dX8_type_5 (fun r5 a5 b5 c5 p5 => ?_)
  obtain ⟨rfl, rfl, rfl, rfl⟩ := p5
  refine J_if_ne_b (pc := 8) 13 dX8_type_8 (by decide) (fun h8 => ?_) (fun h8 => ?_)
  · refine S_aload_0 (pc := 13) dX8_type_13 ?_
    refine fgX8_79 (pc := 14) sh_164 dX8_type_14 ?_
    refine J_bipush (pc := 17) (120) rfl dX8_type_17 ?_
    refine J_icmp_ne (pc := 19) 25 dX8_type_19 (by decide) (fun h19 => ?_) (fun h19 => ?_)
    · have h19b : ¬ n = 120 := fun z => by rw [hn, z] at h19; exact h19 rfl
      refine S_aload_0 (pc := 25) dX8_type_25 ?_
      refine fgX8_42 (pc := 26) sh_164 hv_164_14 dX8_type_26 ?_
      refine S_aload_0 (pc := 29) dX8_type_29 ?_
      refine fgX8_79 (pc := 30) sh_164 dX8_type_30 ?_
      refine S_iload_1 (pc := 33) dX8_type_33 ?_
      refine J_iast_n (pc := 34) n sh_173 hn (by omega) (by decide) dX8_type_34 ?_
      refine S_aload_0 (pc := 35) dX8_type_35 ?_
      refine J_dup (pc := 36) rfl dX8_type_36 ?_
      refine fgX8_79 (pc := 37) sh_164 dX8_type_37 ?_
      refine J_iconst (pc := 40) (1) rfl dX8_type_40 ?_
      refine J_iadd (pc := 41) dX8_type_41 ?_
      refine fpX8_79 (pc := 42) sh_164 dX8_type_42 ?_
      refine S_aload_0 (pc := 45) dX8_type_45 ?_
      refine fgX8_79 (pc := 46) sh_164 dX8_type_46 ?_
      exact J_ireturn (pc := 49) dX8_type_49 rfl rfl ⟨_, rfl, rfl, (by
          unfold fType hType
          first
          | (rw [if_neg h8, if_neg (fun z => h8 z.1)]; exact ⟨rfl, rfl, rfl, rfl⟩)
          | (rw [if_pos h8, if_neg (by omega), if_neg (fun z => by have := z.2; omega)]; exact ⟨rfl, rfl, rfl, rfl⟩)
          | (rw [if_pos h8, if_pos (by omega), if_pos ⟨h8, by omega⟩]; exact ⟨by rw [sv_u2_at, sv_u2_off (by decide), hn, nI_succ], by rw [sv_u2_off (by decide), hn, nI_succ], rfl, rfl⟩))⟩
    · have h19b : n = 120 := by rw [hn, show (120 : Int32) = nI 120 from rfl] at h19; first | exact (nI_eq (by omega) (by omega)).mp h19 | exact (nI_eq (by omega) (by omega)).mp (Classical.not_not.mp h19)
      refine J_bipush (pc := 22) (-3) rfl dX8_type_22 ?_
      exact J_ireturn (pc := 24) dX8_type_24 rfl rfl ⟨_, rfl, rfl, (by
          unfold fType hType
          first
          | (rw [if_neg h8, if_neg (fun z => h8 z.1)]; exact ⟨rfl, rfl, rfl, rfl⟩)
          | (rw [if_pos h8, if_neg (by omega), if_neg (fun z => by have := z.2; omega)]; exact ⟨rfl, rfl, rfl, rfl⟩)
          | (rw [if_pos h8, if_pos (by omega), if_pos ⟨h8, by omega⟩]; exact ⟨by rw [sv_u2_at, sv_u2_off (by decide), hn, nI_succ], by rw [sv_u2_off (by decide), hn, nI_succ], rfl, rfl⟩))⟩
  · refine J_iconst (pc := 11) (-1) rfl dX8_type_11 ?_
    exact J_ireturn (pc := 12) dX8_type_12 rfl rfl ⟨_, rfl, rfl, (by
        unfold fType hType
        first
        | (rw [if_neg h8, if_neg (fun z => h8 z.1)]; exact ⟨rfl, rfl, rfl, rfl⟩)
        | (rw [if_pos h8, if_neg (by omega), if_neg (fun z => by have := z.2; omega)]; exact ⟨rfl, rfl, rfl, rfl⟩)
        | (rw [if_pos h8, if_pos (by omega), if_pos ⟨h8, by omega⟩]; exact ⟨by rw [sv_u2_at, sv_u2_off (by decide), hn, nI_succ], by rw [sv_u2_off (by decide), hn, nI_succ], rfl, rfl⟩))⟩
def yHears (hi : svH) (C n : Nat) (x z : Int32) : svH := if (((0 ≤ x ∧ x < nI C) ∧ 0 ≤ z ∧ z < nI C) ∧ ¬ x = z) ∧ n < 4 then sv_u2 (sv_u2 (sv_u2 hi 172 (2 * n) x) 172 (2 * n + 1) z) 164 11 (nI (n + 1)) else hi
set_option maxRecDepth 20000 in
set_option maxHeartbeats 2000000 in
theorem t_X8_hears {l : Launch} {G : svG} {hi : svH} {hl : svL} {tw dr : Nat} {pm : Nat → Nat} {C L T Gn : Nat} (hm : mT hi C L T Gn) {n : Nat} {x z : Int32} (hn : hi 164 11 = nI n) (hn2 : n ≤ 4) : svIh l G yX8_hears mX8_hears rX8_hears [sv_rf G.1 164, .int x, .int z] hi hl (sv_hr tw dr pm) (fHears C n x z) (yHears hi C n x z) := by
  obtain ⟨hCc, hLc, hT, hGn, hC2, hC6, hL1, hLC, hT8, hG6, hf, hs, hk⟩ := id hm
  refine sv_entry (by decide +kernel) rfl rfl (Nat.le_of_ble_eq_true rfl) (by simp [Value.category, sv_rf]) [some (sv_rf G.1 164), some (.int x), some (.int z)] rfl ?_
  refine S_aload_0 (pc := 0) dX8_hears_0 ?_
  refine S_iload_1 (pc := 1) dX8_hears_1 ?_
  refine caX8_185 (pc := 2) (t_X8_isOne_n (l := l) (G := G) hm) sh_164 (Nat.le_of_ble_eq_true rfl) ⟨rfl, rfl, ⟨by decide, by decide⟩, by decide, by decide⟩ dX8_hears_2 (fun r2 a2 b2 c2 p2 => ?_)
  obtain ⟨rfl, rfl, rfl, rfl⟩ := p2
  refine J_if_eq_b (pc := 5) 21 dX8_hears_5 (by decide) (fun h5 => ?_) (fun h5 => ?_)
  · refine J_iconst (pc := 21) (-1) rfl dX8_hears_21 ?_
    exact J_ireturn (pc := 22) dX8_hears_22 rfl rfl ⟨_, rfl, rfl, (by unfold fHears yHears; rw [if_neg (fun q => h5 q.1.1), if_neg (fun q => (fun q => h5 q.1.1) q.1)]; exact ⟨rfl, rfl, rfl, rfl⟩)⟩
  · refine S_aload_0 (pc := 8) dX8_hears_8 ?_
    refine S_iload_2 (pc := 9) dX8_hears_9 ?_
    refine caX8_185 (pc := 10) (t_X8_isOne_n (l := l) (G := G) hm) sh_164 (Nat.le_of_ble_eq_true rfl) ⟨rfl, rfl, ⟨by decide, by decide⟩, by decide, by decide⟩ dX8_hears_10 (fun r10 a10 b10 c10 p10 => ?_)
    obtain ⟨rfl, rfl, rfl, rfl⟩ := p10
    refine J_if_eq_b (pc := 13) 21 dX8_hears_13 (by decide) (fun h13 => ?_) (fun h13 => ?_)
    · refine J_iconst (pc := 21) (-1) rfl dX8_hears_21 ?_
      exact J_ireturn (pc := 22) dX8_hears_22 rfl rfl ⟨_, rfl, rfl, (by unfold fHears yHears; rw [if_neg (fun q => h13 q.1.2), if_neg (fun q => (fun q => h13 q.1.2) q.1)]; exact ⟨rfl, rfl, rfl, rfl⟩)⟩
    · refine S_iload_1 (pc := 16) dX8_hears_16 ?_
      refine S_iload_2 (pc := 17) dX8_hears_17 ?_
      refine J_icmp_ne (pc := 18) 23 dX8_hears_18 (by decide) (fun h18 => ?_) (fun h18 => ?_)
      · refine S_aload_0 (pc := 23) dX8_hears_23 ?_
        refine fgX8_156 (pc := 24) sh_164 dX8_hears_24 ?_
        refine J_iconst (pc := 27) (4) rfl dX8_hears_27 ?_
        refine J_icmp_ne (pc := 28) 34 dX8_hears_28 (by decide) (fun h28 => ?_) (fun h28 => ?_)
        · have h28b : ¬ n = 4 := fun z => by rw [hn, z] at h28; exact h28 rfl
          refine S_aload_0 (pc := 34) dX8_hears_34 ?_
          refine fgX8_39 (pc := 35) sh_164 hv_164_12 dX8_hears_35 ?_
          refine J_iconst (pc := 38) (2) rfl dX8_hears_38 ?_
          refine S_aload_0 (pc := 39) dX8_hears_39 ?_
          refine fgX8_156 (pc := 40) sh_164 dX8_hears_40 ?_
          refine J_imul (pc := 43) dX8_hears_43 ?_
          refine S_iload_1 (pc := 44) dX8_hears_44 ?_
          refine J_iast_n (pc := 45) (2 * n) sh_172 (by rw [hn, show (2 : Int32) = nI 2 from rfl, pk_mul]) (by omega) (by decide) dX8_hears_45 ?_
          refine S_aload_0 (pc := 46) dX8_hears_46 ?_
          refine fgX8_39 (pc := 47) sh_164 hv_164_12 dX8_hears_47 ?_
          refine J_iconst (pc := 50) (2) rfl dX8_hears_50 ?_
          refine S_aload_0 (pc := 51) dX8_hears_51 ?_
          refine fgX8_156 (pc := 52) sh_164 dX8_hears_52 ?_
          refine J_imul (pc := 55) dX8_hears_55 ?_
          refine J_iconst (pc := 56) (1) rfl dX8_hears_56 ?_
          refine J_iadd (pc := 57) dX8_hears_57 ?_
          refine S_iload_2 (pc := 58) dX8_hears_58 ?_
          refine J_iast_n (pc := 59) (2 * n + 1) sh_172 (by rw [sv_u2_off (by decide), hn, show (2 : Int32) = nI 2 from rfl, pk_mul, nI_succ]) (by omega) (by decide) dX8_hears_59 ?_
          refine S_aload_0 (pc := 60) dX8_hears_60 ?_
          refine J_dup (pc := 61) rfl dX8_hears_61 ?_
          refine fgX8_156 (pc := 62) sh_164 dX8_hears_62 ?_
          refine J_iconst (pc := 65) (1) rfl dX8_hears_65 ?_
          refine J_iadd (pc := 66) dX8_hears_66 ?_
          refine fpX8_156 (pc := 67) sh_164 dX8_hears_67 ?_
          refine S_aload_0 (pc := 70) dX8_hears_70 ?_
          refine fgX8_156 (pc := 71) sh_164 dX8_hears_71 ?_
          exact J_ireturn (pc := 74) dX8_hears_74 rfl rfl ⟨_, rfl, rfl, (by
              unfold fHears yHears
              rw [if_pos ⟨⟨h5, h13⟩, h18⟩]
              first
              | (rw [if_neg (by omega), if_neg (fun q => by have := q.2; omega)]; exact ⟨rfl, rfl, rfl, rfl⟩)
              | (rw [if_pos (by omega), if_pos ⟨⟨⟨h5, h13⟩, h18⟩, by omega⟩]; exact ⟨by rw [sv_u2_at, sv_u2_off (by decide), sv_u2_off (by decide), hn, nI_succ], by rw [sv_u2_off (by decide), sv_u2_off (by decide), hn, nI_succ], rfl, rfl⟩))⟩
        · have h28b : n = 4 := by rw [hn, show (4 : Int32) = nI 4 from rfl] at h28; first | exact (nI_eq (by omega) (by omega)).mp h28 | exact (nI_eq (by omega) (by omega)).mp (Classical.not_not.mp h28)
          refine J_bipush (pc := 31) (-3) rfl dX8_hears_31 ?_
          exact J_ireturn (pc := 33) dX8_hears_33 rfl rfl ⟨_, rfl, rfl, (by
              unfold fHears yHears
              rw [if_pos ⟨⟨h5, h13⟩, h18⟩]
              first
              | (rw [if_neg (by omega), if_neg (fun q => by have := q.2; omega)]; exact ⟨rfl, rfl, rfl, rfl⟩)
              | (rw [if_pos (by omega), if_pos ⟨⟨⟨h5, h13⟩, h18⟩, by omega⟩]; exact ⟨by rw [sv_u2_at, sv_u2_off (by decide), sv_u2_off (by decide), hn, nI_succ], by rw [sv_u2_off (by decide), sv_u2_off (by decide), hn, nI_succ], rfl, rfl⟩))⟩
      · refine J_iconst (pc := 21) (-1) rfl dX8_hears_21 ?_
        exact J_ireturn (pc := 22) dX8_hears_22 rfl rfl ⟨_, rfl, rfl, (by unfold fHears yHears; rw [if_neg (fun q => q.2 h18), if_neg (fun q => q.1.2 h18)]; exact ⟨rfl, rfl, rfl, rfl⟩)⟩
theorem pop8_def (x : Int32) : pop8 x = mCnt (bt x) 8 := by simp [pop8, mCnt]
set_option maxRecDepth 20000 in
set_option maxHeartbeats 2000000 in
theorem lo_X8_bits {l : Launch} {G : svG} {hi : svH} {hl : svL} {hr : svR} {x : Int32} : ∀ t, t ≤ 8 → svJ l G rX8_bits mX8_bits (sv_Fm G (fun v sh a b c => ∃ r, v = some (.int r) ∧ sh = svSH ∧ ((nI (mCnt (bt x) 8)) = r ∧ hi = a ∧ hl = b ∧ hr = c)) 0 0) 0 0 4 [some (.int x), some (.int (nI (mCnt (bt x) t))), some (.int (nI t))] [] svSH hi hl hr := by
  refine sv_up (fun t ht ih => ?_)
  refine S_iload_2 (pc := 4) dX8_bits_4 ?_
  refine J_bipush (pc := 5) (8) rfl dX8_bits_5 ?_
  refine J_icmp_ge (pc := 7) 24 dX8_bits_7 (by decide) (fun h7 => ?_) (fun h7 => ?_)
  · rw [show (8 : Int32) = nI 8 from rfl, nI_leI (by omega) (by omega)] at h7
    obtain rfl : t = 8 := by omega
    refine S_iload_1 (pc := 24) dX8_bits_24 ?_
    exact J_ireturn (pc := 25) dX8_bits_25 rfl rfl ⟨_, rfl, rfl, ⟨rfl, rfl, rfl, rfl⟩⟩
  · rw [show (8 : Int32) = nI 8 from rfl, nI_leI (by omega) (by omega)] at h7
    refine S_iload_1 (pc := 10) dX8_bits_10 ?_
    refine S_iload_0 (pc := 11) dX8_bits_11 ?_
    refine S_iload_2 (pc := 12) dX8_bits_12 ?_
    refine J_ishr (pc := 13) dX8_bits_13 ?_
    refine J_iconst (pc := 14) (1) rfl dX8_bits_14 ?_
    refine J_iand (pc := 15) dX8_bits_15 ?_
    refine J_iadd (pc := 16) dX8_bits_16 ?_
    refine S_istore_1 (pc := 17) dX8_bits_17 (by decide) ?_
    refine S_inc_2 (pc := 18) (1) rfl dX8_bits_18 (by decide) ?_
    refine J_goto (pc := 21) 4 dX8_bits_21 (by decide) ?_
    refine svJ_ls ?_ (ih (t + 1) (by omega) (by omega))
    rw [hb_shr x (by omega), mCnt, nI_succ]
    by_cases hb : bt x t = true
    · rw [sv_b_t hb, hb, show (true.toNat) = 1 from rfl, nI_succ]
    · have hb' : bt x t = false := by simpa using hb
      rw [sv_b_f hb, hb', Int32.add_zero]; rfl
set_option maxRecDepth 20000 in
set_option maxHeartbeats 2000000 in
theorem t_X8_bits {l : Launch} {G : svG} {hi : svH} {hl : svL} {hr : svR} {x : Int32} : svIp l G yX8_bits mX8_bits rX8_bits [.int x] hi hl hr (nI (mCnt (bt x) 8)) := by
  refine sv_entry (by decide +kernel) rfl rfl (Nat.le_of_ble_eq_true rfl) (by simp [Value.category, sv_rf]) [some (.int x), none, none] rfl ?_
  refine J_iconst (pc := 0) (0) rfl dX8_bits_0 ?_
  refine S_istore_1 (pc := 1) dX8_bits_1 (by decide) ?_
  refine J_iconst (pc := 2) (0) rfl dX8_bits_2 ?_
  refine S_istore_2 (pc := 3) dX8_bits_3 (by decide) ?_
  
  exact lo_X8_bits 0 (Nat.zero_le _)
