def xT (hi : svH) (tw C L T Gn : Nat) : Prop := svSH[tw]? = some (0, 6) ∧ hi tw 0 = nI C ∧ hi tw 1 = nI L ∧ hi tw 3 = nI T ∧ hi tw 4 = nI Gn ∧ 2 ≤ C ∧ C ≤ 6 ∧ 1 ≤ L ∧ L ≤ C ∧ T ≤ 8 ∧ Gn ≤ 6 ∧ (∀ r, r < Gn → ∃ j, j < C ∧ hi (tw + 5) r = nI j) ∧ (∀ r, r < Gn → ∃ j, j < C ∧ hi (tw + 6) r = nI j) ∧ ∀ t, t < T → ∃ j, j < C ∧ hi 20 t = nI j
theorem xT.keep {hi a : svH} {tw C L T Gn : Nat} (h : xT hi tw C L T Gn) (hq : ∀ q, q ≠ 64 → q ≠ 65 → a q = hi q) : xT a tw C L T Gn := by
  obtain ⟨htw, h⟩ := h
  have := sv_tw htw
  unfold xT
  rw [hq tw (by omega) (by omega), hq (tw + 5) (by omega) (by omega), hq (tw + 6) (by omega) (by omega), hq 20 (by decide) (by decide)]
  exact ⟨htw, h⟩
/-- votes if these trains stop; who is left, who wins by them -/
def xSum (hi : svH) (tw T : Nat) (stops : Int32) : Nat → Int32 := mCast (hi 18) (hi (tw + 2)) (hi 20) stops 0 0 T
def xWin (hi : svH) (tw C T Gn : Nat) (stops : Int32) (many : Nat) : Nat := mWin C Gn (hi (tw + 4)) (hi (tw + 5)) (hi (tw + 6)) (hi 17 4) (xSum hi tw T stops) many
theorem xWin_keep {hi a : svH} {tw C T Gn : Nat} (htw : svSH[tw]? = some (0, 6)) (hq : ∀ q, q ≠ 64 → q ≠ 65 → a q = hi q) (stops : Int32) (many : Nat) : xWin a tw C T Gn stops many = xWin hi tw C T Gn stops many := by
  have := sv_tw htw
  unfold xWin xSum
  rw [hq (tw + 2) (by omega) (by omega), hq (tw + 4) (by omega) (by omega), hq (tw + 5) (by omega) (by omega), hq (tw + 6) (by omega) (by omega), hq 20 (by decide) (by decide), hq 18 (by decide) (by decide), hq 17 (by decide) (by decide)]
theorem sv_sw4 (x : Int32) : x = 0 ∨ x = 1 ∨ x = 2 ∨ x = 3 ∨ ((¬ x = 0 ∧ ¬ x = 1 ∧ ¬ x = 2 ∧ ¬ x = 3) ∧ (x.toInt < 0 ∨ 3 < x.toInt)) := by
  by_cases h0 : x = 0
  · exact Or.inl h0
  by_cases h1 : x = 1
  · exact Or.inr (Or.inl h1)
  by_cases h2 : x = 2
  · exact Or.inr (Or.inr (Or.inl h2))
  by_cases h3 : x = 3
  · exact Or.inr (Or.inr (Or.inr (Or.inl h3)))
  refine Or.inr (Or.inr (Or.inr (Or.inr (⟨⟨h0, h1, h2, h3⟩, ?_⟩))))
  have e : ∀ k : Int32, ¬ x = k → ¬ x.toInt = k.toInt := fun k h z => h (Int32.toInt_inj.mp z)
  have g0 := e 0 h0
  have g1 := e 1 h1
  have g2 := e 2 h2
  have g3 := e 3 h3
  simp at *
  omega
theorem sv_sw7 (x : Int32) : x = 0 ∨ x = 1 ∨ x = 2 ∨ x = 3 ∨ x = 4 ∨ x = 5 ∨ x = 6 ∨ ((¬ x = 0 ∧ ¬ x = 1 ∧ ¬ x = 2 ∧ ¬ x = 3 ∧ ¬ x = 4 ∧ ¬ x = 5 ∧ ¬ x = 6) ∧ (x.toInt < 0 ∨ 6 < x.toInt)) := by
  by_cases h0 : x = 0
  · exact Or.inl h0
  by_cases h1 : x = 1
  · exact Or.inr (Or.inl h1)
  by_cases h2 : x = 2
  · exact Or.inr (Or.inr (Or.inl h2))
  by_cases h3 : x = 3
  · exact Or.inr (Or.inr (Or.inr (Or.inl h3)))
  by_cases h4 : x = 4
  · exact Or.inr (Or.inr (Or.inr (Or.inr (Or.inl h4))))
  by_cases h5 : x = 5
  · exact Or.inr (Or.inr (Or.inr (Or.inr (Or.inr (Or.inl h5)))))
  by_cases h6 : x = 6
  · exact Or.inr (Or.inr (Or.inr (Or.inr (Or.inr (Or.inr (Or.inl h6))))))
  refine Or.inr (Or.inr (Or.inr (Or.inr (Or.inr (Or.inr (Or.inr (⟨⟨h0, h1, h2, h3, h4, h5, h6⟩, ?_⟩)))))))
  have e : ∀ k : Int32, ¬ x = k → ¬ x.toInt = k.toInt := fun k h z => h (Int32.toInt_inj.mp z)
  have g0 := e 0 h0
  have g1 := e 1 h1
  have g2 := e 2 h2
  have g3 := e 3 h3
  have g4 := e 4 h4
  have g5 := e 5 h5
  have g6 := e 6 h6
  simp at *
  omega
theorem sv_sw6 (x : Int32) : x = 0 ∨ x = 1 ∨ x = 2 ∨ x = 3 ∨ x = 4 ∨ x = 5 ∨ ((¬ x = 0 ∧ ¬ x = 1 ∧ ¬ x = 2 ∧ ¬ x = 3 ∧ ¬ x = 4 ∧ ¬ x = 5) ∧ (x.toInt < 0 ∨ 5 < x.toInt)) := by
  by_cases h0 : x = 0
  · exact Or.inl h0
  by_cases h1 : x = 1
  · exact Or.inr (Or.inl h1)
  by_cases h2 : x = 2
  · exact Or.inr (Or.inr (Or.inl h2))
  by_cases h3 : x = 3
  · exact Or.inr (Or.inr (Or.inr (Or.inl h3)))
  by_cases h4 : x = 4
  · exact Or.inr (Or.inr (Or.inr (Or.inr (Or.inl h4))))
  by_cases h5 : x = 5
  · exact Or.inr (Or.inr (Or.inr (Or.inr (Or.inr (Or.inl h5)))))
  refine Or.inr (Or.inr (Or.inr (Or.inr (Or.inr (Or.inr (⟨⟨h0, h1, h2, h3, h4, h5⟩, ?_⟩))))))
  have e : ∀ k : Int32, ¬ x = k → ¬ x.toInt = k.toInt := fun k h z => h (Int32.toInt_inj.mp z)
  have g0 := e 0 h0
  have g1 := e 1 h1
  have g2 := e 2 h2
  have g3 := e 3 h3
  have g4 := e 4 h4
  have g5 := e 5 h5
  simp at *
  omega
set_option maxRecDepth 20000 in
set_option maxHeartbeats 2000000 in
theorem t_X7_leftAfter {l : Launch} {G : svG} {hi : svH} {hl : svL} {tw dr : Nat} {pm : Nat → Nat} {C L T Gn : Nat} (hx : xT hi tw C L T Gn) {stops : Int32} : svI l G yX7_leftAfter mX7_leftAfter rX7_leftAfter [sv_rf G.1 0, .int stops] hi hl (sv_hr tw dr pm) (fun r a b c => mLeft C (xSum hi tw T stops) L = r ∧ (∀ q, q ≠ 64 → q ≠ 65 → a q = hi q) ∧ hl = b ∧ sv_hr tw dr pm = c) := by
  obtain ⟨htw, hCc, hLc, hT, hGn, hC2, hC6, hL1, hLC, hT8, hG6, hf, hs, hk⟩ := id hx
  have htw2 := sv_tw htw
  have hk6 : ∀ t, t < T → ∃ j, j < 6 ∧ hi 20 t = nI j := fun t ht => (hk t ht).elim fun j h => ⟨j, by omega, h.2⟩
  have hf6 : ∀ r, r < Gn → ∃ j, j < 6 ∧ hi (tw + 5) r = nI j := fun r hr => (hf r hr).elim fun j h => ⟨j, by omega, h.2⟩
  have hs6 : ∀ r, r < Gn → ∃ j, j < 6 ∧ hi (tw + 6) r = nI j := fun r hr => (hs r hr).elim fun j h => ⟨j, by omega, h.2⟩
  refine sv_entry (by decide +kernel) rfl rfl (Nat.le_of_ble_eq_true rfl) (by simp [Value.category, sv_rf]) [some (sv_rf G.1 0), some (.int stops)] rfl ?_
  refine S_aload_0 (pc := 0) dX7_leftAfter_0 ?_
  refine S_iload_1 (pc := 1) dX7_leftAfter_1 ?_
  refine caX7_144 (pc := 2) (t_X7_castFor (l := l) (G := G) htw hT hT8 hk6) sh_0 (Nat.le_of_ble_eq_true rfl) ⟨rfl, rfl, ⟨by decide, by decide⟩, by decide, by decide⟩ dX7_leftAfter_2 (fun a2 b2 c2 p2 => ?_)
  obtain ⟨i1, i2, rfl, rfl⟩ := p2
  have e1 : a2 tw 0 = nI C := by rw [i1 tw (by omega)]; exact hCc
  have e2 : a2 tw 1 = nI L := by rw [i1 tw (by omega)]; exact hLc
  refine S_aload_0 (pc := 5) dX7_leftAfter_5 ?_
  refine fgX7_43 (pc := 6) sh_0 hv_0_5 dX7_leftAfter_6 ?_
  refine S_aload_0 (pc := 9) dX7_leftAfter_9 ?_
  refine fgX7_10 (pc := 10) sh_0 hv_0_0 dX7_leftAfter_10 ?_
  refine fgX7_137 (pc := 13) htw dX7_leftAfter_13 ?_
  refine S_aload_0 (pc := 16) dX7_leftAfter_16 ?_
  refine fgX7_10 (pc := 17) sh_0 hv_0_0 dX7_leftAfter_17 ?_
  refine fgX7_188 (pc := 20) htw dX7_leftAfter_20 ?_
  refine caX7_264 (pc := 23) (by have h := t_X0_whoIsLeft (l := l) (G := G) (hi := a2) (hl := hl) (tw := tw) (dr := dr) (pm := pm) (C := C) (L := L) (by omega) hC6 (by omega); rw [← e1, ← e2] at h; exact h) sh_63 (Nat.le_of_ble_eq_true rfl) ⟨rfl, rfl, ⟨by decide, by decide⟩, by decide, by decide⟩ dX7_leftAfter_23 (fun r23 a23 b23 c23 p23 => ?_)
  obtain ⟨rfl, rfl, rfl, rfl⟩ := p23
  exact J_ireturn (pc := 26) dX7_leftAfter_26 rfl rfl ⟨_, rfl, rfl, ⟨(mLeft_congr (fun k hk => i2 k (by omega)) L).symm, fun q h1 _ => i1 q h1, rfl, rfl⟩⟩
set_option maxRecDepth 20000 in
set_option maxHeartbeats 2000000 in
theorem t_X7_winnerAfter {l : Launch} {G : svG} {hi : svH} {hl : svL} {tw dr : Nat} {pm : Nat → Nat} {C L T Gn : Nat} (hx : xT hi tw C L T Gn) {stops : Int32} {many : Nat} (hm0 : 0 < many) (hm : many ≤ 6) : svI l G yX7_winnerAfter mX7_winnerAfter rX7_winnerAfter [sv_rf G.1 0, .int stops, .int (nI many)] hi hl (sv_hr tw dr pm) (fun r a b c => nI (xWin hi tw C T Gn stops many) = r ∧ (∀ q, q ≠ 64 → q ≠ 65 → a q = hi q) ∧ hl = b ∧ sv_hr tw dr pm = c) := by
  obtain ⟨htw, hCc, hLc, hT, hGn, hC2, hC6, hL1, hLC, hT8, hG6, hf, hs, hk⟩ := id hx
  have htw2 := sv_tw htw
  have hk6 : ∀ t, t < T → ∃ j, j < 6 ∧ hi 20 t = nI j := fun t ht => (hk t ht).elim fun j h => ⟨j, by omega, h.2⟩
  have hf6 : ∀ r, r < Gn → ∃ j, j < 6 ∧ hi (tw + 5) r = nI j := fun r hr => (hf r hr).elim fun j h => ⟨j, by omega, h.2⟩
  have hs6 : ∀ r, r < Gn → ∃ j, j < 6 ∧ hi (tw + 6) r = nI j := fun r hr => (hs r hr).elim fun j h => ⟨j, by omega, h.2⟩
  refine sv_entry (by decide +kernel) rfl rfl (Nat.le_of_ble_eq_true rfl) (by simp [Value.category, sv_rf]) [some (sv_rf G.1 0), some (.int stops), some (.int (nI many))] rfl ?_
  refine S_aload_0 (pc := 0) dX7_winnerAfter_0 ?_
  refine S_iload_1 (pc := 1) dX7_winnerAfter_1 ?_
  refine caX7_144 (pc := 2) (t_X7_castFor (l := l) (G := G) htw hT hT8 hk6) sh_0 (Nat.le_of_ble_eq_true rfl) ⟨rfl, rfl, ⟨by decide, by decide⟩, by decide, by decide⟩ dX7_winnerAfter_2 (fun a2 b2 c2 p2 => ?_)
  obtain ⟨i1, i2, rfl, rfl⟩ := p2
  have e17 : a2 17 = hi 17 := i1 17 (by decide)
  have e5 : a2 (tw + 5) = hi (tw + 5) := i1 _ (by omega)
  have e6 : a2 (tw + 6) = hi (tw + 6) := i1 _ (by omega)
  have e4 : a2 (tw + 4) = hi (tw + 4) := i1 _ (by omega)
  have e0 : a2 tw = hi tw := i1 _ (by omega)
  refine S_aload_0 (pc := 5) dX7_winnerAfter_5 ?_
  refine fgX7_43 (pc := 6) sh_0 hv_0_5 dX7_winnerAfter_6 ?_
  refine S_aload_0 (pc := 9) dX7_winnerAfter_9 ?_
  refine fgX7_10 (pc := 10) sh_0 hv_0_0 dX7_winnerAfter_10 ?_
  refine S_aload_0 (pc := 13) dX7_winnerAfter_13 ?_
  refine fgX7_29 (pc := 14) sh_0 hv_0_3 dX7_winnerAfter_14 ?_
  refine fgX7_134 (pc := 17) sh_17 dX7_winnerAfter_17 ?_
  refine S_iload_2 (pc := 20) dX7_winnerAfter_20 ?_
  refine caX7_201 (pc := 21) (t_X0_winner (l := l) (G := G) (C := C) (L := many) (Gn := Gn) htw (by omega) hC6 hm0 hm (by rw [e0]; exact hCc) (by rw [e0]; exact hGn) hG6 (by rw [e5]; exact hf6) (by rw [e6]; exact hs6)) sh_63 (Nat.le_of_ble_eq_true rfl) ⟨rfl, rfl, ⟨by decide, by decide⟩, by decide, by decide⟩ dX7_winnerAfter_21 (fun r21 a21 b21 c21 p21 => ?_)
  obtain ⟨rfl, j1, rfl, rfl⟩ := p21
  exact J_ireturn (pc := 24) dX7_winnerAfter_24 rfl rfl ⟨_, rfl, rfl, ⟨by unfold xWin; rw [e4, e5, e6, e17, mWin_congr (fun k hk => i2 k (by omega))]; rfl, fun q h1 h2 => (j1 q h2).trans (i1 q h1), rfl, rfl⟩⟩
theorem t_X7_winnerAfter_l {l : Launch} {G : svG} {hi : svH} {hl : svL} {tw dr : Nat} {pm : Nat → Nat} {C L T Gn : Nat} (hx : xT hi tw C L T Gn) {stops : Int32} : svI l G yX7_winnerAfter mX7_winnerAfter rX7_winnerAfter [sv_rf G.1 0, .int stops, .int (hi tw 1)] hi hl (sv_hr tw dr pm) (fun r a b c => nI (xWin hi tw C T Gn stops L) = r ∧ (∀ q, q ≠ 64 → q ≠ 65 → a q = hi q) ∧ hl = b ∧ sv_hr tw dr pm = c) := by
  have h := t_X7_winnerAfter (l := l) (G := G) (hl := hl) (dr := dr) (pm := pm) hx (stops := stops) (many := L) (by have := hx.2.2.2.2.2.2.2; omega) (by have := hx.2.2.2.2.2.2.2; have := hx.2.2.2.2.2.2; omega)
  rw [← hx.2.2.1] at h
  exact h
def fTrain (T : Nat) (hours crowds likes : Nat → Int32) (stopped t what : Int32) : Int32 := if 0 ≤ t ∧ t < nI T then (if what = 0 then hours t.toNatClampNeg else if what = 1 then crowds t.toNatClampNeg else if what = 2 then likes t.toNatClampNeg else if what = 3 then sv_b (bt stopped t.toNatClampNeg = true) else -1) else -1
def fGroup (Gn : Nat) (people firsts seconds : Nat → Int32) (rugs r what : Int32) : Int32 := if 0 ≤ r ∧ r < nI Gn then (if what = 0 then people r.toNatClampNeg else if what = 1 then firsts r.toNatClampNeg else if what = 2 then seconds r.toNatClampNeg else if what = 3 then sv_b (bt rugs r.toNatClampNeg = true) else -1) else -1
def fCount (C L T Gn : Nat) (heard past text what : Int32) : Int32 := if what = 0 then nI C else if what = 1 then nI L else if what = 2 then nI T else if what = 3 then nI Gn else if what = 4 then heard else if what = 5 then past else if what = 6 then text else -1
def fNow (hour buns fog l0 lE w0 wE what : Int32) : Int32 := if what = 0 then hour else if what = 1 then buns else if what = 2 then fog else if what = 3 then l0 else if what = 4 then lE else if what = 5 then w0 else if what = 6 then wE else -1
set_option maxRecDepth 20000 in
set_option maxHeartbeats 2000000 in
theorem t_X7_train {l : Launch} {G : svG} {hi : svH} {hl : svL} {tw dr : Nat} {pm : Nat → Nat} {C L T Gn : Nat} (hx : xT hi tw C L T Gn) {x what : Int32} : svIp l G yX7_train mX7_train rX7_train [sv_rf G.1 0, .int x, .int what] hi hl (sv_hr tw dr pm) (fTrain T (hi 19) (hi (tw + 2)) (hi 20) (hi 17 3) x what) := by
  obtain ⟨htw, hCc, hLc, hT, hGn, hC2, hC6, hL1, hLC, hT8, hG6, hf, hs, hk⟩ := id hx
  have htw2 := sv_tw htw
  have hk6 : ∀ t, t < T → ∃ j, j < 6 ∧ hi 20 t = nI j := fun t ht => (hk t ht).elim fun j h => ⟨j, by omega, h.2⟩
  have hf6 : ∀ r, r < Gn → ∃ j, j < 6 ∧ hi (tw + 5) r = nI j := fun r hr => (hf r hr).elim fun j h => ⟨j, by omega, h.2⟩
  have hs6 : ∀ r, r < Gn → ∃ j, j < 6 ∧ hi (tw + 6) r = nI j := fun r hr => (hs r hr).elim fun j h => ⟨j, by omega, h.2⟩
  refine sv_entry (by decide +kernel) rfl rfl (Nat.le_of_ble_eq_true rfl) (by simp [Value.category, sv_rf]) [some (sv_rf G.1 0), some (.int x), some (.int what)] rfl ?_
  refine S_iload_1 (pc := 0) dX7_train_0 ?_
  refine S_aload_0 (pc := 1) dX7_train_1 ?_
  refine fgX7_10 (pc := 2) sh_0 hv_0_0 dX7_train_2 ?_
  refine fgX7_98 (pc := 5) htw dX7_train_5 ?_
  refine caX7_68 (pc := 8) (t_X7_isIn (l := l) (G := G)) (Nat.le_of_ble_eq_true rfl) ⟨rfl, rfl, ⟨by decide, by decide⟩, by decide, by decide⟩ dX7_train_8 (fun r8 a8 b8 c8 p8 => ?_)
  obtain ⟨rfl, rfl, rfl, rfl⟩ := p8
  refine J_if_ne_b (pc := 11) 16 dX7_train_11 (by decide) (fun h11 => ?_) (fun h11 => ?_)
  · rw [hT] at h11
    obtain ⟨j, hj, rfl⟩ := sv_ix h11 (by omega)
    refine S_iload_2 (pc := 16) dX7_train_16 ?_
    rcases sv_sw4 what with rfl | rfl | rfl | rfl | ⟨hne, hsw⟩
    · refine J_tableIn (pc := 17) 48 dX7_train_17 (by decide) (by decide) rfl (by decide) ?_
      refine S_aload_0 (pc := 48) dX7_train_48 ?_
      refine fgX7_29 (pc := 49) sh_0 hv_0_3 dX7_train_49 ?_
      refine fgX7_101 (pc := 52) sh_17 hv_17_6 dX7_train_52 ?_
      refine S_iload_1 (pc := 55) dX7_train_55 ?_
      refine caX7_105 (pc := 56) (t_X7_at_n (l := l) (G := G) (j := j) sh_19 (by omega) (by decide)) (Nat.le_of_ble_eq_true rfl) ⟨rfl, rfl, ⟨by decide, by decide⟩, by decide, by decide⟩ dX7_train_56 (fun r56 a56 b56 c56 p56 => ?_)
      obtain ⟨rfl, rfl, rfl, rfl⟩ := p56
      exact J_ireturn (pc := 59) dX7_train_59 rfl rfl ⟨_, rfl, rfl, ⟨by unfold fTrain; first | (rw [if_neg (by rw [← hT]; exact h11)]) | (rw [if_pos ⟨nI_pos' (by omega), nI_lt hj (by omega)⟩, nI_clamp (by omega)]; first | rfl | simp [hne]), rfl, rfl, rfl⟩⟩
    · refine J_tableIn (pc := 17) 60 dX7_train_17 (by decide) (by decide) rfl (by decide) ?_
      refine S_aload_0 (pc := 60) dX7_train_60 ?_
      refine fgX7_10 (pc := 61) sh_0 hv_0_0 dX7_train_61 ?_
      refine fgX7_109 (pc := 64) htw (hv_T6 htw) dX7_train_64 ?_
      refine S_iload_1 (pc := 67) dX7_train_67 ?_
      refine caX7_105 (pc := 68) (t_X7_at_n (l := l) (G := G) (j := j) (ar_T6 htw) (by omega) (by decide)) (Nat.le_of_ble_eq_true rfl) ⟨rfl, rfl, ⟨by decide, by decide⟩, by decide, by decide⟩ dX7_train_68 (fun r68 a68 b68 c68 p68 => ?_)
      obtain ⟨rfl, rfl, rfl, rfl⟩ := p68
      exact J_ireturn (pc := 71) dX7_train_71 rfl rfl ⟨_, rfl, rfl, ⟨by unfold fTrain; first | (rw [if_neg (by rw [← hT]; exact h11)]) | (rw [if_pos ⟨nI_pos' (by omega), nI_lt hj (by omega)⟩, nI_clamp (by omega)]; first | rfl | simp [hne]), rfl, rfl, rfl⟩⟩
    · refine J_tableIn (pc := 17) 72 dX7_train_17 (by decide) (by decide) rfl (by decide) ?_
      refine S_aload_0 (pc := 72) dX7_train_72 ?_
      refine fgX7_29 (pc := 73) sh_0 hv_0_3 dX7_train_73 ?_
      refine fgX7_112 (pc := 76) sh_17 hv_17_7 dX7_train_76 ?_
      refine S_iload_1 (pc := 79) dX7_train_79 ?_
      refine caX7_105 (pc := 80) (t_X7_at_n (l := l) (G := G) (j := j) sh_20 (by omega) (by decide)) (Nat.le_of_ble_eq_true rfl) ⟨rfl, rfl, ⟨by decide, by decide⟩, by decide, by decide⟩ dX7_train_80 (fun r80 a80 b80 c80 p80 => ?_)
      obtain ⟨rfl, rfl, rfl, rfl⟩ := p80
      exact J_ireturn (pc := 83) dX7_train_83 rfl rfl ⟨_, rfl, rfl, ⟨by unfold fTrain; first | (rw [if_neg (by rw [← hT]; exact h11)]) | (rw [if_pos ⟨nI_pos' (by omega), nI_lt hj (by omega)⟩, nI_clamp (by omega)]; first | rfl | simp [hne]), rfl, rfl, rfl⟩⟩
    · refine J_tableIn (pc := 17) 84 dX7_train_17 (by decide) (by decide) rfl (by decide) ?_
      refine S_aload_0 (pc := 84) dX7_train_84 ?_
      refine fgX7_29 (pc := 85) sh_0 hv_0_3 dX7_train_85 ?_
      refine fgX7_115 (pc := 88) sh_17 dX7_train_88 ?_
      refine S_iload_1 (pc := 91) dX7_train_91 ?_
      refine caX7_118 (pc := 92) (t_X7_bit_n (l := l) (G := G) (k := j) (by omega)) (Nat.le_of_ble_eq_true rfl) ⟨rfl, rfl, ⟨by decide, by decide⟩, by decide, by decide⟩ dX7_train_92 (fun r92 a92 b92 c92 p92 => ?_)
      obtain ⟨rfl, rfl, rfl, rfl⟩ := p92
      exact J_ireturn (pc := 95) dX7_train_95 rfl rfl ⟨_, rfl, rfl, ⟨by unfold fTrain; first | (rw [if_neg (by rw [← hT]; exact h11)]) | (rw [if_pos ⟨nI_pos' (by omega), nI_lt hj (by omega)⟩, nI_clamp (by omega)]; first | rfl | simp [hne]), rfl, rfl, rfl⟩⟩
    · refine J_tableOut (pc := 17) 96 dX7_train_17 hsw (by decide) ?_
      refine J_iconst (pc := 96) (-1) rfl dX7_train_96 ?_
      exact J_ireturn (pc := 97) dX7_train_97 rfl rfl ⟨_, rfl, rfl, ⟨by unfold fTrain; first | (rw [if_neg (by rw [← hT]; exact h11)]) | (rw [if_pos ⟨nI_pos' (by omega), nI_lt hj (by omega)⟩, nI_clamp (by omega)]; first | rfl | simp [hne]), rfl, rfl, rfl⟩⟩
  · refine J_iconst (pc := 14) (-1) rfl dX7_train_14 ?_
    exact J_ireturn (pc := 15) dX7_train_15 rfl rfl ⟨_, rfl, rfl, ⟨by unfold fTrain; first | (rw [if_neg (by rw [← hT]; exact h11)]) | (rw [if_pos ⟨nI_pos' (by omega), nI_lt hj (by omega)⟩, nI_clamp (by omega)]; first | rfl | simp [hne]), rfl, rfl, rfl⟩⟩
set_option maxRecDepth 20000 in
set_option maxHeartbeats 2000000 in
theorem t_X7_group {l : Launch} {G : svG} {hi : svH} {hl : svL} {tw dr : Nat} {pm : Nat → Nat} {C L T Gn : Nat} (hx : xT hi tw C L T Gn) {x what : Int32} : svIp l G yX7_group mX7_group rX7_group [sv_rf G.1 0, .int x, .int what] hi hl (sv_hr tw dr pm) (fGroup Gn (hi (tw + 4)) (hi (tw + 5)) (hi (tw + 6)) (hi 17 4) x what) := by
  obtain ⟨htw, hCc, hLc, hT, hGn, hC2, hC6, hL1, hLC, hT8, hG6, hf, hs, hk⟩ := id hx
  have htw2 := sv_tw htw
  have hk6 : ∀ t, t < T → ∃ j, j < 6 ∧ hi 20 t = nI j := fun t ht => (hk t ht).elim fun j h => ⟨j, by omega, h.2⟩
  have hf6 : ∀ r, r < Gn → ∃ j, j < 6 ∧ hi (tw + 5) r = nI j := fun r hr => (hf r hr).elim fun j h => ⟨j, by omega, h.2⟩
  have hs6 : ∀ r, r < Gn → ∃ j, j < 6 ∧ hi (tw + 6) r = nI j := fun r hr => (hs r hr).elim fun j h => ⟨j, by omega, h.2⟩
  refine sv_entry (by decide +kernel) rfl rfl (Nat.le_of_ble_eq_true rfl) (by simp [Value.category, sv_rf]) [some (sv_rf G.1 0), some (.int x), some (.int what)] rfl ?_
  refine S_iload_1 (pc := 0) dX7_group_0 ?_
  refine S_aload_0 (pc := 1) dX7_group_1 ?_
  refine fgX7_10 (pc := 2) sh_0 hv_0_0 dX7_group_2 ?_
  refine fgX7_122 (pc := 5) htw dX7_group_5 ?_
  refine caX7_68 (pc := 8) (t_X7_isIn (l := l) (G := G)) (Nat.le_of_ble_eq_true rfl) ⟨rfl, rfl, ⟨by decide, by decide⟩, by decide, by decide⟩ dX7_group_8 (fun r8 a8 b8 c8 p8 => ?_)
  obtain ⟨rfl, rfl, rfl, rfl⟩ := p8
  refine J_if_ne_b (pc := 11) 16 dX7_group_11 (by decide) (fun h11 => ?_) (fun h11 => ?_)
  · rw [hGn] at h11
    obtain ⟨j, hj, rfl⟩ := sv_ix h11 (by omega)
    refine S_iload_2 (pc := 16) dX7_group_16 ?_
    rcases sv_sw4 what with rfl | rfl | rfl | rfl | ⟨hne, hsw⟩
    · refine J_tableIn (pc := 17) 48 dX7_group_17 (by decide) (by decide) rfl (by decide) ?_
      refine S_aload_0 (pc := 48) dX7_group_48 ?_
      refine fgX7_10 (pc := 49) sh_0 hv_0_0 dX7_group_49 ?_
      refine fgX7_125 (pc := 52) htw (hv_T8 htw) dX7_group_52 ?_
      refine S_iload_1 (pc := 55) dX7_group_55 ?_
      refine caX7_105 (pc := 56) (t_X7_at_n (l := l) (G := G) (j := j) (ar_T8 htw) (by omega) (by decide)) (Nat.le_of_ble_eq_true rfl) ⟨rfl, rfl, ⟨by decide, by decide⟩, by decide, by decide⟩ dX7_group_56 (fun r56 a56 b56 c56 p56 => ?_)
      obtain ⟨rfl, rfl, rfl, rfl⟩ := p56
      exact J_ireturn (pc := 59) dX7_group_59 rfl rfl ⟨_, rfl, rfl, ⟨by unfold fGroup; first | (rw [if_neg (by rw [← hGn]; exact h11)]) | (rw [if_pos ⟨nI_pos' (by omega), nI_lt hj (by omega)⟩, nI_clamp (by omega)]; first | rfl | simp [hne]), rfl, rfl, rfl⟩⟩
    · refine J_tableIn (pc := 17) 60 dX7_group_17 (by decide) (by decide) rfl (by decide) ?_
      refine S_aload_0 (pc := 60) dX7_group_60 ?_
      refine fgX7_10 (pc := 61) sh_0 hv_0_0 dX7_group_61 ?_
      refine fgX7_128 (pc := 64) htw (hv_T9 htw) dX7_group_64 ?_
      refine S_iload_1 (pc := 67) dX7_group_67 ?_
      refine caX7_105 (pc := 68) (t_X7_at_n (l := l) (G := G) (j := j) (ar_T9 htw) (by omega) (by decide)) (Nat.le_of_ble_eq_true rfl) ⟨rfl, rfl, ⟨by decide, by decide⟩, by decide, by decide⟩ dX7_group_68 (fun r68 a68 b68 c68 p68 => ?_)
      obtain ⟨rfl, rfl, rfl, rfl⟩ := p68
      exact J_ireturn (pc := 71) dX7_group_71 rfl rfl ⟨_, rfl, rfl, ⟨by unfold fGroup; first | (rw [if_neg (by rw [← hGn]; exact h11)]) | (rw [if_pos ⟨nI_pos' (by omega), nI_lt hj (by omega)⟩, nI_clamp (by omega)]; first | rfl | simp [hne]), rfl, rfl, rfl⟩⟩
    · refine J_tableIn (pc := 17) 72 dX7_group_17 (by decide) (by decide) rfl (by decide) ?_
      refine S_aload_0 (pc := 72) dX7_group_72 ?_
      refine fgX7_10 (pc := 73) sh_0 hv_0_0 dX7_group_73 ?_
      refine fgX7_131 (pc := 76) htw (hv_T10 htw) dX7_group_76 ?_
      refine S_iload_1 (pc := 79) dX7_group_79 ?_
      refine caX7_105 (pc := 80) (t_X7_at_n (l := l) (G := G) (j := j) (ar_T10 htw) (by omega) (by decide)) (Nat.le_of_ble_eq_true rfl) ⟨rfl, rfl, ⟨by decide, by decide⟩, by decide, by decide⟩ dX7_group_80 (fun r80 a80 b80 c80 p80 => ?_)
      obtain ⟨rfl, rfl, rfl, rfl⟩ := p80
      exact J_ireturn (pc := 83) dX7_group_83 rfl rfl ⟨_, rfl, rfl, ⟨by unfold fGroup; first | (rw [if_neg (by rw [← hGn]; exact h11)]) | (rw [if_pos ⟨nI_pos' (by omega), nI_lt hj (by omega)⟩, nI_clamp (by omega)]; first | rfl | simp [hne]), rfl, rfl, rfl⟩⟩
    · refine J_tableIn (pc := 17) 84 dX7_group_17 (by decide) (by decide) rfl (by decide) ?_
      refine S_aload_0 (pc := 84) dX7_group_84 ?_
      refine fgX7_29 (pc := 85) sh_0 hv_0_3 dX7_group_85 ?_
      refine fgX7_134 (pc := 88) sh_17 dX7_group_88 ?_
      refine S_iload_1 (pc := 91) dX7_group_91 ?_
      refine caX7_118 (pc := 92) (t_X7_bit_n (l := l) (G := G) (k := j) (by omega)) (Nat.le_of_ble_eq_true rfl) ⟨rfl, rfl, ⟨by decide, by decide⟩, by decide, by decide⟩ dX7_group_92 (fun r92 a92 b92 c92 p92 => ?_)
      obtain ⟨rfl, rfl, rfl, rfl⟩ := p92
      exact J_ireturn (pc := 95) dX7_group_95 rfl rfl ⟨_, rfl, rfl, ⟨by unfold fGroup; first | (rw [if_neg (by rw [← hGn]; exact h11)]) | (rw [if_pos ⟨nI_pos' (by omega), nI_lt hj (by omega)⟩, nI_clamp (by omega)]; first | rfl | simp [hne]), rfl, rfl, rfl⟩⟩
    · refine J_tableOut (pc := 17) 96 dX7_group_17 hsw (by decide) ?_
      refine J_iconst (pc := 96) (-1) rfl dX7_group_96 ?_
      exact J_ireturn (pc := 97) dX7_group_97 rfl rfl ⟨_, rfl, rfl, ⟨by unfold fGroup; first | (rw [if_neg (by rw [← hGn]; exact h11)]) | (rw [if_pos ⟨nI_pos' (by omega), nI_lt hj (by omega)⟩, nI_clamp (by omega)]; first | rfl | simp [hne]), rfl, rfl, rfl⟩⟩
  · refine J_iconst (pc := 14) (-1) rfl dX7_group_14 ?_
    exact J_ireturn (pc := 15) dX7_group_15 rfl rfl ⟨_, rfl, rfl, ⟨by unfold fGroup; first | (rw [if_neg (by rw [← hGn]; exact h11)]) | (rw [if_pos ⟨nI_pos' (by omega), nI_lt hj (by omega)⟩, nI_clamp (by omega)]; first | rfl | simp [hne]), rfl, rfl, rfl⟩⟩
set_option maxRecDepth 20000 in
set_option maxHeartbeats 2000000 in
theorem t_X7_count {l : Launch} {G : svG} {hi : svH} {hl : svL} {tw dr : Nat} {pm : Nat → Nat} {C L T Gn : Nat} (hx : xT hi tw C L T Gn) {what : Int32} : svIp l G yX7_count mX7_count rX7_count [sv_rf G.1 0, .int what] hi hl (sv_hr tw dr pm) (fCount C L T Gn (hi 66 0) (hi 21 0) (hi 15 0) what) := by
  obtain ⟨htw, hCc, hLc, hT, hGn, hC2, hC6, hL1, hLC, hT8, hG6, hf, hs, hk⟩ := id hx
  have htw2 := sv_tw htw
  have hk6 : ∀ t, t < T → ∃ j, j < 6 ∧ hi 20 t = nI j := fun t ht => (hk t ht).elim fun j h => ⟨j, by omega, h.2⟩
  have hf6 : ∀ r, r < Gn → ∃ j, j < 6 ∧ hi (tw + 5) r = nI j := fun r hr => (hf r hr).elim fun j h => ⟨j, by omega, h.2⟩
  have hs6 : ∀ r, r < Gn → ∃ j, j < 6 ∧ hi (tw + 6) r = nI j := fun r hr => (hs r hr).elim fun j h => ⟨j, by omega, h.2⟩
  refine sv_entry (by decide +kernel) rfl rfl (Nat.le_of_ble_eq_true rfl) (by simp [Value.category, sv_rf]) [some (sv_rf G.1 0), some (.int what)] rfl ?_
  refine S_iload_1 (pc := 0) dX7_count_0 ?_
  rcases sv_sw7 what with rfl | rfl | rfl | rfl | rfl | rfl | rfl | ⟨hne, hsw⟩
  · refine J_tableIn (pc := 1) 44 dX7_count_1 (by decide) (by decide) rfl (by decide) ?_
    refine S_aload_0 (pc := 44) dX7_count_44 ?_
    refine fgX7_10 (pc := 45) sh_0 hv_0_0 dX7_count_45 ?_
    refine fgX7_137 (pc := 48) htw dX7_count_48 ?_
    exact J_ireturn (pc := 51) dX7_count_51 rfl rfl ⟨_, rfl, rfl, ⟨by unfold fCount; first | rfl | exact hCc.symm | exact hLc.symm | exact hT.symm | exact hGn.symm | simp [hne], rfl, rfl, rfl⟩⟩
  · refine J_tableIn (pc := 1) 52 dX7_count_1 (by decide) (by decide) rfl (by decide) ?_
    refine S_aload_0 (pc := 52) dX7_count_52 ?_
    refine fgX7_10 (pc := 53) sh_0 hv_0_0 dX7_count_53 ?_
    refine fgX7_188 (pc := 56) htw dX7_count_56 ?_
    exact J_ireturn (pc := 59) dX7_count_59 rfl rfl ⟨_, rfl, rfl, ⟨by unfold fCount; first | rfl | exact hCc.symm | exact hLc.symm | exact hT.symm | exact hGn.symm | simp [hne], rfl, rfl, rfl⟩⟩
  · refine J_tableIn (pc := 1) 60 dX7_count_1 (by decide) (by decide) rfl (by decide) ?_
    refine S_aload_0 (pc := 60) dX7_count_60 ?_
    refine fgX7_10 (pc := 61) sh_0 hv_0_0 dX7_count_61 ?_
    refine fgX7_98 (pc := 64) htw dX7_count_64 ?_
    exact J_ireturn (pc := 67) dX7_count_67 rfl rfl ⟨_, rfl, rfl, ⟨by unfold fCount; first | rfl | exact hCc.symm | exact hLc.symm | exact hT.symm | exact hGn.symm | simp [hne], rfl, rfl, rfl⟩⟩
  · refine J_tableIn (pc := 1) 68 dX7_count_1 (by decide) (by decide) rfl (by decide) ?_
    refine S_aload_0 (pc := 68) dX7_count_68 ?_
    refine fgX7_10 (pc := 69) sh_0 hv_0_0 dX7_count_69 ?_
    refine fgX7_122 (pc := 72) htw dX7_count_72 ?_
    exact J_ireturn (pc := 75) dX7_count_75 rfl rfl ⟨_, rfl, rfl, ⟨by unfold fCount; first | rfl | exact hCc.symm | exact hLc.symm | exact hT.symm | exact hGn.symm | simp [hne], rfl, rfl, rfl⟩⟩
  · refine J_tableIn (pc := 1) 76 dX7_count_1 (by decide) (by decide) rfl (by decide) ?_
    refine S_aload_0 (pc := 76) dX7_count_76 ?_
    refine fgX7_50 (pc := 77) sh_0 hv_0_6 dX7_count_77 ?_
    refine fgX7_91 (pc := 80) sh_66 dX7_count_80 ?_
    exact J_ireturn (pc := 83) dX7_count_83 rfl rfl ⟨_, rfl, rfl, ⟨by unfold fCount; first | rfl | exact hCc.symm | exact hLc.symm | exact hT.symm | exact hGn.symm | simp [hne], rfl, rfl, rfl⟩⟩
  · refine J_tableIn (pc := 1) 84 dX7_count_1 (by decide) (by decide) rfl (by decide) ?_
    refine S_aload_0 (pc := 84) dX7_count_84 ?_
    refine fgX7_36 (pc := 85) sh_0 hv_0_4 dX7_count_85 ?_
    refine fgX7_88 (pc := 88) sh_21 dX7_count_88 ?_
    exact J_ireturn (pc := 91) dX7_count_91 rfl rfl ⟨_, rfl, rfl, ⟨by unfold fCount; first | rfl | exact hCc.symm | exact hLc.symm | exact hT.symm | exact hGn.symm | simp [hne], rfl, rfl, rfl⟩⟩
  · refine J_tableIn (pc := 1) 92 dX7_count_1 (by decide) (by decide) rfl (by decide) ?_
    refine S_aload_0 (pc := 92) dX7_count_92 ?_
    refine fgX7_22 (pc := 93) sh_0 hv_0_2 dX7_count_93 ?_
    refine fgX7_72 (pc := 96) sh_15 dX7_count_96 ?_
    exact J_ireturn (pc := 99) dX7_count_99 rfl rfl ⟨_, rfl, rfl, ⟨by unfold fCount; first | rfl | exact hCc.symm | exact hLc.symm | exact hT.symm | exact hGn.symm | simp [hne], rfl, rfl, rfl⟩⟩
  · refine J_tableOut (pc := 1) 100 dX7_count_1 hsw (by decide) ?_
    refine J_iconst (pc := 100) (-1) rfl dX7_count_100 ?_
    exact J_ireturn (pc := 101) dX7_count_101 rfl rfl ⟨_, rfl, rfl, ⟨by unfold fCount; first | rfl | exact hCc.symm | exact hLc.symm | exact hT.symm | exact hGn.symm | simp [hne], rfl, rfl, rfl⟩⟩
set_option maxRecDepth 20000 in
set_option maxHeartbeats 2000000 in
theorem t_X7_trace {l : Launch} {G : svG} {hi : svH} {hl : svL} {tw dr : Nat} {pm : Nat → Nat} : svW l G yX7_trace mX7_trace rX7_trace [sv_rf G.1 0] hi hl (sv_hr tw dr pm) (fun r a b c => hl 0 9 = r ∧ hi = a ∧ hl = b ∧ sv_hr tw dr pm = c) := by
  refine sv_entry (by decide +kernel) rfl rfl (Nat.le_of_ble_eq_true rfl) (by simp [Value.category, sv_rf]) [some (sv_rf G.1 0)] rfl ?_
  refine S_aload_0 (pc := 0) dX7_trace_0 ?_
  refine fgX7_64 (pc := 1) sh_0 dX7_trace_1 ?_
  exact J_lreturn (pc := 4) dX7_trace_4 rfl ⟨_, rfl, rfl, ⟨rfl, rfl, rfl, rfl⟩⟩
set_option maxRecDepth 20000 in
set_option maxHeartbeats 2000000 in
theorem t_X7_clear {l : Launch} {G : svG} {hi : svH} {hl : svL} {tw dr : Nat} {pm : Nat → Nat} : svIh l G yX7_clear mX7_clear rX7_clear [sv_rf G.1 0] hi hl (sv_hr tw dr pm) (hi 15 0) (sv_u2 hi 15 0 0) := by
  refine sv_entry (by decide +kernel) rfl rfl (Nat.le_of_ble_eq_true rfl) (by simp [Value.category, sv_rf]) [some (sv_rf G.1 0), none] rfl ?_
  refine S_aload_0 (pc := 0) dX7_clear_0 ?_
  refine fgX7_22 (pc := 1) sh_0 hv_0_2 dX7_clear_1 ?_
  refine fgX7_72 (pc := 4) sh_15 dX7_clear_4 ?_
  refine S_istore_1 (pc := 7) dX7_clear_7 (by decide) ?_
  refine S_aload_0 (pc := 8) dX7_clear_8 ?_
  refine fgX7_22 (pc := 9) sh_0 hv_0_2 dX7_clear_9 ?_
  refine J_iconst (pc := 12) (0) rfl dX7_clear_12 ?_
  refine fpX7_72 (pc := 13) sh_15 dX7_clear_13 ?_
  refine S_iload_1 (pc := 16) dX7_clear_16 ?_
  exact J_ireturn (pc := 17) dX7_clear_17 rfl rfl ⟨_, rfl, rfl, ⟨rfl, rfl, rfl, rfl⟩⟩
set_option maxRecDepth 20000 in
set_option maxHeartbeats 2000000 in
theorem t_X7_forget {l : Launch} {G : svG} {hi : svH} {hl : svL} {tw dr : Nat} {pm : Nat → Nat} : svIh l G yX7_forget mX7_forget rX7_forget [sv_rf G.1 0] hi hl (sv_hr tw dr pm) (hi 66 0) (sv_u2 hi 66 0 0) := by
  refine sv_entry (by decide +kernel) rfl rfl (Nat.le_of_ble_eq_true rfl) (by simp [Value.category, sv_rf]) [some (sv_rf G.1 0), none] rfl ?_
  refine S_aload_0 (pc := 0) dX7_forget_0 ?_
  refine fgX7_50 (pc := 1) sh_0 hv_0_6 dX7_forget_1 ?_
  refine fgX7_91 (pc := 4) sh_66 dX7_forget_4 ?_
  refine S_istore_1 (pc := 7) dX7_forget_7 (by decide) ?_
  refine S_aload_0 (pc := 8) dX7_forget_8 ?_
  refine fgX7_50 (pc := 9) sh_0 hv_0_6 dX7_forget_9 ?_
  refine J_iconst (pc := 12) (0) rfl dX7_forget_12 ?_
  refine fpX7_91 (pc := 13) sh_66 dX7_forget_13 ?_
  refine S_iload_1 (pc := 16) dX7_forget_16 ?_
  exact J_ireturn (pc := 17) dX7_forget_17 rfl rfl ⟨_, rfl, rfl, ⟨rfl, rfl, rfl, rfl⟩⟩
set_option maxRecDepth 20000 in
set_option maxHeartbeats 2000000 in
theorem t_X7_now {l : Launch} {G : svG} {hi : svH} {hl : svL} {tw dr : Nat} {pm : Nat → Nat} {C L T Gn : Nat} (hx : xT hi tw C L T Gn) {what : Int32} : svI l G yX7_now mX7_now rX7_now [sv_rf G.1 0, .int what] hi hl (sv_hr tw dr pm) (fun r a b c => fNow (hi 17 0) (hi 17 1) (hi 17 2) (mLeft C (xSum hi tw T 0) L) (mLeft C (xSum hi tw T (mOpen (hi 17 3) (hi 17 0) (hi 19) T)) L) (nI (xWin hi tw C T Gn 0 L)) (nI (xWin hi tw C T Gn (mOpen (hi 17 3) (hi 17 0) (hi 19) T) L)) what = r ∧ (∀ q, q ≠ 64 → q ≠ 65 → a q = hi q) ∧ hl = b ∧ sv_hr tw dr pm = c) := by
  obtain ⟨htw, hCc, hLc, hT, hGn, hC2, hC6, hL1, hLC, hT8, hG6, hf, hs, hk⟩ := id hx
  have htw2 := sv_tw htw
  have hk6 : ∀ t, t < T → ∃ j, j < 6 ∧ hi 20 t = nI j := fun t ht => (hk t ht).elim fun j h => ⟨j, by omega, h.2⟩
  have hf6 : ∀ r, r < Gn → ∃ j, j < 6 ∧ hi (tw + 5) r = nI j := fun r hr => (hf r hr).elim fun j h => ⟨j, by omega, h.2⟩
  have hs6 : ∀ r, r < Gn → ∃ j, j < 6 ∧ hi (tw + 6) r = nI j := fun r hr => (hs r hr).elim fun j h => ⟨j, by omega, h.2⟩
  refine sv_entry (by decide +kernel) rfl rfl (Nat.le_of_ble_eq_true rfl) (by simp [Value.category, sv_rf]) [some (sv_rf G.1 0), some (.int what)] rfl ?_
  refine S_iload_1 (pc := 0) dX7_now_0 ?_
  rcases sv_sw7 what with rfl | rfl | rfl | rfl | rfl | rfl | rfl | ⟨hne, hsw⟩
  · refine J_tableIn (pc := 1) 44 dX7_now_1 (by decide) (by decide) rfl (by decide) ?_
    refine S_aload_0 (pc := 44) dX7_now_44 ?_
    refine fgX7_29 (pc := 45) sh_0 hv_0_3 dX7_now_45 ?_
    refine fgX7_150 (pc := 48) sh_17 dX7_now_48 ?_
    exact J_ireturn (pc := 51) dX7_now_51 rfl rfl ⟨_, rfl, rfl, ⟨by unfold fNow; first | rfl | simp [hne], by first | exact i1 | exact fun _ _ _ => rfl, rfl, rfl⟩⟩
  · refine J_tableIn (pc := 1) 52 dX7_now_1 (by decide) (by decide) rfl (by decide) ?_
    refine S_aload_0 (pc := 52) dX7_now_52 ?_
    refine fgX7_29 (pc := 53) sh_0 hv_0_3 dX7_now_53 ?_
    refine fgX7_167 (pc := 56) sh_17 dX7_now_56 ?_
    exact J_ireturn (pc := 59) dX7_now_59 rfl rfl ⟨_, rfl, rfl, ⟨by unfold fNow; first | rfl | simp [hne], by first | exact i1 | exact fun _ _ _ => rfl, rfl, rfl⟩⟩
  · refine J_tableIn (pc := 1) 60 dX7_now_1 (by decide) (by decide) rfl (by decide) ?_
    refine S_aload_0 (pc := 60) dX7_now_60 ?_
    refine fgX7_29 (pc := 61) sh_0 hv_0_3 dX7_now_61 ?_
    refine fgX7_157 (pc := 64) sh_17 dX7_now_64 ?_
    exact J_ireturn (pc := 67) dX7_now_67 rfl rfl ⟨_, rfl, rfl, ⟨by unfold fNow; first | rfl | simp [hne], by first | exact i1 | exact fun _ _ _ => rfl, rfl, rfl⟩⟩
  · refine J_tableIn (pc := 1) 68 dX7_now_1 (by decide) (by decide) rfl (by decide) ?_
    refine S_aload_0 (pc := 68) dX7_now_68 ?_
    refine J_iconst (pc := 69) (0) rfl dX7_now_69 ?_
    refine caX7_185 (pc := 70) (t_X7_leftAfter (l := l) (G := G) hx) sh_0 (Nat.le_of_ble_eq_true rfl) ⟨rfl, rfl, ⟨by decide, by decide⟩, by decide, by decide⟩ dX7_now_70 (fun r70 a70 b70 c70 p70 => ?_)
    obtain ⟨rfl, i1, rfl, rfl⟩ := p70
    exact J_ireturn (pc := 73) dX7_now_73 rfl rfl ⟨_, rfl, rfl, ⟨by unfold fNow; first | rfl | simp [hne], by first | exact i1 | exact fun _ _ _ => rfl, rfl, rfl⟩⟩
  · refine J_tableIn (pc := 1) 74 dX7_now_1 (by decide) (by decide) rfl (by decide) ?_
    refine S_aload_0 (pc := 74) dX7_now_74 ?_
    refine S_aload_0 (pc := 75) dX7_now_75 ?_
    refine caX7_140 (pc := 76) (t_X7_openTrains (l := l) (G := G) htw hT hT8) sh_0 (Nat.le_of_ble_eq_true rfl) ⟨rfl, rfl, ⟨by decide, by decide⟩, by decide, by decide⟩ dX7_now_76 (fun r76 a76 b76 c76 p76 => ?_)
    obtain ⟨rfl, rfl, rfl, rfl⟩ := p76
    refine caX7_185 (pc := 79) (t_X7_leftAfter (l := l) (G := G) hx) sh_0 (Nat.le_of_ble_eq_true rfl) ⟨rfl, rfl, ⟨by decide, by decide⟩, by decide, by decide⟩ dX7_now_79 (fun r79 a79 b79 c79 p79 => ?_)
    obtain ⟨rfl, i1, rfl, rfl⟩ := p79
    exact J_ireturn (pc := 82) dX7_now_82 rfl rfl ⟨_, rfl, rfl, ⟨by unfold fNow; first | rfl | simp [hne], by first | exact i1 | exact fun _ _ _ => rfl, rfl, rfl⟩⟩
  · refine J_tableIn (pc := 1) 83 dX7_now_1 (by decide) (by decide) rfl (by decide) ?_
    refine S_aload_0 (pc := 83) dX7_now_83 ?_
    refine J_iconst (pc := 84) (0) rfl dX7_now_84 ?_
    refine S_aload_0 (pc := 85) dX7_now_85 ?_
    refine fgX7_10 (pc := 86) sh_0 hv_0_0 dX7_now_86 ?_
    refine fgX7_188 (pc := 89) htw dX7_now_89 ?_
    refine caX7_191 (pc := 92) (t_X7_winnerAfter_l (l := l) (G := G) hx) sh_0 (Nat.le_of_ble_eq_true rfl) ⟨rfl, rfl, ⟨by decide, by decide⟩, by decide, by decide⟩ dX7_now_92 (fun r92 a92 b92 c92 p92 => ?_)
    obtain ⟨rfl, i1, rfl, rfl⟩ := p92
    exact J_ireturn (pc := 95) dX7_now_95 rfl rfl ⟨_, rfl, rfl, ⟨by unfold fNow; first | rfl | simp [hne], by first | exact i1 | exact fun _ _ _ => rfl, rfl, rfl⟩⟩
  · refine J_tableIn (pc := 1) 96 dX7_now_1 (by decide) (by decide) rfl (by decide) ?_
    refine S_aload_0 (pc := 96) dX7_now_96 ?_
    refine S_aload_0 (pc := 97) dX7_now_97 ?_
    refine caX7_140 (pc := 98) (t_X7_openTrains (l := l) (G := G) htw hT hT8) sh_0 (Nat.le_of_ble_eq_true rfl) ⟨rfl, rfl, ⟨by decide, by decide⟩, by decide, by decide⟩ dX7_now_98 (fun r98 a98 b98 c98 p98 => ?_)
    obtain ⟨rfl, rfl, rfl, rfl⟩ := p98
    refine S_aload_0 (pc := 101) dX7_now_101 ?_
    refine fgX7_10 (pc := 102) sh_0 hv_0_0 dX7_now_102 ?_
    refine fgX7_188 (pc := 105) htw dX7_now_105 ?_
    refine caX7_191 (pc := 108) (t_X7_winnerAfter_l (l := l) (G := G) hx) sh_0 (Nat.le_of_ble_eq_true rfl) ⟨rfl, rfl, ⟨by decide, by decide⟩, by decide, by decide⟩ dX7_now_108 (fun r108 a108 b108 c108 p108 => ?_)
    obtain ⟨rfl, i1, rfl, rfl⟩ := p108
    exact J_ireturn (pc := 111) dX7_now_111 rfl rfl ⟨_, rfl, rfl, ⟨by unfold fNow; first | rfl | simp [hne], by first | exact i1 | exact fun _ _ _ => rfl, rfl, rfl⟩⟩
  · refine J_tableOut (pc := 1) 112 dX7_now_1 hsw (by decide) ?_
    refine J_iconst (pc := 112) (-1) rfl dX7_now_112 ?_
    exact J_ireturn (pc := 113) dX7_now_113 rfl rfl ⟨_, rfl, rfl, ⟨by unfold fNow; first | rfl | simp [hne], by first | exact i1 | exact fun _ _ _ => rfl, rfl, rfl⟩⟩
def fVotes (C : Nat) (f0 fE : Nat → Int32) (x en : Int32) : Int32 := if ¬ (0 ≤ x ∧ x < nI C) ∨ ¬ (0 ≤ en ∧ en < 2) then -1 else if en = 1 then fE x.toNatClampNeg else f0 x.toNatClampNeg
set_option maxRecDepth 20000 in
set_option maxHeartbeats 2000000 in
theorem t_X7_votes {l : Launch} {G : svG} {hi : svH} {hl : svL} {tw dr : Nat} {pm : Nat → Nat} {C L T Gn : Nat} (hx : xT hi tw C L T Gn) {x en : Int32} : svI l G yX7_votes mX7_votes rX7_votes [sv_rf G.1 0, .int x, .int en] hi hl (sv_hr tw dr pm) (fun r a b c => fVotes C (xSum hi tw T 0) (xSum hi tw T (mOpen (hi 17 3) (hi 17 0) (hi 19) T)) x en = r ∧ (∀ q, q ≠ 64 → q ≠ 65 → a q = hi q) ∧ hl = b ∧ sv_hr tw dr pm = c) := by
  obtain ⟨htw, hCc, hLc, hT, hGn, hC2, hC6, hL1, hLC, hT8, hG6, hf, hs, hk⟩ := id hx
  have htw2 := sv_tw htw
  have hk6 : ∀ t, t < T → ∃ j, j < 6 ∧ hi 20 t = nI j := fun t ht => (hk t ht).elim fun j h => ⟨j, by omega, h.2⟩
  have hf6 : ∀ r, r < Gn → ∃ j, j < 6 ∧ hi (tw + 5) r = nI j := fun r hr => (hf r hr).elim fun j h => ⟨j, by omega, h.2⟩
  have hs6 : ∀ r, r < Gn → ∃ j, j < 6 ∧ hi (tw + 6) r = nI j := fun r hr => (hs r hr).elim fun j h => ⟨j, by omega, h.2⟩
  refine sv_entry (by decide +kernel) rfl rfl (Nat.le_of_ble_eq_true rfl) (by simp [Value.category, sv_rf]) [some (sv_rf G.1 0), some (.int x), some (.int en)] rfl ?_
  refine S_iload_1 (pc := 0) dX7_votes_0 ?_
  refine S_aload_0 (pc := 1) dX7_votes_1 ?_
  refine fgX7_10 (pc := 2) sh_0 hv_0_0 dX7_votes_2 ?_
  refine fgX7_137 (pc := 5) htw dX7_votes_5 ?_
  refine caX7_68 (pc := 8) (t_X7_isIn (l := l) (G := G)) (Nat.le_of_ble_eq_true rfl) ⟨rfl, rfl, ⟨by decide, by decide⟩, by decide, by decide⟩ dX7_votes_8 (fun r8 a8 b8 c8 p8 => ?_)
  obtain ⟨rfl, rfl, rfl, rfl⟩ := p8
  refine J_if_eq_b (pc := 11) 22 dX7_votes_11 (by decide) (fun h11 => ?_) (fun h11 => ?_)
  · rw [hCc] at h11
    refine J_iconst (pc := 22) (-1) rfl dX7_votes_22 ?_
    exact J_ireturn (pc := 23) dX7_votes_23 rfl rfl ⟨_, rfl, rfl, ⟨by unfold fVotes; first | (rw [if_pos (Or.inl h11)]) | (rw [if_pos (Or.inr h19)]) | (rw [if_neg (by simp only [not_or, Classical.not_not]; exact ⟨h11, h19⟩), nI_clamp (by omega)]; first | (rw [if_pos h27]; exact (i2 j (by omega)).symm) | (rw [if_neg h27]; exact (i2 j (by omega)).symm)), by first | exact (fun q h1 _ => i1 q h1) | exact fun _ _ _ => rfl, rfl, rfl⟩⟩
  · rw [hCc] at h11
    obtain ⟨j, hj, rfl⟩ := sv_ix h11 (by omega)
    refine S_iload_2 (pc := 14) dX7_votes_14 ?_
    refine J_iconst (pc := 15) (2) rfl dX7_votes_15 ?_
    refine caX7_68 (pc := 16) (t_X7_isIn (l := l) (G := G)) (Nat.le_of_ble_eq_true rfl) ⟨rfl, rfl, ⟨by decide, by decide⟩, by decide, by decide⟩ dX7_votes_16 (fun r16 a16 b16 c16 p16 => ?_)
    obtain ⟨rfl, rfl, rfl, rfl⟩ := p16
    refine J_if_ne_b (pc := 19) 24 dX7_votes_19 (by decide) (fun h19 => ?_) (fun h19 => ?_)
    · refine S_aload_0 (pc := 24) dX7_votes_24 ?_
      refine S_iload_2 (pc := 25) dX7_votes_25 ?_
      refine J_iconst (pc := 26) (1) rfl dX7_votes_26 ?_
      refine J_icmp_ne (pc := 27) 37 dX7_votes_27 (by decide) (fun h27 => ?_) (fun h27 => ?_)
      · refine J_iconst (pc := 37) (0) rfl dX7_votes_37 ?_
        refine caX7_144 (pc := 38) (t_X7_castFor (l := l) (G := G) htw hT hT8 hk6) sh_0 (Nat.le_of_ble_eq_true rfl) ⟨rfl, rfl, ⟨by decide, by decide⟩, by decide, by decide⟩ dX7_votes_38 (fun a38 b38 c38 p38 => ?_)
        obtain ⟨i1, i2, rfl, rfl⟩ := p38
        refine S_aload_0 (pc := 41) dX7_votes_41 ?_
        refine fgX7_43 (pc := 42) sh_0 hv_0_5 dX7_votes_42 ?_
        refine fgX7_147 (pc := 45) sh_63 hv_63_0 dX7_votes_45 ?_
        refine S_iload_1 (pc := 48) dX7_votes_48 ?_
        refine caX7_105 (pc := 49) (t_X7_at_n (l := l) (G := G) (j := j) sh_64 (by omega) (by decide)) (Nat.le_of_ble_eq_true rfl) ⟨rfl, rfl, ⟨by decide, by decide⟩, by decide, by decide⟩ dX7_votes_49 (fun r49 a49 b49 c49 p49 => ?_)
        obtain ⟨rfl, rfl, rfl, rfl⟩ := p49
        exact J_ireturn (pc := 52) dX7_votes_52 rfl rfl ⟨_, rfl, rfl, ⟨by unfold fVotes; first | (rw [if_pos (Or.inl h11)]) | (rw [if_pos (Or.inr h19)]) | (rw [if_neg (by simp only [not_or, Classical.not_not]; exact ⟨h11, h19⟩), nI_clamp (by omega)]; first | (rw [if_pos h27]; exact (i2 j (by omega)).symm) | (rw [if_neg h27]; exact (i2 j (by omega)).symm)), by first | exact (fun q h1 _ => i1 q h1) | exact fun _ _ _ => rfl, rfl, rfl⟩⟩
      · refine S_aload_0 (pc := 30) dX7_votes_30 ?_
        refine caX7_140 (pc := 31) (t_X7_openTrains (l := l) (G := G) htw hT hT8) sh_0 (Nat.le_of_ble_eq_true rfl) ⟨rfl, rfl, ⟨by decide, by decide⟩, by decide, by decide⟩ dX7_votes_31 (fun r31 a31 b31 c31 p31 => ?_)
        obtain ⟨rfl, rfl, rfl, rfl⟩ := p31
        refine J_goto (pc := 34) 38 dX7_votes_34 (by decide) ?_
        refine caX7_144 (pc := 38) (t_X7_castFor (l := l) (G := G) htw hT hT8 hk6) sh_0 (Nat.le_of_ble_eq_true rfl) ⟨rfl, rfl, ⟨by decide, by decide⟩, by decide, by decide⟩ dX7_votes_38 (fun a38 b38 c38 p38 => ?_)
        obtain ⟨i1, i2, rfl, rfl⟩ := p38
        refine S_aload_0 (pc := 41) dX7_votes_41 ?_
        refine fgX7_43 (pc := 42) sh_0 hv_0_5 dX7_votes_42 ?_
        refine fgX7_147 (pc := 45) sh_63 hv_63_0 dX7_votes_45 ?_
        refine S_iload_1 (pc := 48) dX7_votes_48 ?_
        refine caX7_105 (pc := 49) (t_X7_at_n (l := l) (G := G) (j := j) sh_64 (by omega) (by decide)) (Nat.le_of_ble_eq_true rfl) ⟨rfl, rfl, ⟨by decide, by decide⟩, by decide, by decide⟩ dX7_votes_49 (fun r49 a49 b49 c49 p49 => ?_)
        obtain ⟨rfl, rfl, rfl, rfl⟩ := p49
        exact J_ireturn (pc := 52) dX7_votes_52 rfl rfl ⟨_, rfl, rfl, ⟨by unfold fVotes; first | (rw [if_pos (Or.inl h11)]) | (rw [if_pos (Or.inr h19)]) | (rw [if_neg (by simp only [not_or, Classical.not_not]; exact ⟨h11, h19⟩), nI_clamp (by omega)]; first | (rw [if_pos h27]; exact (i2 j (by omega)).symm) | (rw [if_neg h27]; exact (i2 j (by omega)).symm)), by first | exact (fun q h1 _ => i1 q h1) | exact fun _ _ _ => rfl, rfl, rfl⟩⟩
    · refine J_iconst (pc := 22) (-1) rfl dX7_votes_22 ?_
      exact J_ireturn (pc := 23) dX7_votes_23 rfl rfl ⟨_, rfl, rfl, ⟨by unfold fVotes; first | (rw [if_pos (Or.inl h11)]) | (rw [if_pos (Or.inr h19)]) | (rw [if_neg (by simp only [not_or, Classical.not_not]; exact ⟨h11, h19⟩), nI_clamp (by omega)]; first | (rw [if_pos h27]; exact (i2 j (by omega)).symm) | (rw [if_neg h27]; exact (i2 j (by omega)).symm)), by first | exact (fun q h1 _ => i1 q h1) | exact fun _ _ _ => rfl, rfl, rfl⟩⟩
