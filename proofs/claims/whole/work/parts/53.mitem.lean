theorem look_out2 {x : Int32} (h1 : ¬ x = 99) (h3 : ¬ x = 116) {o1 o3 d : Int} : Op.lookupswitch.offset (#[(99, o1), (116, o3)] : Array (Int × Int)).toList d x.toInt = d := by
  have e1 : ¬ x.toInt = 99 := toInt_ne h1
  have e3 : ¬ x.toInt = 116 := toInt_ne h3
  have e1' : ¬ 99 = x.toInt := fun z => e1 z.symm
  have e3' : ¬ 116 = x.toInt := fun z => e3 z.symm
  simp [Op.lookupswitch.offset, e1, e3, e1', e3']
theorem look2 (x : Int32) : x = 99 ∨ x = 116 ∨ (¬ x = 99 ∧ ¬ x = 116) := by
  by_cases h1 : x = 99
  · exact Or.inl h1
  · by_cases h2 : x = 116
    · exact Or.inr (Or.inl h2)
    · exact Or.inr (Or.inr ⟨h1, h2⟩)
def bdBody (x : Int32) (s : Nat → Int32) (n : Nat) (D : svH) (p : Nat) : Nat ⊕ (svH × Nat) := if x = 99 then bdChoice s n D p else if x = 116 then bdTrain s n D p else bdGroup s n D p
theorem mSt_next {hi a : svH} {s : Nat → Int32} {n p q : Nat} {b : Bool} (hS : mSt hi s n (b, q)) (hp : p ≤ n) (lx : lxOut hi a 164 16 17 18 19 s n p) : mSt a s n (b, p) :=
  ⟨by rw [lx.1 173 (by decide)]; exact hS.1, by rw [lx.2.1 15 (by decide) (by decide) (by decide) (by decide)]; exact hS.2.1, hp, mLA_of lx, by rw [lx.2.1 20 (by decide) (by decide) (by decide) (by decide)]; exact hS.2.2.2.2⟩
theorem mFr_lx {hi a : svH} {s : Nat → Int32} {n p : Nat} (lx : lxOut hi a 164 16 17 18 19 s n p) : mFr hi a := ⟨lx.1, fun k hk => lx.2.1 k (by omega) (by omega) (by omega) (by omega)⟩
set_option maxRecDepth 20000 in
set_option maxHeartbeats 2000000 in
theorem t_X8_readBody {l : Launch} {G : svG} {hi : svH} {hl : svL} {tw dr : Nat} {pm : Nat → Nat} {s : Nat → Int32} {n : Nat} (hn2 : n ≤ 120) (hb : ∀ i, i < n → ∃ k, k < 256 ∧ s i = nI k) {p : Nat} {D : svH} (hS : mSt hi s n (false, p)) (hD : dRel D (mCells hi)) {x : Int32} (hc : x = 99 → D 0 3 = 0 ∧ D 0 4 = 0) (ht : x = 116 → ∃ T, D 0 3 = nI T ∧ T < 8) (hg : ¬ x = 99 → ¬ x = 116 → ∃ T, D 0 4 = nI T ∧ T < 6) : svV l G yX8_readBody mX8_readBody rX8_readBody [sv_rf G.1 164, .int x] hi hl (sv_hr tw dr pm) (fun a b c => mFrT hi a ∧ mBody a s n (bdBody x s n D p) ∧ hl = b ∧ sv_hr tw dr pm = c) := by
  refine sv_entry (by decide +kernel) rfl rfl (Nat.le_of_ble_eq_true rfl) (by simp [Value.category, sv_rf]) [some (sv_rf G.1 164), some (.int x)] rfl ?_
  refine S_iload_1 (pc := 0) dX8_readBody_0 ?_
  rcases look2 x with rfl | rfl | hw
  · refine J_lookup (pc := 1) (off := 27) 28 dX8_readBody_1 (by decide) (by decide) (by decide) ?_
    refine S_aload_0 (pc := 28) dX8_readBody_28 ?_
    refine caX8_134 (pc := 29) (t_X8_readTown (l := l) (G := G) hn2 hb hS hD (hc rfl).1 (hc rfl).2) sh_164 (Nat.le_of_ble_eq_true rfl) ⟨rfl, rfl, ⟨by decide, by decide⟩, by decide, by decide⟩ dX8_readBody_29 (fun a29 b29 c29 p29 => ?_)
    obtain ⟨f1, s1, rfl, rfl⟩ := p29
    refine J_goto (pc := 32) 46 dX8_readBody_32 (by decide) ?_
    exact J_return (pc := 46) dX8_readBody_46 rfl ⟨rfl, rfl, ⟨f1, by unfold bdBody; rw [if_pos rfl]; exact s1, rfl, rfl⟩⟩
  · refine J_lookup (pc := 1) (off := 34) 35 dX8_readBody_1 (by decide) (by decide) (by decide) ?_
    refine S_aload_0 (pc := 35) dX8_readBody_35 ?_
    obtain ⟨T, hT, hT8⟩ := ht rfl
    refine caX8_137 (pc := 36) (t_X8_readTrain (l := l) (G := G) hn2 hb hS hD hT hT8) sh_164 (Nat.le_of_ble_eq_true rfl) ⟨rfl, rfl, ⟨by decide, by decide⟩, by decide, by decide⟩ dX8_readBody_36 (fun a36 b36 c36 p36 => ?_)
    obtain ⟨f1, s1, rfl, rfl⟩ := p36
    refine J_goto (pc := 39) 46 dX8_readBody_39 (by decide) ?_
    exact J_return (pc := 46) dX8_readBody_46 rfl ⟨rfl, rfl, ⟨f1, by unfold bdBody; rw [if_neg (by decide), if_pos rfl]; exact s1, rfl, rfl⟩⟩
  · refine J_lookup (pc := 1) (off := 41) 42 dX8_readBody_1 (by decide) (look_out2 hw.1 hw.2) (by decide) ?_
    refine S_aload_0 (pc := 42) dX8_readBody_42 ?_
    obtain ⟨T, hT, hT8⟩ := hg hw.1 hw.2
    refine caX8_140 (pc := 43) (t_X8_readGroup (l := l) (G := G) hn2 hb hS hD hT hT8) sh_164 (Nat.le_of_ble_eq_true rfl) ⟨rfl, rfl, ⟨by decide, by decide⟩, by decide, by decide⟩ dX8_readBody_43 (fun a43 b43 c43 p43 => ?_)
    obtain ⟨f1, s1, rfl, rfl⟩ := p43
    exact J_return (pc := 46) dX8_readBody_46 rfl ⟨rfl, rfl, ⟨f1, by unfold bdBody; rw [if_neg hw.1, if_neg hw.2]; exact s1, rfl, rfl⟩⟩
theorem rdItem_bd {s : Nat → Int32} {n items p : Nat} {D : svH} (ht : tkT s n p = 1) (h : tkV s n p = 99 ∧ items = 0 ∨ tkV s n p = 116 ∧ D 0 3 < 8 ∨ tkV s n p = 114 ∧ D 0 4 < 6) : rdItem s n D items p = thn s n (bdBody (tkV s n p) s n D (tkN s n p)) := by
  unfold rdItem bdBody
  rcases h with q | q | q
  · rw [if_pos ⟨ht, q.1, q.2⟩, if_pos q.1, rdChoice_bd]
  · rw [if_neg (fun z => absurd (z.2.1.symm.trans q.1) (by decide)), if_pos ⟨ht, q.1, q.2⟩, if_neg (fun z => absurd (z.symm.trans q.1) (by decide)), if_pos q.1, rdTrain_bd]
  · rw [if_neg (fun z => absurd (z.2.1.symm.trans q.1) (by decide)), if_neg (fun z => absurd (z.2.1.symm.trans q.1) (by decide)), if_pos ⟨ht, q.1, q.2⟩, if_neg (fun z => absurd (z.symm.trans q.1) (by decide)), if_neg (fun z => absurd (z.symm.trans q.1) (by decide)), rdGroup_bd]
theorem rdItem_no {s : Nat → Int32} {n items p : Nat} {D : svH} (h : ¬ (tkT s n p = 1 ∧ (tkV s n p = 99 ∧ items = 0 ∨ tkV s n p = 116 ∧ D 0 3 < 8 ∨ tkV s n p = 114 ∧ D 0 4 < 6))) : rdItem s n D items p = .inl (tkS s n p) := by
  unfold rdItem
  rw [if_neg (fun z => h ⟨z.1, Or.inl z.2⟩), if_neg (fun z => h ⟨z.1, Or.inr (Or.inl z.2)⟩), if_neg (fun z => h ⟨z.1, Or.inr (Or.inr z.2)⟩)]
set_option maxRecDepth 20000 in
set_option maxHeartbeats 2000000 in
theorem t_X8_readItem {l : Launch} {G : svG} {hi : svH} {hl : svL} {tw dr : Nat} {pm : Nat → Nat} {s : Nat → Int32} {n : Nat} (hn2 : n ≤ 120) (hb : ∀ i, i < n → ∃ k, k < 256 ∧ s i = nI k) {p : Nat} {D : svH} (hS : mSt hi s n (false, p)) (hD : dRel D (mCells hi)) {items : Nat} (hit : hi 164 21 = nI items) (hi120 : items ≤ 120) (h0 : items = 0 → D 0 3 = 0 ∧ D 0 4 = 0) : svV l G yX8_readItem mX8_readItem rX8_readItem [sv_rf G.1 164] hi hl (sv_hr tw dr pm) (fun a b c => mFrT hi a ∧ mBody a s n (rdItem s n D items p) ∧ hl = b ∧ sv_hr tw dr pm = c) := by
  have MB : (tkV s n p = 99 ∧ hi 164 21 = 0 ∨ tkV s n p = 116 ∧ hi 164 25 < 8 ∨ tkV s n p = 114 ∧ hi 164 29 < 6) ↔ (tkV s n p = 99 ∧ items = 0 ∨ tkV s n p = 116 ∧ D 0 3 < 8 ∨ tkV s n p = 114 ∧ D 0 4 < 6) := by
    rw [show hi 164 25 = D 0 3 from hD.1 3 (by decide), show hi 164 29 = D 0 4 from hD.1 4 (by decide), hit, show (nI items = 0 ↔ items = 0) from nI_eq (by omega) (by decide)]
  refine sv_entry (by decide +kernel) rfl rfl (Nat.le_of_ble_eq_true rfl) (by simp [Value.category, sv_rf]) [some (sv_rf G.1 164), none] rfl ?_
  refine S_aload_0 (pc := 0) dX8_readItem_0 ?_
  refine fgX8_92 (pc := 1) sh_164 dX8_readItem_1 ?_
  refine S_istore_1 (pc := 4) dX8_readItem_4 (by decide) ?_
  refine S_aload_0 (pc := 5) dX8_readItem_5 ?_
  refine fgX8_95 (pc := 6) sh_164 dX8_readItem_6 ?_
  refine J_iconst (pc := 9) (1) rfl dX8_readItem_9 ?_
  refine J_icmp_ne (pc := 10) 21 dX8_readItem_10 (by decide) (fun h10 => ?_) (fun h10 => ?_)
  · refine S_aload_0 (pc := 21) dX8_readItem_21 ?_
    refine J_iconst (pc := 22) (1) rfl dX8_readItem_22 ?_
    refine fpX8_105 (pc := 23) (Or.inr rfl) sh_164 dX8_readItem_23 ?_
    exact J_return (pc := 26) dX8_readItem_26 rfl ⟨rfl, rfl, ⟨(mFrT.rf hi).u2 (Or.inl (by omega)), by rw [rdItem_no (fun q => h10 (hS.2.2.2.1.2.2.1.trans q.1))]; exact mBody_w (hS.flag true), rfl, rfl⟩⟩
  · have ht : tkT s n p = 1 := hS.2.2.2.1.2.2.1.symm.trans h10
    rw [show hi 164 19 = tkV s n p from hS.2.2.2.1.2.2.2 (Or.inl ht)]
    refine S_aload_0 (pc := 13) dX8_readItem_13 ?_
    refine S_iload_1 (pc := 14) dX8_readItem_14 ?_
    refine caX8_143 (pc := 15) (t_X8_mayBegin (l := l) (G := G)) sh_164 (Nat.le_of_ble_eq_true rfl) ⟨rfl, rfl, ⟨by decide, by decide⟩, by decide, by decide⟩ dX8_readItem_15 (fun r15 a15 b15 c15 p15 => ?_)
    obtain ⟨rfl, rfl, rfl, rfl⟩ := p15
    refine J_if_ne_b (pc := 18) 27 dX8_readItem_18 (by decide) (fun h18 => ?_) (fun h18 => ?_)
    · have hm := MB.mp h18
      have hR := rdItem_bd ht hm
      refine S_aload_0 (pc := 27) dX8_readItem_27 ?_
      refine caX8_109 (pc := 28) (t_X8_next (l := l) (G := G) (n := n) (p := tkN s n p) hn2 hS.2.1 (by rw [hS.1]; exact hb) hS.2.2.2.1.1 (tk_le hS.2.2.1).2.2) sh_164 (Nat.le_of_ble_eq_true rfl) ⟨rfl, rfl, ⟨by decide, by decide⟩, by decide, by decide⟩ dX8_readItem_28 (fun a28 b28 c28 p28 => ?_)
      obtain ⟨lx, rfl, rfl⟩ := p28
      rw [hS.1] at lx
      have s1 : mSt a28 s n (false, tkN s n p) := mSt_next hS (tk_le hS.2.2.1).2.2 lx
      have hD1 : dRel D (mCells a28) := by rw [(mFr_lx lx).C]; exact hD
      refine S_aload_0 (pc := 31) dX8_readItem_31 ?_
      refine S_iload_1 (pc := 32) dX8_readItem_32 ?_
      have hc : tkV s n p = 99 → D 0 3 = 0 ∧ D 0 4 = 0 := fun e => by
        rcases hm with q | q | q
        · exact h0 q.2
        · exact absurd (e.symm.trans q.1) (by decide)
        · exact absurd (e.symm.trans q.1) (by decide)
      have hct : tkV s n p = 116 → ∃ T, D 0 3 = nI T ∧ T < 8 := fun e => by
        rcases hm with q | q | q
        · exact absurd (e.symm.trans q.1) (by decide)
        · obtain ⟨_, C, L, B, T, Gn, _, _, _, g3, _, _, _, _, _, _, c6, _⟩ := hD
          refine ⟨T, g3, ?_⟩
          have q2 := q.2
          rw [g3, show (8 : Int32) = nI 8 from rfl, nI_ltI (by omega) (by omega)] at q2
          exact q2
        · exact absurd (e.symm.trans q.1) (by decide)
      have hcg : ¬ tkV s n p = 99 → ¬ tkV s n p = 116 → ∃ T, D 0 4 = nI T ∧ T < 6 := fun e e2 => by
        rcases hm with q | q | q
        · exact absurd q.1 e
        · exact absurd q.1 e2
        · obtain ⟨_, C, L, B, T, Gn, _, _, _, _, g4, _, _, _, _, _, _, c7, _⟩ := hD
          refine ⟨Gn, g4, ?_⟩
          have q2 := q.2
          rw [g4, show (6 : Int32) = nI 6 from rfl, nI_ltI (by omega) (by omega)] at q2
          exact q2
      refine caX8_146 (pc := 33) (t_X8_readBody (l := l) (G := G) hn2 hb s1 hD1 hc hct hcg) sh_164 (Nat.le_of_ble_eq_true rfl) ⟨rfl, rfl, ⟨by decide, by decide⟩, by decide, by decide⟩ dX8_readItem_33 (fun a33 b33 c33 p33 => ?_)
      obtain ⟨f2, s2, rfl, rfl⟩ := p33
      refine S_aload_0 (pc := 36) dX8_readItem_36 ?_
      refine S_aload_0 (pc := 37) dX8_readItem_37 ?_
      refine fgX8_105 (pc := 38) sh_164 dX8_readItem_38 ?_
      refine J_if_ne (pc := 41) 52 dX8_readItem_41 (by decide) (fun h41 => ?_) (fun h41 => ?_)
      · obtain ⟨f, hq⟩ : ∃ f, bdBody (tkV s n p) s n D (tkN s n p) = .inl f := by
          cases hq : bdBody (tkV s n p) s n D (tkN s n p) with
          | inl f => exact ⟨f, rfl⟩
          | inr q =>
            obtain ⟨D', p'⟩ := q
            rw [hq] at s2
            exact absurd s2.1.2.2.2.2 h41
        rw [hq] at s2 hR
        refine J_iconst (pc := 52) (1) rfl dX8_readItem_52 ?_
        refine J_goto (pc := 53) 57 dX8_readItem_53 (by decide) ?_
        refine fpX8_105 (pc := 57) (Or.inr rfl) sh_164 dX8_readItem_57 ?_
        refine S_aload_0 (pc := 60) dX8_readItem_60 ?_
        refine fgX8_105 (pc := 61) sh_164 dX8_readItem_61 ?_
        refine J_if_ne (pc := 64) 71 dX8_readItem_64 (by decide) (fun h64 => ?_) (fun h64 => ?_)
        · exact J_return (pc := 71) dX8_readItem_71 rfl ⟨rfl, rfl, ⟨(((mFr_lx lx).T.trans f2).u2 (Or.inl (by omega))), by rw [hR]; exact ⟨sv_u2_at, by rw [u2x (by decide)]; exact s2.2⟩, rfl, rfl⟩⟩
        · exact absurd (sv_u2_at.symm.trans h64) (by decide)
      · obtain ⟨D', p', hq⟩ : ∃ D' p', bdBody (tkV s n p) s n D (tkN s n p) = .inr (D', p') := by
          cases hq : bdBody (tkV s n p) s n D (tkN s n p) with
          | inl f =>
            rw [hq] at s2
            exact absurd (s2.1.symm.trans h41) (by decide)
          | inr q => exact ⟨q.1, q.2, rfl⟩
        rw [hq] at s2 hR
        refine S_aload_0 (pc := 44) dX8_readItem_44 ?_
        refine fgX8_95 (pc := 45) sh_164 dX8_readItem_45 ?_
        refine J_iconst (pc := 48) (3) rfl dX8_readItem_48 ?_
        refine J_icmp_eq (pc := 49) 56 dX8_readItem_49 (by decide) (fun h49 => ?_) (fun h49 => ?_)
        · have hst : tkT s n p' = 3 := s2.1.2.2.2.1.2.2.1.symm.trans h49
          refine J_iconst (pc := 56) (0) rfl dX8_readItem_56 ?_
          refine fpX8_105 (pc := 57) (Or.inl rfl) sh_164 dX8_readItem_57 ?_
          have sG : mSt (sv_u2 a33 164 20 0) s n (false, p') := s2.1.flag false
          refine S_aload_0 (pc := 60) dX8_readItem_60 ?_
          refine fgX8_105 (pc := 61) sh_164 dX8_readItem_61 ?_
          refine J_if_ne (pc := 64) 71 dX8_readItem_64 (by decide) (fun h64 => ?_) (fun h64 => ?_)
          · exact absurd sv_u2_at h64
          · refine S_aload_0 (pc := 67) dX8_readItem_67 ?_
            refine caX8_109 (pc := 68) (t_X8_next (l := l) (G := G) (n := n) (p := tkN s n p') hn2 sG.2.1 (by rw [sG.1]; exact hb) sG.2.2.2.1.1 (tk_le s2.1.2.2.1).2.2) sh_164 (Nat.le_of_ble_eq_true rfl) ⟨rfl, rfl, ⟨by decide, by decide⟩, by decide, by decide⟩ dX8_readItem_68 (fun a68 b68 c68 p68 => ?_)
            obtain ⟨ly, rfl, rfl⟩ := p68
            rw [sG.1] at ly
            exact J_return (pc := 71) dX8_readItem_71 rfl ⟨rfl, rfl, ⟨(((mFr_lx lx).T.trans f2).u2 (Or.inl (by omega))).trans (mFr_lx ly).T, by rw [hR, show thn s n (.inr (D', p')) = .inr (D', tkN s n p') from if_pos hst]; exact ⟨mSt_next sG (tk_le s2.1.2.2.1).2.2 ly, by rw [(mFr_lx ly).C, show ∀ v, mCells (sv_u2 a33 164 20 v) = mCells a33 from fun v => mCells_e (fun k hk => u2x (by omega)) (fun q g1 g2 => sv_u2_off (by omega))]; exact s2.2⟩, rfl, rfl⟩⟩
        · have hst : ¬ tkT s n p' = 3 := fun z => h49 (s2.1.2.2.2.1.2.2.1.trans z)
          refine J_iconst (pc := 52) (1) rfl dX8_readItem_52 ?_
          refine J_goto (pc := 53) 57 dX8_readItem_53 (by decide) ?_
          refine fpX8_105 (pc := 57) (Or.inr rfl) sh_164 dX8_readItem_57 ?_
          refine S_aload_0 (pc := 60) dX8_readItem_60 ?_
          refine fgX8_105 (pc := 61) sh_164 dX8_readItem_61 ?_
          refine J_if_ne (pc := 64) 71 dX8_readItem_64 (by decide) (fun h64 => ?_) (fun h64 => ?_)
          · exact J_return (pc := 71) dX8_readItem_71 rfl ⟨rfl, rfl, ⟨(((mFr_lx lx).T.trans f2).u2 (Or.inl (by omega))), by rw [hR, show thn s n (.inr (D', p')) = .inl (tkS s n p') from if_neg hst]; exact mBody_w (s2.1.flag true), rfl, rfl⟩⟩
          · exact absurd (sv_u2_at.symm.trans h64) (by decide)
    · refine S_aload_0 (pc := 21) dX8_readItem_21 ?_
      refine J_iconst (pc := 22) (1) rfl dX8_readItem_22 ?_
      refine fpX8_105 (pc := 23) (Or.inr rfl) sh_164 dX8_readItem_23 ?_
      exact J_return (pc := 26) dX8_readItem_26 rfl ⟨rfl, rfl, ⟨(mFrT.rf hi).u2 (Or.inl (by omega)), by rw [rdItem_no (fun q => h18 (MB.mpr q.2))]; exact mBody_w (hS.flag true), rfl, rfl⟩⟩
