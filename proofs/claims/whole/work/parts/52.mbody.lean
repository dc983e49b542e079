theorem mFr.C {a b : svH} (h : mFr a b) : mCells b = mCells a := mCells_e (fun k hk => h.2 k (by omega)) (fun q g1 g2 => h.1 q (by omega))
theorem bdTrain_end {hi a : svH} {s : Nat → Int32} {n p T : Nat} {D : svH} {r1 r2 r3 : Int32} (hD : dRel D (mCells hi)) (hT : D 0 3 = nI T) (hT8 : T < 8) (sF : mSt a s n (mStep s n 0 (D 0 0 - 1) (mStep s n 1 30 (mStep s n 0 23 (false, p))))) (e1 : mNum s n 0 23 (false, p) = r1) (e2 : mNum s n 1 30 (mStep s n 0 23 (false, p)) = r2) (e3 : mNum s n 0 (D 0 0 - 1) (mStep s n 1 30 (mStep s n 0 23 (false, p))) = r3) (cE : mCells a = addT (mCells hi) T r1 r2 r3) : mBody a s n (bdTrain s n D p) := by
  unfold bdTrain
  by_cases h1 : num s n p 0 23 = true
  · rw [if_pos h1]
    rw [mStep_y h1] at sF e2 e3
    by_cases h2 : num s n (tkN s n p) 1 30 = true
    · rw [if_pos h2]
      rw [mStep_y h2] at sF e3
      by_cases h3 : num s n (tkN s n (tkN s n p)) 0 (D 0 0 - 1) = true
      · rw [if_pos h3]
        rw [mStep_y h3] at sF
        rw [mNum_y h1] at e1
        rw [mNum_y h2] at e2
        rw [mNum_y h3] at e3
        refine ⟨sF, ?_⟩
        rw [cE, hT, nI_clamp (by omega), e1, e2, e3]
        refine dRel_addT hD hT hT8 ?_ ?_
        · obtain ⟨k, _, k2, k3⟩ := num_n (a := 0) (b := 23) (by decide) (by decide) h1
          exact ⟨k, k2, by rw [← e1]; exact k3⟩
        · rw [← e3]; exact num_c hD h3
      · rw [if_neg h3]
        rw [mStep_n h3] at sF
        exact mBody_w sF
    · rw [if_neg h2]
      rw [mStep_n h2, mStep_t] at sF
      exact mBody_w sF
  · rw [if_neg h1]
    rw [mStep_n h1, mStep_t, mStep_t] at sF
    exact mBody_w sF
theorem bdGroup_end {hi a : svH} {s : Nat → Int32} {n p p2 T : Nat} {w2 b : Bool} {D : svH} {r1 r2 r3 : Int32} (hD : dRel D (mCells hi)) (hT : D 0 4 = nI T) (hT8 : T < 6) (e1 : mNum s n 1 30 (false, p) = r1) (hx : mStep s n 0 (D 0 0 - 1) (mStep s n 1 30 (false, p)) = (w2, p2)) (e2 : mNum s n 0 (D 0 0 - 1) (mStep s n 1 30 (false, p)) = r2) (hW : (w2 || decide (tkT s n p2 = 2 ∧ tkV s n p2 = r2)) = b) (sF : mSt a s n (mStep s n 0 (D 0 0 - 1) (b, p2))) (e3 : mNum s n 0 (D 0 0 - 1) (b, p2) = r3) (cE : mCells a = addG (mCells hi) T r1 r2 r3) : mBody a s n (bdGroup s n D p) := by
  unfold bdGroup
  by_cases h1 : num s n p 1 30 = true
  · rw [if_pos h1]
    rw [mStep_y h1] at hx e2
    by_cases h2 : num s n (tkN s n p) 0 (D 0 0 - 1) = true
    · rw [if_pos h2]
      rw [mStep_y h2] at hx
      rw [mNum_y h2] at e2
      obtain ⟨rfl, rfl⟩ := Prod.mk.inj hx
      by_cases h3 : num s n (tkN s n (tkN s n p)) 0 (D 0 0 - 1) = true
      · by_cases h4 : tkV s n (tkN s n (tkN s n p)) = tkV s n (tkN s n p)
        · rw [if_neg (fun z => z.2 h4)]
          have hb : b = true := by rw [← hW, ← e2]; simp [(num_v h3).1, h4]
          rw [hb, mStep_t] at sF
          exact mBody_w sF
        · rw [if_pos ⟨h3, h4⟩]
          have hb : b = false := by rw [← hW, ← e2]; simp [h4]
          rw [hb] at sF e3
          rw [mStep_y h3] at sF
          rw [mNum_y h3] at e3
          rw [mNum_y h1] at e1
          refine ⟨sF, ?_⟩
          rw [cE, hT, nI_clamp (by omega), e1, e2, e3]
          refine dRel_addG hD hT hT8 ?_ ?_
          · rw [← e2]; exact num_c hD h2
          · rw [← e3]; exact num_c hD h3
      · rw [if_neg (fun z => h3 z.1)]
        rw [mStep_n h3] at sF
        exact mBody_w sF
    · rw [if_neg h2]
      rw [mStep_n h2] at hx
      obtain ⟨rfl, rfl⟩ := Prod.mk.inj hx
      have hb : b = true := by rw [← hW]; simp
      rw [hb, mStep_t] at sF
      exact mBody_w sF
  · rw [if_neg h1]
    rw [mStep_n h1, mStep_t] at hx
    obtain ⟨rfl, rfl⟩ := Prod.mk.inj hx
    have hb : b = true := by rw [← hW]; simp
    rw [hb, mStep_t] at sF
    exact mBody_w sF
theorem bdChoice_end {hi a : svH} {s : Nat → Int32} {n p : Nat} {D : svH} {r1 r2 r3 : Int32} (hD : dRel D (mCells hi)) (hT : D 0 3 = 0) (hG : D 0 4 = 0) (e1 : mNum s n 2 6 (false, p) = r1) (sF : mSt a s n (mStep s n 0 20 (mStep s n 1 r1 (mStep s n 2 6 (false, p))))) (e2 : mNum s n 1 r1 (mStep s n 2 6 (false, p)) = r2) (e3 : mNum s n 0 20 (mStep s n 1 r1 (mStep s n 2 6 (false, p))) = r3) (cE : mCells a = sv_u2 (sv_u2 (sv_u2 (mCells hi) 0 0 r1) 0 1 r2) 0 2 r3) : mBody a s n (bdChoice s n D p) := by
  unfold bdChoice
  by_cases h1 : num s n p 2 6 = true
  · rw [if_pos h1]
    rw [mStep_y h1] at sF e2 e3
    rw [mNum_y h1] at e1
    rw [e1]
    by_cases h2 : num s n (tkN s n p) 1 r1 = true
    · rw [if_pos h2]
      rw [mStep_y h2] at sF e3
      by_cases h3 : num s n (tkN s n (tkN s n p)) 0 20 = true
      · rw [if_pos h3]
        rw [mStep_y h3] at sF
        rw [mNum_y h2] at e2
        rw [mNum_y h3] at e3
        refine ⟨sF, ?_⟩
        obtain ⟨C, c1, c2, c3⟩ := num_n (a := 2) (b := 6) (by decide) (by decide) h1
        have c3' : r1 = nI C := by rw [← e1]; exact c3
        have h2' := h2
        rw [c3'] at h2'
        obtain ⟨L, l1', l2', l3'⟩ := num_n (a := 1) (b := C) (by decide) (by omega) h2'
        obtain ⟨B, _, b2, b3⟩ := num_n (a := 0) (b := 20) (by decide) (by decide) h3
        rw [e2, e3, cE]
        refine dRel_cho hD hT hG ⟨C, c1, c2, c3', L, l1', l2', by rw [← e2]; exact l3'⟩ ⟨B, b2, by rw [← e3]; exact b3⟩ ?_ ?_ ?_ ?_ ?_
        · rfl
        · rfl
        · rfl
        · rfl
        · rfl
      · rw [if_neg h3]
        rw [mStep_n h3] at sF
        exact mBody_w sF
    · rw [if_neg h2]
      rw [mStep_n h2, mStep_t] at sF
      exact mBody_w sF
  · rw [if_neg h1]
    rw [mStep_n h1, mStep_t, mStep_t] at sF
    exact mBody_w sF
set_option maxRecDepth 20000 in
set_option maxHeartbeats 2000000 in
theorem t_X8_readTrain {l : Launch} {G : svG} {hi : svH} {hl : svL} {tw dr : Nat} {pm : Nat → Nat} {s : Nat → Int32} {n : Nat} (hn2 : n ≤ 120) (hb : ∀ i, i < n → ∃ k, k < 256 ∧ s i = nI k) {p T : Nat} {D : svH} (hS : mSt hi s n (false, p)) (hD : dRel D (mCells hi)) (hDT : D 0 3 = nI T) (hT8 : T < 8) : svV l G yX8_readTrain mX8_readTrain rX8_readTrain [sv_rf G.1 164] hi hl (sv_hr tw dr pm) (fun a b c => mFrT hi a ∧ mBody a s n (bdTrain s n D p) ∧ hl = b ∧ sv_hr tw dr pm = c) := by
  have hT : hi 164 25 = nI T := by rw [← hDT]; exact hD.1 3 (by decide)
  refine sv_entry (by decide +kernel) rfl rfl (Nat.le_of_ble_eq_true rfl) (by simp [Value.category, sv_rf]) [some (sv_rf G.1 164)] rfl ?_
  refine S_aload_0 (pc := 0) dX8_readTrain_0 ?_
  refine fgX8_45 (pc := 1) sh_164 hv_164_26 dX8_readTrain_1 ?_
  refine S_aload_0 (pc := 4) dX8_readTrain_4 ?_
  refine fgX8_115 (pc := 5) sh_164 dX8_readTrain_5 ?_
  refine S_aload_0 (pc := 8) dX8_readTrain_8 ?_
  refine J_iconst (pc := 9) (0) rfl dX8_readTrain_9 ?_
  refine J_bipush (pc := 10) (23) rfl dX8_readTrain_10 ?_
  refine caX8_121 (pc := 12) (t_tk (l := l) (G := G) hn2 hb hS) sh_164 (Nat.le_of_ble_eq_true rfl) ⟨rfl, rfl, ⟨by decide, by decide⟩, by decide, by decide⟩ dX8_readTrain_12 (fun r12 a12 b12 c12 p12 => ?_)
  obtain ⟨f1, s1, e1, rfl, rfl⟩ := p12
  refine J_iast_n (pc := 15) T sh_174 hT (by omega) (by decide) dX8_readTrain_15 ?_
  refine S_aload_0 (pc := 16) dX8_readTrain_16 ?_
  refine fgX8_48 (pc := 17) sh_164 hv_164_27 dX8_readTrain_17 ?_
  refine S_aload_0 (pc := 20) dX8_readTrain_20 ?_
  refine fgX8_115 (pc := 21) sh_164 dX8_readTrain_21 ?_
  refine S_aload_0 (pc := 24) dX8_readTrain_24 ?_
  refine J_iconst (pc := 25) (1) rfl dX8_readTrain_25 ?_
  refine J_bipush (pc := 26) (30) rfl dX8_readTrain_26 ?_
  refine caX8_121 (pc := 28) (t_tk (l := l) (G := G) hn2 hb (s1.off (by decide) (fun z => absurd z (by decide)))) sh_164 (Nat.le_of_ble_eq_true rfl) ⟨rfl, rfl, ⟨by decide, by decide⟩, by decide, by decide⟩ dX8_readTrain_28 (fun r28 a28 b28 c28 p28 => ?_)
  obtain ⟨f2, s2, e2, rfl, rfl⟩ := p28
  refine J_iast_n (pc := 31) T sh_175 (by rw [sv_u2_off (by decide), f1.2 25 (by decide)]; exact hT) (by omega) (by decide) dX8_readTrain_31 ?_
  refine S_aload_0 (pc := 32) dX8_readTrain_32 ?_
  refine fgX8_51 (pc := 33) sh_164 hv_164_28 dX8_readTrain_33 ?_
  refine S_aload_0 (pc := 36) dX8_readTrain_36 ?_
  refine fgX8_115 (pc := 37) sh_164 dX8_readTrain_37 ?_
  refine S_aload_0 (pc := 40) dX8_readTrain_40 ?_
  refine J_iconst (pc := 41) (0) rfl dX8_readTrain_41 ?_
  refine S_aload_0 (pc := 42) dX8_readTrain_42 ?_
  refine fgX8_125 (pc := 43) sh_164 dX8_readTrain_43 ?_
  refine J_iconst (pc := 46) (1) rfl dX8_readTrain_46 ?_
  refine J_isub (pc := 47) dX8_readTrain_47 ?_
  rw [show ∀ v, sv_u2 a28 175 T v 164 22 = D 0 0 from fun v => by rw [sv_u2_off (by decide), f2.2 22 (by decide), sv_u2_off (by decide), f1.2 22 (by decide)]; exact hD.1 0 (by decide)]
  refine caX8_121 (pc := 48) (t_tk (l := l) (G := G) hn2 hb (s2.off (by decide) (fun z => absurd z (by decide)))) sh_164 (Nat.le_of_ble_eq_true rfl) ⟨rfl, rfl, ⟨by decide, by decide⟩, by decide, by decide⟩ dX8_readTrain_48 (fun r48 a48 b48 c48 p48 => ?_)
  obtain ⟨f3, s3, e3, rfl, rfl⟩ := p48
  refine J_iast_n (pc := 51) T sh_176 (by rw [sv_u2_off (by decide), f2.2 25 (by decide), sv_u2_off (by decide), f1.2 25 (by decide)]; exact hT) (by omega) (by decide) dX8_readTrain_51 ?_
  refine S_aload_0 (pc := 52) dX8_readTrain_52 ?_
  refine J_dup (pc := 53) rfl dX8_readTrain_53 ?_
  refine fgX8_115 (pc := 54) sh_164 dX8_readTrain_54 ?_
  refine J_iconst (pc := 57) (1) rfl dX8_readTrain_57 ?_
  refine J_iadd (pc := 58) dX8_readTrain_58 ?_
  refine fpX8_115 (pc := 59) sh_164 dX8_readTrain_59 ?_
  exact J_return (pc := 62) dX8_readTrain_62 rfl ⟨rfl, rfl, (by
      have eT : sv_u2 a48 176 T r48 164 25 = nI T := by rw [sv_u2_off (by decide), f3.2 25 (by decide), sv_u2_off (by decide), f2.2 25 (by decide), sv_u2_off (by decide), f1.2 25 (by decide)]; exact hT
      rw [eT, ← nI_succ]
      refine ⟨((((((f1.T.u2 (Or.inr (by omega))).trans f2.T).u2 (Or.inr (by omega))).trans f3.T).u2 (Or.inr (by omega))).u2 (Or.inl (by omega))), bdTrain_end hD hDT hT8 ((s3.off (by decide) (fun z => absurd z (by decide))).off (by decide) (fun _ => by decide)) e1 e2 e3 ?_, rfl, rfl⟩
      rw [show mCells (sv_u2 (sv_u2 a48 176 T r48) 164 25 (nI (T + 1))) = _ from mCells_u2 (i := 0) (k := 3) (by decide) (fun _ => by decide), show mCells (sv_u2 a48 176 T r48) = _ from mCells_u2 (i := 3) (k := T) (by decide) (fun z => absurd z (by decide)), f3.C, show mCells (sv_u2 a28 175 T r28) = _ from mCells_u2 (i := 2) (k := T) (by decide) (fun z => absurd z (by decide)), f2.C, show mCells (sv_u2 a12 174 T r12) = _ from mCells_u2 (i := 1) (k := T) (by decide) (fun z => absurd z (by decide)), f1.C]
      rfl)⟩
set_option maxRecDepth 20000 in
set_option maxHeartbeats 2000000 in
theorem t_X8_readGroup {l : Launch} {G : svG} {hi : svH} {hl : svL} {tw dr : Nat} {pm : Nat → Nat} {s : Nat → Int32} {n : Nat} (hn2 : n ≤ 120) (hb : ∀ i, i < n → ∃ k, k < 256 ∧ s i = nI k) {p T : Nat} {D : svH} (hS : mSt hi s n (false, p)) (hD : dRel D (mCells hi)) (hDT : D 0 4 = nI T) (hT8 : T < 6) : svV l G yX8_readGroup mX8_readGroup rX8_readGroup [sv_rf G.1 164] hi hl (sv_hr tw dr pm) (fun a b c => mFrT hi a ∧ mBody a s n (bdGroup s n D p) ∧ hl = b ∧ sv_hr tw dr pm = c) := by
  have hT : hi 164 29 = nI T := by rw [← hDT]; exact hD.1 4 (by decide)
  refine sv_entry (by decide +kernel) rfl rfl (Nat.le_of_ble_eq_true rfl) (by simp [Value.category, sv_rf]) [some (sv_rf G.1 164)] rfl ?_
  refine S_aload_0 (pc := 0) dX8_readGroup_0 ?_
  refine fgX8_54 (pc := 1) sh_164 hv_164_30 dX8_readGroup_1 ?_
  refine S_aload_0 (pc := 4) dX8_readGroup_4 ?_
  refine fgX8_118 (pc := 5) sh_164 dX8_readGroup_5 ?_
  refine S_aload_0 (pc := 8) dX8_readGroup_8 ?_
  refine J_iconst (pc := 9) (1) rfl dX8_readGroup_9 ?_
  refine J_bipush (pc := 10) (30) rfl dX8_readGroup_10 ?_
  refine caX8_121 (pc := 12) (t_tk (l := l) (G := G) hn2 hb hS) sh_164 (Nat.le_of_ble_eq_true rfl) ⟨rfl, rfl, ⟨by decide, by decide⟩, by decide, by decide⟩ dX8_readGroup_12 (fun r12 a12 b12 c12 p12 => ?_)
  obtain ⟨f1, s1, e1, rfl, rfl⟩ := p12
  refine J_iast_n (pc := 15) T sh_177 hT (by omega) (by decide) dX8_readGroup_15 ?_
  refine S_aload_0 (pc := 16) dX8_readGroup_16 ?_
  refine fgX8_57 (pc := 17) sh_164 hv_164_31 dX8_readGroup_17 ?_
  refine S_aload_0 (pc := 20) dX8_readGroup_20 ?_
  refine fgX8_118 (pc := 21) sh_164 dX8_readGroup_21 ?_
  refine S_aload_0 (pc := 24) dX8_readGroup_24 ?_
  refine J_iconst (pc := 25) (0) rfl dX8_readGroup_25 ?_
  refine S_aload_0 (pc := 26) dX8_readGroup_26 ?_
  refine fgX8_125 (pc := 27) sh_164 dX8_readGroup_27 ?_
  refine J_iconst (pc := 30) (1) rfl dX8_readGroup_30 ?_
  refine J_isub (pc := 31) dX8_readGroup_31 ?_
  rw [show ∀ v, sv_u2 a12 177 T v 164 22 = D 0 0 from fun v => by rw [sv_u2_off (by decide), f1.2 22 (by decide)]; exact hD.1 0 (by decide)]
  refine caX8_121 (pc := 32) (t_tk (l := l) (G := G) hn2 hb (s1.off (by decide) (fun z => absurd z (by decide)))) sh_164 (Nat.le_of_ble_eq_true rfl) ⟨rfl, rfl, ⟨by decide, by decide⟩, by decide, by decide⟩ dX8_readGroup_32 (fun r32 a32 b32 c32 p32 => ?_)
  obtain ⟨f2, s2, e2, rfl, rfl⟩ := p32
  generalize ex : mStep s n 0 (D 0 0 - 1) (mStep s n 1 30 (false, p)) = x2 at s2
  obtain ⟨w2, p2⟩ := x2
  refine J_iast_n (pc := 35) T sh_178 (by rw [sv_u2_off (by decide), f1.2 29 (by decide)]; exact hT) (by omega) (by decide) dX8_readGroup_35 ?_
  refine S_aload_0 (pc := 36) dX8_readGroup_36 ?_
  refine S_aload_0 (pc := 37) dX8_readGroup_37 ?_
  refine fgX8_105 (pc := 38) sh_164 dX8_readGroup_38 ?_
  refine J_if_ne (pc := 41) 68 dX8_readGroup_41 (by decide) (fun h41 => ?_) (fun h41 => ?_)
  · obtain rfl : w2 = true := by
      cases w2 with
      | true => rfl
      | false => exact absurd ((congrFun (sv_u2_off (show (164 : Nat) ≠ 178 by decide)) 20).trans s2.2.2.2.2) h41
    have hW : (true || decide (tkT s n p2 = 2 ∧ tkV s n p2 = r32)) = true := rfl
    have sfl : mSt (sv_u2 (sv_u2 a32 178 T r32) 164 20 1) s n (true, p2) := (s2.off (by decide) (fun z => absurd z (by decide))).flag true
    refine J_iconst (pc := 68) (1) rfl dX8_readGroup_68 ?_
    refine J_goto (pc := 69) 73 dX8_readGroup_69 (by decide) ?_
    refine fpX8_105 (pc := 73) (Or.inr rfl) sh_164 dX8_readGroup_73 ?_
    refine S_aload_0 (pc := 76) dX8_readGroup_76 ?_
    refine fgX8_60 (pc := 77) sh_164 hv_164_32 dX8_readGroup_77 ?_
    refine S_aload_0 (pc := 80) dX8_readGroup_80 ?_
    refine fgX8_118 (pc := 81) sh_164 dX8_readGroup_81 ?_
    refine S_aload_0 (pc := 84) dX8_readGroup_84 ?_
    refine J_iconst (pc := 85) (0) rfl dX8_readGroup_85 ?_
    refine S_aload_0 (pc := 86) dX8_readGroup_86 ?_
    refine fgX8_125 (pc := 87) sh_164 dX8_readGroup_87 ?_
    refine J_iconst (pc := 90) (1) rfl dX8_readGroup_90 ?_
    refine J_isub (pc := 91) dX8_readGroup_91 ?_
    rw [show ∀ v, sv_u2 (sv_u2 a32 178 T r32) 164 20 v 164 22 = D 0 0 from fun v => by rw [u2x (by decide), sv_u2_off (by decide), f2.2 22 (by decide), sv_u2_off (by decide), f1.2 22 (by decide)]; exact hD.1 0 (by decide)]
    refine caX8_121 (pc := 92) (t_tk (l := l) (G := G) hn2 hb sfl) sh_164 (Nat.le_of_ble_eq_true rfl) ⟨rfl, rfl, ⟨by decide, by decide⟩, by decide, by decide⟩ dX8_readGroup_92 (fun r92 a92 b92 c92 p92 => ?_)
    obtain ⟨f3, s3, e3, rfl, rfl⟩ := p92
    refine J_iast_n (pc := 95) T sh_179 (by rw [u2x (by decide), sv_u2_off (by decide), f2.2 29 (by decide), sv_u2_off (by decide), f1.2 29 (by decide)]; exact hT) (by omega) (by decide) dX8_readGroup_95 ?_
    refine S_aload_0 (pc := 96) dX8_readGroup_96 ?_
    refine J_dup (pc := 97) rfl dX8_readGroup_97 ?_
    refine fgX8_118 (pc := 98) sh_164 dX8_readGroup_98 ?_
    refine J_iconst (pc := 101) (1) rfl dX8_readGroup_101 ?_
    refine J_iadd (pc := 102) dX8_readGroup_102 ?_
    refine fpX8_118 (pc := 103) sh_164 dX8_readGroup_103 ?_
    exact J_return (pc := 106) dX8_readGroup_106 rfl ⟨rfl, rfl, (by
        have eT : sv_u2 a92 179 T r92 164 29 = nI T := by rw [sv_u2_off (by decide), f3.2 29 (by decide), u2x (by decide), sv_u2_off (by decide), f2.2 29 (by decide), sv_u2_off (by decide), f1.2 29 (by decide)]; exact hT
        rw [eT, ← nI_succ]
        refine ⟨(((((((f1.T.u2 (Or.inr (by omega))).trans f2.T).u2 (Or.inr (by omega))).u2 (Or.inl (by omega))).trans f3.T).u2 (Or.inr (by omega))).u2 (Or.inl (by omega))), bdGroup_end hD hDT hT8 e1 ex e2 hW ((s3.off (by decide) (fun z => absurd z (by decide))).off (by decide) (fun _ => by decide)) e3 ?_, rfl, rfl⟩
        rw [show mCells (sv_u2 (sv_u2 a92 179 T r92) 164 29 (nI (T + 1))) = _ from mCells_u2 (i := 0) (k := 4) (by decide) (fun _ => by decide), show mCells (sv_u2 a92 179 T r92) = _ from mCells_u2 (i := 6) (k := T) (by decide) (fun z => absurd z (by decide)), f3.C, show ∀ v, mCells (sv_u2 (sv_u2 a32 178 T r32) 164 20 v) = mCells (sv_u2 a32 178 T r32) from fun v => mCells_e (fun k hk => u2x (by omega)) (fun q g1 g2 => sv_u2_off (by omega)), show mCells (sv_u2 a32 178 T r32) = _ from mCells_u2 (i := 5) (k := T) (by decide) (fun z => absurd z (by decide)), f2.C, show mCells (sv_u2 a12 177 T r12) = _ from mCells_u2 (i := 4) (k := T) (by decide) (fun z => absurd z (by decide)), f1.C]
        rfl)⟩
  · obtain rfl : w2 = false := by
      cases w2 with
      | false => rfl
      | true => exact absurd (show (1 : Int32) = 0 from ((congrFun (sv_u2_off (show (164 : Nat) ≠ 178 by decide)) 20).trans s2.2.2.2.2).symm.trans h41) (by decide)
    refine S_aload_0 (pc := 44) dX8_readGroup_44 ?_
    refine fgX8_95 (pc := 45) sh_164 dX8_readGroup_45 ?_
    refine J_iconst (pc := 48) (2) rfl dX8_readGroup_48 ?_
    refine J_icmp_ne (pc := 49) 72 dX8_readGroup_49 (by decide) (fun h49 => ?_) (fun h49 => ?_)
    · have h49b : ¬ tkT s n p2 = 2 := fun z => h49 ((congrFun (sv_u2_off (show (164 : Nat) ≠ 178 by decide)) 18).trans (s2.2.2.2.1.2.2.1.trans z))
      have hW : (false || decide (tkT s n p2 = 2 ∧ tkV s n p2 = r32)) = false := by simp [h49b]
      have sfl : mSt (sv_u2 (sv_u2 a32 178 T r32) 164 20 0) s n (false, p2) := (s2.off (by decide) (fun z => absurd z (by decide))).flag false
      refine J_iconst (pc := 72) (0) rfl dX8_readGroup_72 ?_
      refine fpX8_105 (pc := 73) (Or.inl rfl) sh_164 dX8_readGroup_73 ?_
      refine S_aload_0 (pc := 76) dX8_readGroup_76 ?_
      refine fgX8_60 (pc := 77) sh_164 hv_164_32 dX8_readGroup_77 ?_
      refine S_aload_0 (pc := 80) dX8_readGroup_80 ?_
      refine fgX8_118 (pc := 81) sh_164 dX8_readGroup_81 ?_
      refine S_aload_0 (pc := 84) dX8_readGroup_84 ?_
      refine J_iconst (pc := 85) (0) rfl dX8_readGroup_85 ?_
      refine S_aload_0 (pc := 86) dX8_readGroup_86 ?_
      refine fgX8_125 (pc := 87) sh_164 dX8_readGroup_87 ?_
      refine J_iconst (pc := 90) (1) rfl dX8_readGroup_90 ?_
      refine J_isub (pc := 91) dX8_readGroup_91 ?_
      rw [show ∀ v, sv_u2 (sv_u2 a32 178 T r32) 164 20 v 164 22 = D 0 0 from fun v => by rw [u2x (by decide), sv_u2_off (by decide), f2.2 22 (by decide), sv_u2_off (by decide), f1.2 22 (by decide)]; exact hD.1 0 (by decide)]
      refine caX8_121 (pc := 92) (t_tk (l := l) (G := G) hn2 hb sfl) sh_164 (Nat.le_of_ble_eq_true rfl) ⟨rfl, rfl, ⟨by decide, by decide⟩, by decide, by decide⟩ dX8_readGroup_92 (fun r92 a92 b92 c92 p92 => ?_)
      obtain ⟨f3, s3, e3, rfl, rfl⟩ := p92
      refine J_iast_n (pc := 95) T sh_179 (by rw [u2x (by decide), sv_u2_off (by decide), f2.2 29 (by decide), sv_u2_off (by decide), f1.2 29 (by decide)]; exact hT) (by omega) (by decide) dX8_readGroup_95 ?_
      refine S_aload_0 (pc := 96) dX8_readGroup_96 ?_
      refine J_dup (pc := 97) rfl dX8_readGroup_97 ?_
      refine fgX8_118 (pc := 98) sh_164 dX8_readGroup_98 ?_
      refine J_iconst (pc := 101) (1) rfl dX8_readGroup_101 ?_
      refine J_iadd (pc := 102) dX8_readGroup_102 ?_
      refine fpX8_118 (pc := 103) sh_164 dX8_readGroup_103 ?_
      exact J_return (pc := 106) dX8_readGroup_106 rfl ⟨rfl, rfl, (by
          have eT : sv_u2 a92 179 T r92 164 29 = nI T := by rw [sv_u2_off (by decide), f3.2 29 (by decide), u2x (by decide), sv_u2_off (by decide), f2.2 29 (by decide), sv_u2_off (by decide), f1.2 29 (by decide)]; exact hT
          rw [eT, ← nI_succ]
          refine ⟨(((((((f1.T.u2 (Or.inr (by omega))).trans f2.T).u2 (Or.inr (by omega))).u2 (Or.inl (by omega))).trans f3.T).u2 (Or.inr (by omega))).u2 (Or.inl (by omega))), bdGroup_end hD hDT hT8 e1 ex e2 hW ((s3.off (by decide) (fun z => absurd z (by decide))).off (by decide) (fun _ => by decide)) e3 ?_, rfl, rfl⟩
          rw [show mCells (sv_u2 (sv_u2 a92 179 T r92) 164 29 (nI (T + 1))) = _ from mCells_u2 (i := 0) (k := 4) (by decide) (fun _ => by decide), show mCells (sv_u2 a92 179 T r92) = _ from mCells_u2 (i := 6) (k := T) (by decide) (fun z => absurd z (by decide)), f3.C, show ∀ v, mCells (sv_u2 (sv_u2 a32 178 T r32) 164 20 v) = mCells (sv_u2 a32 178 T r32) from fun v => mCells_e (fun k hk => u2x (by omega)) (fun q g1 g2 => sv_u2_off (by omega)), show mCells (sv_u2 a32 178 T r32) = _ from mCells_u2 (i := 5) (k := T) (by decide) (fun z => absurd z (by decide)), f2.C, show mCells (sv_u2 a12 177 T r12) = _ from mCells_u2 (i := 4) (k := T) (by decide) (fun z => absurd z (by decide)), f1.C]
          rfl)⟩
    · have h49b : tkT s n p2 = 2 := s2.2.2.2.1.2.2.1.symm.trans ((congrFun (sv_u2_off (show (164 : Nat) ≠ 178 by decide)) 18).symm.trans h49)
      have v19 : a32 164 19 = tkV s n p2 := s2.2.2.2.1.2.2.2 (Or.inr h49b)
      refine S_aload_0 (pc := 52) dX8_readGroup_52 ?_
      refine fgX8_92 (pc := 53) sh_164 dX8_readGroup_53 ?_
      refine S_aload_0 (pc := 56) dX8_readGroup_56 ?_
      refine fgX8_57 (pc := 57) sh_164 hv_164_31 dX8_readGroup_57 ?_
      refine S_aload_0 (pc := 60) dX8_readGroup_60 ?_
      refine fgX8_118 (pc := 61) sh_164 dX8_readGroup_61 ?_
      refine J_iald_n (pc := 64) T sh_178 (by rw [sv_u2_off (by decide), f2.2 29 (by decide), sv_u2_off (by decide), f1.2 29 (by decide)]; exact hT) (by omega) (by decide) dX8_readGroup_64 ?_
      refine J_icmp_ne (pc := 65) 72 dX8_readGroup_65 (by decide) (fun h65 => ?_) (fun h65 => ?_)
      · have h65b : ¬ tkV s n p2 = r32 := fun z => h65 (((congrFun (sv_u2_off (show (164 : Nat) ≠ 178 by decide)) 19).trans (v19.trans z)).trans sv_u2_at.symm)
        have hW : (false || decide (tkT s n p2 = 2 ∧ tkV s n p2 = r32)) = false := by simp [h65b]
        have sfl : mSt (sv_u2 (sv_u2 a32 178 T r32) 164 20 0) s n (false, p2) := (s2.off (by decide) (fun z => absurd z (by decide))).flag false
        refine J_iconst (pc := 72) (0) rfl dX8_readGroup_72 ?_
        refine fpX8_105 (pc := 73) (Or.inl rfl) sh_164 dX8_readGroup_73 ?_
        refine S_aload_0 (pc := 76) dX8_readGroup_76 ?_
        refine fgX8_60 (pc := 77) sh_164 hv_164_32 dX8_readGroup_77 ?_
        refine S_aload_0 (pc := 80) dX8_readGroup_80 ?_
        refine fgX8_118 (pc := 81) sh_164 dX8_readGroup_81 ?_
        refine S_aload_0 (pc := 84) dX8_readGroup_84 ?_
        refine J_iconst (pc := 85) (0) rfl dX8_readGroup_85 ?_
        refine S_aload_0 (pc := 86) dX8_readGroup_86 ?_
        refine fgX8_125 (pc := 87) sh_164 dX8_readGroup_87 ?_
        refine J_iconst (pc := 90) (1) rfl dX8_readGroup_90 ?_
        refine J_isub (pc := 91) dX8_readGroup_91 ?_
        rw [show ∀ v, sv_u2 (sv_u2 a32 178 T r32) 164 20 v 164 22 = D 0 0 from fun v => by rw [u2x (by decide), sv_u2_off (by decide), f2.2 22 (by decide), sv_u2_off (by decide), f1.2 22 (by decide)]; exact hD.1 0 (by decide)]
        refine caX8_121 (pc := 92) (t_tk (l := l) (G := G) hn2 hb sfl) sh_164 (Nat.le_of_ble_eq_true rfl) ⟨rfl, rfl, ⟨by decide, by decide⟩, by decide, by decide⟩ dX8_readGroup_92 (fun r92 a92 b92 c92 p92 => ?_)
        obtain ⟨f3, s3, e3, rfl, rfl⟩ := p92
        refine J_iast_n (pc := 95) T sh_179 (by rw [u2x (by decide), sv_u2_off (by decide), f2.2 29 (by decide), sv_u2_off (by decide), f1.2 29 (by decide)]; exact hT) (by omega) (by decide) dX8_readGroup_95 ?_
        refine S_aload_0 (pc := 96) dX8_readGroup_96 ?_
        refine J_dup (pc := 97) rfl dX8_readGroup_97 ?_
        refine fgX8_118 (pc := 98) sh_164 dX8_readGroup_98 ?_
        refine J_iconst (pc := 101) (1) rfl dX8_readGroup_101 ?_
        refine J_iadd (pc := 102) dX8_readGroup_102 ?_
        refine fpX8_118 (pc := 103) sh_164 dX8_readGroup_103 ?_
        exact J_return (pc := 106) dX8_readGroup_106 rfl ⟨rfl, rfl, (by
            have eT : sv_u2 a92 179 T r92 164 29 = nI T := by rw [sv_u2_off (by decide), f3.2 29 (by decide), u2x (by decide), sv_u2_off (by decide), f2.2 29 (by decide), sv_u2_off (by decide), f1.2 29 (by decide)]; exact hT
            rw [eT, ← nI_succ]
            refine ⟨(((((((f1.T.u2 (Or.inr (by omega))).trans f2.T).u2 (Or.inr (by omega))).u2 (Or.inl (by omega))).trans f3.T).u2 (Or.inr (by omega))).u2 (Or.inl (by omega))), bdGroup_end hD hDT hT8 e1 ex e2 hW ((s3.off (by decide) (fun z => absurd z (by decide))).off (by decide) (fun _ => by decide)) e3 ?_, rfl, rfl⟩
            rw [show mCells (sv_u2 (sv_u2 a92 179 T r92) 164 29 (nI (T + 1))) = _ from mCells_u2 (i := 0) (k := 4) (by decide) (fun _ => by decide), show mCells (sv_u2 a92 179 T r92) = _ from mCells_u2 (i := 6) (k := T) (by decide) (fun z => absurd z (by decide)), f3.C, show ∀ v, mCells (sv_u2 (sv_u2 a32 178 T r32) 164 20 v) = mCells (sv_u2 a32 178 T r32) from fun v => mCells_e (fun k hk => u2x (by omega)) (fun q g1 g2 => sv_u2_off (by omega)), show mCells (sv_u2 a32 178 T r32) = _ from mCells_u2 (i := 5) (k := T) (by decide) (fun z => absurd z (by decide)), f2.C, show mCells (sv_u2 a12 177 T r12) = _ from mCells_u2 (i := 4) (k := T) (by decide) (fun z => absurd z (by decide)), f1.C]
            rfl)⟩
      · have h65b : tkV s n p2 = r32 := v19.symm.trans ((congrFun (sv_u2_off (show (164 : Nat) ≠ 178 by decide)) 19).symm.trans (h65.trans sv_u2_at))
        have hW : (false || decide (tkT s n p2 = 2 ∧ tkV s n p2 = r32)) = true := by simp [h49b, h65b]
        have sfl : mSt (sv_u2 (sv_u2 a32 178 T r32) 164 20 1) s n (true, p2) := (s2.off (by decide) (fun z => absurd z (by decide))).flag true
        refine J_iconst (pc := 68) (1) rfl dX8_readGroup_68 ?_
        refine J_goto (pc := 69) 73 dX8_readGroup_69 (by decide) ?_
        refine fpX8_105 (pc := 73) (Or.inr rfl) sh_164 dX8_readGroup_73 ?_
        refine S_aload_0 (pc := 76) dX8_readGroup_76 ?_
        refine fgX8_60 (pc := 77) sh_164 hv_164_32 dX8_readGroup_77 ?_
        refine S_aload_0 (pc := 80) dX8_readGroup_80 ?_
        refine fgX8_118 (pc := 81) sh_164 dX8_readGroup_81 ?_
        refine S_aload_0 (pc := 84) dX8_readGroup_84 ?_
        refine J_iconst (pc := 85) (0) rfl dX8_readGroup_85 ?_
        refine S_aload_0 (pc := 86) dX8_readGroup_86 ?_
        refine fgX8_125 (pc := 87) sh_164 dX8_readGroup_87 ?_
        refine J_iconst (pc := 90) (1) rfl dX8_readGroup_90 ?_
        refine J_isub (pc := 91) dX8_readGroup_91 ?_
        rw [show ∀ v, sv_u2 (sv_u2 a32 178 T r32) 164 20 v 164 22 = D 0 0 from fun v => by rw [u2x (by decide), sv_u2_off (by decide), f2.2 22 (by decide), sv_u2_off (by decide), f1.2 22 (by decide)]; exact hD.1 0 (by decide)]
        refine caX8_121 (pc := 92) (t_tk (l := l) (G := G) hn2 hb sfl) sh_164 (Nat.le_of_ble_eq_true rfl) ⟨rfl, rfl, ⟨by decide, by decide⟩, by decide, by decide⟩ dX8_readGroup_92 (fun r92 a92 b92 c92 p92 => ?_)
        obtain ⟨f3, s3, e3, rfl, rfl⟩ := p92
        refine J_iast_n (pc := 95) T sh_179 (by rw [u2x (by decide), sv_u2_off (by decide), f2.2 29 (by decide), sv_u2_off (by decide), f1.2 29 (by decide)]; exact hT) (by omega) (by decide) dX8_readGroup_95 ?_
        refine S_aload_0 (pc := 96) dX8_readGroup_96 ?_
        refine J_dup (pc := 97) rfl dX8_readGroup_97 ?_
        refine fgX8_118 (pc := 98) sh_164 dX8_readGroup_98 ?_
        refine J_iconst (pc := 101) (1) rfl dX8_readGroup_101 ?_
        refine J_iadd (pc := 102) dX8_readGroup_102 ?_
        refine fpX8_118 (pc := 103) sh_164 dX8_readGroup_103 ?_
        exact J_return (pc := 106) dX8_readGroup_106 rfl ⟨rfl, rfl, (by
            have eT : sv_u2 a92 179 T r92 164 29 = nI T := by rw [sv_u2_off (by decide), f3.2 29 (by decide), u2x (by decide), sv_u2_off (by decide), f2.2 29 (by decide), sv_u2_off (by decide), f1.2 29 (by decide)]; exact hT
            rw [eT, ← nI_succ]
            refine ⟨(((((((f1.T.u2 (Or.inr (by omega))).trans f2.T).u2 (Or.inr (by omega))).u2 (Or.inl (by omega))).trans f3.T).u2 (Or.inr (by omega))).u2 (Or.inl (by omega))), bdGroup_end hD hDT hT8 e1 ex e2 hW ((s3.off (by decide) (fun z => absurd z (by decide))).off (by decide) (fun _ => by decide)) e3 ?_, rfl, rfl⟩
            rw [show mCells (sv_u2 (sv_u2 a92 179 T r92) 164 29 (nI (T + 1))) = _ from mCells_u2 (i := 0) (k := 4) (by decide) (fun _ => by decide), show mCells (sv_u2 a92 179 T r92) = _ from mCells_u2 (i := 6) (k := T) (by decide) (fun z => absurd z (by decide)), f3.C, show ∀ v, mCells (sv_u2 (sv_u2 a32 178 T r32) 164 20 v) = mCells (sv_u2 a32 178 T r32) from fun v => mCells_e (fun k hk => u2x (by omega)) (fun q g1 g2 => sv_u2_off (by omega)), show mCells (sv_u2 a32 178 T r32) = _ from mCells_u2 (i := 5) (k := T) (by decide) (fun z => absurd z (by decide)), f2.C, show mCells (sv_u2 a12 177 T r12) = _ from mCells_u2 (i := 4) (k := T) (by decide) (fun z => absurd z (by decide)), f1.C]
            rfl)⟩
set_option maxRecDepth 20000 in
set_option maxHeartbeats 2000000 in
theorem t_X8_readTown {l : Launch} {G : svG} {hi : svH} {hl : svL} {tw dr : Nat} {pm : Nat → Nat} {s : Nat → Int32} {n : Nat} (hn2 : n ≤ 120) (hb : ∀ i, i < n → ∃ k, k < 256 ∧ s i = nI k) {p : Nat} {D : svH} (hS : mSt hi s n (false, p)) (hD : dRel D (mCells hi)) (hT0 : D 0 3 = 0) (hG0 : D 0 4 = 0) : svV l G yX8_readTown mX8_readTown rX8_readTown [sv_rf G.1 164] hi hl (sv_hr tw dr pm) (fun a b c => mFrT hi a ∧ mBody a s n (bdChoice s n D p) ∧ hl = b ∧ sv_hr tw dr pm = c) := by
  refine sv_entry (by decide +kernel) rfl rfl (Nat.le_of_ble_eq_true rfl) (by simp [Value.category, sv_rf]) [some (sv_rf G.1 164)] rfl ?_
  refine S_aload_0 (pc := 0) dX8_readTown_0 ?_
  refine S_aload_0 (pc := 1) dX8_readTown_1 ?_
  refine J_iconst (pc := 2) (2) rfl dX8_readTown_2 ?_
  refine J_bipush (pc := 3) (6) rfl dX8_readTown_3 ?_
  refine caX8_121 (pc := 5) (t_tk (l := l) (G := G) hn2 hb hS) sh_164 (Nat.le_of_ble_eq_true rfl) ⟨rfl, rfl, ⟨by decide, by decide⟩, by decide, by decide⟩ dX8_readTown_5 (fun r5 a5 b5 c5 p5 => ?_)
  obtain ⟨f1, s1, e1, rfl, rfl⟩ := p5
  refine fpX8_125 (pc := 8) sh_164 dX8_readTown_8 ?_
  refine S_aload_0 (pc := 11) dX8_readTown_11 ?_
  refine S_aload_0 (pc := 12) dX8_readTown_12 ?_
  refine J_iconst (pc := 13) (1) rfl dX8_readTown_13 ?_
  refine S_aload_0 (pc := 14) dX8_readTown_14 ?_
  refine fgX8_125 (pc := 15) sh_164 dX8_readTown_15 ?_
  rw [show sv_u2 a5 164 22 r5 164 22 = r5 from sv_u2_at]
  refine caX8_121 (pc := 18) (t_tk (l := l) (G := G) hn2 hb (s1.off (by decide) (fun _ => by decide))) sh_164 (Nat.le_of_ble_eq_true rfl) ⟨rfl, rfl, ⟨by decide, by decide⟩, by decide, by decide⟩ dX8_readTown_18 (fun r18 a18 b18 c18 p18 => ?_)
  obtain ⟨f2, s2, e2, rfl, rfl⟩ := p18
  refine fpX8_128 (pc := 21) sh_164 dX8_readTown_21 ?_
  refine S_aload_0 (pc := 24) dX8_readTown_24 ?_
  refine S_aload_0 (pc := 25) dX8_readTown_25 ?_
  refine J_iconst (pc := 26) (0) rfl dX8_readTown_26 ?_
  refine J_bipush (pc := 27) (20) rfl dX8_readTown_27 ?_
  refine caX8_121 (pc := 29) (t_tk (l := l) (G := G) hn2 hb (s2.off (by decide) (fun _ => by decide))) sh_164 (Nat.le_of_ble_eq_true rfl) ⟨rfl, rfl, ⟨by decide, by decide⟩, by decide, by decide⟩ dX8_readTown_29 (fun r29 a29 b29 c29 p29 => ?_)
  obtain ⟨f3, s3, e3, rfl, rfl⟩ := p29
  refine fpX8_131 (pc := 32) sh_164 dX8_readTown_32 ?_
  exact J_return (pc := 35) dX8_readTown_35 rfl ⟨rfl, rfl, (by
      refine ⟨(((((f1.T.u2 (Or.inl (by omega))).trans f2.T).u2 (Or.inl (by omega))).trans f3.T).u2 (Or.inl (by omega))), bdChoice_end hD hT0 hG0 e1 (s3.off (by decide) (fun _ => by decide)) e2 e3 ?_, rfl, rfl⟩
      rw [show mCells (sv_u2 a29 164 24 r29) = _ from mCells_u2 (i := 0) (k := 2) (by decide) (fun _ => by decide), f3.C, show mCells (sv_u2 a18 164 23 r18) = _ from mCells_u2 (i := 0) (k := 1) (by decide) (fun _ => by decide), f2.C, show mCells (sv_u2 a5 164 22 r5) = _ from mCells_u2 (i := 0) (k := 0) (by decide) (fun _ => by decide), f1.C])⟩
