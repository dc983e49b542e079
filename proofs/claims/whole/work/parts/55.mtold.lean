def mFrI (hi a : svH) : Prop := (∀ q, q ≠ 164 → q < 174 ∨ 179 < q → a q = hi q) ∧ ∀ k, k < 16 ∨ 29 < k → a 164 k = hi 164 k
theorem mFrI.T {a b c : svH} (h1 : mFrI a b) (h2 : mFrT b c) : mFrI a c := ⟨fun q g1 g2 => (h2.1 q g1 g2).trans (h1.1 q g1 g2), fun k g => (h2.2 k (by omega)).trans (h1.2 k g)⟩
theorem mFrI.u2 {a b : svH} (h : mFrI a b) {k : Nat} {v : Int32} (hq : 16 ≤ k ∧ k ≤ 29) : mFrI a (sv_u2 b 164 k v) := ⟨fun z g1 g2 => by rw [sv_u2_off g1]; exact h.1 z g1 g2, fun j g => by rw [u2x (by omega)]; exact h.2 j g⟩
def mEnd (hi a : svH) (r : Int32) (R : Nat ⊕ (svH × Nat)) : Prop := match R with
  | .inl f => r = -10 - nI f ∧ mFrI hi a
  | .inr (D', k) => r = nI k ∧ ∃ (g : svH) (T Gn : Nat), mFrI hi g ∧ dRel D' (mCells g) ∧ D' 0 3 = nI T ∧ D' 0 4 = nI Gn ∧ T ≤ 8 ∧ Gn ≤ 6 ∧ mSetR g a T Gn
theorem mSt.items {a : svH} {s : Nat → Int32} {n : Nat} {x : Bool × Nat} (h : mSt a s n x) (v : Int32) : mSt (sv_u2 a 164 21 v) s n x := h.off (by decide) (fun _ => by decide)
set_option maxRecDepth 20000 in
set_option maxHeartbeats 2000000 in
theorem lw_X8_town {l : Launch} {G : svG} {hi : svH} {hl : svL} {tw dr : Nat} {pm : Nat → Nat} {f : Nat} {h' : svH} (i1 : mFrI hi h') (i2 : h' 164 20 = 1) (i3 : h' 164 17 = nI f) : svJ l G rX8_town mX8_town (sv_Fm G (fun v sh a b c => ∃ r, v = some (.int r) ∧ sh = svSH ∧ ((fun r a b c => mEnd hi a r (.inl f) ∧ hl = b ∧ sv_hr tw dr pm = c)) r a b c) 0 0) 0 0 44 [some (sv_rf G.1 164)] [] svSH h' hl (sv_hr tw dr pm) := by
  refine S_aload_0 (pc := 44) dX8_town_44 ?_
  refine fgX8_95 (pc := 45) sh_164 dX8_town_45 ?_
  refine J_if_eq (pc := 48) 75 dX8_town_48 (by decide) (fun h48 => ?_) (fun h48 => ?_)
  · refine S_aload_0 (pc := 75) dX8_town_75 ?_
    refine fgX8_105 (pc := 76) sh_164 dX8_town_76 ?_
    refine J_if_eq (pc := 79) 90 dX8_town_79 (by decide) (fun h79 => ?_) (fun h79 => ?_)
    · exact absurd (i2.symm.trans h79) (by decide)
    · refine J_bipush (pc := 82) (-10) rfl dX8_town_82 ?_
      refine S_aload_0 (pc := 84) dX8_town_84 ?_
      refine fgX8_89 (pc := 85) sh_164 dX8_town_85 ?_
      refine J_isub (pc := 88) dX8_town_88 ?_
      exact J_ireturn (pc := 89) dX8_town_89 rfl rfl ⟨_, rfl, rfl, ⟨⟨by rw [i3], i1⟩, rfl, rfl⟩⟩
  · refine S_aload_0 (pc := 51) dX8_town_51 ?_
    refine fgX8_105 (pc := 52) sh_164 dX8_town_52 ?_
    refine J_if_ne (pc := 55) 75 dX8_town_55 (by decide) (fun h55 => ?_) (fun h55 => ?_)
    · refine S_aload_0 (pc := 75) dX8_town_75 ?_
      refine fgX8_105 (pc := 76) sh_164 dX8_town_76 ?_
      refine J_if_eq (pc := 79) 90 dX8_town_79 (by decide) (fun h79 => ?_) (fun h79 => ?_)
      · exact absurd (i2.symm.trans h79) (by decide)
      · refine J_bipush (pc := 82) (-10) rfl dX8_town_82 ?_
        refine S_aload_0 (pc := 84) dX8_town_84 ?_
        refine fgX8_89 (pc := 85) sh_164 dX8_town_85 ?_
        refine J_isub (pc := 88) dX8_town_88 ?_
        exact J_ireturn (pc := 89) dX8_town_89 rfl rfl ⟨_, rfl, rfl, ⟨⟨by rw [i3], i1⟩, rfl, rfl⟩⟩
    · exact absurd (i2.symm.trans h55) (by decide)
set_option maxRecDepth 20000 in
set_option maxHeartbeats 2000000 in
theorem lo_X8_town {l : Launch} {G : svG} {hi : svH} {hl : svL} {tw dr : Nat} {pm : Nat → Nat} {s : Nat → Int32} {n : Nat} (hn2 : n ≤ 120) (hb : ∀ i, i < n → ∃ k, k < 256 ∧ s i = nI k) : ∀ (d : Nat) (D : svH) (items p : Nat) (h' : svH), items + d = 121 → n < p + d → mFrI hi h' → mSt h' s n (false, p) → dRel D (mCells h') → h' 164 21 = nI items → (items = 0 → D 0 3 = 0 ∧ D 0 4 = 0) → svJ l G rX8_town mX8_town (sv_Fm G (fun v sh a b c => ∃ r, v = some (.int r) ∧ sh = svSH ∧ ((fun r a b c => mEnd hi a r (rdAll s n d D items p) ∧ hl = b ∧ sv_hr tw dr pm = c)) r a b c) 0 0) 0 0 44 [some (sv_rf G.1 164)] [] svSH h' hl (sv_hr tw dr pm) := by
  intro d
  induction d with
  | zero => intro D items p h' _ h2 h3 h4; have := h4.2.2.1; exact absurd h2 (by have : p ≤ n := this; omega)
  | succ d ih =>
    intro D items p h' i1 i2 i3 hS hD hit i8
    have hpn : p ≤ n := hS.2.2.1
    have hR : rdAll s n (d + 1) D items p = if tkT s n p = 0 then .inr (D, items) else match rdItem s n D items p with
      | .inl f => .inl f
      | .inr (D', p') => rdAll s n d D' (items + 1) p' := rfl
    refine S_aload_0 (pc := 44) dX8_town_44 ?_
    refine fgX8_95 (pc := 45) sh_164 dX8_town_45 ?_
    refine J_if_eq (pc := 48) 75 dX8_town_48 (by decide) (fun h48 => ?_) (fun h48 => ?_)
    · have h48b : tkT s n p = 0 := hS.2.2.2.1.2.2.1.symm.trans h48
      refine S_aload_0 (pc := 75) dX8_town_75 ?_
      refine fgX8_105 (pc := 76) sh_164 dX8_town_76 ?_
      refine J_if_eq (pc := 79) 90 dX8_town_79 (by decide) (fun h79 => ?_) (fun h79 => ?_)
      · refine S_aload_0 (pc := 90) dX8_town_90 ?_
        obtain ⟨T, Gn, hT, hG, hT8, hG6⟩ : ∃ T Gn, D 0 3 = nI T ∧ D 0 4 = nI Gn ∧ T ≤ 8 ∧ Gn ≤ 6 := by
          obtain ⟨_, C, L, B, T, Gn, _, _, _, g3, g4, _, _, _, _, _, c6, c7, _⟩ := hD
          exact ⟨T, Gn, g3, g4, c6, c7⟩
        refine caX8_153 (pc := 91) (t_X8_settles (l := l) (G := G) (T := T) (Gn := Gn) (by rw [← hT]; exact hD.1 3 (by decide)) hT8 (by rw [← hG]; exact hD.1 4 (by decide)) hG6) sh_164 (Nat.le_of_ble_eq_true rfl) ⟨rfl, rfl, ⟨by decide, by decide⟩, by decide, by decide⟩ dX8_town_91 (fun a91 b91 c91 p91 => ?_)
        obtain ⟨st, rfl, rfl⟩ := p91
        refine S_aload_0 (pc := 94) dX8_town_94 ?_
        refine fgX8_112 (pc := 95) sh_164 dX8_town_95 ?_
        exact J_ireturn (pc := 98) dX8_town_98 rfl rfl ⟨_, rfl, rfl, ⟨by rw [hR, if_pos h48b]; exact ⟨by rw [st.2.1.2.2.2.2 21 (by decide)]; exact hit, h', T, Gn, i3, hD, hT, hG, hT8, hG6, st⟩, rfl, rfl⟩⟩
      · exact absurd hS.2.2.2.2 h79
    · have h48b : ¬ tkT s n p = 0 := fun z => h48 (hS.2.2.2.1.2.2.1.trans z)
      refine S_aload_0 (pc := 51) dX8_town_51 ?_
      refine fgX8_105 (pc := 52) sh_164 dX8_town_52 ?_
      refine J_if_ne (pc := 55) 75 dX8_town_55 (by decide) (fun h55 => ?_) (fun h55 => ?_)
      · exact absurd hS.2.2.2.2 h55
      · refine S_aload_0 (pc := 58) dX8_town_58 ?_
        refine caX8_150 (pc := 59) (t_X8_readItem (l := l) (G := G) hn2 hb hS hD hit (by omega) i8) sh_164 (Nat.le_of_ble_eq_true rfl) ⟨rfl, rfl, ⟨by decide, by decide⟩, by decide, by decide⟩ dX8_town_59 (fun a59 b59 c59 p59 => ?_)
        obtain ⟨f1, s1, rfl, rfl⟩ := p59
        refine S_aload_0 (pc := 62) dX8_town_62 ?_
        refine J_dup (pc := 63) rfl dX8_town_63 ?_
        refine fgX8_112 (pc := 64) sh_164 dX8_town_64 ?_
        refine J_iconst (pc := 67) (1) rfl dX8_town_67 ?_
        refine J_iadd (pc := 68) dX8_town_68 ?_
        refine fpX8_112 (pc := 69) sh_164 dX8_town_69 ?_
        refine J_goto (pc := 72) 44 dX8_town_72 (by decide) ?_
        rw [show a59 164 21 = nI items from by rw [f1.2 21 (by decide)]; exact hit, ← nI_succ]
        cases hI : rdItem s n D items p with
        | inl f =>
          rw [hI] at s1
          have hR2 : rdAll s n (d + 1) D items p = .inl f := by rw [hR, if_neg h48b, hI]
          rw [hR2]
          exact lw_X8_town ((i3.T f1).u2 (by decide)) (by rw [u2x (by decide)]; exact s1.1) (by rw [u2x (by decide)]; exact s1.2)
        | inr q =>
          obtain ⟨D', p'⟩ := q
          rw [hI] at s1
          have hg := rdItem_ge hpn hI
          have hR2 : rdAll s n (d + 1) D items p = rdAll s n d D' (items + 1) p' := by rw [hR, if_neg h48b, hI]
          rw [hR2]
          exact ih D' (items + 1) p' _ (by omega) (by omega) ((i3.T f1).u2 (by decide)) (s1.1.items _) (by rw [show ∀ v, mCells (sv_u2 a59 164 21 v) = mCells a59 from fun v => mCells_e (fun k hk => u2x (by omega)) (fun q g1 g2 => sv_u2_off (by omega))]; exact s1.2) sv_u2_at (fun z => by omega)
set_option maxRecDepth 20000 in
set_option maxHeartbeats 2000000 in
theorem t_X8_town {l : Launch} {G : svG} {hi : svH} {hl : svL} {tw dr : Nat} {pm : Nat → Nat} {n : Nat} (hn2 : n ≤ 120) (hn : hi 164 15 = nI n) (hb : ∀ i, i < n → ∃ k, k < 256 ∧ hi 173 i = nI k) : svI l G yX8_town mX8_town rX8_town [sv_rf G.1 164] hi hl (sv_hr tw dr pm) (fun r a b c => mEnd hi a r (rdAll (hi 173) n 121 D0 0 0) ∧ hl = b ∧ sv_hr tw dr pm = c) := by
  have e0 : (sv_u2 (sv_u2 (sv_u2 (sv_u2 (sv_u2 (sv_u2 (sv_u2 (sv_u2 hi 164 16 0) 164 20 0) 164 21 0) 164 22 3) 164 23 2) 164 24 3) 164 25 0) 164 29 0) 173 = hi 173 := by rw [sv_u2_off (by decide), sv_u2_off (by decide), sv_u2_off (by decide), sv_u2_off (by decide), sv_u2_off (by decide), sv_u2_off (by decide), sv_u2_off (by decide), sv_u2_off (by decide)]
  refine sv_entry (by decide +kernel) rfl rfl (Nat.le_of_ble_eq_true rfl) (by simp [Value.category, sv_rf]) [some (sv_rf G.1 164)] rfl ?_
  refine S_aload_0 (pc := 0) dX8_town_0 ?_
  refine J_iconst (pc := 1) (0) rfl dX8_town_1 ?_
  refine fpX8_82 (pc := 2) sh_164 dX8_town_2 ?_
  refine S_aload_0 (pc := 5) dX8_town_5 ?_
  refine J_iconst (pc := 6) (0) rfl dX8_town_6 ?_
  refine fpX8_105 (pc := 7) (Or.inl rfl) sh_164 dX8_town_7 ?_
  refine S_aload_0 (pc := 10) dX8_town_10 ?_
  refine J_iconst (pc := 11) (0) rfl dX8_town_11 ?_
  refine fpX8_112 (pc := 12) sh_164 dX8_town_12 ?_
  refine S_aload_0 (pc := 15) dX8_town_15 ?_
  refine J_iconst (pc := 16) (3) rfl dX8_town_16 ?_
  refine fpX8_125 (pc := 17) sh_164 dX8_town_17 ?_
  refine S_aload_0 (pc := 20) dX8_town_20 ?_
  refine J_iconst (pc := 21) (2) rfl dX8_town_21 ?_
  refine fpX8_128 (pc := 22) sh_164 dX8_town_22 ?_
  refine S_aload_0 (pc := 25) dX8_town_25 ?_
  refine J_iconst (pc := 26) (3) rfl dX8_town_26 ?_
  refine fpX8_131 (pc := 27) sh_164 dX8_town_27 ?_
  refine S_aload_0 (pc := 30) dX8_town_30 ?_
  refine J_iconst (pc := 31) (0) rfl dX8_town_31 ?_
  refine fpX8_115 (pc := 32) sh_164 dX8_town_32 ?_
  refine S_aload_0 (pc := 35) dX8_town_35 ?_
  refine J_iconst (pc := 36) (0) rfl dX8_town_36 ?_
  refine fpX8_118 (pc := 37) sh_164 dX8_town_37 ?_
  refine S_aload_0 (pc := 40) dX8_town_40 ?_
  refine caX8_109 (pc := 41) (t_X8_next (l := l) (G := G) (n := n) (p := 0) hn2 (by simp only [u2e]; simp; exact hn) (by rw [e0]; exact hb) (by simp [u2e]; rfl) (Nat.zero_le _)) sh_164 (Nat.le_of_ble_eq_true rfl) ⟨rfl, rfl, ⟨by decide, by decide⟩, by decide, by decide⟩ dX8_town_41 (fun a41 b41 c41 p41 => ?_)
  obtain ⟨lx, rfl, rfl⟩ := p41
  rw [e0] at lx
  have K : ∀ k, k < 16 ∨ 20 ≤ k → a41 164 k = (sv_u2 (sv_u2 (sv_u2 (sv_u2 (sv_u2 (sv_u2 (sv_u2 (sv_u2 hi 164 16 0) 164 20 0) 164 21 0) 164 22 3) 164 23 2) 164 24 3) 164 25 0) 164 29 0) 164 k := fun k hk => by
    rcases (show k = 20 ∨ k ≠ 20 by omega) with rfl | hk2
    · exact lx.2.1 20 (by decide) (by decide) (by decide) (by decide)
    · exact lx.2.1 k (by omega) (by omega) (by omega) (by omega)
  refine lo_X8_town hn2 hb 121 D0 0 0 _ rfl (by omega) ⟨fun q g1 g2 => ?_, fun k hk => ?_⟩ ⟨?_, ?_, Nat.zero_le _, mLA_of lx, ?_⟩ (dRel_0 ?_ ?_ ?_ ?_ ?_) ?_ (fun _ => ⟨rfl, rfl⟩)
  · rw [lx.1 q g1, sv_u2_off g1, sv_u2_off g1, sv_u2_off g1, sv_u2_off g1, sv_u2_off g1, sv_u2_off g1, sv_u2_off g1, sv_u2_off g1]
  · rw [K k (by omega), u2x (by omega), u2x (by omega), u2x (by omega), u2x (by omega), u2x (by omega), u2x (by omega), u2x (by omega), u2x (by omega)]
  · rw [lx.1 173 (by decide)]; exact e0
  · rw [K 15 (by decide)]; simp only [u2e]; simp; exact hn
  · rw [K 20 (by decide)]; simp [u2e]
  · show a41 164 22 = 3
    rw [K 22 (by decide)]; simp [u2e]
  · show a41 164 23 = 2
    rw [K 23 (by decide)]; simp [u2e]
  · show a41 164 24 = 3
    rw [K 24 (by decide)]; simp [u2e]
  · show a41 164 25 = 0
    rw [K 25 (by decide)]; simp [u2e]
  · show a41 164 29 = 0
    rw [K 29 (by decide)]; simp [u2e]
  · rw [K 21 (by decide)]; simp [u2e]; rfl
