theorem rdStop_ge {s : Nat → Int32} {n p p' : Nat} {D D' : svH} (hp : p ≤ n) (h : rdStop s n D p = .inr (D', p')) : p ≤ p' ∧ p' ≤ n := by
  unfold rdStop at h
  split at h
  · cases h
    have := tk_le (s := s) hp
    omega
  · cases h
theorem rdChoice_ge {s : Nat → Int32} {n p p' : Nat} {D D' : svH} (hp : p ≤ n) (h : rdChoice s n D p = .inr (D', p')) : p ≤ p' ∧ p' ≤ n := by
  have t1 := tk_le (s := s) hp
  have t2 := tk_le (s := s) t1.2.2
  have t3 := tk_le (s := s) t2.2.2
  unfold rdChoice at h
  split at h
  · split at h
    · split at h
      · have := rdStop_ge t3.2.2 h; omega
      · cases h
    · cases h
  · cases h
theorem rdTrain_ge {s : Nat → Int32} {n p p' : Nat} {D D' : svH} (hp : p ≤ n) (h : rdTrain s n D p = .inr (D', p')) : p ≤ p' ∧ p' ≤ n := by
  have t1 := tk_le (s := s) hp
  have t2 := tk_le (s := s) t1.2.2
  have t3 := tk_le (s := s) t2.2.2
  unfold rdTrain at h
  split at h
  · split at h
    · split at h
      · have := rdStop_ge t3.2.2 h; omega
      · cases h
    · cases h
  · cases h
theorem rdGroup_ge {s : Nat → Int32} {n p p' : Nat} {D D' : svH} (hp : p ≤ n) (h : rdGroup s n D p = .inr (D', p')) : p ≤ p' ∧ p' ≤ n := by
  have t1 := tk_le (s := s) hp
  have t2 := tk_le (s := s) t1.2.2
  have t3 := tk_le (s := s) t2.2.2
  unfold rdGroup at h
  split at h
  · split at h
    · split at h
      · have := rdStop_ge t3.2.2 h; omega
      · cases h
    · cases h
  · cases h
theorem rdItem_ge {s : Nat → Int32} {n p p' items : Nat} {D D' : svH} (hp : p ≤ n) (h : rdItem s n D items p = .inr (D', p')) : p < p' ∧ p' ≤ n := by
  have t1 := tk_le (s := s) hp
  unfold rdItem at h
  split at h
  · rename_i c
    have := tk_adv (s := s) hp (by rw [c.1]; decide)
    have := rdChoice_ge t1.2.2 h
    omega
  · split at h
    · rename_i c
      have := tk_adv (s := s) hp (by rw [c.1]; decide)
      have := rdTrain_ge t1.2.2 h
      omega
    · split at h
      · rename_i c
        have := tk_adv (s := s) hp (by rw [c.1]; decide)
        have := rdGroup_ge t1.2.2 h
        omega
      · cases h
def rdEnd (a : svH) (dr : Nat) (r : Int32) (R : Nat ⊕ (svH × Nat)) : Prop := match R with
  | .inl f => r = -10 - nI f
  | .inr (D', k) => r = nI k ∧ k ≤ 120 ∧ dRel D' (fun i => a (dr + i))
def rdX (hi a : svH) (dr : Nat) (r : Int32) (R : Nat ⊕ (svH × Nat)) : Prop := (∀ q, q ≠ 15 → (q < dr ∨ dr + 6 < q) → a q = hi q) ∧ a 15 0 = hi 15 0 ∧ rdEnd a dr r R
set_option maxRecDepth 20000 in
set_option maxHeartbeats 2000000 in
theorem lo_X5_readInto {l : Launch} {G : svG} {hi : svH} {hl : svL} {tw dr : Nat} {pm : Nat → Nat} {n : Nat} (hdr : svSH[dr]? = some (0, 6)) (hn2 : n ≤ 120) (hn : hi 15 0 = nI n) : ∀ (d : Nat) (D : svH) (items p : Nat) (h' : svH), items + d = 121 → n < p + d → p ≤ n → (∀ q, q ≠ 15 → (q < dr ∨ dr + 6 < q) → h' q = hi q) → h' 15 0 = nI n → h' 15 2 = nI p → dRel D (fun i => h' (dr + i)) → (items = 0 → D 0 3 = 0 ∧ D 0 4 = 0) → svJ l G rX5_readInto mX5_readInto (sv_Fm G (fun v sh a b c => ∃ r, v = some (.int r) ∧ sh = svSH ∧ ((fun r a b c => rdX hi a dr r (rdAll (hi 16) n d D items p) ∧ hl = b ∧ sv_hr tw dr pm = c)) r a b c) 0 0) 0 0 11 [some (sv_rf G.1 15), some (sv_rf G.1 dr), some (.int (nI items))] [] svSH h' hl (sv_hr tw dr pm) := by
  have hdr2 := sv_dr hdr
  intro d
  induction d with
  | zero => intro D items p h' _ h2 h3; omega
  | succ d ih =>
    intro D items p h' i1 i2 i3 i4 i5 i6 i7 i8
    have i16 : h' 16 = hi 16 := i4 16 (by decide) (by omega)
    have hR : rdAll (hi 16) n (d + 1) D items p = if tkT (hi 16) n p = 0 then .inr (D, items) else match rdItem (hi 16) n D items p with
      | .inl f => .inl f
      | .inr (D', p') => rdAll (hi 16) n d D' (items + 1) p' := rfl
    refine S_iload_2 (pc := 11) dX5_readInto_11 ?_
    refine J_bipush (pc := 12) (120) rfl dX5_readInto_12 ?_
    refine J_icmp_gt (pc := 14) 48 dX5_readInto_14 (by decide) (fun h14 => ?_) (fun h14 => ?_)
    · rw [show (120 : Int32) = nI 120 from rfl, nI_ltI (by omega) (by omega)] at h14
      exact absurd h14 (by omega)
    · refine S_aload_0 (pc := 17) dX5_readInto_17 ?_
      refine caX5_40 (pc := 18) (t_X5_step (l := l) (G := G) hn2 i5 i6 i3) sh_15 (Nat.le_of_ble_eq_true rfl) ⟨rfl, rfl, ⟨by decide, by decide⟩, by decide, by decide⟩ dX5_readInto_18 (fun a18 b18 c18 p18 => ?_)
      obtain ⟨lx, rfl, rfl⟩ := p18
      rw [i16] at lx
      have x1 := lxG_of lx
      have e1 : a18 16 = hi 16 := by rw [x1.1 16 (by decide)]; exact i16
      have n1 : a18 15 0 = nI n := by rw [x1.2.1]; exact i5
      refine S_aload_0 (pc := 21) dX5_readInto_21 ?_
      refine fgX5_25 (pc := 22) sh_15 dX5_readInto_22 ?_
      refine J_if_ne (pc := 25) 30 dX5_readInto_25 (by decide) (fun h25 => ?_) (fun h25 => ?_)
      · rw [x1.2.2.2.2.1] at h25
        refine S_aload_0 (pc := 30) dX5_readInto_30 ?_
        refine S_aload_1 (pc := 31) dX5_readInto_31 ?_
        refine S_iload_2 (pc := 32) dX5_readInto_32 ?_
        refine caX5_43 (pc := 33) (t_X5_readItem (l := l) (G := G) (hi := a18) (D := D) hdr hn2 n1 i3 (dRel_congr i7 (fun i hi2 => x1.1 _ (by omega))) (by rw [e1]; exact x1.2.2.1) (by rw [e1]; exact x1.2.2.2.1) (by rw [e1]; exact x1.2.2.2.2.1) (by rw [e1]; exact x1.2.2.2.2.2) (by omega) i8) sh_15 (Nat.le_of_ble_eq_true rfl) ⟨rfl, rfl, ⟨by decide, by decide⟩, by decide, by decide⟩ dX5_readInto_33 (fun r33 a33 b33 c33 p33 => ?_)
        obtain ⟨hF, rfl, rfl⟩ := p33
        rw [e1] at hF
        refine J_if_ne (pc := 36) 42 dX5_readInto_36 (by decide) (fun h36 => ?_) (fun h36 => ?_)
        · refine S_inc_2 (pc := 42) (1) rfl dX5_readInto_42 (by decide) ?_
          refine J_goto (pc := 45) 11 dX5_readInto_45 (by decide) ?_
          cases hI : rdItem (hi 16) n D items p with
          | inl f =>
            rw [hI] at hF
            exact absurd hF.2.2.1 h36
          | inr q =>
            obtain ⟨D', p'⟩ := q
            rw [hI] at hF
            have hg := rdItem_ge i3 hI
            have hR2 : rdAll (hi 16) n (d + 1) D items p = rdAll (hi 16) n d D' (items + 1) p' := by rw [hR, if_neg h25, hI]
            rw [hR2]
            exact svJ_ls (by rw [nI_succ]) (ih D' (items + 1) p' _ (by omega) (by omega) hg.2 (fun q g1 g2 => by rw [hF.1 q g1 g2, x1.1 q g1]; exact i4 q g1 g2) (by rw [hF.2.1, n1]) hF.2.2.2.1 hF.2.2.2.2.2 (fun z => by omega))
        · refine J_goto (pc := 39) 48 dX5_readInto_39 (by decide) ?_
          refine J_bipush (pc := 48) (-10) rfl dX5_readInto_48 ?_
          refine S_aload_0 (pc := 50) dX5_readInto_50 ?_
          refine fgX5_22 (pc := 51) sh_15 dX5_readInto_51 ?_
          refine J_isub (pc := 54) dX5_readInto_54 ?_
          exact J_ireturn (pc := 55) dX5_readInto_55 rfl rfl ⟨_, rfl, rfl, ⟨by
                rw [hR, if_neg h25]
                cases hI : rdItem (hi 16) n D items p with
                | inl f =>
                  rw [hI] at hF
                  exact ⟨fun q g1 g2 => by rw [hF.1 q g1 g2, x1.1 q g1]; exact i4 q g1 g2, by rw [hF.2.1, n1, hn], by show _ = _; rw [hF.2.2.2]⟩
                | inr q =>
                  rw [hI] at hF
                  exact absurd (hF.2.2.1.symm.trans h36) (by decide), rfl, rfl⟩⟩
      · rw [x1.2.2.2.2.1] at h25
        refine S_iload_2 (pc := 28) dX5_readInto_28 ?_
        exact J_ireturn (pc := 29) dX5_readInto_29 rfl rfl ⟨_, rfl, rfl, ⟨by rw [hR, if_pos h25]; exact ⟨fun q g1 g2 => by rw [x1.1 q g1]; exact i4 q g1 g2, by rw [n1, hn], rfl, by omega, dRel_congr i7 (fun i hi2 => x1.1 _ (by omega))⟩, rfl, rfl⟩⟩
def D0 : svH := sv_u2 (sv_u2 (sv_u2 (fun _ _ => 0) 0 0 3) 0 1 2) 0 2 3
theorem dRel_0 {f : svH} (h0 : f 0 0 = 3) (h1 : f 0 1 = 2) (h2 : f 0 2 = 3) (h3 : f 0 3 = 0) (h4 : f 0 4 = 0) : dRel D0 f := by
  refine ⟨fun k hk => ?_, 3, 2, 3, 0, 0, rfl, rfl, rfl, rfl, rfl, by decide, by decide, by decide, by decide, by decide, by decide, by decide, fun t ht => by omega, fun r hr => by omega⟩
  rcases (show k = 0 ∨ k = 1 ∨ k = 2 ∨ k = 3 ∨ k = 4 by omega) with rfl | rfl | rfl | rfl | rfl
  · exact h0
  · exact h1
  · exact h2
  · exact h3
  · exact h4
