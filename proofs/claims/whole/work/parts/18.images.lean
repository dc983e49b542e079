/-- a day is the same as another was -/
def dy (hi a : svH) (s d : Nat) : Prop := (∀ k, k < 5 → a d k = hi s k) ∧ (∀ k, k < 6 → a (d + 1) k = hi (s + 1) k) ∧ (∀ k, k < 8 → a (d + 2) k = hi (s + 2) k) ∧ ∀ k, k < 8 → a (d + 3) k = hi (s + 3) k
theorem cpR.dy {hi a : svH} {s d : Nat} (h : cpR hi a s d) : dy hi a s d := h.2
theorem dy.of {hi a hi' a' : svH} {s d : Nat} (h : dy hi a s d) (h1 : ∀ q, s ≤ q → q ≤ s + 3 → hi' q = hi q) (h2 : ∀ q, d ≤ q → q ≤ d + 3 → a' q = a q) : dy hi' a' s d := by
  obtain ⟨g1, g2, g3, g4⟩ := h
  unfold dy
  rw [h1 s (by omega) (by omega), h1 (s + 1) (by omega) (by omega), h1 (s + 2) (by omega) (by omega), h1 (s + 3) (by omega) (by omega), h2 d (by omega) (by omega), h2 (d + 1) (by omega) (by omega), h2 (d + 2) (by omega) (by omega), h2 (d + 3) (by omega) (by omega)]
  exact ⟨g1, g2, g3, g4⟩
def pastR (tw dr : Nat) (pm : Nat → Nat) (p : Nat) (f : Nat → Nat) (lo hh : Nat) : Prop := svSH[p]? = some (0, 4) ∧ (∀ j, j < 10 → sv_hr tw dr pm (p + 1) j = some (f j) ∧ svSH[f j]? = some (0, 3) ∧ lo ≤ f j ∧ f j + 3 ≤ hh) ∧ (∀ i j, i < 10 → j < 10 → i ≠ j → f i + 3 < f j ∨ f j + 3 < f i) ∧ p < lo
set_option maxRecDepth 20000 in
set_option maxHeartbeats 2000000 in
theorem lo_X4_copyFrom {l : Launch} {G : svG} {hi : svH} {hl : svL} {tw dr : Nat} {pm : Nat → Nat} {p p2 K lo hh lo2 hh2 : Nat} {f g : Nat → Nat} (hp : pastR tw dr pm p f lo hh) (hp2 : pastR tw dr pm p2 g lo2 hh2) (hd : hh < p2 ∨ hh2 < p) (hK : hi p2 0 = nI K) (hK10 : K ≤ 10) : ∀ t, t ≤ K → ∀ h' z1 z2, h' p 0 = nI K → (∀ j, j < t → dy hi h' (g j) (f j)) → (∀ q, q ≠ p → q < lo ∨ hh < q → h' q = hi q) → svJ l G rX4_copyFrom mX4_copyFrom (sv_Fm G (fun v sh a b c => v = none ∧ sh = svSH ∧ ((fun a b c => a p 0 = nI K ∧ (∀ j, j < K → dy hi a (g j) (f j)) ∧ (∀ q, q ≠ p → q < lo ∨ hh < q → a q = hi q) ∧ hl = b ∧ sv_hr tw dr pm = c)) a b c) 0 0) 0 0 10 [some (sv_rf G.1 p), some (sv_rf G.1 p2), some (.int (nI t)), z1, z2] [] svSH h' hl (sv_hr tw dr pm) := by
  have hlo := hp.2.2.2
  have hlo2 := hp2.2.2.2
  refine sv_up (fun t ht ih h' z1 z2 i1 i2 i3 => ?_)
  refine S_iload_2 (pc := 10) dX4_copyFrom_10 ?_
  refine S_aload_0 (pc := 11) dX4_copyFrom_11 ?_
  refine fgX4_9 (pc := 12) hp.1 dX4_copyFrom_12 ?_
  refine J_icmp_ge (pc := 15) 52 dX4_copyFrom_15 (by decide) (fun h15 => ?_) (fun h15 => ?_)
  · rw [i1, nI_leI (by omega) (by omega)] at h15
    obtain rfl : t = K := by omega
    exact J_return (pc := 52) dX4_copyFrom_52 rfl ⟨rfl, rfl, ⟨i1, i2, i3, rfl, rfl⟩⟩
  · rw [i1, nI_leI (by omega) (by omega)] at h15
    obtain ⟨f1, f2, f3, f4⟩ := hp.2.1 t (by omega)
    obtain ⟨g1, g2, g3, g4⟩ := hp2.2.1 t (by omega)
    refine S_aload_1 (pc := 18) dX4_copyFrom_18 ?_
    refine S_iload_2 (pc := 19) dX4_copyFrom_19 ?_
    refine caX4_25 (pc := 20) (t_X4_rowAt (l := l) (G := G) (p := p2) (j := t) (q := g t) hp2.1 (by omega) g1 rfl) hp2.1 (Nat.le_of_ble_eq_true rfl) ⟨rfl, rfl, ⟨by decide, by decide⟩, by decide, by decide⟩ dX4_copyFrom_20 (fun r20 a20 b20 c20 p20 => ?_)
    obtain ⟨rfl, rfl, rfl, rfl⟩ := p20
    rw [show sv_rv G.1 (some (g t)) = sv_rf G.1 (g t) from rfl]
    refine S_astore_3 (pc := 23) dX4_copyFrom_23 (by decide) ?_
    refine S_aload_0 (pc := 24) dX4_copyFrom_24 ?_
    refine S_iload_2 (pc := 25) dX4_copyFrom_25 ?_
    refine caX4_25 (pc := 26) (t_X4_rowAt (l := l) (G := G) (p := p) (j := t) (q := f t) hp.1 (by omega) f1 rfl) hp.1 (Nat.le_of_ble_eq_true rfl) ⟨rfl, rfl, ⟨by decide, by decide⟩, by decide, by decide⟩ dX4_copyFrom_26 (fun r26 a26 b26 c26 p26 => ?_)
    obtain ⟨rfl, rfl, rfl, rfl⟩ := p26
    rw [show sv_rv G.1 (some (f t)) = sv_rf G.1 (f t) from rfl]
    refine S_astore_4 (pc := 29) dX4_copyFrom_29 (by decide) ?_
    refine S_aload_3 (pc := 31) dX4_copyFrom_31 ?_
    refine J_ifnull (pc := 32) dX4_copyFrom_32 ?_
    refine S_aload_4 (pc := 35) dX4_copyFrom_35 ?_
    refine J_ifnull (pc := 37) dX4_copyFrom_37 ?_
    refine S_aload_4 (pc := 40) dX4_copyFrom_40 ?_
    refine S_aload_3 (pc := 42) dX4_copyFrom_42 ?_
    refine caX4_29 (pc := 43) (t_X3_copyFrom (l := l) (G := G) g2 f2 (by omega)) f2 (Nat.le_of_ble_eq_true rfl) ⟨rfl, rfl, ⟨by decide, by decide⟩, by decide, by decide⟩ dX4_copyFrom_43 (fun a43 b43 c43 p43 => ?_)
    obtain ⟨k0, rfl, rfl⟩ := p43
    refine S_inc_2 (pc := 46) (1) rfl dX4_copyFrom_46 (by decide) ?_
    refine J_goto (pc := 49) 10 dX4_copyFrom_49 (by decide) ?_
    refine svJ_ls (by rw [nI_succ]) (ih (t + 1) (by omega) (by omega) _ _ _ (by rw [k0.1 p (by omega)]; exact i1) (fun j hj => ?_) (fun q q1 q2 => by rw [k0.1 q (by omega)]; exact i3 q q1 q2))
    by_cases e : j = t
    · subst e
      exact k0.dy.of (fun q h1 h2 => (i3 q (by omega) (by omega)).symm) (fun _ _ _ => rfl)
    · have hij := hp.2.2.1 j t (by omega) (by omega) e
      exact (i2 j (by omega)).of (fun _ _ _ => rfl) (fun q h1 h2 => k0.1 q (by omega))
set_option maxRecDepth 20000 in
set_option maxHeartbeats 2000000 in
theorem t_X4_copyFrom {l : Launch} {G : svG} {hi : svH} {hl : svL} {tw dr : Nat} {pm : Nat → Nat} {p p2 K lo hh lo2 hh2 : Nat} {f g : Nat → Nat} (hp : pastR tw dr pm p f lo hh) (hp2 : pastR tw dr pm p2 g lo2 hh2) (hd : hh < p2 ∨ hh2 < p) (hK : hi p2 0 = nI K) (hK10 : K ≤ 10) : svV l G yX4_copyFrom mX4_copyFrom rX4_copyFrom [sv_rf G.1 p, sv_rf G.1 p2] hi hl (sv_hr tw dr pm) (fun a b c => a p 0 = nI K ∧ (∀ j, j < K → dy hi a (g j) (f j)) ∧ (∀ q, q ≠ p → q < lo ∨ hh < q → a q = hi q) ∧ hl = b ∧ sv_hr tw dr pm = c) := by
  have hlo := hp.2.2.2
  have hlo2 := hp2.2.2.2
  refine sv_entry (by decide +kernel) rfl rfl (Nat.le_of_ble_eq_true rfl) (by simp [Value.category, sv_rf]) [some (sv_rf G.1 p), some (sv_rf G.1 p2), none, none, none] rfl ?_
  refine S_aload_0 (pc := 0) dX4_copyFrom_0 ?_
  refine S_aload_1 (pc := 1) dX4_copyFrom_1 ?_
  refine fgX4_9 (pc := 2) hp2.1 dX4_copyFrom_2 ?_
  refine fpX4_9 (pc := 5) hp.1 dX4_copyFrom_5 ?_
  refine J_iconst (pc := 8) (0) rfl dX4_copyFrom_8 ?_
  refine S_istore_2 (pc := 9) dX4_copyFrom_9 (by decide) ?_
  
  exact lo_X4_copyFrom hp hp2 hd hK hK10 0 (Nat.zero_le _) _ none none (by rw [sv_u2_at]; exact hK) (fun j hj => by omega) (fun q q1 _ => sv_u2_off q1)
theorem past21 {tw dr : Nat} {pm : Nat → Nat} (h : pmok pm) : pastR tw dr pm 21 pm 23 62 := ⟨sh_21, fun j hj => ⟨hv_rows hj, (h.1 j hj).1, (h.1 j hj).2.1, by have := (h.1 j hj).2.2; omega⟩, h.2, by decide⟩
theorem row75 {j : Nat} (hj : j < 10) : svSH[77 + 4 * j]? = some (0, 3) := by
  rcases (show j = 0 ∨ j = 1 ∨ j = 2 ∨ j = 3 ∨ j = 4 ∨ j = 5 ∨ j = 6 ∨ j = 7 ∨ j = 8 ∨ j = 9 by omega) with rfl | rfl | rfl | rfl | rfl | rfl | rfl | rfl | rfl | rfl
  · exact sh_77
  · exact sh_81
  · exact sh_85
  · exact sh_89
  · exact sh_93
  · exact sh_97
  · exact sh_101
  · exact sh_105
  · exact sh_109
  · exact sh_113
theorem row122 {j : Nat} (hj : j < 10) : svSH[124 + 4 * j]? = some (0, 3) := by
  rcases (show j = 0 ∨ j = 1 ∨ j = 2 ∨ j = 3 ∨ j = 4 ∨ j = 5 ∨ j = 6 ∨ j = 7 ∨ j = 8 ∨ j = 9 by omega) with rfl | rfl | rfl | rfl | rfl | rfl | rfl | rfl | rfl | rfl
  · exact sh_124
  · exact sh_128
  · exact sh_132
  · exact sh_136
  · exact sh_140
  · exact sh_144
  · exact sh_148
  · exact sh_152
  · exact sh_156
  · exact sh_160
theorem past75 {tw dr : Nat} {pm : Nat → Nat} : pastR tw dr pm 75 (fun j => 77 + 4 * j) 77 116 := ⟨sh_75, fun j hj => ⟨hv_rows0 hj, row75 hj, by show 77 ≤ 77 + 4 * j; omega, by show 77 + 4 * j + 3 ≤ 116; omega⟩, fun i j _ _ _ => by show 77 + 4 * i + 3 < 77 + 4 * j ∨ 77 + 4 * j + 3 < 77 + 4 * i; omega, by decide⟩
theorem past122 {tw dr : Nat} {pm : Nat → Nat} : pastR tw dr pm 122 (fun j => 124 + 4 * j) 124 163 := ⟨sh_122, fun j hj => ⟨hv_rows1 hj, row122 hj, by show 124 ≤ 124 + 4 * j; omega, by show 124 + 4 * j + 3 ≤ 163; omega⟩, fun i j _ _ _ => by show 124 + 4 * i + 3 < 124 + 4 * j ∨ 124 + 4 * j + 3 < 124 + 4 * i; omega, by decide⟩
def imgOf (x : Int32) : Option Nat := if x = 0 then some 70 else if x = 1 then some 117 else none
set_option maxRecDepth 20000 in
set_option maxHeartbeats 2000000 in
theorem t_X7_imageOf {l : Launch} {G : svG} {hi : svH} {hl : svL} {tw dr : Nat} {pm : Nat → Nat} {x : Int32} : svO l G yX7_imageOf mX7_imageOf rX7_imageOf [sv_rf G.1 0, .int x] hi hl (sv_hr tw dr pm) (fun r a b c => r = imgOf x ∧ hi = a ∧ hl = b ∧ sv_hr tw dr pm = c) := by
  refine sv_entry (by decide +kernel) rfl rfl (Nat.le_of_ble_eq_true rfl) (by simp [Value.category, sv_rf]) [some (sv_rf G.1 0), some (.int x)] rfl ?_
  refine S_iload_1 (pc := 0) dX7_imageOf_0 ?_
  refine J_if_ne (pc := 1) 9 dX7_imageOf_1 (by decide) (fun h1 => ?_) (fun h1 => ?_)
  · refine S_iload_1 (pc := 9) dX7_imageOf_9 ?_
    refine J_iconst (pc := 10) (1) rfl dX7_imageOf_10 ?_
    refine J_icmp_ne (pc := 11) 21 dX7_imageOf_11 (by decide) (fun h11 => ?_) (fun h11 => ?_)
    · refine J_null (pc := 21) dX7_imageOf_21 ?_
      exact J_areturnN (pc := 22) dX7_imageOf_22 rfl ⟨none, rfl, rfl, ⟨by unfold imgOf; simp [h1, h11], rfl, rfl, rfl⟩⟩
    · refine S_aload_0 (pc := 14) dX7_imageOf_14 ?_
      refine fgX7_61 (pc := 15) sh_0 hv_0_8 dX7_imageOf_15 ?_
      refine J_goto (pc := 18) 22 dX7_imageOf_18 (by decide) ?_
      exact J_areturn (pc := 22) dX7_imageOf_22 rfl ⟨some 117, rfl, rfl, ⟨by unfold imgOf; simp [h1, h11], rfl, rfl, rfl⟩⟩
  · refine S_aload_0 (pc := 4) dX7_imageOf_4 ?_
    refine fgX7_57 (pc := 5) sh_0 hv_0_7 dX7_imageOf_5 ?_
    exact J_areturn (pc := 8) dX7_imageOf_8 rfl ⟨some 70, rfl, rfl, ⟨by unfold imgOf; simp [h1], rfl, rfl, rfl⟩⟩
