def Stg (n j : Nat) (c : svR) : Prop := (∀ q, 1 ≤ q → q < n → c q = svHt q) ∧ (∀ q, n ≤ q → c q = noR) ∧ ∀ k, c 0 k = if k < j then svHt 0 k else none
theorem Stg.pre {n j : Nat} {c : svR} (h : Stg n j c) : ∀ q, n ≤ q → sv_z c n none q = noR := fun q hq => by
  by_cases e : q = n
  · rw [e]; exact sv_z_at
  · rw [sv_z_off e]; exact h.2.1 q hq
theorem Stg.new {n m j : Nat} {c c' : svR} (h : Stg n j c) (e1 : ∀ q, q < n ∨ m ≤ q → c' q = sv_z c n none q) (e2 : ∀ q, n ≤ q → q < m → c' q = svHt q) (hn : 1 ≤ n) (hm : n < m) (hj : svHt 0 j = some n) : Stg m (j + 1) (sv_u2 c' 0 j (some n)) := by
  refine ⟨fun q h1 h2 => ?_, fun q h1 => ?_, fun k => ?_⟩
  · rw [sv_u2_off (by omega)]
    by_cases e : q < n
    · rw [e1 q (Or.inl e), sv_z_off (by omega)]; exact h.1 q h1 e
    · exact e2 q (by omega) h2
  · rw [sv_u2_off (by omega), e1 q (Or.inr h1), sv_z_off (by omega)]; exact h.2.1 q (by omega)
  · by_cases e : k = j
    · rw [e, sv_u2_at, if_pos (by omega), hj]
    · rw [sv_u2_k e, e1 0 (by omega), sv_z_off (by omega), h.2.2 k]
      by_cases hk : k < j
      · rw [if_pos hk, if_pos (by omega)]
      · rw [if_neg hk, if_neg (by omega)]
def X7f (a : svH) : Prop := a 1 0 = 3 ∧ a 1 1 = 2 ∧ a 1 3 = 0 ∧ a 1 4 = 0 ∧ a 15 0 = 0 ∧ a 17 0 = 0 ∧ a 17 1 = 3 ∧ a 17 2 = 0 ∧ a 17 3 = 0 ∧ a 17 4 = 0 ∧ a 18 = (fun _ => 0) ∧ a 21 0 = 0 ∧ a 66 0 = 0 ∧ a 70 0 = 0 ∧ a 75 0 = 0 ∧ a 117 0 = 0 ∧ a 122 0 = 0
set_option maxRecDepth 20000 in
set_option maxHeartbeats 2000000 in
theorem t_X7_init {l : Launch} {G : svG} {hi : svH} {hl : svL} {hr : svR} (s0 : Stg 1 0 hr) : svT l G yX7_init mX7_init (sv_rm 4 163 1327) 163 1327 [sv_rf G.1 0] (List.take 1 svSH) hi hl hr (fun v sh' a b c => v = none ∧ sh' = List.take 164 svSH ∧ b 0 9 = 0 ∧ Stg 164 9 c ∧ X7f a) := by
  refine sv_entry (by decide +kernel) rfl rfl (Nat.le_of_ble_eq_true rfl) (by simp [Value.category, sv_rf]) [some (sv_rf G.1 0)] rfl ?_
  refine S_aload_0 (pc := 0) dX7_init_0 ?_
  refine obX7_1 (pc := 1) dX7_init_1 (by decide) (Nat.le_of_ble_eq_true rfl) ?_
  refine S_aload_0 (pc := 4) dX7_init_4 ?_
  refine nwX7_7 (pc := 5) (by decide) (by decide) dX7_init_5 ?_
  rw [show List.length (List.take 1 svSH) = 1 from by decide +kernel, show (List.take 1 svSH ++ [(0, 6)] : svS) = List.take 2 svSH from by decide +kernel]
  refine J_dup (pc := 8) rfl dX7_init_8 ?_
  refine caX7_9 (pc := 9) (t_X6_init (l := l) (G := G) (i := 1) (by decide +kernel) (by decide +kernel) sh_1 s0.pre) (Nat.le_of_ble_eq_true rfl) ⟨rfl, rfl, ⟨by decide, by decide⟩, by decide, by decide⟩ dX7_init_9 (fun v0 s0_ a0 b0 c0 p0 => ?_)
  obtain ⟨rfl, rfl, rfl, k0, g0, e0, f0_0, f0_1, f0_3, f0_4⟩ := p0
  rw [show (List.take 2 svSH ++ [(1, 8)] ++ [(1, 8)] ++ [(1, 8)] ++ [(1, 6)] ++ [(1, 6)] ++ [(1, 6)] : svS) = List.take 8 svSH from by decide +kernel]
  refine fpX7_10 (pc := 12) (by decide +kernel) dX7_init_12 ?_
  have s1 := s0.new (m := 8) g0 e0 (by decide) (by decide) (by decide +kernel)
  refine S_aload_0 (pc := 15) dX7_init_15 ?_
  refine nwX7_7 (pc := 16) (by decide) (by decide) dX7_init_16 ?_
  rw [show List.length (List.take 8 svSH) = 8 from by decide +kernel, show (List.take 8 svSH ++ [(0, 6)] : svS) = List.take 9 svSH from by decide +kernel]
  refine J_dup (pc := 19) rfl dX7_init_19 ?_
  refine caX7_9 (pc := 20) (t_X6_init (l := l) (G := G) (i := 8) (by decide +kernel) (by decide +kernel) sh_8 s1.pre) (Nat.le_of_ble_eq_true rfl) ⟨rfl, rfl, ⟨by decide, by decide⟩, by decide, by decide⟩ dX7_init_20 (fun v1 s1_ a1 b1 c1 p1 => ?_)
  obtain ⟨rfl, rfl, rfl, k1, g1, e1, f1_0, f1_1, f1_3, f1_4⟩ := p1
  rw [show (List.take 9 svSH ++ [(1, 8)] ++ [(1, 8)] ++ [(1, 8)] ++ [(1, 6)] ++ [(1, 6)] ++ [(1, 6)] : svS) = List.take 15 svSH from by decide +kernel]
  refine fpX7_16 (pc := 23) (by decide +kernel) dX7_init_23 ?_
  have s2 := s1.new (m := 15) g1 e1 (by decide) (by decide) (by decide +kernel)
  refine S_aload_0 (pc := 26) dX7_init_26 ?_
  refine nwX7_19 (pc := 27) (by decide) (by decide) dX7_init_27 ?_
  rw [show List.length (List.take 15 svSH) = 15 from by decide +kernel, show (List.take 15 svSH ++ [(0, 5)] : svS) = List.take 16 svSH from by decide +kernel]
  refine J_dup (pc := 30) rfl dX7_init_30 ?_
  refine caX7_21 (pc := 31) (t_X5_init (l := l) (G := G) (i := 15) (by decide +kernel) (by decide +kernel) sh_15 s2.pre) (Nat.le_of_ble_eq_true rfl) ⟨rfl, rfl, ⟨by decide, by decide⟩, by decide, by decide⟩ dX7_init_31 (fun v2 s2_ a2 b2 c2 p2 => ?_)
  obtain ⟨rfl, rfl, rfl, k2, g2, e2, f2_0⟩ := p2
  rw [show (List.take 16 svSH ++ [(2, 120)] : svS) = List.take 17 svSH from by decide +kernel]
  refine fpX7_22 (pc := 34) rfl (by decide +kernel) dX7_init_34 ?_
  have s3 := s2.new (m := 17) g2 e2 (by decide) (by decide) (by decide +kernel)
  refine S_aload_0 (pc := 37) dX7_init_37 ?_
  refine nwX7_26 (pc := 38) (by decide) (by decide) dX7_init_38 ?_
  rw [show List.length (List.take 17 svSH) = 17 from by decide +kernel, show (List.take 17 svSH ++ [(0, 3)] : svS) = List.take 18 svSH from by decide +kernel]
  refine J_dup (pc := 41) rfl dX7_init_41 ?_
  refine caX7_28 (pc := 42) (t_X3_init (l := l) (G := G) (i := 17) (by decide +kernel) (by decide +kernel) sh_17 s3.pre) (Nat.le_of_ble_eq_true rfl) ⟨rfl, rfl, ⟨by decide, by decide⟩, by decide, by decide⟩ dX7_init_42 (fun v3 s3_ a3 b3 c3 p3 => ?_)
  obtain ⟨rfl, rfl, rfl, k3, g3, e3, f3_0, f3_1, f3_2, f3_3, f3_4, f3_v⟩ := p3
  rw [show (List.take 18 svSH ++ [(1, 6)] ++ [(1, 8)] ++ [(1, 8)] : svS) = List.take 21 svSH from by decide +kernel]
  refine fpX7_29 (pc := 45) rfl (by decide +kernel) dX7_init_45 ?_
  have s4 := s3.new (m := 21) g3 e3 (by decide) (by decide) (by decide +kernel)
  refine S_aload_0 (pc := 48) dX7_init_48 ?_
  refine nwX7_33 (pc := 49) (by decide) (by decide) dX7_init_49 ?_
  rw [show List.length (List.take 21 svSH) = 21 from by decide +kernel, show (List.take 21 svSH ++ [(0, 4)] : svS) = List.take 22 svSH from by decide +kernel]
  refine J_dup (pc := 52) rfl dX7_init_52 ?_
  refine caX7_35 (pc := 53) (t_X4_init (l := l) (G := G) (i := 21) (by decide +kernel) (by decide +kernel) sh_21 s4.pre) (Nat.le_of_ble_eq_true rfl) ⟨rfl, rfl, ⟨by decide, by decide⟩, by decide, by decide⟩ dX7_init_53 (fun v4 s4_ a4 b4 c4 p4 => ?_)
  obtain ⟨rfl, rfl, k4, ⟨g4, e4⟩, f4_0⟩ := p4
  rw [show (List.take 22 svSH ++ [(4, 10)] ++ nowRows 10 : svS) = List.take 63 svSH from by decide +kernel]
  refine fpX7_36 (pc := 56) rfl (by decide +kernel) dX7_init_56 ?_
  have s5 := s4.new (m := 63) g4 e4 (by decide) (by decide) (by decide +kernel)
  refine S_aload_0 (pc := 59) dX7_init_59 ?_
  refine nwX7_40 (pc := 60) (by decide) (by decide) dX7_init_60 ?_
  rw [show List.length (List.take 63 svSH) = 63 from by decide +kernel, show (List.take 63 svSH ++ [(0, 0)] : svS) = List.take 64 svSH from by decide +kernel]
  refine J_dup (pc := 63) rfl dX7_init_63 ?_
  refine caX7_42 (pc := 64) (t_X0_init (l := l) (G := G) (i := 63) (by decide +kernel) (by decide +kernel) sh_63 s5.pre) (Nat.le_of_ble_eq_true rfl) ⟨rfl, rfl, ⟨by decide, by decide⟩, by decide, by decide⟩ dX7_init_64 (fun v5 s5_ a5 b5 c5 p5 => ?_)
  obtain ⟨rfl, rfl, rfl, k5, g5, e5⟩ := p5
  rw [show (List.take 64 svSH ++ [(1, 6)] ++ [(1, 6)] : svS) = List.take 66 svSH from by decide +kernel]
  refine fpX7_43 (pc := 67) rfl (by decide +kernel) dX7_init_67 ?_
  have s6 := s5.new (m := 66) g5 e5 (by decide) (by decide) (by decide +kernel)
  refine S_aload_0 (pc := 70) dX7_init_70 ?_
  refine nwX7_47 (pc := 71) (by decide) (by decide) dX7_init_71 ?_
  rw [show List.length (List.take 66 svSH) = 66 from by decide +kernel, show (List.take 66 svSH ++ [(0, 1)] : svS) = List.take 67 svSH from by decide +kernel]
  refine J_dup (pc := 74) rfl dX7_init_74 ?_
  refine caX7_49 (pc := 75) (t_X1_init (l := l) (G := G) (i := 66) (by decide +kernel) (by decide +kernel) sh_66 s6.pre) (Nat.le_of_ble_eq_true rfl) ⟨rfl, rfl, ⟨by decide, by decide⟩, by decide, by decide⟩ dX7_init_75 (fun v6 s6_ a6 b6 c6 p6 => ?_)
  obtain ⟨rfl, rfl, rfl, k6, g6, e6, f6_0⟩ := p6
  rw [show (List.take 67 svSH ++ [(1, 4)] ++ [(1, 4)] ++ [(1, 36)] : svS) = List.take 70 svSH from by decide +kernel]
  refine fpX7_50 (pc := 78) rfl (by decide +kernel) dX7_init_78 ?_
  have s7 := s6.new (m := 70) g6 e6 (by decide) (by decide) (by decide +kernel)
  refine S_aload_0 (pc := 81) dX7_init_81 ?_
  refine nwX7_54 (pc := 82) (by decide) (by decide) dX7_init_82 ?_
  rw [show List.length (List.take 70 svSH) = 70 from by decide +kernel, show (List.take 70 svSH ++ [(0, 2)] : svS) = List.take 71 svSH from by decide +kernel]
  refine J_dup (pc := 85) rfl dX7_init_85 ?_
  refine caX7_56 (pc := 86) (t_X2_init (l := l) (G := G) (i := 70) (by decide +kernel) (by decide +kernel) sh_70 s7.pre) (Nat.le_of_ble_eq_true rfl) ⟨rfl, rfl, ⟨by decide, by decide⟩, by decide, by decide⟩ dX7_init_86 (fun v7 s7_ a7 b7 c7 p7 => ?_)
  obtain ⟨rfl, rfl, k7, ⟨g7, e7⟩, f7_0, f7_5⟩ := p7
  rw [show (List.take 71 svSH ++ [(0, 3)] ++ [(1, 6)] ++ [(1, 8)] ++ [(1, 8)] ++ [(0, 4)] ++ [(4, 10)] ++ nowRows 10 : svS) = List.take 117 svSH from by decide +kernel]
  refine fpX7_57 (pc := 89) rfl (by decide +kernel) dX7_init_89 ?_
  have s8 := s7.new (m := 117) g7 e7 (by decide) (by decide) (by decide +kernel)
  refine S_aload_0 (pc := 92) dX7_init_92 ?_
  refine nwX7_54 (pc := 93) (by decide) (by decide) dX7_init_93 ?_
  rw [show List.length (List.take 117 svSH) = 117 from by decide +kernel, show (List.take 117 svSH ++ [(0, 2)] : svS) = List.take 118 svSH from by decide +kernel]
  refine J_dup (pc := 96) rfl dX7_init_96 ?_
  refine caX7_56 (pc := 97) (t_X2_init (l := l) (G := G) (i := 117) (by decide +kernel) (by decide +kernel) sh_117 s8.pre) (Nat.le_of_ble_eq_true rfl) ⟨rfl, rfl, ⟨by decide, by decide⟩, by decide, by decide⟩ dX7_init_97 (fun v8 s8_ a8 b8 c8 p8 => ?_)
  obtain ⟨rfl, rfl, k8, ⟨g8, e8⟩, f8_0, f8_5⟩ := p8
  rw [show (List.take 118 svSH ++ [(0, 3)] ++ [(1, 6)] ++ [(1, 8)] ++ [(1, 8)] ++ [(0, 4)] ++ [(4, 10)] ++ nowRows 10 : svS) = List.take 164 svSH from by decide +kernel]
  refine fpX7_61 (pc := 100) rfl (by decide +kernel) dX7_init_100 ?_
  have s9 := s8.new (m := 164) g8 e8 (by decide) (by decide) (by decide +kernel)
  refine S_aload_0 (pc := 103) dX7_init_103 ?_
  refine J_lconst (pc := 104) (0) rfl dX7_init_104 ?_
  refine fpX7_64 (pc := 105) (by decide +kernel) dX7_init_105 ?_
  refine J_return (pc := 108) dX7_init_108 rfl ⟨rfl, rfl, sv_u2_at, s9, ?_, ?_, ?_, ?_, ?_, ?_, ?_, ?_, ?_, ?_, ?_, ?_, ?_, ?_, ?_, ?_, ?_⟩
  · rw [k8 1 (by decide), sv_z_off (by decide), k7 1 (by decide), sv_z_off (by decide), k6 1 (by decide), sv_z_off (by decide), k5 1 (by decide), sv_z_off (by decide), k4 1 (by decide), sv_z_off (by decide), k3 1 (by decide), sv_z_off (by decide), k2 1 (by decide), sv_z_off (by decide), k1 1 (by decide), sv_z_off (by decide)]; exact f0_0
  · rw [k8 1 (by decide), sv_z_off (by decide), k7 1 (by decide), sv_z_off (by decide), k6 1 (by decide), sv_z_off (by decide), k5 1 (by decide), sv_z_off (by decide), k4 1 (by decide), sv_z_off (by decide), k3 1 (by decide), sv_z_off (by decide), k2 1 (by decide), sv_z_off (by decide), k1 1 (by decide), sv_z_off (by decide)]; exact f0_1
  · rw [k8 1 (by decide), sv_z_off (by decide), k7 1 (by decide), sv_z_off (by decide), k6 1 (by decide), sv_z_off (by decide), k5 1 (by decide), sv_z_off (by decide), k4 1 (by decide), sv_z_off (by decide), k3 1 (by decide), sv_z_off (by decide), k2 1 (by decide), sv_z_off (by decide), k1 1 (by decide), sv_z_off (by decide)]; exact f0_3
  · rw [k8 1 (by decide), sv_z_off (by decide), k7 1 (by decide), sv_z_off (by decide), k6 1 (by decide), sv_z_off (by decide), k5 1 (by decide), sv_z_off (by decide), k4 1 (by decide), sv_z_off (by decide), k3 1 (by decide), sv_z_off (by decide), k2 1 (by decide), sv_z_off (by decide), k1 1 (by decide), sv_z_off (by decide)]; exact f0_4
  · rw [k8 15 (by decide), sv_z_off (by decide), k7 15 (by decide), sv_z_off (by decide), k6 15 (by decide), sv_z_off (by decide), k5 15 (by decide), sv_z_off (by decide), k4 15 (by decide), sv_z_off (by decide), k3 15 (by decide), sv_z_off (by decide)]; exact f2_0
  · rw [k8 17 (by decide), sv_z_off (by decide), k7 17 (by decide), sv_z_off (by decide), k6 17 (by decide), sv_z_off (by decide), k5 17 (by decide), sv_z_off (by decide), k4 17 (by decide), sv_z_off (by decide)]; exact f3_0
  · rw [k8 17 (by decide), sv_z_off (by decide), k7 17 (by decide), sv_z_off (by decide), k6 17 (by decide), sv_z_off (by decide), k5 17 (by decide), sv_z_off (by decide), k4 17 (by decide), sv_z_off (by decide)]; exact f3_1
  · rw [k8 17 (by decide), sv_z_off (by decide), k7 17 (by decide), sv_z_off (by decide), k6 17 (by decide), sv_z_off (by decide), k5 17 (by decide), sv_z_off (by decide), k4 17 (by decide), sv_z_off (by decide)]; exact f3_2
  · rw [k8 17 (by decide), sv_z_off (by decide), k7 17 (by decide), sv_z_off (by decide), k6 17 (by decide), sv_z_off (by decide), k5 17 (by decide), sv_z_off (by decide), k4 17 (by decide), sv_z_off (by decide)]; exact f3_3
  · rw [k8 17 (by decide), sv_z_off (by decide), k7 17 (by decide), sv_z_off (by decide), k6 17 (by decide), sv_z_off (by decide), k5 17 (by decide), sv_z_off (by decide), k4 17 (by decide), sv_z_off (by decide)]; exact f3_4
  · rw [k8 18 (by decide), sv_z_off (by decide), k7 18 (by decide), sv_z_off (by decide), k6 18 (by decide), sv_z_off (by decide), k5 18 (by decide), sv_z_off (by decide), k4 18 (by decide), sv_z_off (by decide)]; exact f3_v
  · rw [k8 21 (by decide), sv_z_off (by decide), k7 21 (by decide), sv_z_off (by decide), k6 21 (by decide), sv_z_off (by decide), k5 21 (by decide), sv_z_off (by decide)]; exact f4_0
  · rw [k8 66 (by decide), sv_z_off (by decide), k7 66 (by decide), sv_z_off (by decide)]; exact f6_0
  · rw [k8 70 (by decide), sv_z_off (by decide)]; exact f7_0
  · rw [k8 75 (by decide), sv_z_off (by decide)]; exact f7_5
  · exact f8_0
  · exact f8_5
set_option maxRecDepth 20000 in
set_option maxHeartbeats 2000000 in
theorem t_X8_init {l : Launch} {G : svG} {sh : svS} {hi : svH} {hl : svL} {hr : svR} {i : Nat} (hz : sh.length = i + 1) (hsh : sh[i]? = some (0, 8)) (hS : svSH[i]? = some (0, 8)) (hr0 : ∀ q, i ≤ q → hr q = noR) (hz0 : ∀ k, hi i k = 0) : svT l G yX8_init mX8_init (sv_rm 1 17 1104) 17 1104 [sv_rf G.1 i] sh hi hl hr (fun v sh' a b c => v = none ∧ sh' = sh ++ [(1, 8)] ++ [(1, 6)] ++ [(1, 6)] ++ [(1, 6)] ++ [(1, 298)] ++ [(1, 596)] ++ [(3, 2)] ++ [(1, 8)] ++ [(1, 120)] ++ [(1, 8)] ++ [(1, 8)] ++ [(1, 8)] ++ [(1, 6)] ++ [(1, 6)] ++ [(1, 6)] ++ [(1, 6)] ++ [(1, 6)] ∧ hl = b ∧ (∀ q, q < i → a q = hi q) ∧ (∀ q, q < i ∨ i + 18 ≤ q → c q = hr q) ∧ (∀ q, i ≤ q → q < i + 18 → c q = svHt q) ∧ a i 0 = 3 ∧ a i 1 = 2 ∧ a i 2 = 0 ∧ a i 4 = 0 ∧ a i 11 = 0 ∧ a i 15 = 0 ∧ (∀ k, a (i + 5) k = if k = 1 then 3 else 0) ∧ a (i + 7) = fun _ => 0) := by
  have hi0 : i ≠ 0 := sv_ne hS sh_0 (by simp)
  refine sv_entry (by decide +kernel) rfl rfl (Nat.le_of_ble_eq_true rfl) (by simp [Value.category, sv_rf]) [some (sv_rf G.1 i)] rfl ?_
  refine S_aload_0 (pc := 0) dX8_init_0 ?_
  refine obX8_1 (pc := 1) dX8_init_1 (by decide) (Nat.le_of_ble_eq_true rfl) ?_
  refine S_aload_0 (pc := 4) dX8_init_4 ?_
  refine J_iconst (pc := 5) (3) rfl dX8_init_5 ?_
  refine fpX8_7 (pc := 6) hsh dX8_init_6 ?_
  refine S_aload_0 (pc := 9) dX8_init_9 ?_
  refine J_iconst (pc := 10) (2) rfl dX8_init_10 ?_
  refine fpX8_13 (pc := 11) hsh dX8_init_11 ?_
  refine S_aload_0 (pc := 14) dX8_init_14 ?_
  refine J_bipush (pc := 15) (8) rfl dX8_init_15 ?_
  refine J_newa_int (pc := 17) 8 rfl (by decide) sv_wI (by decide) (by decide) dX8_init_17 ?_
  rw [show List.length (sh : svS) = i + 1 from hz]
  refine fpX8_16 (pc := 19) rfl (shx hsh) dX8_init_19 ?_
  refine S_aload_0 (pc := 22) dX8_init_22 ?_
  refine J_bipush (pc := 23) (6) rfl dX8_init_23 ?_
  refine J_newa_int (pc := 25) 6 rfl (by decide) sv_wI (by decide) (by decide) dX8_init_25 ?_
  rw [show List.length (sh ++ [(1, 8)] : svS) = i + 2 from (by simp only [List.length_append, List.length_cons, List.length_nil]; omega)]
  refine fpX8_20 (pc := 27) rfl (shx (shx hsh)) dX8_init_27 ?_
  refine S_aload_0 (pc := 30) dX8_init_30 ?_
  refine J_bipush (pc := 31) (6) rfl dX8_init_31 ?_
  refine J_newa_int (pc := 33) 6 rfl (by decide) sv_wI (by decide) (by decide) dX8_init_33 ?_
  rw [show List.length (sh ++ [(1, 8)] ++ [(1, 6)] : svS) = i + 3 from (by simp only [List.length_append, List.length_cons, List.length_nil]; omega)]
  refine fpX8_23 (pc := 35) rfl (shx (shx (shx hsh))) dX8_init_35 ?_
  refine S_aload_0 (pc := 38) dX8_init_38 ?_
  refine J_bipush (pc := 39) (6) rfl dX8_init_39 ?_
  refine J_newa_int (pc := 41) 6 rfl (by decide) sv_wI (by decide) (by decide) dX8_init_41 ?_
  rw [show List.length (sh ++ [(1, 8)] ++ [(1, 6)] ++ [(1, 6)] : svS) = i + 4 from (by simp only [List.length_append, List.length_cons, List.length_nil]; omega)]
  refine fpX8_26 (pc := 43) rfl (shx (shx (shx (shx hsh)))) dX8_init_43 ?_
  refine S_aload_0 (pc := 46) dX8_init_46 ?_
  refine J_sipush (pc := 47) (298) rfl dX8_init_47 ?_
  refine J_newa_int (pc := 50) 298 rfl (by decide) sv_wI (by decide) (by decide) dX8_init_50 ?_
  rw [show List.length (sh ++ [(1, 8)] ++ [(1, 6)] ++ [(1, 6)] ++ [(1, 6)] : svS) = i + 5 from (by simp only [List.length_append, List.length_cons, List.length_nil]; omega)]
  refine fpX8_29 (pc := 52) rfl (shx (shx (shx (shx (shx hsh))))) dX8_init_52 ?_
  refine S_aload_0 (pc := 55) dX8_init_55 ?_
  refine J_sipush (pc := 56) (596) rfl dX8_init_56 ?_
  refine J_newa_int (pc := 59) 596 rfl (by decide) sv_wI (by decide) (by decide) dX8_init_59 ?_
  rw [show List.length (sh ++ [(1, 8)] ++ [(1, 6)] ++ [(1, 6)] ++ [(1, 6)] ++ [(1, 298)] : svS) = i + 6 from (by simp only [List.length_append, List.length_cons, List.length_nil]; omega)]
  refine fpX8_32 (pc := 61) rfl (shx (shx (shx (shx (shx (shx hsh)))))) dX8_init_61 ?_
  refine S_aload_0 (pc := 64) dX8_init_64 ?_
  refine J_iconst (pc := 65) (2) rfl dX8_init_65 ?_
  refine J_newa_bool (pc := 66) 2 rfl (by decide) sv_wZ (by decide) (by decide) dX8_init_66 ?_
  rw [show List.length (sh ++ [(1, 8)] ++ [(1, 6)] ++ [(1, 6)] ++ [(1, 6)] ++ [(1, 298)] ++ [(1, 596)] : svS) = i + 7 from (by simp only [List.length_append, List.length_cons, List.length_nil]; omega)]
  refine fpX8_35 (pc := 68) rfl (shx (shx (shx (shx (shx (shx (shx hsh))))))) dX8_init_68 ?_
  refine S_aload_0 (pc := 71) dX8_init_71 ?_
  refine J_bipush (pc := 72) (8) rfl dX8_init_72 ?_
  refine J_newa_int (pc := 74) 8 rfl (by decide) sv_wI (by decide) (by decide) dX8_init_74 ?_
  rw [show List.length (sh ++ [(1, 8)] ++ [(1, 6)] ++ [(1, 6)] ++ [(1, 6)] ++ [(1, 298)] ++ [(1, 596)] ++ [(3, 2)] : svS) = i + 8 from (by simp only [List.length_append, List.length_cons, List.length_nil]; omega)]
  refine fpX8_39 (pc := 76) rfl (shx (shx (shx (shx (shx (shx (shx (shx hsh)))))))) dX8_init_76 ?_
  refine S_aload_0 (pc := 79) dX8_init_79 ?_
  refine J_bipush (pc := 80) (120) rfl dX8_init_80 ?_
  refine J_newa_int (pc := 82) 120 rfl (by decide) sv_wI (by decide) (by decide) dX8_init_82 ?_
  rw [show List.length (sh ++ [(1, 8)] ++ [(1, 6)] ++ [(1, 6)] ++ [(1, 6)] ++ [(1, 298)] ++ [(1, 596)] ++ [(3, 2)] ++ [(1, 8)] : svS) = i + 9 from (by simp only [List.length_append, List.length_cons, List.length_nil]; omega)]
  refine fpX8_42 (pc := 84) rfl (shx (shx (shx (shx (shx (shx (shx (shx (shx hsh))))))))) dX8_init_84 ?_
  refine S_aload_0 (pc := 87) dX8_init_87 ?_
  refine J_bipush (pc := 88) (8) rfl dX8_init_88 ?_
  refine J_newa_int (pc := 90) 8 rfl (by decide) sv_wI (by decide) (by decide) dX8_init_90 ?_
  rw [show List.length (sh ++ [(1, 8)] ++ [(1, 6)] ++ [(1, 6)] ++ [(1, 6)] ++ [(1, 298)] ++ [(1, 596)] ++ [(3, 2)] ++ [(1, 8)] ++ [(1, 120)] : svS) = i + 10 from (by simp only [List.length_append, List.length_cons, List.length_nil]; omega)]
  refine fpX8_45 (pc := 92) rfl (shx (shx (shx (shx (shx (shx (shx (shx (shx (shx hsh)))))))))) dX8_init_92 ?_
  refine S_aload_0 (pc := 95) dX8_init_95 ?_
  refine J_bipush (pc := 96) (8) rfl dX8_init_96 ?_
  refine J_newa_int (pc := 98) 8 rfl (by decide) sv_wI (by decide) (by decide) dX8_init_98 ?_
  rw [show List.length (sh ++ [(1, 8)] ++ [(1, 6)] ++ [(1, 6)] ++ [(1, 6)] ++ [(1, 298)] ++ [(1, 596)] ++ [(3, 2)] ++ [(1, 8)] ++ [(1, 120)] ++ [(1, 8)] : svS) = i + 11 from (by simp only [List.length_append, List.length_cons, List.length_nil]; omega)]
  refine fpX8_48 (pc := 100) rfl (shx (shx (shx (shx (shx (shx (shx (shx (shx (shx (shx hsh))))))))))) dX8_init_100 ?_
  refine S_aload_0 (pc := 103) dX8_init_103 ?_
  refine J_bipush (pc := 104) (8) rfl dX8_init_104 ?_
  refine J_newa_int (pc := 106) 8 rfl (by decide) sv_wI (by decide) (by decide) dX8_init_106 ?_
  rw [show List.length (sh ++ [(1, 8)] ++ [(1, 6)] ++ [(1, 6)] ++ [(1, 6)] ++ [(1, 298)] ++ [(1, 596)] ++ [(3, 2)] ++ [(1, 8)] ++ [(1, 120)] ++ [(1, 8)] ++ [(1, 8)] : svS) = i + 12 from (by simp only [List.length_append, List.length_cons, List.length_nil]; omega)]
  refine fpX8_51 (pc := 108) rfl (shx (shx (shx (shx (shx (shx (shx (shx (shx (shx (shx (shx hsh)))))))))))) dX8_init_108 ?_
  refine S_aload_0 (pc := 111) dX8_init_111 ?_
  refine J_bipush (pc := 112) (6) rfl dX8_init_112 ?_
  refine J_newa_int (pc := 114) 6 rfl (by decide) sv_wI (by decide) (by decide) dX8_init_114 ?_
  rw [show List.length (sh ++ [(1, 8)] ++ [(1, 6)] ++ [(1, 6)] ++ [(1, 6)] ++ [(1, 298)] ++ [(1, 596)] ++ [(3, 2)] ++ [(1, 8)] ++ [(1, 120)] ++ [(1, 8)] ++ [(1, 8)] ++ [(1, 8)] : svS) = i + 13 from (by simp only [List.length_append, List.length_cons, List.length_nil]; omega)]
  refine fpX8_54 (pc := 116) rfl (shx (shx (shx (shx (shx (shx (shx (shx (shx (shx (shx (shx (shx hsh))))))))))))) dX8_init_116 ?_
  refine S_aload_0 (pc := 119) dX8_init_119 ?_
  refine J_bipush (pc := 120) (6) rfl dX8_init_120 ?_
  refine J_newa_int (pc := 122) 6 rfl (by decide) sv_wI (by decide) (by decide) dX8_init_122 ?_
  rw [show List.length (sh ++ [(1, 8)] ++ [(1, 6)] ++ [(1, 6)] ++ [(1, 6)] ++ [(1, 298)] ++ [(1, 596)] ++ [(3, 2)] ++ [(1, 8)] ++ [(1, 120)] ++ [(1, 8)] ++ [(1, 8)] ++ [(1, 8)] ++ [(1, 6)] : svS) = i + 14 from (by simp only [List.length_append, List.length_cons, List.length_nil]; omega)]
  refine fpX8_57 (pc := 124) rfl (shx (shx (shx (shx (shx (shx (shx (shx (shx (shx (shx (shx (shx (shx hsh)))))))))))))) dX8_init_124 ?_
  refine S_aload_0 (pc := 127) dX8_init_127 ?_
  refine J_bipush (pc := 128) (6) rfl dX8_init_128 ?_
  refine J_newa_int (pc := 130) 6 rfl (by decide) sv_wI (by decide) (by decide) dX8_init_130 ?_
  rw [show List.length (sh ++ [(1, 8)] ++ [(1, 6)] ++ [(1, 6)] ++ [(1, 6)] ++ [(1, 298)] ++ [(1, 596)] ++ [(3, 2)] ++ [(1, 8)] ++ [(1, 120)] ++ [(1, 8)] ++ [(1, 8)] ++ [(1, 8)] ++ [(1, 6)] ++ [(1, 6)] : svS) = i + 15 from (by simp only [List.length_append, List.length_cons, List.length_nil]; omega)]
  refine fpX8_60 (pc := 132) rfl (shx (shx (shx (shx (shx (shx (shx (shx (shx (shx (shx (shx (shx (shx (shx hsh))))))))))))))) dX8_init_132 ?_
  refine S_aload_0 (pc := 135) dX8_init_135 ?_
  refine J_bipush (pc := 136) (6) rfl dX8_init_136 ?_
  refine J_newa_int (pc := 138) 6 rfl (by decide) sv_wI (by decide) (by decide) dX8_init_138 ?_
  rw [show List.length (sh ++ [(1, 8)] ++ [(1, 6)] ++ [(1, 6)] ++ [(1, 6)] ++ [(1, 298)] ++ [(1, 596)] ++ [(3, 2)] ++ [(1, 8)] ++ [(1, 120)] ++ [(1, 8)] ++ [(1, 8)] ++ [(1, 8)] ++ [(1, 6)] ++ [(1, 6)] ++ [(1, 6)] : svS) = i + 16 from (by simp only [List.length_append, List.length_cons, List.length_nil]; omega)]
  refine fpX8_63 (pc := 140) rfl (shx (shx (shx (shx (shx (shx (shx (shx (shx (shx (shx (shx (shx (shx (shx (shx hsh)))))))))))))))) dX8_init_140 ?_
  refine S_aload_0 (pc := 143) dX8_init_143 ?_
  refine J_bipush (pc := 144) (6) rfl dX8_init_144 ?_
  refine J_newa_int (pc := 146) 6 rfl (by decide) sv_wI (by decide) (by decide) dX8_init_146 ?_
  rw [show List.length (sh ++ [(1, 8)] ++ [(1, 6)] ++ [(1, 6)] ++ [(1, 6)] ++ [(1, 298)] ++ [(1, 596)] ++ [(3, 2)] ++ [(1, 8)] ++ [(1, 120)] ++ [(1, 8)] ++ [(1, 8)] ++ [(1, 8)] ++ [(1, 6)] ++ [(1, 6)] ++ [(1, 6)] ++ [(1, 6)] : svS) = i + 17 from (by simp only [List.length_append, List.length_cons, List.length_nil]; omega)]
  refine fpX8_66 (pc := 148) rfl (shx (shx (shx (shx (shx (shx (shx (shx (shx (shx (shx (shx (shx (shx (shx (shx (shx hsh))))))))))))))))) dX8_init_148 ?_
  refine S_aload_0 (pc := 151) dX8_init_151 ?_
  refine fgX8_29 (pc := 152) (q := i + 5) (shx (shx (shx (shx (shx (shx (shx (shx (shx (shx (shx (shx (shx (shx (shx (shx (shx hsh))))))))))))))))) (by rw [u2x (by omega), u2x (by omega), u2x (by omega), u2x (by omega), u2x (by omega), u2x (by omega), u2x (by omega), u2x (by omega), u2x (by omega), u2x (by omega), u2x (by omega), u2x (by omega), sv_u2_at]) dX8_init_152 ?_
  refine J_iconst (pc := 155) (1) rfl dX8_init_155 ?_
  refine J_iconst (pc := 156) (3) rfl dX8_init_156 ?_
  refine J_iast_n (pc := 157) 1 (shx (shx (shx (shx (shx (shx (shx (shx (shx (shx (shx (shx (shn (show List.length (sh ++ [(1, 8)] ++ [(1, 6)] ++ [(1, 6)] ++ [(1, 6)] : svS) = i + 5 from by simp only [List.length_append, List.length_cons, List.length_nil]; omega)))))))))))))) rfl (by decide) (by decide) dX8_init_157 ?_
  refine J_return (pc := 158) dX8_init_158 rfl ⟨rfl, rfl, rfl, fun q hq => ?_, fun q hq => ?_, fun q h1 h2 => ?_, ?_, ?_, ?_, ?_, ?_, ?_, fun k => ?_, ?_⟩
  · rw [sv_u2_off (by omega), sv_z_off (by omega), sv_z_off (by omega), sv_z_off (by omega), sv_z_off (by omega), sv_z_off (by omega), sv_z_off (by omega), sv_z_off (by omega), sv_z_off (by omega), sv_z_off (by omega), sv_z_off (by omega), sv_z_off (by omega), sv_z_off (by omega), sv_z_off (by omega), sv_z_off (by omega), sv_z_off (by omega), sv_z_off (by omega), sv_z_off (by omega), sv_u2_off (by omega), sv_u2_off (by omega)]
  · rw [sv_u2_off (by omega), sv_u2_off (by omega), sv_u2_off (by omega), sv_u2_off (by omega), sv_u2_off (by omega), sv_u2_off (by omega), sv_u2_off (by omega), sv_u2_off (by omega), sv_u2_off (by omega), sv_u2_off (by omega), sv_u2_off (by omega), sv_u2_off (by omega), sv_u2_off (by omega), sv_u2_off (by omega), sv_u2_off (by omega), sv_u2_off (by omega), sv_u2_off (by omega)]
  · rcases (show q = i ∨ q = i + 1 ∨ q = i + 2 ∨ q = i + 3 ∨ q = i + 4 ∨ q = i + 5 ∨ q = i + 6 ∨ q = i + 7 ∨ q = i + 8 ∨ q = i + 9 ∨ q = i + 10 ∨ q = i + 11 ∨ q = i + 12 ∨ q = i + 13 ∨ q = i + 14 ∨ q = i + 15 ∨ q = i + 16 ∨ q = i + 17 by omega) with rfl | rfl | rfl | rfl | rfl | rfl | rfl | rfl | rfl | rfl | rfl | rfl | rfl | rfl | rfl | rfl | rfl | rfl
    · funext k
      rw [Ht_obj hS hi0]
      rcases (show k = 0 ∨ k = 1 ∨ k = 2 ∨ k = 3 ∨ k = 4 ∨ k = 5 ∨ k = 6 ∨ k = 7 ∨ k = 8 ∨ k = 9 ∨ k = 10 ∨ k = 11 ∨ k = 12 ∨ k = 13 ∨ k = 14 ∨ k = 15 ∨ k = 16 ∨ k = 17 ∨ k = 18 ∨ k = 19 ∨ k = 20 ∨ k = 21 ∨ k = 22 ∨ k = 23 ∨ k = 24 ∨ k = 25 ∨ k = 26 ∨ k = 27 ∨ k = 28 ∨ k = 29 ∨ k = 30 ∨ k = 31 ∨ k = 32 ∨ k = 33 ∨ k = 34 ∨ 35 ≤ k by omega) with rfl | rfl | rfl | rfl | rfl | rfl | rfl | rfl | rfl | rfl | rfl | rfl | rfl | rfl | rfl | rfl | rfl | rfl | rfl | rfl | rfl | rfl | rfl | rfl | rfl | rfl | rfl | rfl | rfl | rfl | rfl | rfl | rfl | rfl | rfl | hk
      · rw [u2x (by omega), u2x (by omega), u2x (by omega), u2x (by omega), u2x (by omega), u2x (by omega), u2x (by omega), u2x (by omega), u2x (by omega), u2x (by omega), u2x (by omega), u2x (by omega), u2x (by omega), u2x (by omega), u2x (by omega), u2x (by omega), u2x (by omega), hr0 _ (Nat.le_refl _)]; rfl
      · rw [u2x (by omega), u2x (by omega), u2x (by omega), u2x (by omega), u2x (by omega), u2x (by omega), u2x (by omega), u2x (by omega), u2x (by omega), u2x (by omega), u2x (by omega), u2x (by omega), u2x (by omega), u2x (by omega), u2x (by omega), u2x (by omega), u2x (by omega), hr0 _ (Nat.le_refl _)]; rfl
      · rw [u2x (by omega), u2x (by omega), u2x (by omega), u2x (by omega), u2x (by omega), u2x (by omega), u2x (by omega), u2x (by omega), u2x (by omega), u2x (by omega), u2x (by omega), u2x (by omega), u2x (by omega), u2x (by omega), u2x (by omega), u2x (by omega), u2x (by omega), hr0 _ (Nat.le_refl _)]; rfl
      · rw [u2x (by omega), u2x (by omega), u2x (by omega), u2x (by omega), u2x (by omega), u2x (by omega), u2x (by omega), u2x (by omega), u2x (by omega), u2x (by omega), u2x (by omega), u2x (by omega), u2x (by omega), u2x (by omega), u2x (by omega), u2x (by omega), sv_u2_at]; rfl
      · rw [u2x (by omega), u2x (by omega), u2x (by omega), u2x (by omega), u2x (by omega), u2x (by omega), u2x (by omega), u2x (by omega), u2x (by omega), u2x (by omega), u2x (by omega), u2x (by omega), u2x (by omega), u2x (by omega), u2x (by omega), u2x (by omega), u2x (by omega), hr0 _ (Nat.le_refl _)]; rfl
      · rw [u2x (by omega), u2x (by omega), u2x (by omega), u2x (by omega), u2x (by omega), u2x (by omega), u2x (by omega), u2x (by omega), u2x (by omega), u2x (by omega), u2x (by omega), u2x (by omega), u2x (by omega), u2x (by omega), u2x (by omega), sv_u2_at]; rfl
      · rw [u2x (by omega), u2x (by omega), u2x (by omega), u2x (by omega), u2x (by omega), u2x (by omega), u2x (by omega), u2x (by omega), u2x (by omega), u2x (by omega), u2x (by omega), u2x (by omega), u2x (by omega), u2x (by omega), sv_u2_at]; rfl
      · rw [u2x (by omega), u2x (by omega), u2x (by omega), u2x (by omega), u2x (by omega), u2x (by omega), u2x (by omega), u2x (by omega), u2x (by omega), u2x (by omega), u2x (by omega), u2x (by omega), u2x (by omega), sv_u2_at]; rfl
      · rw [u2x (by omega), u2x (by omega), u2x (by omega), u2x (by omega), u2x (by omega), u2x (by omega), u2x (by omega), u2x (by omega), u2x (by omega), u2x (by omega), u2x (by omega), u2x (by omega), sv_u2_at]; rfl
      · rw [u2x (by omega), u2x (by omega), u2x (by omega), u2x (by omega), u2x (by omega), u2x (by omega), u2x (by omega), u2x (by omega), u2x (by omega), u2x (by omega), u2x (by omega), sv_u2_at]; rfl
      · rw [u2x (by omega), u2x (by omega), u2x (by omega), u2x (by omega), u2x (by omega), u2x (by omega), u2x (by omega), u2x (by omega), u2x (by omega), u2x (by omega), sv_u2_at]; rfl
      · rw [u2x (by omega), u2x (by omega), u2x (by omega), u2x (by omega), u2x (by omega), u2x (by omega), u2x (by omega), u2x (by omega), u2x (by omega), u2x (by omega), u2x (by omega), u2x (by omega), u2x (by omega), u2x (by omega), u2x (by omega), u2x (by omega), u2x (by omega), hr0 _ (Nat.le_refl _)]; rfl
      · rw [u2x (by omega), u2x (by omega), u2x (by omega), u2x (by omega), u2x (by omega), u2x (by omega), u2x (by omega), u2x (by omega), u2x (by omega), sv_u2_at]; rfl
      · rw [u2x (by omega), u2x (by omega), u2x (by omega), u2x (by omega), u2x (by omega), u2x (by omega), u2x (by omega), u2x (by omega), u2x (by omega), u2x (by omega), u2x (by omega), u2x (by omega), u2x (by omega), u2x (by omega), u2x (by omega), u2x (by omega), u2x (by omega), hr0 _ (Nat.le_refl _)]; rfl
      · rw [u2x (by omega), u2x (by omega), u2x (by omega), u2x (by omega), u2x (by omega), u2x (by omega), u2x (by omega), u2x (by omega), sv_u2_at]; rfl
      · rw [u2x (by omega), u2x (by omega), u2x (by omega), u2x (by omega), u2x (by omega), u2x (by omega), u2x (by omega), u2x (by omega), u2x (by omega), u2x (by omega), u2x (by omega), u2x (by omega), u2x (by omega), u2x (by omega), u2x (by omega), u2x (by omega), u2x (by omega), hr0 _ (Nat.le_refl _)]; rfl
      · rw [u2x (by omega), u2x (by omega), u2x (by omega), u2x (by omega), u2x (by omega), u2x (by omega), u2x (by omega), u2x (by omega), u2x (by omega), u2x (by omega), u2x (by omega), u2x (by omega), u2x (by omega), u2x (by omega), u2x (by omega), u2x (by omega), u2x (by omega), hr0 _ (Nat.le_refl _)]; rfl
      · rw [u2x (by omega), u2x (by omega), u2x (by omega), u2x (by omega), u2x (by omega), u2x (by omega), u2x (by omega), u2x (by omega), u2x (by omega), u2x (by omega), u2x (by omega), u2x (by omega), u2x (by omega), u2x (by omega), u2x (by omega), u2x (by omega), u2x (by omega), hr0 _ (Nat.le_refl _)]; rfl
      · rw [u2x (by omega), u2x (by omega), u2x (by omega), u2x (by omega), u2x (by omega), u2x (by omega), u2x (by omega), u2x (by omega), u2x (by omega), u2x (by omega), u2x (by omega), u2x (by omega), u2x (by omega), u2x (by omega), u2x (by omega), u2x (by omega), u2x (by omega), hr0 _ (Nat.le_refl _)]; rfl
      · rw [u2x (by omega), u2x (by omega), u2x (by omega), u2x (by omega), u2x (by omega), u2x (by omega), u2x (by omega), u2x (by omega), u2x (by omega), u2x (by omega), u2x (by omega), u2x (by omega), u2x (by omega), u2x (by omega), u2x (by omega), u2x (by omega), u2x (by omega), hr0 _ (Nat.le_refl _)]; rfl
      · rw [u2x (by omega), u2x (by omega), u2x (by omega), u2x (by omega), u2x (by omega), u2x (by omega), u2x (by omega), u2x (by omega), u2x (by omega), u2x (by omega), u2x (by omega), u2x (by omega), u2x (by omega), u2x (by omega), u2x (by omega), u2x (by omega), u2x (by omega), hr0 _ (Nat.le_refl _)]; rfl
      · rw [u2x (by omega), u2x (by omega), u2x (by omega), u2x (by omega), u2x (by omega), u2x (by omega), u2x (by omega), u2x (by omega), u2x (by omega), u2x (by omega), u2x (by omega), u2x (by omega), u2x (by omega), u2x (by omega), u2x (by omega), u2x (by omega), u2x (by omega), hr0 _ (Nat.le_refl _)]; rfl
      · rw [u2x (by omega), u2x (by omega), u2x (by omega), u2x (by omega), u2x (by omega), u2x (by omega), u2x (by omega), u2x (by omega), u2x (by omega), u2x (by omega), u2x (by omega), u2x (by omega), u2x (by omega), u2x (by omega), u2x (by omega), u2x (by omega), u2x (by omega), hr0 _ (Nat.le_refl _)]; rfl
      · rw [u2x (by omega), u2x (by omega), u2x (by omega), u2x (by omega), u2x (by omega), u2x (by omega), u2x (by omega), u2x (by omega), u2x (by omega), u2x (by omega), u2x (by omega), u2x (by omega), u2x (by omega), u2x (by omega), u2x (by omega), u2x (by omega), u2x (by omega), hr0 _ (Nat.le_refl _)]; rfl
      · rw [u2x (by omega), u2x (by omega), u2x (by omega), u2x (by omega), u2x (by omega), u2x (by omega), u2x (by omega), u2x (by omega), u2x (by omega), u2x (by omega), u2x (by omega), u2x (by omega), u2x (by omega), u2x (by omega), u2x (by omega), u2x (by omega), u2x (by omega), hr0 _ (Nat.le_refl _)]; rfl
      · rw [u2x (by omega), u2x (by omega), u2x (by omega), u2x (by omega), u2x (by omega), u2x (by omega), u2x (by omega), u2x (by omega), u2x (by omega), u2x (by omega), u2x (by omega), u2x (by omega), u2x (by omega), u2x (by omega), u2x (by omega), u2x (by omega), u2x (by omega), hr0 _ (Nat.le_refl _)]; rfl
      · rw [u2x (by omega), u2x (by omega), u2x (by omega), u2x (by omega), u2x (by omega), u2x (by omega), u2x (by omega), sv_u2_at]; rfl
      · rw [u2x (by omega), u2x (by omega), u2x (by omega), u2x (by omega), u2x (by omega), u2x (by omega), sv_u2_at]; rfl
      · rw [u2x (by omega), u2x (by omega), u2x (by omega), u2x (by omega), u2x (by omega), sv_u2_at]; rfl
      · rw [u2x (by omega), u2x (by omega), u2x (by omega), u2x (by omega), u2x (by omega), u2x (by omega), u2x (by omega), u2x (by omega), u2x (by omega), u2x (by omega), u2x (by omega), u2x (by omega), u2x (by omega), u2x (by omega), u2x (by omega), u2x (by omega), u2x (by omega), hr0 _ (Nat.le_refl _)]; rfl
      · rw [u2x (by omega), u2x (by omega), u2x (by omega), u2x (by omega), sv_u2_at]; rfl
      · rw [u2x (by omega), u2x (by omega), u2x (by omega), sv_u2_at]; rfl
      · rw [u2x (by omega), u2x (by omega), sv_u2_at]; rfl
      · rw [u2x (by omega), sv_u2_at]; rfl
      · rw [sv_u2_at]; rfl
      · rw [u2x (by omega), u2x (by omega), u2x (by omega), u2x (by omega), u2x (by omega), u2x (by omega), u2x (by omega), u2x (by omega), u2x (by omega), u2x (by omega), u2x (by omega), u2x (by omega), u2x (by omega), u2x (by omega), u2x (by omega), u2x (by omega), u2x (by omega), hr0 _ (Nat.le_refl _)]; show none = (sv_off 8 k).map _; rw [off_none (fun _ => rfl) hk]; rfl
    · rw [sv_u2_off (by omega), sv_u2_off (by omega), sv_u2_off (by omega), sv_u2_off (by omega), sv_u2_off (by omega), sv_u2_off (by omega), sv_u2_off (by omega), sv_u2_off (by omega), sv_u2_off (by omega), sv_u2_off (by omega), sv_u2_off (by omega), sv_u2_off (by omega), sv_u2_off (by omega), sv_u2_off (by omega), sv_u2_off (by omega), sv_u2_off (by omega), sv_u2_off (by omega), hr0 _ (by omega)]; exact (Ht_arr (m := 0) (sv_next (q := (0, 8)) (r := (1, 8)) (d := 1) (by decide +kernel) hS) (by decide)).symm
    · rw [sv_u2_off (by omega), sv_u2_off (by omega), sv_u2_off (by omega), sv_u2_off (by omega), sv_u2_off (by omega), sv_u2_off (by omega), sv_u2_off (by omega), sv_u2_off (by omega), sv_u2_off (by omega), sv_u2_off (by omega), sv_u2_off (by omega), sv_u2_off (by omega), sv_u2_off (by omega), sv_u2_off (by omega), sv_u2_off (by omega), sv_u2_off (by omega), sv_u2_off (by omega), hr0 _ (by omega)]; exact (Ht_arr (m := 0) (sv_next (q := (0, 8)) (r := (1, 6)) (d := 2) (by decide +kernel) hS) (by decide)).symm
    · rw [sv_u2_off (by omega), sv_u2_off (by omega), sv_u2_off (by omega), sv_u2_off (by omega), sv_u2_off (by omega), sv_u2_off (by omega), sv_u2_off (by omega), sv_u2_off (by omega), sv_u2_off (by omega), sv_u2_off (by omega), sv_u2_off (by omega), sv_u2_off (by omega), sv_u2_off (by omega), sv_u2_off (by omega), sv_u2_off (by omega), sv_u2_off (by omega), sv_u2_off (by omega), hr0 _ (by omega)]; exact (Ht_arr (m := 0) (sv_next (q := (0, 8)) (r := (1, 6)) (d := 3) (by decide +kernel) hS) (by decide)).symm
    · rw [sv_u2_off (by omega), sv_u2_off (by omega), sv_u2_off (by omega), sv_u2_off (by omega), sv_u2_off (by omega), sv_u2_off (by omega), sv_u2_off (by omega), sv_u2_off (by omega), sv_u2_off (by omega), sv_u2_off (by omega), sv_u2_off (by omega), sv_u2_off (by omega), sv_u2_off (by omega), sv_u2_off (by omega), sv_u2_off (by omega), sv_u2_off (by omega), sv_u2_off (by omega), hr0 _ (by omega)]; exact (Ht_arr (m := 0) (sv_next (q := (0, 8)) (r := (1, 6)) (d := 4) (by decide +kernel) hS) (by decide)).symm
    · rw [sv_u2_off (by omega), sv_u2_off (by omega), sv_u2_off (by omega), sv_u2_off (by omega), sv_u2_off (by omega), sv_u2_off (by omega), sv_u2_off (by omega), sv_u2_off (by omega), sv_u2_off (by omega), sv_u2_off (by omega), sv_u2_off (by omega), sv_u2_off (by omega), sv_u2_off (by omega), sv_u2_off (by omega), sv_u2_off (by omega), sv_u2_off (by omega), sv_u2_off (by omega), hr0 _ (by omega)]; exact (Ht_arr (m := 0) (sv_next (q := (0, 8)) (r := (1, 298)) (d := 5) (by decide +kernel) hS) (by decide)).symm
    · rw [sv_u2_off (by omega), sv_u2_off (by omega), sv_u2_off (by omega), sv_u2_off (by omega), sv_u2_off (by omega), sv_u2_off (by omega), sv_u2_off (by omega), sv_u2_off (by omega), sv_u2_off (by omega), sv_u2_off (by omega), sv_u2_off (by omega), sv_u2_off (by omega), sv_u2_off (by omega), sv_u2_off (by omega), sv_u2_off (by omega), sv_u2_off (by omega), sv_u2_off (by omega), hr0 _ (by omega)]; exact (Ht_arr (m := 0) (sv_next (q := (0, 8)) (r := (1, 596)) (d := 6) (by decide +kernel) hS) (by decide)).symm
    · rw [sv_u2_off (by omega), sv_u2_off (by omega), sv_u2_off (by omega), sv_u2_off (by omega), sv_u2_off (by omega), sv_u2_off (by omega), sv_u2_off (by omega), sv_u2_off (by omega), sv_u2_off (by omega), sv_u2_off (by omega), sv_u2_off (by omega), sv_u2_off (by omega), sv_u2_off (by omega), sv_u2_off (by omega), sv_u2_off (by omega), sv_u2_off (by omega), sv_u2_off (by omega), hr0 _ (by omega)]; exact (Ht_arr (m := 2) (sv_next (q := (0, 8)) (r := (3, 2)) (d := 7) (by decide +kernel) hS) (by decide)).symm
    · rw [sv_u2_off (by omega), sv_u2_off (by omega), sv_u2_off (by omega), sv_u2_off (by omega), sv_u2_off (by omega), sv_u2_off (by omega), sv_u2_off (by omega), sv_u2_off (by omega), sv_u2_off (by omega), sv_u2_off (by omega), sv_u2_off (by omega), sv_u2_off (by omega), sv_u2_off (by omega), sv_u2_off (by omega), sv_u2_off (by omega), sv_u2_off (by omega), sv_u2_off (by omega), hr0 _ (by omega)]; exact (Ht_arr (m := 0) (sv_next (q := (0, 8)) (r := (1, 8)) (d := 8) (by decide +kernel) hS) (by decide)).symm
    · rw [sv_u2_off (by omega), sv_u2_off (by omega), sv_u2_off (by omega), sv_u2_off (by omega), sv_u2_off (by omega), sv_u2_off (by omega), sv_u2_off (by omega), sv_u2_off (by omega), sv_u2_off (by omega), sv_u2_off (by omega), sv_u2_off (by omega), sv_u2_off (by omega), sv_u2_off (by omega), sv_u2_off (by omega), sv_u2_off (by omega), sv_u2_off (by omega), sv_u2_off (by omega), hr0 _ (by omega)]; exact (Ht_arr (m := 0) (sv_next (q := (0, 8)) (r := (1, 120)) (d := 9) (by decide +kernel) hS) (by decide)).symm
    · rw [sv_u2_off (by omega), sv_u2_off (by omega), sv_u2_off (by omega), sv_u2_off (by omega), sv_u2_off (by omega), sv_u2_off (by omega), sv_u2_off (by omega), sv_u2_off (by omega), sv_u2_off (by omega), sv_u2_off (by omega), sv_u2_off (by omega), sv_u2_off (by omega), sv_u2_off (by omega), sv_u2_off (by omega), sv_u2_off (by omega), sv_u2_off (by omega), sv_u2_off (by omega), hr0 _ (by omega)]; exact (Ht_arr (m := 0) (sv_next (q := (0, 8)) (r := (1, 8)) (d := 10) (by decide +kernel) hS) (by decide)).symm
    · rw [sv_u2_off (by omega), sv_u2_off (by omega), sv_u2_off (by omega), sv_u2_off (by omega), sv_u2_off (by omega), sv_u2_off (by omega), sv_u2_off (by omega), sv_u2_off (by omega), sv_u2_off (by omega), sv_u2_off (by omega), sv_u2_off (by omega), sv_u2_off (by omega), sv_u2_off (by omega), sv_u2_off (by omega), sv_u2_off (by omega), sv_u2_off (by omega), sv_u2_off (by omega), hr0 _ (by omega)]; exact (Ht_arr (m := 0) (sv_next (q := (0, 8)) (r := (1, 8)) (d := 11) (by decide +kernel) hS) (by decide)).symm
    · rw [sv_u2_off (by omega), sv_u2_off (by omega), sv_u2_off (by omega), sv_u2_off (by omega), sv_u2_off (by omega), sv_u2_off (by omega), sv_u2_off (by omega), sv_u2_off (by omega), sv_u2_off (by omega), sv_u2_off (by omega), sv_u2_off (by omega), sv_u2_off (by omega), sv_u2_off (by omega), sv_u2_off (by omega), sv_u2_off (by omega), sv_u2_off (by omega), sv_u2_off (by omega), hr0 _ (by omega)]; exact (Ht_arr (m := 0) (sv_next (q := (0, 8)) (r := (1, 8)) (d := 12) (by decide +kernel) hS) (by decide)).symm
    · rw [sv_u2_off (by omega), sv_u2_off (by omega), sv_u2_off (by omega), sv_u2_off (by omega), sv_u2_off (by omega), sv_u2_off (by omega), sv_u2_off (by omega), sv_u2_off (by omega), sv_u2_off (by omega), sv_u2_off (by omega), sv_u2_off (by omega), sv_u2_off (by omega), sv_u2_off (by omega), sv_u2_off (by omega), sv_u2_off (by omega), sv_u2_off (by omega), sv_u2_off (by omega), hr0 _ (by omega)]; exact (Ht_arr (m := 0) (sv_next (q := (0, 8)) (r := (1, 6)) (d := 13) (by decide +kernel) hS) (by decide)).symm
    · rw [sv_u2_off (by omega), sv_u2_off (by omega), sv_u2_off (by omega), sv_u2_off (by omega), sv_u2_off (by omega), sv_u2_off (by omega), sv_u2_off (by omega), sv_u2_off (by omega), sv_u2_off (by omega), sv_u2_off (by omega), sv_u2_off (by omega), sv_u2_off (by omega), sv_u2_off (by omega), sv_u2_off (by omega), sv_u2_off (by omega), sv_u2_off (by omega), sv_u2_off (by omega), hr0 _ (by omega)]; exact (Ht_arr (m := 0) (sv_next (q := (0, 8)) (r := (1, 6)) (d := 14) (by decide +kernel) hS) (by decide)).symm
    · rw [sv_u2_off (by omega), sv_u2_off (by omega), sv_u2_off (by omega), sv_u2_off (by omega), sv_u2_off (by omega), sv_u2_off (by omega), sv_u2_off (by omega), sv_u2_off (by omega), sv_u2_off (by omega), sv_u2_off (by omega), sv_u2_off (by omega), sv_u2_off (by omega), sv_u2_off (by omega), sv_u2_off (by omega), sv_u2_off (by omega), sv_u2_off (by omega), sv_u2_off (by omega), hr0 _ (by omega)]; exact (Ht_arr (m := 0) (sv_next (q := (0, 8)) (r := (1, 6)) (d := 15) (by decide +kernel) hS) (by decide)).symm
    · rw [sv_u2_off (by omega), sv_u2_off (by omega), sv_u2_off (by omega), sv_u2_off (by omega), sv_u2_off (by omega), sv_u2_off (by omega), sv_u2_off (by omega), sv_u2_off (by omega), sv_u2_off (by omega), sv_u2_off (by omega), sv_u2_off (by omega), sv_u2_off (by omega), sv_u2_off (by omega), sv_u2_off (by omega), sv_u2_off (by omega), sv_u2_off (by omega), sv_u2_off (by omega), hr0 _ (by omega)]; exact (Ht_arr (m := 0) (sv_next (q := (0, 8)) (r := (1, 6)) (d := 16) (by decide +kernel) hS) (by decide)).symm
    · rw [sv_u2_off (by omega), sv_u2_off (by omega), sv_u2_off (by omega), sv_u2_off (by omega), sv_u2_off (by omega), sv_u2_off (by omega), sv_u2_off (by omega), sv_u2_off (by omega), sv_u2_off (by omega), sv_u2_off (by omega), sv_u2_off (by omega), sv_u2_off (by omega), sv_u2_off (by omega), sv_u2_off (by omega), sv_u2_off (by omega), sv_u2_off (by omega), sv_u2_off (by omega), hr0 _ (by omega)]; exact (Ht_arr (m := 0) (sv_next (q := (0, 8)) (r := (1, 6)) (d := 17) (by decide +kernel) hS) (by decide)).symm
  · rw [sv_u2_off (by omega), sv_z_off (by omega), sv_z_off (by omega), sv_z_off (by omega), sv_z_off (by omega), sv_z_off (by omega), sv_z_off (by omega), sv_z_off (by omega), sv_z_off (by omega), sv_z_off (by omega), sv_z_off (by omega), sv_z_off (by omega), sv_z_off (by omega), sv_z_off (by omega), sv_z_off (by omega), sv_z_off (by omega), sv_z_off (by omega), sv_z_off (by omega), u2x (by omega), sv_u2_at]
  · rw [sv_u2_off (by omega), sv_z_off (by omega), sv_z_off (by omega), sv_z_off (by omega), sv_z_off (by omega), sv_z_off (by omega), sv_z_off (by omega), sv_z_off (by omega), sv_z_off (by omega), sv_z_off (by omega), sv_z_off (by omega), sv_z_off (by omega), sv_z_off (by omega), sv_z_off (by omega), sv_z_off (by omega), sv_z_off (by omega), sv_z_off (by omega), sv_z_off (by omega), sv_u2_at]
  · rw [sv_u2_off (by omega), sv_z_off (by omega), sv_z_off (by omega), sv_z_off (by omega), sv_z_off (by omega), sv_z_off (by omega), sv_z_off (by omega), sv_z_off (by omega), sv_z_off (by omega), sv_z_off (by omega), sv_z_off (by omega), sv_z_off (by omega), sv_z_off (by omega), sv_z_off (by omega), sv_z_off (by omega), sv_z_off (by omega), sv_z_off (by omega), sv_z_off (by omega), u2x (by omega), u2x (by omega)]; exact hz0 2
  · rw [sv_u2_off (by omega), sv_z_off (by omega), sv_z_off (by omega), sv_z_off (by omega), sv_z_off (by omega), sv_z_off (by omega), sv_z_off (by omega), sv_z_off (by omega), sv_z_off (by omega), sv_z_off (by omega), sv_z_off (by omega), sv_z_off (by omega), sv_z_off (by omega), sv_z_off (by omega), sv_z_off (by omega), sv_z_off (by omega), sv_z_off (by omega), sv_z_off (by omega), u2x (by omega), u2x (by omega)]; exact hz0 4
  · rw [sv_u2_off (by omega), sv_z_off (by omega), sv_z_off (by omega), sv_z_off (by omega), sv_z_off (by omega), sv_z_off (by omega), sv_z_off (by omega), sv_z_off (by omega), sv_z_off (by omega), sv_z_off (by omega), sv_z_off (by omega), sv_z_off (by omega), sv_z_off (by omega), sv_z_off (by omega), sv_z_off (by omega), sv_z_off (by omega), sv_z_off (by omega), sv_z_off (by omega), u2x (by omega), u2x (by omega)]; exact hz0 11
  · rw [sv_u2_off (by omega), sv_z_off (by omega), sv_z_off (by omega), sv_z_off (by omega), sv_z_off (by omega), sv_z_off (by omega), sv_z_off (by omega), sv_z_off (by omega), sv_z_off (by omega), sv_z_off (by omega), sv_z_off (by omega), sv_z_off (by omega), sv_z_off (by omega), sv_z_off (by omega), sv_z_off (by omega), sv_z_off (by omega), sv_z_off (by omega), sv_z_off (by omega), u2x (by omega), u2x (by omega)]; exact hz0 15
  · by_cases e : k = 1
    · rw [e, sv_u2_at]; rfl
    · rw [sv_u2_k e, sv_z_off (by omega), sv_z_off (by omega), sv_z_off (by omega), sv_z_off (by omega), sv_z_off (by omega), sv_z_off (by omega), sv_z_off (by omega), sv_z_off (by omega), sv_z_off (by omega), sv_z_off (by omega), sv_z_off (by omega), sv_z_off (by omega), sv_z_at, if_neg e]
  · rw [sv_u2_off (by omega), sv_z_off (by omega), sv_z_off (by omega), sv_z_off (by omega), sv_z_off (by omega), sv_z_off (by omega), sv_z_off (by omega), sv_z_off (by omega), sv_z_off (by omega), sv_z_off (by omega), sv_z_off (by omega), sv_z_at]
