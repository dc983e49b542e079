set_option maxRecDepth 20000 in
set_option maxHeartbeats 2000000 in
/-- what the tables say at the start -/
theorem sv_known {s : State} {args : Array Value} (hts : ∀ w ∈ lw_tbl, w.before args s = true) : ∃ G : svG, G.1 = s.heap.size ∧ sv_KN G s := by
  have hs : ∀ w ∈ sv_tbl, w.before args s = true := fun w hw => hts w (List.mem_filter.mp hw).1
  obtain ⟨c0, i0, k0⟩ := u_known (C := RX0) (T := TX0) (N := 2) (n := 2) hs inX0 (hts (.instantiable RX0 2) (List.mem_of_getElem? (i := 218) (by decide +kernel)))
  obtain ⟨c1, i1, k1⟩ := u_known (C := RX1) (T := TX1) (N := 5) (n := 5) hs inX1 (hts (.instantiable RX1 5) (List.mem_of_getElem? (i := 232) (by decide +kernel)))
  obtain ⟨c2, i2, k2⟩ := u_known (C := RX2) (T := TX2) (N := 3) (n := 3) hs inX2 (hts (.instantiable RX2 3) (List.mem_of_getElem? (i := 256) (by decide +kernel)))
  obtain ⟨c3, i3, k3⟩ := u_known (C := RX3) (T := TX3) (N := 8) (n := 8) hs inX3 (hts (.instantiable RX3 8) (List.mem_of_getElem? (i := 162) (by decide +kernel)))
  obtain ⟨c4, i4, k4⟩ := u_known (C := RX4) (T := TX4) (N := 2) (n := 2) hs inX4 (hts (.instantiable RX4 2) (List.mem_of_getElem? (i := 201) (by decide +kernel)))
  obtain ⟨c5, i5, k5⟩ := u_known (C := RX5) (T := TX5) (N := 6) (n := 6) hs inX5 (hts (.instantiable RX5 6) (List.mem_of_getElem? (i := 135) (by decide +kernel)))
  obtain ⟨c6, i6, k6⟩ := u_known (C := RX6) (T := TX6) (N := 11) (n := 11) hs inX6 (hts (.instantiable RX6 11) (List.mem_of_getElem? (i := 75) (by decide +kernel)))
  obtain ⟨c7, i7, k7⟩ := u_known (C := RX7) (T := TX7) (N := 10) (n := 10) hs inX7 (hts (.instantiable RX7 10) (List.mem_of_getElem? (i := 67) (by decide +kernel)))
  obtain ⟨c8, i8, k8⟩ := u_known (C := RX8) (T := TX8) (N := 35) (n := 35) hs inX8 (hts (.instantiable RX8 35) (List.mem_of_getElem? (i := 679) (by decide +kernel)))
  obtain ⟨aI, kI, pI, fI, mI, nI_⟩ := Cond.arrayClass_spec (hts (.arrayClass .int) (List.mem_of_getElem? (i := 133) (by decide +kernel)))
  obtain ⟨aC, kC, pC, fC, mC, nC⟩ := Cond.arrayClass_spec (hts (.arrayClass .char) (List.mem_of_getElem? (i := 160) (by decide +kernel)))
  obtain ⟨aZ, kZ, pZ, fZ, mZ, nZ⟩ := Cond.arrayClass_spec (hts (.arrayClass .boolean) (List.mem_of_getElem? (i := 790) (by decide +kernel)))
  have hO := hts (.arrayOver (.object RX3)) (List.mem_of_getElem? (i := 207) (by decide +kernel))
  obtain ⟨pO, aO, kO, fO, -, mO, nO, gO⟩ := Cond.arrayOver_spec hO
  let dC : Nat → ClassId := fun k => match k with
    | 0 => c0 | 1 => c1 | 2 => c2 | 3 => c3 | 4 => c4 | 5 => c5 | 6 => c6 | 7 => c7 | _ => c8
  let dI : Nat → Nat → Nat := fun k => match k with
    | 0 => i0 | 1 => i1 | 2 => i2 | 3 => i3 | 4 => i4 | 5 => i5 | 6 => i6 | 7 => i7 | _ => i8
  let dA : Nat → ClassId := fun k => match k with
    | 0 => aI | 1 => aC | 2 => aZ | _ => aO
  refine ⟨(s.heap.size, (dC, dI), dA), rfl, ⟨fun k q hq => ?_, fun k q hq => ?_⟩, fun w hw => ?_, va_AO.of hO⟩
  · match k, hq with
    | 0, hq => cases hq; exact k0
    | 1, hq => cases hq; exact k1
    | 2, hq => cases hq; exact k2
    | 3, hq => cases hq; exact k3
    | 4, hq => cases hq; exact k4
    | 5, hq => cases hq; exact k5
    | 6, hq => cases hq; exact k6
    | 7, hq => cases hq; exact k7
    | 8, hq => cases hq; exact k8
    | k + 9, hq => simp at hq
  · match k, hq with
    | 0, hq => cases hq; exact ⟨fun n z => ⟨fun k h => (by cases h), kI, mI, pI, nI_⟩, fI⟩
    | 1, hq => cases hq; exact ⟨fun n z => ⟨fun k h => (by cases h), kC, mC, pC, nC⟩, fC⟩
    | 2, hq => cases hq; exact ⟨fun n z => ⟨fun k h => (by cases h), kZ, mZ, pZ, nZ⟩, fZ⟩
    | 3, hq => cases hq; exact ⟨fun n z => ⟨fun k h => (by cases h), kO, mO, pO, nO⟩, kO, pO, mO, nO, fO, gO⟩
    | k + 4, hq => simp [sv_tys] at hq
  · have h1 := List.mem_filter.mp hw
    have h2 := h1.2
    have h3 := hts w h1.1
    cases w <;> first | exact va_Nw.of rfl h3 | exact Bool.noConfusion h2
set_option maxRecDepth 20000 in
set_option maxHeartbeats 2000000 in
theorem Inv_0 {a : svH} {hl : svL} (f : X7f a) (g0 : a 164 0 = 3) (g1 : a 164 1 = 2) (g2 : a 164 2 = 0) (g4 : a 164 4 = 0) (g11 : a 164 11 = 0) (g15 : a 164 15 = 0) (gs : ∀ k, a 169 k = if k = 1 then 3 else 0) (gk : a 171 = fun _ => 0) (ht : hl 0 9 = hl 164 13) : Inv a hl 1 8 (fun j => 23 + 4 * j) 3 2 0 0 0 0 0 := by
  obtain ⟨t0, t1, t3, t4, x0, n0, n1, n2, n3, n4, nv, p0, h0, m0, m5, q0, q5⟩ := f
  have z : ∀ k, k ≠ 1 → a 169 k = 0 := fun k hk => (gs k).trans (if_neg hk)
  refine ⟨⟨sh_1, t0, t1, t3, t4, by decide, by decide, by decide, by decide, by decide, by decide, fun r hr => by omega, fun r hr => by omega, fun t ht => by omega⟩, ⟨g0, g1, g2, g4, by decide, by decide, by decide, by decide, by decide, by decide, fun r hr => by omega, fun r hr => by omega, fun t ht => by omega⟩, sh_8, by decide, ⟨fun j hj => ⟨?_, by show 23 ≤ 23 + 4 * j; omega, by show 23 + 4 * j ≤ 59; omega⟩, fun i j hi hj hij => by show 23 + 4 * i + 3 < 23 + 4 * j ∨ 23 + 4 * j + 3 < 23 + 4 * i; omega⟩, fun t ht => by omega, fun r hr => by omega, fun r hr => by omega, fun r hr => by omega, ⟨?_, ?_, ?_, ?_, ?_, fun k hk => ?_, fun t ht => by omega, fun t ht => by omega, ⟨0, by decide, n0⟩, ⟨3, by decide, n1⟩, Or.inl n2, fun t h1 h2 => ?_, fun t ht => by omega, fun t ht => by omega⟩, by decide, p0, z 27 (by decide), fun j hj => by omega, ⟨⟨0, by decide, m5⟩, ?_, fun q => absurd m0 q⟩, ⟨⟨0, by decide, q5⟩, ?_, fun q => absurd q0 q⟩, by decide, h0, g11, fun i hi => by omega, fun i hi => by omega, by decide, x0, g15, fun i hi => by omega, ht⟩
  · have h := sv_rowsAt sh_21 hj
    rwa [show 21 + 2 + 4 * j = 23 + 4 * j from by omega] at h
  · rw [n0]; exact (z 0 (by decide)).symm
  · rw [n1]; exact ((gs 1).trans (if_pos rfl)).symm
  · rw [n2]; exact (z 2 (by decide)).symm
  · rw [n3]; exact (z 25 (by decide)).symm
  · rw [n4]; exact (z 26 (by decide)).symm
  · rw [nv, z _ (by omega)]
  · rw [n3]; exact b_0 t
  · rw [gk]; exact ⟨fun _ => rfl, fun _ => m0⟩
  · rw [gk]; exact ⟨fun _ => rfl, fun _ => q0⟩
set_option maxRecDepth 20000 in
set_option maxHeartbeats 2000000 in
theorem law_begin {l : Launch} {G : svG} {F : svF} {nm : String} {b L : Nat} {xs : Nat → Int32} (hF : lwT G b L xs F) (hL : L ≤ 2048) (hend : ∀ ls hi hl hr, svJ l G room_1 (RL, cL_law, 4, some .boolean, nm) F 182 2476 778 ls [.int 1] svSH hi hl hr) : svJ l G room_1 (RL, cL_law, 4, some .boolean, nm) F 0 0 0 [some (.ref b), none, none, none] [] [] (fun _ _ => 0) (fun _ _ => 0) (fun _ _ => none) := by
  refine nwL_7 (pc := 0) (by decide) (by decide) dL_law_0 ?_
  rw [show List.length ([] : svS) = 0 from rfl, show ([] ++ [(0, 7)] : svS) = List.take 1 svSH from by decide +kernel]
  have s0 : Stg 1 0 (sv_z (fun _ _ => none) 0 none : svR) := ⟨fun q h1 h2 => by omega, fun q h1 => by rw [sv_z_off (by omega)]; rfl, fun k => by rw [sv_z_at, if_neg (by omega)]⟩
  refine J_dup (pc := 3) rfl dL_law_3 ?_
  refine caL_9 (pc := 4) (t_X7_init (l := l) (G := G) s0) (Nat.le_of_ble_eq_true rfl) ⟨rfl, rfl, ⟨by decide, by decide⟩, by decide, by decide⟩ dL_law_4 (fun v7 s7 a7 b7 c7 p7 => ?_)
  obtain ⟨rfl, rfl, hb9, s9, hf⟩ := p7
  refine S_astore_1 (pc := 7) dL_law_7 (show 1 < 4 by decide) ?_
  refine nwL_10 (pc := 8) (by decide) (by decide) dL_law_8 ?_
  rw [show List.length (List.take 164 svSH) = 164 from by decide +kernel, show (List.take 164 svSH ++ [(0, 8)] : svS) = List.take 165 svSH from by decide +kernel]
  refine J_dup (pc := 11) rfl dL_law_11 ?_
  refine caL_12 (pc := 12) (t_X8_init (l := l) (G := G) (i := 164) (by decide +kernel) (by decide +kernel) sh_164 s9.pre (fun k => by rw [sv_z_at])) (Nat.le_of_ble_eq_true rfl) ⟨rfl, rfl, ⟨by decide, by decide⟩, by decide, by decide⟩ dL_law_12 (fun v8 s8 a8 b8 c8 p8 => ?_)
  obtain ⟨rfl, rfl, rfl, k1, g1, e1, f0, f1, f2, f4, f11, f15, fst, fk⟩ := p8
  rw [show (List.take 165 svSH ++ [(1, 8)] ++ [(1, 6)] ++ [(1, 6)] ++ [(1, 6)] ++ [(1, 298)] ++ [(1, 596)] ++ [(3, 2)] ++ [(1, 8)] ++ [(1, 120)] ++ [(1, 8)] ++ [(1, 8)] ++ [(1, 8)] ++ [(1, 6)] ++ [(1, 6)] ++ [(1, 6)] ++ [(1, 6)] ++ [(1, 6)] : svS) = svSH from by decide +kernel]
  have hc : c8 = sv_hr 1 8 (fun j => 23 + 4 * j) := by
    show c8 = svHt
    funext q
    rcases (show q = 0 ∨ (1 ≤ q ∧ q < 164) ∨ (164 ≤ q ∧ q < 182) ∨ 182 ≤ q by omega) with rfl | ⟨h1, h2⟩ | ⟨h1, h2⟩ | h1
    · rw [g1 0 (by omega), sv_z_off (by omega)]
      funext k
      rw [s9.2.2 k]
      by_cases h9 : k < 9
      · rw [if_pos h9]
      · rw [if_neg h9]
        unfold svHt sv_hr
        rw [if_neg (by omega), if_neg (by omega), if_neg (by omega), sh_0]
        show none = (sv_off 7 k).map _
        rw [off_none (m := 9) (fun _ => rfl) (by omega)]
        rfl
    · rw [g1 q (by omega), sv_z_off (by omega)]; exact s9.1 q h1 h2
    · exact e1 q h1 (by omega)
    · rw [g1 q (by omega), sv_z_off (by omega), s9.2.1 q (by omega), Ht_big h1]
  have a7q : ∀ q, q < 164 → a8 q = a7 q := fun q hq => by rw [k1 q hq, sv_z_off (by omega)]
  have hI : IN a8 (sv_z b7 164 0) c8 := by
    rw [hc]
    refine (Inv_0 ?_ f0 f1 f2 f4 f11 f15 fst fk ?_).IN
    · unfold X7f
      rw [a7q 1 (by decide), a7q 15 (by decide), a7q 17 (by decide), a7q 18 (by decide), a7q 21 (by decide), a7q 66 (by decide), a7q 70 (by decide), a7q 75 (by decide), a7q 117 (by decide), a7q 122 (by decide)]
      exact hf
    · rw [sv_z_off (by decide), sv_z_at]; exact hb9
  refine S_astore_2 (pc := 15) dL_law_15 (show 2 < 4 by decide) ?_
  refine J_iconst (pc := 16) (0) rfl dL_law_16 ?_
  refine S_istore_3 (pc := 17) dL_law_17 (show 3 < 4 by decide) ?_
  exact svJ_ls (by rfl) (law_loop hF hL hend (L + 1) 0 _ _ _ (by omega) (by omega) hI)
