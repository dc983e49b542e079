/-! the law: its script lies ahead of the world -/
def lwE (G : svG) (b L : Nat) (xs : Nat → Int32) (args : Array Value) (s : State) : Prop := args = #[Value.ref b] ∧ va_X b L xs s s.heap ∧ b < s.heap.size ∧ G.1 = s.heap.size
def lwT (G : svG) (b L : Nat) (xs : Nat → Int32) (F : svF) : Prop := ∀ p e s m args below meth c t, ¬ lwE G b L xs args s → F p e s m args below meth c t
theorem L_aload_0 {l : Launch} {G : svG} {R : Room} {M : svM} {F : svF} {cs sl pc : Nat} {ls : List (Option Value)} {st : List Value} {sh : svS} {hi : svH} {hl : svL} {hr : svR} {b : Nat} (d : decode M.2.1 pc = .ok (.aload_n 0, 1)) (kk : svJ l G R M F cs sl (pc + 1) (some (.ref b) :: ls) (.ref b :: st) sh hi hl hr) : svJ l G R M F cs sl pc (some (.ref b) :: ls) st sh hi hl hr := by
  intro p e s m args below meth c fx hz H locs a hs hS hL
  exact lv_aload_n fx.1 fx.2.1 d rfl (hL.2.2 0 _ rfl).1 (kk p e s m args below meth c fx hz H locs a hs hS hL)
theorem J_sld {l : Launch} {G : svG} {R : Room} {M : svM} {F : svF} {cs sl pc : Nat} {ls : List (Option Value)} {st : List Value} {sh : svS} {hi : svH} {hl : svL} {hr : svR} {b L : Nat} {xs : Nat → Int32} (hF : lwT G b L xs F) {i : Int32} (hin : vp_in i L) (d : decode M.2.1 pc = .ok (.iaload, 1)) (kk : svJ l G R M F cs sl (pc + 1) ls (.int (xs i.toNatClampNeg) :: st) sh hi hl hr) : svJ l G R M F cs sl pc ls (.int i :: .ref b :: st) sh hi hl hr := by
  intro p e s m args below meth c fx hz H locs a hs hS hL
  by_cases hX : lwE G b L xs args s
  · exact va_sld fx.1 fx.2.1 hX.2.1 hX.2.2.1 (fun q => absurd hX.2.2.1 (Nat.not_lt.mpr (hX.2.2.2 ▸ q))) hS hin d (kk p e s m args below meth c fx hz H locs a hs hS hL)
  · intro T hT X
    exact ⟨_, Steps.refl _, hF _ _ _ _ _ _ _ _ _ hX⟩
theorem J_slen {l : Launch} {G : svG} {R : Room} {M : svM} {F : svF} {cs sl pc : Nat} {ls : List (Option Value)} {st : List Value} {sh : svS} {hi : svH} {hl : svL} {hr : svR} {b L : Nat} {xs : Nat → Int32} (hF : lwT G b L xs F) (d : decode M.2.1 pc = .ok (.arraylength, 1)) (kk : svJ l G R M F cs sl (pc + 1) ls (.int (Int32.ofNat L) :: st) sh hi hl hr) : svJ l G R M F cs sl pc ls (.ref b :: st) sh hi hl hr := by
  intro p e s m args below meth c fx hz H locs a hs hS hL
  by_cases hX : lwE G b L xs args s
  · exact va_slen fx.1 fx.2.1 hX.2.1 hX.2.2.1 (fun q => absurd hX.2.2.1 (Nat.not_lt.mpr (hX.2.2.2 ▸ q))) hS d (kk p e s m args below meth c fx hz H locs a hs hS hL)
  · intro T hT X
    exact ⟨_, Steps.refl _, hF _ _ _ _ _ _ _ _ _ hX⟩
theorem lw_go {L i : Nat} (hL : L ≤ 2048) (hi : i ≤ 2048) (h : ¬ (Int32.ofNat L - 4 < nI i)) : i + 4 ≤ L := by
  rcases (show L = 0 ∨ L = 1 ∨ L = 2 ∨ L = 3 ∨ 4 ≤ L by omega) with rfl | rfl | rfl | rfl | h4
  · exact absurd (Int32.lt_of_lt_of_le (show Int32.ofNat 0 - 4 < 0 by decide) (nI_pos' (by omega))) h
  · exact absurd (Int32.lt_of_lt_of_le (show Int32.ofNat 1 - 4 < 0 by decide) (nI_pos' (by omega))) h
  · exact absurd (Int32.lt_of_lt_of_le (show Int32.ofNat 2 - 4 < 0 by decide) (nI_pos' (by omega))) h
  · exact absurd (Int32.lt_of_lt_of_le (show Int32.ofNat 3 - 4 < 0 by decide) (nI_pos' (by omega))) h
  · obtain ⟨m, rfl⟩ : ∃ m, L = m + 4 := ⟨L - 4, by omega⟩
    have e : Int32.ofNat (m + 4) - 4 = nI m := by
      show nI (m + 4) - nI 4 = nI m
      rw [← nI_add, Int32.add_sub_cancel]
    rw [e, nI_ltI (by omega) (by omega)] at h
    omega
theorem cmp_self (r : Int64) : lg_cmp r r = 0 := by unfold lg_cmp; simp
theorem sv_sw26 (x : Int32) : x = 0 ∨ x = 1 ∨ x = 2 ∨ x = 3 ∨ x = 4 ∨ x = 5 ∨ x = 6 ∨ x = 7 ∨ x = 8 ∨ x = 9 ∨ x = 10 ∨ x = 11 ∨ x = 12 ∨ x = 13 ∨ x = 14 ∨ x = 15 ∨ x = 16 ∨ x = 17 ∨ x = 18 ∨ x = 19 ∨ x = 20 ∨ x = 21 ∨ x = 22 ∨ x = 23 ∨ x = 24 ∨ x = 25 ∨ (x.toInt < 0 ∨ 25 < x.toInt) := by
  by_cases h0 : x = 0
  · exact Or.inl h0
  by_cases h1 : x = 1
  · exact Or.inr (Or.inl h1)
  by_cases h2 : x = 2
  · exact Or.inr (Or.inr (Or.inl h2))
  by_cases h3 : x = 3
  · exact Or.inr (Or.inr (Or.inr (Or.inl h3)))
  by_cases h4 : x = 4
  · exact Or.inr (Or.inr (Or.inr (Or.inr (Or.inl h4))))
  by_cases h5 : x = 5
  · exact Or.inr (Or.inr (Or.inr (Or.inr (Or.inr (Or.inl h5)))))
  by_cases h6 : x = 6
  · exact Or.inr (Or.inr (Or.inr (Or.inr (Or.inr (Or.inr (Or.inl h6))))))
  by_cases h7 : x = 7
  · exact Or.inr (Or.inr (Or.inr (Or.inr (Or.inr (Or.inr (Or.inr (Or.inl h7)))))))
  by_cases h8 : x = 8
  · exact Or.inr (Or.inr (Or.inr (Or.inr (Or.inr (Or.inr (Or.inr (Or.inr (Or.inl h8))))))))
  by_cases h9 : x = 9
  · exact Or.inr (Or.inr (Or.inr (Or.inr (Or.inr (Or.inr (Or.inr (Or.inr (Or.inr (Or.inl h9)))))))))
  by_cases h10 : x = 10
  · exact Or.inr (Or.inr (Or.inr (Or.inr (Or.inr (Or.inr (Or.inr (Or.inr (Or.inr (Or.inr (Or.inl h10))))))))))
  by_cases h11 : x = 11
  · exact Or.inr (Or.inr (Or.inr (Or.inr (Or.inr (Or.inr (Or.inr (Or.inr (Or.inr (Or.inr (Or.inr (Or.inl h11)))))))))))
  by_cases h12 : x = 12
  · exact Or.inr (Or.inr (Or.inr (Or.inr (Or.inr (Or.inr (Or.inr (Or.inr (Or.inr (Or.inr (Or.inr (Or.inr (Or.inl h12))))))))))))
  by_cases h13 : x = 13
  · exact Or.inr (Or.inr (Or.inr (Or.inr (Or.inr (Or.inr (Or.inr (Or.inr (Or.inr (Or.inr (Or.inr (Or.inr (Or.inr (Or.inl h13)))))))))))))
  by_cases h14 : x = 14
  · exact Or.inr (Or.inr (Or.inr (Or.inr (Or.inr (Or.inr (Or.inr (Or.inr (Or.inr (Or.inr (Or.inr (Or.inr (Or.inr (Or.inr (Or.inl h14))))))))))))))
  by_cases h15 : x = 15
  · exact Or.inr (Or.inr (Or.inr (Or.inr (Or.inr (Or.inr (Or.inr (Or.inr (Or.inr (Or.inr (Or.inr (Or.inr (Or.inr (Or.inr (Or.inr (Or.inl h15)))))))))))))))
  by_cases h16 : x = 16
  · exact Or.inr (Or.inr (Or.inr (Or.inr (Or.inr (Or.inr (Or.inr (Or.inr (Or.inr (Or.inr (Or.inr (Or.inr (Or.inr (Or.inr (Or.inr (Or.inr (Or.inl h16))))))))))))))))
  by_cases h17 : x = 17
  · exact Or.inr (Or.inr (Or.inr (Or.inr (Or.inr (Or.inr (Or.inr (Or.inr (Or.inr (Or.inr (Or.inr (Or.inr (Or.inr (Or.inr (Or.inr (Or.inr (Or.inr (Or.inl h17)))))))))))))))))
  by_cases h18 : x = 18
  · exact Or.inr (Or.inr (Or.inr (Or.inr (Or.inr (Or.inr (Or.inr (Or.inr (Or.inr (Or.inr (Or.inr (Or.inr (Or.inr (Or.inr (Or.inr (Or.inr (Or.inr (Or.inr (Or.inl h18))))))))))))))))))
  by_cases h19 : x = 19
  · exact Or.inr (Or.inr (Or.inr (Or.inr (Or.inr (Or.inr (Or.inr (Or.inr (Or.inr (Or.inr (Or.inr (Or.inr (Or.inr (Or.inr (Or.inr (Or.inr (Or.inr (Or.inr (Or.inr (Or.inl h19)))))))))))))))))))
  by_cases h20 : x = 20
  · exact Or.inr (Or.inr (Or.inr (Or.inr (Or.inr (Or.inr (Or.inr (Or.inr (Or.inr (Or.inr (Or.inr (Or.inr (Or.inr (Or.inr (Or.inr (Or.inr (Or.inr (Or.inr (Or.inr (Or.inr (Or.inl h20))))))))))))))))))))
  by_cases h21 : x = 21
  · exact Or.inr (Or.inr (Or.inr (Or.inr (Or.inr (Or.inr (Or.inr (Or.inr (Or.inr (Or.inr (Or.inr (Or.inr (Or.inr (Or.inr (Or.inr (Or.inr (Or.inr (Or.inr (Or.inr (Or.inr (Or.inr (Or.inl h21)))))))))))))))))))))
  by_cases h22 : x = 22
  · exact Or.inr (Or.inr (Or.inr (Or.inr (Or.inr (Or.inr (Or.inr (Or.inr (Or.inr (Or.inr (Or.inr (Or.inr (Or.inr (Or.inr (Or.inr (Or.inr (Or.inr (Or.inr (Or.inr (Or.inr (Or.inr (Or.inr (Or.inl h22))))))))))))))))))))))
  by_cases h23 : x = 23
  · exact Or.inr (Or.inr (Or.inr (Or.inr (Or.inr (Or.inr (Or.inr (Or.inr (Or.inr (Or.inr (Or.inr (Or.inr (Or.inr (Or.inr (Or.inr (Or.inr (Or.inr (Or.inr (Or.inr (Or.inr (Or.inr (Or.inr (Or.inr (Or.inl h23)))))))))))))))))))))))
  by_cases h24 : x = 24
  · exact Or.inr (Or.inr (Or.inr (Or.inr (Or.inr (Or.inr (Or.inr (Or.inr (Or.inr (Or.inr (Or.inr (Or.inr (Or.inr (Or.inr (Or.inr (Or.inr (Or.inr (Or.inr (Or.inr (Or.inr (Or.inr (Or.inr (Or.inr (Or.inr (Or.inl h24))))))))))))))))))))))))
  by_cases h25 : x = 25
  · exact Or.inr (Or.inr (Or.inr (Or.inr (Or.inr (Or.inr (Or.inr (Or.inr (Or.inr (Or.inr (Or.inr (Or.inr (Or.inr (Or.inr (Or.inr (Or.inr (Or.inr (Or.inr (Or.inr (Or.inr (Or.inr (Or.inr (Or.inr (Or.inr (Or.inr (Or.inl h25)))))))))))))))))))))))))
  refine Or.inr (Or.inr (Or.inr (Or.inr (Or.inr (Or.inr (Or.inr (Or.inr (Or.inr (Or.inr (Or.inr (Or.inr (Or.inr (Or.inr (Or.inr (Or.inr (Or.inr (Or.inr (Or.inr (Or.inr (Or.inr (Or.inr (Or.inr (Or.inr (Or.inr (Or.inr (?_))))))))))))))))))))))))))
  have e : ∀ k : Int32, ¬ x = k → ¬ x.toInt = k.toInt := fun k h z => h (Int32.toInt_inj.mp z)
  have g0 := e 0 h0
  have g1 := e 1 h1
  have g2 := e 2 h2
  have g3 := e 3 h3
  have g4 := e 4 h4
  have g5 := e 5 h5
  have g6 := e 6 h6
  have g7 := e 7 h7
  have g8 := e 8 h8
  have g9 := e 9 h9
  have g10 := e 10 h10
  have g11 := e 11 h11
  have g12 := e 12 h12
  have g13 := e 13 h13
  have g14 := e 14 h14
  have g15 := e 15 h15
  have g16 := e 16 h16
  have g17 := e 17 h17
  have g18 := e 18 h18
  have g19 := e 19 h19
  have g20 := e 20 h20
  have g21 := e 21 h21
  have g22 := e 22 h22
  have g23 := e 23 h23
  have g24 := e 24 h24
  have g25 := e 25 h25
  clear e
  simp at *
  omega
set_option maxRecDepth 20000 in
set_option maxHeartbeats 2000000 in
theorem lc_0 {l : Launch} {G : svG} {F : svF} {nm : String} {b L : Nat} {xs : Nat → Int32} (hF : lwT G b L xs F) (hL : L ≤ 2048) {i : Nat} (hi4 : i + 4 ≤ L) {hi : svH} {hl : svL} {hr : svR} (I : IN hi hl hr) (hk : ∀ hi hl hr, IN hi hl hr → svJ l G room_1 (RL, cL_law, 4, some .boolean, nm) F 182 2476 771 [some (.ref b), some (sv_rf G.1 0), some (sv_rf G.1 164), some (.int (nI i))] [] svSH hi hl hr) : svJ l G room_1 (RL, cL_law, 4, some .boolean, nm) F 182 2476 152 [some (.ref b), some (sv_rf G.1 0), some (sv_rf G.1 164), some (.int (nI i))] [] svSH hi hl hr := by
  obtain ⟨P1, t1, h1⟩ := pr_type (l := l) (G := G) I (xs (nI i + 1).toNatClampNeg)
  refine S_aload_1 (pc := 152) dL_law_152 ?_
  refine L_aload_0 (pc := 153) dL_law_153 ?_
  refine S_iload_3 (pc := 154) dL_law_154 ?_
  refine J_iconst (pc := 155) (1) rfl dL_law_155 ?_
  refine J_iadd (pc := 156) dL_law_156 ?_
  refine J_sld (pc := 157) hF (by rw [show (1 : Int32) = nI 1 from rfl, nI_add]; exact vp_in_nI (by omega) (by omega)) dL_law_157 ?_
  refine caL_13 (pc := 158) t1 sh_0 (Nat.le_of_ble_eq_true rfl) ⟨rfl, rfl, ⟨by decide, by decide⟩, by decide, by decide⟩ dL_law_158 (fun r1 a1 b1 c1 p1 => ?_)
  obtain ⟨P2, t2, h2⟩ := h1 r1 a1 b1 c1 p1
  refine S_aload_2 (pc := 161) dL_law_161 ?_
  refine L_aload_0 (pc := 162) dL_law_162 ?_
  refine S_iload_3 (pc := 163) dL_law_163 ?_
  refine J_iconst (pc := 164) (1) rfl dL_law_164 ?_
  refine J_iadd (pc := 165) dL_law_165 ?_
  refine J_sld (pc := 166) hF (by rw [show (1 : Int32) = nI 1 from rfl, nI_add]; exact vp_in_nI (by omega) (by omega)) dL_law_166 ?_
  refine caL_17 (pc := 167) t2 sh_164 (Nat.le_of_ble_eq_true rfl) ⟨rfl, rfl, ⟨by decide, by decide⟩, by decide, by decide⟩ dL_law_167 (fun r2 a2 b2 c2 p2 => ?_)
  obtain ⟨he, I2⟩ := h2 r2 a2 b2 c2 p2
  exact J_icmp_eq (pc := 170) 771 dL_law_170 (by decide) (fun _ => hk _ _ _ I2) (fun hne => absurd he hne)
set_option maxRecDepth 20000 in
set_option maxHeartbeats 2000000 in
theorem lc_1 {l : Launch} {G : svG} {F : svF} {nm : String} {b L : Nat} {xs : Nat → Int32} (hF : lwT G b L xs F) (hL : L ≤ 2048) {i : Nat} (hi4 : i + 4 ≤ L) {hi : svH} {hl : svL} {hr : svR} (I : IN hi hl hr) (hk : ∀ hi hl hr, IN hi hl hr → svJ l G room_1 (RL, cL_law, 4, some .boolean, nm) F 182 2476 771 [some (.ref b), some (sv_rf G.1 0), some (sv_rf G.1 164), some (.int (nI i))] [] svSH hi hl hr) : svJ l G room_1 (RL, cL_law, 4, some .boolean, nm) F 182 2476 175 [some (.ref b), some (sv_rf G.1 0), some (sv_rf G.1 164), some (.int (nI i))] [] svSH hi hl hr := by
  obtain ⟨P1, t1, h1⟩ := pr_clear (l := l) (G := G) I 
  refine S_aload_1 (pc := 175) dL_law_175 ?_
  refine caL_18 (pc := 176) t1 sh_0 (Nat.le_of_ble_eq_true rfl) ⟨rfl, rfl, ⟨by decide, by decide⟩, by decide, by decide⟩ dL_law_176 (fun r1 a1 b1 c1 p1 => ?_)
  obtain ⟨P2, t2, h2⟩ := h1 r1 a1 b1 c1 p1
  refine S_aload_2 (pc := 179) dL_law_179 ?_
  refine caL_22 (pc := 180) t2 sh_164 (Nat.le_of_ble_eq_true rfl) ⟨rfl, rfl, ⟨by decide, by decide⟩, by decide, by decide⟩ dL_law_180 (fun r2 a2 b2 c2 p2 => ?_)
  obtain ⟨he, I2⟩ := h2 r2 a2 b2 c2 p2
  exact J_icmp_eq (pc := 183) 771 dL_law_183 (by decide) (fun _ => hk _ _ _ I2) (fun hne => absurd he hne)
set_option maxRecDepth 20000 in
set_option maxHeartbeats 2000000 in
theorem lc_2 {l : Launch} {G : svG} {F : svF} {nm : String} {b L : Nat} {xs : Nat → Int32} (hF : lwT G b L xs F) (hL : L ≤ 2048) {i : Nat} (hi4 : i + 4 ≤ L) {hi : svH} {hl : svL} {hr : svR} (I : IN hi hl hr) (hk : ∀ hi hl hr, IN hi hl hr → svJ l G room_1 (RL, cL_law, 4, some .boolean, nm) F 182 2476 771 [some (.ref b), some (sv_rf G.1 0), some (sv_rf G.1 164), some (.int (nI i))] [] svSH hi hl hr) : svJ l G room_1 (RL, cL_law, 4, some .boolean, nm) F 182 2476 188 [some (.ref b), some (sv_rf G.1 0), some (sv_rf G.1 164), some (.int (nI i))] [] svSH hi hl hr := by
  obtain ⟨P1, t1, h1⟩ := pr_town (l := l) (G := G) I 
  refine S_aload_1 (pc := 188) dL_law_188 ?_
  refine caL_23 (pc := 189) t1 sh_0 (Nat.le_of_ble_eq_true rfl) ⟨rfl, rfl, ⟨by decide, by decide⟩, by decide, by decide⟩ dL_law_189 (fun r1 a1 b1 c1 p1 => ?_)
  obtain ⟨P2, t2, h2⟩ := h1 r1 a1 b1 c1 p1
  refine S_aload_2 (pc := 192) dL_law_192 ?_
  refine caL_26 (pc := 193) t2 sh_164 (Nat.le_of_ble_eq_true rfl) ⟨rfl, rfl, ⟨by decide, by decide⟩, by decide, by decide⟩ dL_law_193 (fun r2 a2 b2 c2 p2 => ?_)
  obtain ⟨he, I2⟩ := h2 r2 a2 b2 c2 p2
  exact J_icmp_eq (pc := 196) 771 dL_law_196 (by decide) (fun _ => hk _ _ _ I2) (fun hne => absurd he hne)
set_option maxRecDepth 20000 in
set_option maxHeartbeats 2000000 in
theorem lc_3 {l : Launch} {G : svG} {F : svF} {nm : String} {b L : Nat} {xs : Nat → Int32} (hF : lwT G b L xs F) (hL : L ≤ 2048) {i : Nat} (hi4 : i + 4 ≤ L) {hi : svH} {hl : svL} {hr : svR} (I : IN hi hl hr) (hk : ∀ hi hl hr, IN hi hl hr → svJ l G room_1 (RL, cL_law, 4, some .boolean, nm) F 182 2476 771 [some (.ref b), some (sv_rf G.1 0), some (sv_rf G.1 164), some (.int (nI i))] [] svSH hi hl hr) : svJ l G room_1 (RL, cL_law, 4, some .boolean, nm) F 182 2476 201 [some (.ref b), some (sv_rf G.1 0), some (sv_rf G.1 164), some (.int (nI i))] [] svSH hi hl hr := by
  obtain ⟨P1, t1, h1⟩ := pr_train (l := l) (G := G) I (xs (nI i + 1).toNatClampNeg) (xs (nI i + 2).toNatClampNeg)
  refine S_aload_1 (pc := 201) dL_law_201 ?_
  refine L_aload_0 (pc := 202) dL_law_202 ?_
  refine S_iload_3 (pc := 203) dL_law_203 ?_
  refine J_iconst (pc := 204) (1) rfl dL_law_204 ?_
  refine J_iadd (pc := 205) dL_law_205 ?_
  refine J_sld (pc := 206) hF (by rw [show (1 : Int32) = nI 1 from rfl, nI_add]; exact vp_in_nI (by omega) (by omega)) dL_law_206 ?_
  refine L_aload_0 (pc := 207) dL_law_207 ?_
  refine S_iload_3 (pc := 208) dL_law_208 ?_
  refine J_iconst (pc := 209) (2) rfl dL_law_209 ?_
  refine J_iadd (pc := 210) dL_law_210 ?_
  refine J_sld (pc := 211) hF (by rw [show (2 : Int32) = nI 2 from rfl, nI_add]; exact vp_in_nI (by omega) (by omega)) dL_law_211 ?_
  refine caL_27 (pc := 212) t1 sh_0 (Nat.le_of_ble_eq_true rfl) ⟨rfl, rfl, ⟨by decide, by decide⟩, by decide, by decide⟩ dL_law_212 (fun r1 a1 b1 c1 p1 => ?_)
  obtain ⟨P2, t2, h2⟩ := h1 r1 a1 b1 c1 p1
  refine S_aload_2 (pc := 215) dL_law_215 ?_
  refine L_aload_0 (pc := 216) dL_law_216 ?_
  refine S_iload_3 (pc := 217) dL_law_217 ?_
  refine J_iconst (pc := 218) (1) rfl dL_law_218 ?_
  refine J_iadd (pc := 219) dL_law_219 ?_
  refine J_sld (pc := 220) hF (by rw [show (1 : Int32) = nI 1 from rfl, nI_add]; exact vp_in_nI (by omega) (by omega)) dL_law_220 ?_
  refine L_aload_0 (pc := 221) dL_law_221 ?_
  refine S_iload_3 (pc := 222) dL_law_222 ?_
  refine J_iconst (pc := 223) (2) rfl dL_law_223 ?_
  refine J_iadd (pc := 224) dL_law_224 ?_
  refine J_sld (pc := 225) hF (by rw [show (2 : Int32) = nI 2 from rfl, nI_add]; exact vp_in_nI (by omega) (by omega)) dL_law_225 ?_
  refine caL_31 (pc := 226) t2 sh_164 (Nat.le_of_ble_eq_true rfl) ⟨rfl, rfl, ⟨by decide, by decide⟩, by decide, by decide⟩ dL_law_226 (fun r2 a2 b2 c2 p2 => ?_)
  obtain ⟨he, I2⟩ := h2 r2 a2 b2 c2 p2
  exact J_icmp_eq (pc := 229) 771 dL_law_229 (by decide) (fun _ => hk _ _ _ I2) (fun hne => absurd he hne)
set_option maxRecDepth 20000 in
set_option maxHeartbeats 2000000 in
theorem lc_4 {l : Launch} {G : svG} {F : svF} {nm : String} {b L : Nat} {xs : Nat → Int32} (hF : lwT G b L xs F) (hL : L ≤ 2048) {i : Nat} (hi4 : i + 4 ≤ L) {hi : svH} {hl : svL} {hr : svR} (I : IN hi hl hr) (hk : ∀ hi hl hr, IN hi hl hr → svJ l G room_1 (RL, cL_law, 4, some .boolean, nm) F 182 2476 771 [some (.ref b), some (sv_rf G.1 0), some (sv_rf G.1 164), some (.int (nI i))] [] svSH hi hl hr) : svJ l G room_1 (RL, cL_law, 4, some .boolean, nm) F 182 2476 234 [some (.ref b), some (sv_rf G.1 0), some (sv_rf G.1 164), some (.int (nI i))] [] svSH hi hl hr := by
  obtain ⟨P1, t1, h1⟩ := pr_group (l := l) (G := G) I (xs (nI i + 1).toNatClampNeg) (xs (nI i + 2).toNatClampNeg)
  refine S_aload_1 (pc := 234) dL_law_234 ?_
  refine L_aload_0 (pc := 235) dL_law_235 ?_
  refine S_iload_3 (pc := 236) dL_law_236 ?_
  refine J_iconst (pc := 237) (1) rfl dL_law_237 ?_
  refine J_iadd (pc := 238) dL_law_238 ?_
  refine J_sld (pc := 239) hF (by rw [show (1 : Int32) = nI 1 from rfl, nI_add]; exact vp_in_nI (by omega) (by omega)) dL_law_239 ?_
  refine L_aload_0 (pc := 240) dL_law_240 ?_
  refine S_iload_3 (pc := 241) dL_law_241 ?_
  refine J_iconst (pc := 242) (2) rfl dL_law_242 ?_
  refine J_iadd (pc := 243) dL_law_243 ?_
  refine J_sld (pc := 244) hF (by rw [show (2 : Int32) = nI 2 from rfl, nI_add]; exact vp_in_nI (by omega) (by omega)) dL_law_244 ?_
  refine caL_32 (pc := 245) t1 sh_0 (Nat.le_of_ble_eq_true rfl) ⟨rfl, rfl, ⟨by decide, by decide⟩, by decide, by decide⟩ dL_law_245 (fun r1 a1 b1 c1 p1 => ?_)
  obtain ⟨P2, t2, h2⟩ := h1 r1 a1 b1 c1 p1
  refine S_aload_2 (pc := 248) dL_law_248 ?_
  refine L_aload_0 (pc := 249) dL_law_249 ?_
  refine S_iload_3 (pc := 250) dL_law_250 ?_
  refine J_iconst (pc := 251) (1) rfl dL_law_251 ?_
  refine J_iadd (pc := 252) dL_law_252 ?_
  refine J_sld (pc := 253) hF (by rw [show (1 : Int32) = nI 1 from rfl, nI_add]; exact vp_in_nI (by omega) (by omega)) dL_law_253 ?_
  refine L_aload_0 (pc := 254) dL_law_254 ?_
  refine S_iload_3 (pc := 255) dL_law_255 ?_
  refine J_iconst (pc := 256) (2) rfl dL_law_256 ?_
  refine J_iadd (pc := 257) dL_law_257 ?_
  refine J_sld (pc := 258) hF (by rw [show (2 : Int32) = nI 2 from rfl, nI_add]; exact vp_in_nI (by omega) (by omega)) dL_law_258 ?_
  refine caL_35 (pc := 259) t2 sh_164 (Nat.le_of_ble_eq_true rfl) ⟨rfl, rfl, ⟨by decide, by decide⟩, by decide, by decide⟩ dL_law_259 (fun r2 a2 b2 c2 p2 => ?_)
  obtain ⟨he, I2⟩ := h2 r2 a2 b2 c2 p2
  exact J_icmp_eq (pc := 262) 771 dL_law_262 (by decide) (fun _ => hk _ _ _ I2) (fun hne => absurd he hne)
set_option maxRecDepth 20000 in
set_option maxHeartbeats 2000000 in
theorem lc_5 {l : Launch} {G : svG} {F : svF} {nm : String} {b L : Nat} {xs : Nat → Int32} (hF : lwT G b L xs F) (hL : L ≤ 2048) {i : Nat} (hi4 : i + 4 ≤ L) {hi : svH} {hl : svL} {hr : svR} (I : IN hi hl hr) (hk : ∀ hi hl hr, IN hi hl hr → svJ l G room_1 (RL, cL_law, 4, some .boolean, nm) F 182 2476 771 [some (.ref b), some (sv_rf G.1 0), some (sv_rf G.1 164), some (.int (nI i))] [] svSH hi hl hr) : svJ l G room_1 (RL, cL_law, 4, some .boolean, nm) F 182 2476 267 [some (.ref b), some (sv_rf G.1 0), some (sv_rf G.1 164), some (.int (nI i))] [] svSH hi hl hr := by
  obtain ⟨P1, t1, h1⟩ := pr_votes (l := l) (G := G) I (xs (nI i + 1).toNatClampNeg) (xs (nI i + 2).toNatClampNeg)
  refine S_aload_1 (pc := 267) dL_law_267 ?_
  refine L_aload_0 (pc := 268) dL_law_268 ?_
  refine S_iload_3 (pc := 269) dL_law_269 ?_
  refine J_iconst (pc := 270) (1) rfl dL_law_270 ?_
  refine J_iadd (pc := 271) dL_law_271 ?_
  refine J_sld (pc := 272) hF (by rw [show (1 : Int32) = nI 1 from rfl, nI_add]; exact vp_in_nI (by omega) (by omega)) dL_law_272 ?_
  refine L_aload_0 (pc := 273) dL_law_273 ?_
  refine S_iload_3 (pc := 274) dL_law_274 ?_
  refine J_iconst (pc := 275) (2) rfl dL_law_275 ?_
  refine J_iadd (pc := 276) dL_law_276 ?_
  refine J_sld (pc := 277) hF (by rw [show (2 : Int32) = nI 2 from rfl, nI_add]; exact vp_in_nI (by omega) (by omega)) dL_law_277 ?_
  refine caL_36 (pc := 278) t1 sh_0 (Nat.le_of_ble_eq_true rfl) ⟨rfl, rfl, ⟨by decide, by decide⟩, by decide, by decide⟩ dL_law_278 (fun r1 a1 b1 c1 p1 => ?_)
  obtain ⟨P2, t2, h2⟩ := h1 r1 a1 b1 c1 p1
  refine S_aload_2 (pc := 281) dL_law_281 ?_
  refine L_aload_0 (pc := 282) dL_law_282 ?_
  refine S_iload_3 (pc := 283) dL_law_283 ?_
  refine J_iconst (pc := 284) (1) rfl dL_law_284 ?_
  refine J_iadd (pc := 285) dL_law_285 ?_
  refine J_sld (pc := 286) hF (by rw [show (1 : Int32) = nI 1 from rfl, nI_add]; exact vp_in_nI (by omega) (by omega)) dL_law_286 ?_
  refine L_aload_0 (pc := 287) dL_law_287 ?_
  refine S_iload_3 (pc := 288) dL_law_288 ?_
  refine J_iconst (pc := 289) (2) rfl dL_law_289 ?_
  refine J_iadd (pc := 290) dL_law_290 ?_
  refine J_sld (pc := 291) hF (by rw [show (2 : Int32) = nI 2 from rfl, nI_add]; exact vp_in_nI (by omega) (by omega)) dL_law_291 ?_
  refine caL_39 (pc := 292) t2 sh_164 (Nat.le_of_ble_eq_true rfl) ⟨rfl, rfl, ⟨by decide, by decide⟩, by decide, by decide⟩ dL_law_292 (fun r2 a2 b2 c2 p2 => ?_)
  obtain ⟨he, I2⟩ := h2 r2 a2 b2 c2 p2
  exact J_icmp_eq (pc := 295) 771 dL_law_295 (by decide) (fun _ => hk _ _ _ I2) (fun hne => absurd he hne)
set_option maxRecDepth 20000 in
set_option maxHeartbeats 2000000 in
theorem lc_6 {l : Launch} {G : svG} {F : svF} {nm : String} {b L : Nat} {xs : Nat → Int32} (hF : lwT G b L xs F) (hL : L ≤ 2048) {i : Nat} (hi4 : i + 4 ≤ L) {hi : svH} {hl : svL} {hr : svR} (I : IN hi hl hr) (hk : ∀ hi hl hr, IN hi hl hr → svJ l G room_1 (RL, cL_law, 4, some .boolean, nm) F 182 2476 771 [some (.ref b), some (sv_rf G.1 0), some (sv_rf G.1 164), some (.int (nI i))] [] svSH hi hl hr) : svJ l G room_1 (RL, cL_law, 4, some .boolean, nm) F 182 2476 300 [some (.ref b), some (sv_rf G.1 0), some (sv_rf G.1 164), some (.int (nI i))] [] svSH hi hl hr := by
  obtain ⟨P1, t1, h1⟩ := pr_hour (l := l) (G := G) I 
  refine S_aload_1 (pc := 300) dL_law_300 ?_
  refine caL_40 (pc := 301) t1 sh_0 (Nat.le_of_ble_eq_true rfl) ⟨rfl, rfl, ⟨by decide, by decide⟩, by decide, by decide⟩ dL_law_301 (fun r1 a1 b1 c1 p1 => ?_)
  obtain ⟨P2, t2, h2⟩ := h1 r1 a1 b1 c1 p1
  refine S_aload_2 (pc := 304) dL_law_304 ?_
  refine caL_43 (pc := 305) t2 sh_164 (Nat.le_of_ble_eq_true rfl) ⟨rfl, rfl, ⟨by decide, by decide⟩, by decide, by decide⟩ dL_law_305 (fun r2 a2 b2 c2 p2 => ?_)
  obtain ⟨he, I2⟩ := h2 r2 a2 b2 c2 p2
  exact J_icmp_eq (pc := 308) 771 dL_law_308 (by decide) (fun _ => hk _ _ _ I2) (fun hne => absurd he hne)
set_option maxRecDepth 20000 in
set_option maxHeartbeats 2000000 in
theorem lc_7 {l : Launch} {G : svG} {F : svF} {nm : String} {b L : Nat} {xs : Nat → Int32} (hF : lwT G b L xs F) (hL : L ≤ 2048) {i : Nat} (hi4 : i + 4 ≤ L) {hi : svH} {hl : svL} {hr : svR} (I : IN hi hl hr) (hk : ∀ hi hl hr, IN hi hl hr → svJ l G room_1 (RL, cL_law, 4, some .boolean, nm) F 182 2476 771 [some (.ref b), some (sv_rf G.1 0), some (sv_rf G.1 164), some (.int (nI i))] [] svSH hi hl hr) : svJ l G room_1 (RL, cL_law, 4, some .boolean, nm) F 182 2476 313 [some (.ref b), some (sv_rf G.1 0), some (sv_rf G.1 164), some (.int (nI i))] [] svSH hi hl hr := by
  obtain ⟨P1, t1, h1⟩ := pr_holds (l := l) (G := G) I (xs (nI i + 1).toNatClampNeg)
  refine S_aload_1 (pc := 313) dL_law_313 ?_
  refine L_aload_0 (pc := 314) dL_law_314 ?_
  refine S_iload_3 (pc := 315) dL_law_315 ?_
  refine J_iconst (pc := 316) (1) rfl dL_law_316 ?_
  refine J_iadd (pc := 317) dL_law_317 ?_
  refine J_sld (pc := 318) hF (by rw [show (1 : Int32) = nI 1 from rfl, nI_add]; exact vp_in_nI (by omega) (by omega)) dL_law_318 ?_
  refine caL_44 (pc := 319) t1 sh_0 (Nat.le_of_ble_eq_true rfl) ⟨rfl, rfl, ⟨by decide, by decide⟩, by decide, by decide⟩ dL_law_319 (fun r1 a1 b1 c1 p1 => ?_)
  obtain ⟨P2, t2, h2⟩ := h1 r1 a1 b1 c1 p1
  refine S_aload_2 (pc := 322) dL_law_322 ?_
  refine L_aload_0 (pc := 323) dL_law_323 ?_
  refine S_iload_3 (pc := 324) dL_law_324 ?_
  refine J_iconst (pc := 325) (1) rfl dL_law_325 ?_
  refine J_iadd (pc := 326) dL_law_326 ?_
  refine J_sld (pc := 327) hF (by rw [show (1 : Int32) = nI 1 from rfl, nI_add]; exact vp_in_nI (by omega) (by omega)) dL_law_327 ?_
  refine caL_47 (pc := 328) t2 sh_164 (Nat.le_of_ble_eq_true rfl) ⟨rfl, rfl, ⟨by decide, by decide⟩, by decide, by decide⟩ dL_law_328 (fun r2 a2 b2 c2 p2 => ?_)
  obtain ⟨he, I2⟩ := h2 r2 a2 b2 c2 p2
  exact J_icmp_eq (pc := 331) 771 dL_law_331 (by decide) (fun _ => hk _ _ _ I2) (fun hne => absurd he hne)
set_option maxRecDepth 20000 in
set_option maxHeartbeats 2000000 in
theorem lc_8 {l : Launch} {G : svG} {F : svF} {nm : String} {b L : Nat} {xs : Nat → Int32} (hF : lwT G b L xs F) (hL : L ≤ 2048) {i : Nat} (hi4 : i + 4 ≤ L) {hi : svH} {hl : svL} {hr : svR} (I : IN hi hl hr) (hk : ∀ hi hl hr, IN hi hl hr → svJ l G room_1 (RL, cL_law, 4, some .boolean, nm) F 182 2476 771 [some (.ref b), some (sv_rf G.1 0), some (sv_rf G.1 164), some (.int (nI i))] [] svSH hi hl hr) : svJ l G room_1 (RL, cL_law, 4, some .boolean, nm) F 182 2476 336 [some (.ref b), some (sv_rf G.1 0), some (sv_rf G.1 164), some (.int (nI i))] [] svSH hi hl hr := by
  obtain ⟨P1, t1, h1⟩ := pr_canvasses (l := l) (G := G) I (xs (nI i + 1).toNatClampNeg) (xs (nI i + 2).toNatClampNeg)
  refine S_aload_1 (pc := 336) dL_law_336 ?_
  refine L_aload_0 (pc := 337) dL_law_337 ?_
  refine S_iload_3 (pc := 338) dL_law_338 ?_
  refine J_iconst (pc := 339) (1) rfl dL_law_339 ?_
  refine J_iadd (pc := 340) dL_law_340 ?_
  refine J_sld (pc := 341) hF (by rw [show (1 : Int32) = nI 1 from rfl, nI_add]; exact vp_in_nI (by omega) (by omega)) dL_law_341 ?_
  refine L_aload_0 (pc := 342) dL_law_342 ?_
  refine S_iload_3 (pc := 343) dL_law_343 ?_
  refine J_iconst (pc := 344) (2) rfl dL_law_344 ?_
  refine J_iadd (pc := 345) dL_law_345 ?_
  refine J_sld (pc := 346) hF (by rw [show (2 : Int32) = nI 2 from rfl, nI_add]; exact vp_in_nI (by omega) (by omega)) dL_law_346 ?_
  refine caL_48 (pc := 347) t1 sh_0 (Nat.le_of_ble_eq_true rfl) ⟨rfl, rfl, ⟨by decide, by decide⟩, by decide, by decide⟩ dL_law_347 (fun r1 a1 b1 c1 p1 => ?_)
  obtain ⟨P2, t2, h2⟩ := h1 r1 a1 b1 c1 p1
  refine S_aload_2 (pc := 350) dL_law_350 ?_
  refine L_aload_0 (pc := 351) dL_law_351 ?_
  refine S_iload_3 (pc := 352) dL_law_352 ?_
  refine J_iconst (pc := 353) (1) rfl dL_law_353 ?_
  refine J_iadd (pc := 354) dL_law_354 ?_
  refine J_sld (pc := 355) hF (by rw [show (1 : Int32) = nI 1 from rfl, nI_add]; exact vp_in_nI (by omega) (by omega)) dL_law_355 ?_
  refine L_aload_0 (pc := 356) dL_law_356 ?_
  refine S_iload_3 (pc := 357) dL_law_357 ?_
  refine J_iconst (pc := 358) (2) rfl dL_law_358 ?_
  refine J_iadd (pc := 359) dL_law_359 ?_
  refine J_sld (pc := 360) hF (by rw [show (2 : Int32) = nI 2 from rfl, nI_add]; exact vp_in_nI (by omega) (by omega)) dL_law_360 ?_
  refine caL_51 (pc := 361) t2 sh_164 (Nat.le_of_ble_eq_true rfl) ⟨rfl, rfl, ⟨by decide, by decide⟩, by decide, by decide⟩ dL_law_361 (fun r2 a2 b2 c2 p2 => ?_)
  obtain ⟨he, I2⟩ := h2 r2 a2 b2 c2 p2
  exact J_icmp_eq (pc := 364) 771 dL_law_364 (by decide) (fun _ => hk _ _ _ I2) (fun hne => absurd he hne)
set_option maxRecDepth 20000 in
set_option maxHeartbeats 2000000 in
theorem lc_9 {l : Launch} {G : svG} {F : svF} {nm : String} {b L : Nat} {xs : Nat → Int32} (hF : lwT G b L xs F) (hL : L ≤ 2048) {i : Nat} (hi4 : i + 4 ≤ L) {hi : svH} {hl : svL} {hr : svR} (I : IN hi hl hr) (hk : ∀ hi hl hr, IN hi hl hr → svJ l G room_1 (RL, cL_law, 4, some .boolean, nm) F 182 2476 771 [some (.ref b), some (sv_rf G.1 0), some (sv_rf G.1 164), some (.int (nI i))] [] svSH hi hl hr) : svJ l G room_1 (RL, cL_law, 4, some .boolean, nm) F 182 2476 369 [some (.ref b), some (sv_rf G.1 0), some (sv_rf G.1 164), some (.int (nI i))] [] svSH hi hl hr := by
  obtain ⟨P1, t1, h1⟩ := pr_fog (l := l) (G := G) I (xs (nI i + 1).toNatClampNeg)
  refine S_aload_1 (pc := 369) dL_law_369 ?_
  refine L_aload_0 (pc := 370) dL_law_370 ?_
  refine S_iload_3 (pc := 371) dL_law_371 ?_
  refine J_iconst (pc := 372) (1) rfl dL_law_372 ?_
  refine J_iadd (pc := 373) dL_law_373 ?_
  refine J_sld (pc := 374) hF (by rw [show (1 : Int32) = nI 1 from rfl, nI_add]; exact vp_in_nI (by omega) (by omega)) dL_law_374 ?_
  refine caL_52 (pc := 375) t1 sh_0 (Nat.le_of_ble_eq_true rfl) ⟨rfl, rfl, ⟨by decide, by decide⟩, by decide, by decide⟩ dL_law_375 (fun r1 a1 b1 c1 p1 => ?_)
  obtain ⟨P2, t2, h2⟩ := h1 r1 a1 b1 c1 p1
  refine S_aload_2 (pc := 378) dL_law_378 ?_
  refine L_aload_0 (pc := 379) dL_law_379 ?_
  refine S_iload_3 (pc := 380) dL_law_380 ?_
  refine J_iconst (pc := 381) (1) rfl dL_law_381 ?_
  refine J_iadd (pc := 382) dL_law_382 ?_
  refine J_sld (pc := 383) hF (by rw [show (1 : Int32) = nI 1 from rfl, nI_add]; exact vp_in_nI (by omega) (by omega)) dL_law_383 ?_
  refine caL_55 (pc := 384) t2 sh_164 (Nat.le_of_ble_eq_true rfl) ⟨rfl, rfl, ⟨by decide, by decide⟩, by decide, by decide⟩ dL_law_384 (fun r2 a2 b2 c2 p2 => ?_)
  obtain ⟨he, I2⟩ := h2 r2 a2 b2 c2 p2
  exact J_icmp_eq (pc := 387) 771 dL_law_387 (by decide) (fun _ => hk _ _ _ I2) (fun hne => absurd he hne)
set_option maxRecDepth 20000 in
set_option maxHeartbeats 2000000 in
theorem lc_10 {l : Launch} {G : svG} {F : svF} {nm : String} {b L : Nat} {xs : Nat → Int32} (hF : lwT G b L xs F) (hL : L ≤ 2048) {i : Nat} (hi4 : i + 4 ≤ L) {hi : svH} {hl : svL} {hr : svR} (I : IN hi hl hr) (hk : ∀ hi hl hr, IN hi hl hr → svJ l G room_1 (RL, cL_law, 4, some .boolean, nm) F 182 2476 771 [some (.ref b), some (sv_rf G.1 0), some (sv_rf G.1 164), some (.int (nI i))] [] svSH hi hl hr) : svJ l G room_1 (RL, cL_law, 4, some .boolean, nm) F 182 2476 392 [some (.ref b), some (sv_rf G.1 0), some (sv_rf G.1 164), some (.int (nI i))] [] svSH hi hl hr := by
  obtain ⟨P1, t1, h1⟩ := pr_rugs (l := l) (G := G) I (xs (nI i + 1).toNatClampNeg)
  refine S_aload_1 (pc := 392) dL_law_392 ?_
  refine L_aload_0 (pc := 393) dL_law_393 ?_
  refine S_iload_3 (pc := 394) dL_law_394 ?_
  refine J_iconst (pc := 395) (1) rfl dL_law_395 ?_
  refine J_iadd (pc := 396) dL_law_396 ?_
  refine J_sld (pc := 397) hF (by rw [show (1 : Int32) = nI 1 from rfl, nI_add]; exact vp_in_nI (by omega) (by omega)) dL_law_397 ?_
  refine caL_56 (pc := 398) t1 sh_0 (Nat.le_of_ble_eq_true rfl) ⟨rfl, rfl, ⟨by decide, by decide⟩, by decide, by decide⟩ dL_law_398 (fun r1 a1 b1 c1 p1 => ?_)
  obtain ⟨P2, t2, h2⟩ := h1 r1 a1 b1 c1 p1
  refine S_aload_2 (pc := 401) dL_law_401 ?_
  refine L_aload_0 (pc := 402) dL_law_402 ?_
  refine S_iload_3 (pc := 403) dL_law_403 ?_
  refine J_iconst (pc := 404) (1) rfl dL_law_404 ?_
  refine J_iadd (pc := 405) dL_law_405 ?_
  refine J_sld (pc := 406) hF (by rw [show (1 : Int32) = nI 1 from rfl, nI_add]; exact vp_in_nI (by omega) (by omega)) dL_law_406 ?_
  refine caL_59 (pc := 407) t2 sh_164 (Nat.le_of_ble_eq_true rfl) ⟨rfl, rfl, ⟨by decide, by decide⟩, by decide, by decide⟩ dL_law_407 (fun r2 a2 b2 c2 p2 => ?_)
  obtain ⟨he, I2⟩ := h2 r2 a2 b2 c2 p2
  exact J_icmp_eq (pc := 410) 771 dL_law_410 (by decide) (fun _ => hk _ _ _ I2) (fun hne => absurd he hne)
set_option maxRecDepth 20000 in
set_option maxHeartbeats 2000000 in
theorem lc_11 {l : Launch} {G : svG} {F : svF} {nm : String} {b L : Nat} {xs : Nat → Int32} (hF : lwT G b L xs F) (hL : L ≤ 2048) {i : Nat} (hi4 : i + 4 ≤ L) {hi : svH} {hl : svL} {hr : svR} (I : IN hi hl hr) (hk : ∀ hi hl hr, IN hi hl hr → svJ l G room_1 (RL, cL_law, 4, some .boolean, nm) F 182 2476 771 [some (.ref b), some (sv_rf G.1 0), some (sv_rf G.1 164), some (.int (nI i))] [] svSH hi hl hr) : svJ l G room_1 (RL, cL_law, 4, some .boolean, nm) F 182 2476 415 [some (.ref b), some (sv_rf G.1 0), some (sv_rf G.1 164), some (.int (nI i))] [] svSH hi hl hr := by
  obtain ⟨P1, t1, h1⟩ := pr_undo (l := l) (G := G) I 
  refine S_aload_1 (pc := 415) dL_law_415 ?_
  refine caL_60 (pc := 416) t1 sh_0 (Nat.le_of_ble_eq_true rfl) ⟨rfl, rfl, ⟨by decide, by decide⟩, by decide, by decide⟩ dL_law_416 (fun r1 a1 b1 c1 p1 => ?_)
  obtain ⟨P2, t2, h2⟩ := h1 r1 a1 b1 c1 p1
  refine S_aload_2 (pc := 419) dL_law_419 ?_
  refine caL_63 (pc := 420) t2 sh_164 (Nat.le_of_ble_eq_true rfl) ⟨rfl, rfl, ⟨by decide, by decide⟩, by decide, by decide⟩ dL_law_420 (fun r2 a2 b2 c2 p2 => ?_)
  obtain ⟨he, I2⟩ := h2 r2 a2 b2 c2 p2
  exact J_icmp_eq (pc := 423) 771 dL_law_423 (by decide) (fun _ => hk _ _ _ I2) (fun hne => absurd he hne)
set_option maxRecDepth 20000 in
set_option maxHeartbeats 2000000 in
theorem lc_12 {l : Launch} {G : svG} {F : svF} {nm : String} {b L : Nat} {xs : Nat → Int32} (hF : lwT G b L xs F) (hL : L ≤ 2048) {i : Nat} (hi4 : i + 4 ≤ L) {hi : svH} {hl : svL} {hr : svR} (I : IN hi hl hr) (hk : ∀ hi hl hr, IN hi hl hr → svJ l G room_1 (RL, cL_law, 4, some .boolean, nm) F 182 2476 771 [some (.ref b), some (sv_rf G.1 0), some (sv_rf G.1 164), some (.int (nI i))] [] svSH hi hl hr) : svJ l G room_1 (RL, cL_law, 4, some .boolean, nm) F 182 2476 428 [some (.ref b), some (sv_rf G.1 0), some (sv_rf G.1 164), some (.int (nI i))] [] svSH hi hl hr := by
  obtain ⟨P1, t1, h1⟩ := pr_now (l := l) (G := G) I (xs (nI i + 1).toNatClampNeg)
  refine S_aload_1 (pc := 428) dL_law_428 ?_
  refine L_aload_0 (pc := 429) dL_law_429 ?_
  refine S_iload_3 (pc := 430) dL_law_430 ?_
  refine J_iconst (pc := 431) (1) rfl dL_law_431 ?_
  refine J_iadd (pc := 432) dL_law_432 ?_
  refine J_sld (pc := 433) hF (by rw [show (1 : Int32) = nI 1 from rfl, nI_add]; exact vp_in_nI (by omega) (by omega)) dL_law_433 ?_
  refine caL_64 (pc := 434) t1 sh_0 (Nat.le_of_ble_eq_true rfl) ⟨rfl, rfl, ⟨by decide, by decide⟩, by decide, by decide⟩ dL_law_434 (fun r1 a1 b1 c1 p1 => ?_)
  obtain ⟨P2, t2, h2⟩ := h1 r1 a1 b1 c1 p1
  refine S_aload_2 (pc := 437) dL_law_437 ?_
  refine L_aload_0 (pc := 438) dL_law_438 ?_
  refine S_iload_3 (pc := 439) dL_law_439 ?_
  refine J_iconst (pc := 440) (1) rfl dL_law_440 ?_
  refine J_iadd (pc := 441) dL_law_441 ?_
  refine J_sld (pc := 442) hF (by rw [show (1 : Int32) = nI 1 from rfl, nI_add]; exact vp_in_nI (by omega) (by omega)) dL_law_442 ?_
  refine caL_67 (pc := 443) t2 sh_164 (Nat.le_of_ble_eq_true rfl) ⟨rfl, rfl, ⟨by decide, by decide⟩, by decide, by decide⟩ dL_law_443 (fun r2 a2 b2 c2 p2 => ?_)
  obtain ⟨he, I2⟩ := h2 r2 a2 b2 c2 p2
  exact J_icmp_eq (pc := 446) 771 dL_law_446 (by decide) (fun _ => hk _ _ _ I2) (fun hne => absurd he hne)
set_option maxRecDepth 20000 in
set_option maxHeartbeats 2000000 in
theorem lc_13 {l : Launch} {G : svG} {F : svF} {nm : String} {b L : Nat} {xs : Nat → Int32} (hF : lwT G b L xs F) (hL : L ≤ 2048) {i : Nat} (hi4 : i + 4 ≤ L) {hi : svH} {hl : svL} {hr : svR} (I : IN hi hl hr) (hk : ∀ hi hl hr, IN hi hl hr → svJ l G room_1 (RL, cL_law, 4, some .boolean, nm) F 182 2476 771 [some (.ref b), some (sv_rf G.1 0), some (sv_rf G.1 164), some (.int (nI i))] [] svSH hi hl hr) : svJ l G room_1 (RL, cL_law, 4, some .boolean, nm) F 182 2476 451 [some (.ref b), some (sv_rf G.1 0), some (sv_rf G.1 164), some (.int (nI i))] [] svSH hi hl hr := by
  obtain ⟨P1, t1, h1⟩ := pr_plan (l := l) (G := G) I (xs (nI i + 1).toNatClampNeg) (xs (nI i + 2).toNatClampNeg)
  refine S_aload_1 (pc := 451) dL_law_451 ?_
  refine L_aload_0 (pc := 452) dL_law_452 ?_
  refine S_iload_3 (pc := 453) dL_law_453 ?_
  refine J_iconst (pc := 454) (1) rfl dL_law_454 ?_
  refine J_iadd (pc := 455) dL_law_455 ?_
  refine J_sld (pc := 456) hF (by rw [show (1 : Int32) = nI 1 from rfl, nI_add]; exact vp_in_nI (by omega) (by omega)) dL_law_456 ?_
  refine L_aload_0 (pc := 457) dL_law_457 ?_
  refine S_iload_3 (pc := 458) dL_law_458 ?_
  refine J_iconst (pc := 459) (2) rfl dL_law_459 ?_
  refine J_iadd (pc := 460) dL_law_460 ?_
  refine J_sld (pc := 461) hF (by rw [show (2 : Int32) = nI 2 from rfl, nI_add]; exact vp_in_nI (by omega) (by omega)) dL_law_461 ?_
  refine caL_68 (pc := 462) t1 sh_0 (Nat.le_of_ble_eq_true rfl) ⟨rfl, rfl, ⟨by decide, by decide⟩, by decide, by decide⟩ dL_law_462 (fun r1 a1 b1 c1 p1 => ?_)
  obtain ⟨P2, t2, h2⟩ := h1 r1 a1 b1 c1 p1
  refine S_aload_2 (pc := 465) dL_law_465 ?_
  refine L_aload_0 (pc := 466) dL_law_466 ?_
  refine S_iload_3 (pc := 467) dL_law_467 ?_
  refine J_iconst (pc := 468) (1) rfl dL_law_468 ?_
  refine J_iadd (pc := 469) dL_law_469 ?_
  refine J_sld (pc := 470) hF (by rw [show (1 : Int32) = nI 1 from rfl, nI_add]; exact vp_in_nI (by omega) (by omega)) dL_law_470 ?_
  refine L_aload_0 (pc := 471) dL_law_471 ?_
  refine S_iload_3 (pc := 472) dL_law_472 ?_
  refine J_iconst (pc := 473) (2) rfl dL_law_473 ?_
  refine J_iadd (pc := 474) dL_law_474 ?_
  refine J_sld (pc := 475) hF (by rw [show (2 : Int32) = nI 2 from rfl, nI_add]; exact vp_in_nI (by omega) (by omega)) dL_law_475 ?_
  refine caL_71 (pc := 476) t2 sh_164 (Nat.le_of_ble_eq_true rfl) ⟨rfl, rfl, ⟨by decide, by decide⟩, by decide, by decide⟩ dL_law_476 (fun r2 a2 b2 c2 p2 => ?_)
  obtain ⟨he, I2⟩ := h2 r2 a2 b2 c2 p2
  exact J_icmp_eq (pc := 479) 771 dL_law_479 (by decide) (fun _ => hk _ _ _ I2) (fun hne => absurd he hne)
set_option maxRecDepth 20000 in
set_option maxHeartbeats 2000000 in
theorem lc_14 {l : Launch} {G : svG} {F : svF} {nm : String} {b L : Nat} {xs : Nat → Int32} (hF : lwT G b L xs F) (hL : L ≤ 2048) {i : Nat} (hi4 : i + 4 ≤ L) {hi : svH} {hl : svL} {hr : svR} (I : IN hi hl hr) (hk : ∀ hi hl hr, IN hi hl hr → svJ l G room_1 (RL, cL_law, 4, some .boolean, nm) F 182 2476 771 [some (.ref b), some (sv_rf G.1 0), some (sv_rf G.1 164), some (.int (nI i))] [] svSH hi hl hr) : svJ l G room_1 (RL, cL_law, 4, some .boolean, nm) F 182 2476 484 [some (.ref b), some (sv_rf G.1 0), some (sv_rf G.1 164), some (.int (nI i))] [] svSH hi hl hr := by
  obtain ⟨P1, t1, h1⟩ := pr_power (l := l) (G := G) I (xs (nI i + 1).toNatClampNeg)
  refine S_aload_1 (pc := 484) dL_law_484 ?_
  refine L_aload_0 (pc := 485) dL_law_485 ?_
  refine S_iload_3 (pc := 486) dL_law_486 ?_
  refine J_iconst (pc := 487) (1) rfl dL_law_487 ?_
  refine J_iadd (pc := 488) dL_law_488 ?_
  refine J_sld (pc := 489) hF (by rw [show (1 : Int32) = nI 1 from rfl, nI_add]; exact vp_in_nI (by omega) (by omega)) dL_law_489 ?_
  refine caL_72 (pc := 490) t1 sh_0 (Nat.le_of_ble_eq_true rfl) ⟨rfl, rfl, ⟨by decide, by decide⟩, by decide, by decide⟩ dL_law_490 (fun r1 a1 b1 c1 p1 => ?_)
  obtain ⟨P2, t2, h2⟩ := h1 r1 a1 b1 c1 p1
  refine S_aload_2 (pc := 493) dL_law_493 ?_
  refine L_aload_0 (pc := 494) dL_law_494 ?_
  refine S_iload_3 (pc := 495) dL_law_495 ?_
  refine J_iconst (pc := 496) (1) rfl dL_law_496 ?_
  refine J_iadd (pc := 497) dL_law_497 ?_
  refine J_sld (pc := 498) hF (by rw [show (1 : Int32) = nI 1 from rfl, nI_add]; exact vp_in_nI (by omega) (by omega)) dL_law_498 ?_
  refine caL_75 (pc := 499) t2 sh_164 (Nat.le_of_ble_eq_true rfl) ⟨rfl, rfl, ⟨by decide, by decide⟩, by decide, by decide⟩ dL_law_499 (fun r2 a2 b2 c2 p2 => ?_)
  obtain ⟨he, I2⟩ := h2 r2 a2 b2 c2 p2
  exact J_icmp_eq (pc := 502) 771 dL_law_502 (by decide) (fun _ => hk _ _ _ I2) (fun hne => absurd he hne)
set_option maxRecDepth 20000 in
set_option maxHeartbeats 2000000 in
theorem lc_15 {l : Launch} {G : svG} {F : svF} {nm : String} {b L : Nat} {xs : Nat → Int32} (hF : lwT G b L xs F) (hL : L ≤ 2048) {i : Nat} (hi4 : i + 4 ≤ L) {hi : svH} {hl : svL} {hr : svR} (I : IN hi hl hr) (hk : ∀ hi hl hr, IN hi hl hr → svJ l G room_1 (RL, cL_law, 4, some .boolean, nm) F 182 2476 771 [some (.ref b), some (sv_rf G.1 0), some (sv_rf G.1 164), some (.int (nI i))] [] svSH hi hl hr) : svJ l G room_1 (RL, cL_law, 4, some .boolean, nm) F 182 2476 507 [some (.ref b), some (sv_rf G.1 0), some (sv_rf G.1 164), some (.int (nI i))] [] svSH hi hl hr := by
  obtain ⟨P1, t1, h1⟩ := pr_laws (l := l) (G := G) I (xs (nI i + 1).toNatClampNeg)
  refine S_aload_1 (pc := 507) dL_law_507 ?_
  refine L_aload_0 (pc := 508) dL_law_508 ?_
  refine S_iload_3 (pc := 509) dL_law_509 ?_
  refine J_iconst (pc := 510) (1) rfl dL_law_510 ?_
  refine J_iadd (pc := 511) dL_law_511 ?_
  refine J_sld (pc := 512) hF (by rw [show (1 : Int32) = nI 1 from rfl, nI_add]; exact vp_in_nI (by omega) (by omega)) dL_law_512 ?_
  refine caL_76 (pc := 513) t1 sh_0 (Nat.le_of_ble_eq_true rfl) ⟨rfl, rfl, ⟨by decide, by decide⟩, by decide, by decide⟩ dL_law_513 (fun r1 a1 b1 c1 p1 => ?_)
  obtain ⟨P2, t2, h2⟩ := h1 r1 a1 b1 c1 p1
  refine S_aload_2 (pc := 516) dL_law_516 ?_
  refine L_aload_0 (pc := 517) dL_law_517 ?_
  refine S_iload_3 (pc := 518) dL_law_518 ?_
  refine J_iconst (pc := 519) (1) rfl dL_law_519 ?_
  refine J_iadd (pc := 520) dL_law_520 ?_
  refine J_sld (pc := 521) hF (by rw [show (1 : Int32) = nI 1 from rfl, nI_add]; exact vp_in_nI (by omega) (by omega)) dL_law_521 ?_
  refine caL_79 (pc := 522) t2 sh_164 (Nat.le_of_ble_eq_true rfl) ⟨rfl, rfl, ⟨by decide, by decide⟩, by decide, by decide⟩ dL_law_522 (fun r2 a2 b2 c2 p2 => ?_)
  obtain ⟨he, I2⟩ := h2 r2 a2 b2 c2 p2
  exact J_icmp_eq (pc := 525) 771 dL_law_525 (by decide) (fun _ => hk _ _ _ I2) (fun hne => absurd he hne)
set_option maxRecDepth 20000 in
set_option maxHeartbeats 2000000 in
theorem lc_16 {l : Launch} {G : svG} {F : svF} {nm : String} {b L : Nat} {xs : Nat → Int32} (hF : lwT G b L xs F) (hL : L ≤ 2048) {i : Nat} (hi4 : i + 4 ≤ L) {hi : svH} {hl : svL} {hr : svR} (I : IN hi hl hr) (hk : ∀ hi hl hr, IN hi hl hr → svJ l G room_1 (RL, cL_law, 4, some .boolean, nm) F 182 2476 771 [some (.ref b), some (sv_rf G.1 0), some (sv_rf G.1 164), some (.int (nI i))] [] svSH hi hl hr) : svJ l G room_1 (RL, cL_law, 4, some .boolean, nm) F 182 2476 530 [some (.ref b), some (sv_rf G.1 0), some (sv_rf G.1 164), some (.int (nI i))] [] svSH hi hl hr := by
  obtain ⟨P1, t1, h1⟩ := pr_odds (l := l) (G := G) I (xs (nI i + 1).toNatClampNeg) (xs (nI i + 2).toNatClampNeg) (xs (nI i + 3).toNatClampNeg)
  refine S_aload_1 (pc := 530) dL_law_530 ?_
  refine L_aload_0 (pc := 531) dL_law_531 ?_
  refine S_iload_3 (pc := 532) dL_law_532 ?_
  refine J_iconst (pc := 533) (1) rfl dL_law_533 ?_
  refine J_iadd (pc := 534) dL_law_534 ?_
  refine J_sld (pc := 535) hF (by rw [show (1 : Int32) = nI 1 from rfl, nI_add]; exact vp_in_nI (by omega) (by omega)) dL_law_535 ?_
  refine L_aload_0 (pc := 536) dL_law_536 ?_
  refine S_iload_3 (pc := 537) dL_law_537 ?_
  refine J_iconst (pc := 538) (2) rfl dL_law_538 ?_
  refine J_iadd (pc := 539) dL_law_539 ?_
  refine J_sld (pc := 540) hF (by rw [show (2 : Int32) = nI 2 from rfl, nI_add]; exact vp_in_nI (by omega) (by omega)) dL_law_540 ?_
  refine L_aload_0 (pc := 541) dL_law_541 ?_
  refine S_iload_3 (pc := 542) dL_law_542 ?_
  refine J_iconst (pc := 543) (3) rfl dL_law_543 ?_
  refine J_iadd (pc := 544) dL_law_544 ?_
  refine J_sld (pc := 545) hF (by rw [show (3 : Int32) = nI 3 from rfl, nI_add]; exact vp_in_nI (by omega) (by omega)) dL_law_545 ?_
  refine caL_80 (pc := 546) t1 sh_0 (Nat.le_of_ble_eq_true rfl) ⟨rfl, rfl, ⟨by decide, by decide⟩, by decide, by decide⟩ dL_law_546 (fun r1 a1 b1 c1 p1 => ?_)
  obtain ⟨P2, t2, h2⟩ := h1 r1 a1 b1 c1 p1
  refine S_aload_2 (pc := 549) dL_law_549 ?_
  refine L_aload_0 (pc := 550) dL_law_550 ?_
  refine S_iload_3 (pc := 551) dL_law_551 ?_
  refine J_iconst (pc := 552) (1) rfl dL_law_552 ?_
  refine J_iadd (pc := 553) dL_law_553 ?_
  refine J_sld (pc := 554) hF (by rw [show (1 : Int32) = nI 1 from rfl, nI_add]; exact vp_in_nI (by omega) (by omega)) dL_law_554 ?_
  refine L_aload_0 (pc := 555) dL_law_555 ?_
  refine S_iload_3 (pc := 556) dL_law_556 ?_
  refine J_iconst (pc := 557) (2) rfl dL_law_557 ?_
  refine J_iadd (pc := 558) dL_law_558 ?_
  refine J_sld (pc := 559) hF (by rw [show (2 : Int32) = nI 2 from rfl, nI_add]; exact vp_in_nI (by omega) (by omega)) dL_law_559 ?_
  refine L_aload_0 (pc := 560) dL_law_560 ?_
  refine S_iload_3 (pc := 561) dL_law_561 ?_
  refine J_iconst (pc := 562) (3) rfl dL_law_562 ?_
  refine J_iadd (pc := 563) dL_law_563 ?_
  refine J_sld (pc := 564) hF (by rw [show (3 : Int32) = nI 3 from rfl, nI_add]; exact vp_in_nI (by omega) (by omega)) dL_law_564 ?_
  refine caL_84 (pc := 565) t2 sh_164 (Nat.le_of_ble_eq_true rfl) ⟨rfl, rfl, ⟨by decide, by decide⟩, by decide, by decide⟩ dL_law_565 (fun r2 a2 b2 c2 p2 => ?_)
  obtain ⟨he, I2⟩ := h2 r2 a2 b2 c2 p2
  exact J_icmp_eq (pc := 568) 771 dL_law_568 (by decide) (fun _ => hk _ _ _ I2) (fun hne => absurd he hne)
set_option maxRecDepth 20000 in
set_option maxHeartbeats 2000000 in
theorem lc_17 {l : Launch} {G : svG} {F : svF} {nm : String} {b L : Nat} {xs : Nat → Int32} (hF : lwT G b L xs F) (hL : L ≤ 2048) {i : Nat} (hi4 : i + 4 ≤ L) {hi : svH} {hl : svL} {hr : svR} (I : IN hi hl hr) (hk : ∀ hi hl hr, IN hi hl hr → svJ l G room_1 (RL, cL_law, 4, some .boolean, nm) F 182 2476 771 [some (.ref b), some (sv_rf G.1 0), some (sv_rf G.1 164), some (.int (nI i))] [] svSH hi hl hr) : svJ l G room_1 (RL, cL_law, 4, some .boolean, nm) F 182 2476 573 [some (.ref b), some (sv_rf G.1 0), some (sv_rf G.1 164), some (.int (nI i))] [] svSH hi hl hr := by
  obtain ⟨P1, t1, h1⟩ := pr_hears (l := l) (G := G) I (xs (nI i + 1).toNatClampNeg) (xs (nI i + 2).toNatClampNeg)
  refine S_aload_1 (pc := 573) dL_law_573 ?_
  refine L_aload_0 (pc := 574) dL_law_574 ?_
  refine S_iload_3 (pc := 575) dL_law_575 ?_
  refine J_iconst (pc := 576) (1) rfl dL_law_576 ?_
  refine J_iadd (pc := 577) dL_law_577 ?_
  refine J_sld (pc := 578) hF (by rw [show (1 : Int32) = nI 1 from rfl, nI_add]; exact vp_in_nI (by omega) (by omega)) dL_law_578 ?_
  refine L_aload_0 (pc := 579) dL_law_579 ?_
  refine S_iload_3 (pc := 580) dL_law_580 ?_
  refine J_iconst (pc := 581) (2) rfl dL_law_581 ?_
  refine J_iadd (pc := 582) dL_law_582 ?_
  refine J_sld (pc := 583) hF (by rw [show (2 : Int32) = nI 2 from rfl, nI_add]; exact vp_in_nI (by omega) (by omega)) dL_law_583 ?_
  refine caL_85 (pc := 584) t1 sh_0 (Nat.le_of_ble_eq_true rfl) ⟨rfl, rfl, ⟨by decide, by decide⟩, by decide, by decide⟩ dL_law_584 (fun r1 a1 b1 c1 p1 => ?_)
  obtain ⟨P2, t2, h2⟩ := h1 r1 a1 b1 c1 p1
  refine S_aload_2 (pc := 587) dL_law_587 ?_
  refine L_aload_0 (pc := 588) dL_law_588 ?_
  refine S_iload_3 (pc := 589) dL_law_589 ?_
  refine J_iconst (pc := 590) (1) rfl dL_law_590 ?_
  refine J_iadd (pc := 591) dL_law_591 ?_
  refine J_sld (pc := 592) hF (by rw [show (1 : Int32) = nI 1 from rfl, nI_add]; exact vp_in_nI (by omega) (by omega)) dL_law_592 ?_
  refine L_aload_0 (pc := 593) dL_law_593 ?_
  refine S_iload_3 (pc := 594) dL_law_594 ?_
  refine J_iconst (pc := 595) (2) rfl dL_law_595 ?_
  refine J_iadd (pc := 596) dL_law_596 ?_
  refine J_sld (pc := 597) hF (by rw [show (2 : Int32) = nI 2 from rfl, nI_add]; exact vp_in_nI (by omega) (by omega)) dL_law_597 ?_
  refine caL_88 (pc := 598) t2 sh_164 (Nat.le_of_ble_eq_true rfl) ⟨rfl, rfl, ⟨by decide, by decide⟩, by decide, by decide⟩ dL_law_598 (fun r2 a2 b2 c2 p2 => ?_)
  obtain ⟨he, I2⟩ := h2 r2 a2 b2 c2 p2
  exact J_icmp_eq (pc := 601) 771 dL_law_601 (by decide) (fun _ => hk _ _ _ I2) (fun hne => absurd he hne)
set_option maxRecDepth 20000 in
set_option maxHeartbeats 2000000 in
theorem lc_18 {l : Launch} {G : svG} {F : svF} {nm : String} {b L : Nat} {xs : Nat → Int32} (hF : lwT G b L xs F) (hL : L ≤ 2048) {i : Nat} (hi4 : i + 4 ≤ L) {hi : svH} {hl : svL} {hr : svR} (I : IN hi hl hr) (hk : ∀ hi hl hr, IN hi hl hr → svJ l G room_1 (RL, cL_law, 4, some .boolean, nm) F 182 2476 771 [some (.ref b), some (sv_rf G.1 0), some (sv_rf G.1 164), some (.int (nI i))] [] svSH hi hl hr) : svJ l G room_1 (RL, cL_law, 4, some .boolean, nm) F 182 2476 606 [some (.ref b), some (sv_rf G.1 0), some (sv_rf G.1 164), some (.int (nI i))] [] svSH hi hl hr := by
  obtain ⟨P1, t1, h1⟩ := pr_forget (l := l) (G := G) I 
  refine S_aload_1 (pc := 606) dL_law_606 ?_
  refine caL_89 (pc := 607) t1 sh_0 (Nat.le_of_ble_eq_true rfl) ⟨rfl, rfl, ⟨by decide, by decide⟩, by decide, by decide⟩ dL_law_607 (fun r1 a1 b1 c1 p1 => ?_)
  obtain ⟨P2, t2, h2⟩ := h1 r1 a1 b1 c1 p1
  refine S_aload_2 (pc := 610) dL_law_610 ?_
  refine caL_92 (pc := 611) t2 sh_164 (Nat.le_of_ble_eq_true rfl) ⟨rfl, rfl, ⟨by decide, by decide⟩, by decide, by decide⟩ dL_law_611 (fun r2 a2 b2 c2 p2 => ?_)
  obtain ⟨he, I2⟩ := h2 r2 a2 b2 c2 p2
  exact J_icmp_eq (pc := 614) 771 dL_law_614 (by decide) (fun _ => hk _ _ _ I2) (fun hne => absurd he hne)
set_option maxRecDepth 20000 in
set_option maxHeartbeats 2000000 in
theorem lc_19 {l : Launch} {G : svG} {F : svF} {nm : String} {b L : Nat} {xs : Nat → Int32} (hF : lwT G b L xs F) (hL : L ≤ 2048) {i : Nat} (hi4 : i + 4 ≤ L) {hi : svH} {hl : svL} {hr : svR} (I : IN hi hl hr) (hk : ∀ hi hl hr, IN hi hl hr → svJ l G room_1 (RL, cL_law, 4, some .boolean, nm) F 182 2476 771 [some (.ref b), some (sv_rf G.1 0), some (sv_rf G.1 164), some (.int (nI i))] [] svSH hi hl hr) : svJ l G room_1 (RL, cL_law, 4, some .boolean, nm) F 182 2476 619 [some (.ref b), some (sv_rf G.1 0), some (sv_rf G.1 164), some (.int (nI i))] [] svSH hi hl hr := by
  obtain ⟨P1, t1, h1⟩ := pr_likings (l := l) (G := G) I (xs (nI i + 1).toNatClampNeg)
  refine S_aload_1 (pc := 619) dL_law_619 ?_
  refine L_aload_0 (pc := 620) dL_law_620 ?_
  refine S_iload_3 (pc := 621) dL_law_621 ?_
  refine J_iconst (pc := 622) (1) rfl dL_law_622 ?_
  refine J_iadd (pc := 623) dL_law_623 ?_
  refine J_sld (pc := 624) hF (by rw [show (1 : Int32) = nI 1 from rfl, nI_add]; exact vp_in_nI (by omega) (by omega)) dL_law_624 ?_
  refine caL_93 (pc := 625) t1 sh_0 (Nat.le_of_ble_eq_true rfl) ⟨rfl, rfl, ⟨by decide, by decide⟩, by decide, by decide⟩ dL_law_625 (fun r1 a1 b1 c1 p1 => ?_)
  obtain ⟨P2, t2, h2⟩ := h1 r1 a1 b1 c1 p1
  refine S_aload_2 (pc := 628) dL_law_628 ?_
  refine L_aload_0 (pc := 629) dL_law_629 ?_
  refine S_iload_3 (pc := 630) dL_law_630 ?_
  refine J_iconst (pc := 631) (1) rfl dL_law_631 ?_
  refine J_iadd (pc := 632) dL_law_632 ?_
  refine J_sld (pc := 633) hF (by rw [show (1 : Int32) = nI 1 from rfl, nI_add]; exact vp_in_nI (by omega) (by omega)) dL_law_633 ?_
  refine caL_96 (pc := 634) t2 sh_164 (Nat.le_of_ble_eq_true rfl) ⟨rfl, rfl, ⟨by decide, by decide⟩, by decide, by decide⟩ dL_law_634 (fun r2 a2 b2 c2 p2 => ?_)
  obtain ⟨he, I2⟩ := h2 r2 a2 b2 c2 p2
  exact J_icmp_eq (pc := 637) 771 dL_law_637 (by decide) (fun _ => hk _ _ _ I2) (fun hne => absurd he hne)
set_option maxRecDepth 20000 in
set_option maxHeartbeats 2000000 in
theorem lc_20 {l : Launch} {G : svG} {F : svF} {nm : String} {b L : Nat} {xs : Nat → Int32} (hF : lwT G b L xs F) (hL : L ≤ 2048) {i : Nat} (hi4 : i + 4 ≤ L) {hi : svH} {hl : svL} {hr : svR} (I : IN hi hl hr) (hk : ∀ hi hl hr, IN hi hl hr → svJ l G room_1 (RL, cL_law, 4, some .boolean, nm) F 182 2476 771 [some (.ref b), some (sv_rf G.1 0), some (sv_rf G.1 164), some (.int (nI i))] [] svSH hi hl hr) : svJ l G room_1 (RL, cL_law, 4, some .boolean, nm) F 182 2476 642 [some (.ref b), some (sv_rf G.1 0), some (sv_rf G.1 164), some (.int (nI i))] [] svSH hi hl hr := by
  obtain ⟨P1, t1, h1⟩ := pr_ask (l := l) (G := G) I 
  refine S_aload_1 (pc := 642) dL_law_642 ?_
  refine caL_97 (pc := 643) t1 sh_0 (Nat.le_of_ble_eq_true rfl) ⟨rfl, rfl, ⟨by decide, by decide⟩, by decide, by decide⟩ dL_law_643 (fun r1 a1 b1 c1 p1 => ?_)
  obtain ⟨P2, t2, h2⟩ := h1 r1 a1 b1 c1 p1
  refine S_aload_2 (pc := 646) dL_law_646 ?_
  refine caL_100 (pc := 647) t2 sh_164 (Nat.le_of_ble_eq_true rfl) ⟨rfl, rfl, ⟨by decide, by decide⟩, by decide, by decide⟩ dL_law_647 (fun r2 a2 b2 c2 p2 => ?_)
  obtain ⟨he, I2⟩ := h2 r2 a2 b2 c2 p2
  exact J_icmp_eq (pc := 650) 771 dL_law_650 (by decide) (fun _ => hk _ _ _ I2) (fun hne => absurd he hne)
set_option maxRecDepth 20000 in
set_option maxHeartbeats 2000000 in
theorem lc_21 {l : Launch} {G : svG} {F : svF} {nm : String} {b L : Nat} {xs : Nat → Int32} (hF : lwT G b L xs F) (hL : L ≤ 2048) {i : Nat} (hi4 : i + 4 ≤ L) {hi : svH} {hl : svL} {hr : svR} (I : IN hi hl hr) (hk : ∀ hi hl hr, IN hi hl hr → svJ l G room_1 (RL, cL_law, 4, some .boolean, nm) F 182 2476 771 [some (.ref b), some (sv_rf G.1 0), some (sv_rf G.1 164), some (.int (nI i))] [] svSH hi hl hr) : svJ l G room_1 (RL, cL_law, 4, some .boolean, nm) F 182 2476 655 [some (.ref b), some (sv_rf G.1 0), some (sv_rf G.1 164), some (.int (nI i))] [] svSH hi hl hr := by
  obtain ⟨P1, t1, h1⟩ := pr_mark (l := l) (G := G) I (xs (nI i + 1).toNatClampNeg) (xs (nI i + 2).toNatClampNeg)
  refine S_aload_1 (pc := 655) dL_law_655 ?_
  refine L_aload_0 (pc := 656) dL_law_656 ?_
  refine S_iload_3 (pc := 657) dL_law_657 ?_
  refine J_iconst (pc := 658) (1) rfl dL_law_658 ?_
  refine J_iadd (pc := 659) dL_law_659 ?_
  refine J_sld (pc := 660) hF (by rw [show (1 : Int32) = nI 1 from rfl, nI_add]; exact vp_in_nI (by omega) (by omega)) dL_law_660 ?_
  refine L_aload_0 (pc := 661) dL_law_661 ?_
  refine S_iload_3 (pc := 662) dL_law_662 ?_
  refine J_iconst (pc := 663) (2) rfl dL_law_663 ?_
  refine J_iadd (pc := 664) dL_law_664 ?_
  refine J_sld (pc := 665) hF (by rw [show (2 : Int32) = nI 2 from rfl, nI_add]; exact vp_in_nI (by omega) (by omega)) dL_law_665 ?_
  refine caL_101 (pc := 666) t1 sh_0 (Nat.le_of_ble_eq_true rfl) ⟨rfl, rfl, ⟨by decide, by decide⟩, by decide, by decide⟩ dL_law_666 (fun r1 a1 b1 c1 p1 => ?_)
  obtain ⟨P2, t2, h2⟩ := h1 r1 a1 b1 c1 p1
  refine S_aload_2 (pc := 669) dL_law_669 ?_
  refine L_aload_0 (pc := 670) dL_law_670 ?_
  refine S_iload_3 (pc := 671) dL_law_671 ?_
  refine J_iconst (pc := 672) (1) rfl dL_law_672 ?_
  refine J_iadd (pc := 673) dL_law_673 ?_
  refine J_sld (pc := 674) hF (by rw [show (1 : Int32) = nI 1 from rfl, nI_add]; exact vp_in_nI (by omega) (by omega)) dL_law_674 ?_
  refine L_aload_0 (pc := 675) dL_law_675 ?_
  refine S_iload_3 (pc := 676) dL_law_676 ?_
  refine J_iconst (pc := 677) (2) rfl dL_law_677 ?_
  refine J_iadd (pc := 678) dL_law_678 ?_
  refine J_sld (pc := 679) hF (by rw [show (2 : Int32) = nI 2 from rfl, nI_add]; exact vp_in_nI (by omega) (by omega)) dL_law_679 ?_
  refine caL_104 (pc := 680) t2 sh_164 (Nat.le_of_ble_eq_true rfl) ⟨rfl, rfl, ⟨by decide, by decide⟩, by decide, by decide⟩ dL_law_680 (fun r2 a2 b2 c2 p2 => ?_)
  obtain ⟨he, I2⟩ := h2 r2 a2 b2 c2 p2
  exact J_icmp_eq (pc := 683) 771 dL_law_683 (by decide) (fun _ => hk _ _ _ I2) (fun hne => absurd he hne)
set_option maxRecDepth 20000 in
set_option maxHeartbeats 2000000 in
theorem lc_22 {l : Launch} {G : svG} {F : svF} {nm : String} {b L : Nat} {xs : Nat → Int32} (hF : lwT G b L xs F) (hL : L ≤ 2048) {i : Nat} (hi4 : i + 4 ≤ L) {hi : svH} {hl : svL} {hr : svR} (I : IN hi hl hr) (hk : ∀ hi hl hr, IN hi hl hr → svJ l G room_1 (RL, cL_law, 4, some .boolean, nm) F 182 2476 771 [some (.ref b), some (sv_rf G.1 0), some (sv_rf G.1 164), some (.int (nI i))] [] svSH hi hl hr) : svJ l G room_1 (RL, cL_law, 4, some .boolean, nm) F 182 2476 688 [some (.ref b), some (sv_rf G.1 0), some (sv_rf G.1 164), some (.int (nI i))] [] svSH hi hl hr := by
  obtain ⟨P1, t1, h1⟩ := pr_keep (l := l) (G := G) I (xs (nI i + 1).toNatClampNeg)
  refine S_aload_1 (pc := 688) dL_law_688 ?_
  refine L_aload_0 (pc := 689) dL_law_689 ?_
  refine S_iload_3 (pc := 690) dL_law_690 ?_
  refine J_iconst (pc := 691) (1) rfl dL_law_691 ?_
  refine J_iadd (pc := 692) dL_law_692 ?_
  refine J_sld (pc := 693) hF (by rw [show (1 : Int32) = nI 1 from rfl, nI_add]; exact vp_in_nI (by omega) (by omega)) dL_law_693 ?_
  refine caL_105 (pc := 694) t1 sh_0 (Nat.le_of_ble_eq_true rfl) ⟨rfl, rfl, ⟨by decide, by decide⟩, by decide, by decide⟩ dL_law_694 (fun r1 a1 b1 c1 p1 => ?_)
  obtain ⟨P2, t2, h2⟩ := h1 r1 a1 b1 c1 p1
  refine S_aload_2 (pc := 697) dL_law_697 ?_
  refine L_aload_0 (pc := 698) dL_law_698 ?_
  refine S_iload_3 (pc := 699) dL_law_699 ?_
  refine J_iconst (pc := 700) (1) rfl dL_law_700 ?_
  refine J_iadd (pc := 701) dL_law_701 ?_
  refine J_sld (pc := 702) hF (by rw [show (1 : Int32) = nI 1 from rfl, nI_add]; exact vp_in_nI (by omega) (by omega)) dL_law_702 ?_
  refine caL_108 (pc := 703) t2 sh_164 (Nat.le_of_ble_eq_true rfl) ⟨rfl, rfl, ⟨by decide, by decide⟩, by decide, by decide⟩ dL_law_703 (fun r2 a2 b2 c2 p2 => ?_)
  obtain ⟨he, I2⟩ := h2 r2 a2 b2 c2 p2
  exact J_icmp_eq (pc := 706) 771 dL_law_706 (by decide) (fun _ => hk _ _ _ I2) (fun hne => absurd he hne)
set_option maxRecDepth 20000 in
set_option maxHeartbeats 2000000 in
theorem lc_23 {l : Launch} {G : svG} {F : svF} {nm : String} {b L : Nat} {xs : Nat → Int32} (hF : lwT G b L xs F) (hL : L ≤ 2048) {i : Nat} (hi4 : i + 4 ≤ L) {hi : svH} {hl : svL} {hr : svR} (I : IN hi hl hr) (hk : ∀ hi hl hr, IN hi hl hr → svJ l G room_1 (RL, cL_law, 4, some .boolean, nm) F 182 2476 771 [some (.ref b), some (sv_rf G.1 0), some (sv_rf G.1 164), some (.int (nI i))] [] svSH hi hl hr) : svJ l G room_1 (RL, cL_law, 4, some .boolean, nm) F 182 2476 711 [some (.ref b), some (sv_rf G.1 0), some (sv_rf G.1 164), some (.int (nI i))] [] svSH hi hl hr := by
  obtain ⟨P1, t1, h1⟩ := pr_back (l := l) (G := G) I (xs (nI i + 1).toNatClampNeg)
  refine S_aload_1 (pc := 711) dL_law_711 ?_
  refine L_aload_0 (pc := 712) dL_law_712 ?_
  refine S_iload_3 (pc := 713) dL_law_713 ?_
  refine J_iconst (pc := 714) (1) rfl dL_law_714 ?_
  refine J_iadd (pc := 715) dL_law_715 ?_
  refine J_sld (pc := 716) hF (by rw [show (1 : Int32) = nI 1 from rfl, nI_add]; exact vp_in_nI (by omega) (by omega)) dL_law_716 ?_
  refine caL_109 (pc := 717) t1 sh_0 (Nat.le_of_ble_eq_true rfl) ⟨rfl, rfl, ⟨by decide, by decide⟩, by decide, by decide⟩ dL_law_717 (fun r1 a1 b1 c1 p1 => ?_)
  obtain ⟨P2, t2, h2⟩ := h1 r1 a1 b1 c1 p1
  refine S_aload_2 (pc := 720) dL_law_720 ?_
  refine L_aload_0 (pc := 721) dL_law_721 ?_
  refine S_iload_3 (pc := 722) dL_law_722 ?_
  refine J_iconst (pc := 723) (1) rfl dL_law_723 ?_
  refine J_iadd (pc := 724) dL_law_724 ?_
  refine J_sld (pc := 725) hF (by rw [show (1 : Int32) = nI 1 from rfl, nI_add]; exact vp_in_nI (by omega) (by omega)) dL_law_725 ?_
  refine caL_112 (pc := 726) t2 sh_164 (Nat.le_of_ble_eq_true rfl) ⟨rfl, rfl, ⟨by decide, by decide⟩, by decide, by decide⟩ dL_law_726 (fun r2 a2 b2 c2 p2 => ?_)
  obtain ⟨he, I2⟩ := h2 r2 a2 b2 c2 p2
  exact J_icmp_eq (pc := 729) 771 dL_law_729 (by decide) (fun _ => hk _ _ _ I2) (fun hne => absurd he hne)
set_option maxRecDepth 20000 in
set_option maxHeartbeats 2000000 in
theorem lc_24 {l : Launch} {G : svG} {F : svF} {nm : String} {b L : Nat} {xs : Nat → Int32} (hF : lwT G b L xs F) (hL : L ≤ 2048) {i : Nat} (hi4 : i + 4 ≤ L) {hi : svH} {hl : svL} {hr : svR} (I : IN hi hl hr) (hk : ∀ hi hl hr, IN hi hl hr → svJ l G room_1 (RL, cL_law, 4, some .boolean, nm) F 182 2476 771 [some (.ref b), some (sv_rf G.1 0), some (sv_rf G.1 164), some (.int (nI i))] [] svSH hi hl hr) : svJ l G room_1 (RL, cL_law, 4, some .boolean, nm) F 182 2476 734 [some (.ref b), some (sv_rf G.1 0), some (sv_rf G.1 164), some (.int (nI i))] [] svSH hi hl hr := by
  obtain ⟨P1, t1, h1⟩ := pr_count (l := l) (G := G) I (xs (nI i + 1).toNatClampNeg)
  refine S_aload_1 (pc := 734) dL_law_734 ?_
  refine L_aload_0 (pc := 735) dL_law_735 ?_
  refine S_iload_3 (pc := 736) dL_law_736 ?_
  refine J_iconst (pc := 737) (1) rfl dL_law_737 ?_
  refine J_iadd (pc := 738) dL_law_738 ?_
  refine J_sld (pc := 739) hF (by rw [show (1 : Int32) = nI 1 from rfl, nI_add]; exact vp_in_nI (by omega) (by omega)) dL_law_739 ?_
  refine caL_113 (pc := 740) t1 sh_0 (Nat.le_of_ble_eq_true rfl) ⟨rfl, rfl, ⟨by decide, by decide⟩, by decide, by decide⟩ dL_law_740 (fun r1 a1 b1 c1 p1 => ?_)
  obtain ⟨P2, t2, h2⟩ := h1 r1 a1 b1 c1 p1
  refine S_aload_2 (pc := 743) dL_law_743 ?_
  refine L_aload_0 (pc := 744) dL_law_744 ?_
  refine S_iload_3 (pc := 745) dL_law_745 ?_
  refine J_iconst (pc := 746) (1) rfl dL_law_746 ?_
  refine J_iadd (pc := 747) dL_law_747 ?_
  refine J_sld (pc := 748) hF (by rw [show (1 : Int32) = nI 1 from rfl, nI_add]; exact vp_in_nI (by omega) (by omega)) dL_law_748 ?_
  refine caL_116 (pc := 749) t2 sh_164 (Nat.le_of_ble_eq_true rfl) ⟨rfl, rfl, ⟨by decide, by decide⟩, by decide, by decide⟩ dL_law_749 (fun r2 a2 b2 c2 p2 => ?_)
  obtain ⟨he, I2⟩ := h2 r2 a2 b2 c2 p2
  exact J_icmp_eq (pc := 752) 771 dL_law_752 (by decide) (fun _ => hk _ _ _ I2) (fun hne => absurd he hne)
set_option maxRecDepth 20000 in
set_option maxHeartbeats 2000000 in
theorem lc_25 {l : Launch} {G : svG} {F : svF} {nm : String} {b L : Nat} {xs : Nat → Int32} (hF : lwT G b L xs F) (hL : L ≤ 2048) {i : Nat} (hi4 : i + 4 ≤ L) {hi : svH} {hl : svL} {hr : svR} (I : IN hi hl hr) (hk : ∀ hi hl hr, IN hi hl hr → svJ l G room_1 (RL, cL_law, 4, some .boolean, nm) F 182 2476 771 [some (.ref b), some (sv_rf G.1 0), some (sv_rf G.1 164), some (.int (nI i))] [] svSH hi hl hr) : svJ l G room_1 (RL, cL_law, 4, some .boolean, nm) F 182 2476 757 [some (.ref b), some (sv_rf G.1 0), some (sv_rf G.1 164), some (.int (nI i))] [] svSH hi hl hr := by
  obtain ⟨P1, t1, h1⟩ := pr_trace (l := l) (G := G) I 
  refine S_aload_1 (pc := 757) dL_law_757 ?_
  refine caL_117 (pc := 758) t1 sh_0 (Nat.le_of_ble_eq_true rfl) ⟨rfl, rfl, ⟨by decide, by decide⟩, by decide, by decide⟩ dL_law_758 (fun r1 a1 b1 c1 p1 => ?_)
  obtain ⟨P2, t2, h2⟩ := h1 r1 a1 b1 c1 p1
  refine S_aload_2 (pc := 761) dL_law_761 ?_
  refine caL_121 (pc := 762) t2 sh_164 (Nat.le_of_ble_eq_true rfl) ⟨rfl, rfl, ⟨by decide, by decide⟩, by decide, by decide⟩ dL_law_762 (fun r2 a2 b2 c2 p2 => ?_)
  obtain ⟨he, I2⟩ := h2 r2 a2 b2 c2 p2
  refine J_lcmp (pc := 765) dL_law_765 ?_
  exact J_if_eq (pc := 766) 771 dL_law_766 (by decide) (fun _ => hk _ _ _ I2) (fun hne => absurd (by rw [he]; exact cmp_self _) hne)
set_option maxRecDepth 20000 in
set_option maxHeartbeats 2000000 in
theorem law_loop {l : Launch} {G : svG} {F : svF} {nm : String} {b L : Nat} {xs : Nat → Int32} (hF : lwT G b L xs F) (hL : L ≤ 2048) (hend : ∀ ls hi hl hr, svJ l G room_1 (RL, cL_law, 4, some .boolean, nm) F 182 2476 778 ls [.int 1] svSH hi hl hr) : ∀ (d i : Nat) (hi : svH) (hl : svL) (hr : svR), L < i + 4 * d → i ≤ 2048 → IN hi hl hr → svJ l G room_1 (RL, cL_law, 4, some .boolean, nm) F 182 2476 18 [some (.ref b), some (sv_rf G.1 0), some (sv_rf G.1 164), some (.int (nI i))] [] svSH hi hl hr := by
  intro d
  induction d with
  | zero =>
    intro i hi hl hr h1 h2 I
    refine S_iload_3 (pc := 18) dL_law_18 ?_
    refine L_aload_0 (pc := 19) dL_law_19 ?_
    refine J_slen (pc := 20) hF dL_law_20 ?_
    refine J_iconst (pc := 21) (4) rfl dL_law_21 ?_
    refine J_isub (pc := 22) dL_law_22 ?_
    refine J_icmp_gt (pc := 23) 777 dL_law_23 (by decide) (fun _ => ?_) (fun h => absurd (lw_go hL h2 h) (by omega))
    refine J_iconst (pc := 777) (1) rfl dL_law_777 ?_
    exact hend _ _ _ _
  | succ d ih =>
    intro i hi hl hr h1 h2 I
    refine S_iload_3 (pc := 18) dL_law_18 ?_
    refine L_aload_0 (pc := 19) dL_law_19 ?_
    refine J_slen (pc := 20) hF dL_law_20 ?_
    refine J_iconst (pc := 21) (4) rfl dL_law_21 ?_
    refine J_isub (pc := 22) dL_law_22 ?_
    refine J_icmp_gt (pc := 23) 777 dL_law_23 (by decide) (fun _ => ?_) (fun h => ?_)
    · refine J_iconst (pc := 777) (1) rfl dL_law_777 ?_
      exact hend _ _ _ _
    have hi4 := lw_go hL h2 h
    have hk : ∀ hi hl hr, IN hi hl hr → svJ l G room_1 (RL, cL_law, 4, some .boolean, nm) F 182 2476 771 [some (.ref b), some (sv_rf G.1 0), some (sv_rf G.1 164), some (.int (nI i))] [] svSH hi hl hr := by
      intro hi hl hr I
      refine S_inc_3 (pc := 771) (4) rfl dL_law_771 (show 3 < 4 by decide) ?_
      refine J_goto (pc := 774) 18 dL_law_774 (by decide) ?_
      exact svJ_ls (by rw [show (4 : Int32) = nI 4 from rfl, nI_add]) (ih (i + 4) hi hl hr (by omega) (by omega) I)
    refine L_aload_0 (pc := 26) dL_law_26 ?_
    refine S_iload_3 (pc := 27) dL_law_27 ?_
    refine J_sld (pc := 28) hF (vp_in_nI (by omega) (by omega)) dL_law_28 ?_
    refine J_bipush (pc := 29) (31) rfl dL_law_29 ?_
    refine J_iand (pc := 31) dL_law_31 ?_
    generalize xs (nI i).toNatClampNeg &&& 31 = sel
    rcases sv_sw26 sel with rfl | rfl | rfl | rfl | rfl | rfl | rfl | rfl | rfl | rfl | rfl | rfl | rfl | rfl | rfl | rfl | rfl | rfl | rfl | rfl | rfl | rfl | rfl | rfl | rfl | rfl | hsw
    · refine J_tableIn (pc := 32) 152 dL_law_32 (by decide) (by decide) rfl (by decide) ?_
      exact lc_0 hF hL hi4 I hk
    · refine J_tableIn (pc := 32) 175 dL_law_32 (by decide) (by decide) rfl (by decide) ?_
      exact lc_1 hF hL hi4 I hk
    · refine J_tableIn (pc := 32) 188 dL_law_32 (by decide) (by decide) rfl (by decide) ?_
      exact lc_2 hF hL hi4 I hk
    · refine J_tableIn (pc := 32) 201 dL_law_32 (by decide) (by decide) rfl (by decide) ?_
      exact lc_3 hF hL hi4 I hk
    · refine J_tableIn (pc := 32) 234 dL_law_32 (by decide) (by decide) rfl (by decide) ?_
      exact lc_4 hF hL hi4 I hk
    · refine J_tableIn (pc := 32) 267 dL_law_32 (by decide) (by decide) rfl (by decide) ?_
      exact lc_5 hF hL hi4 I hk
    · refine J_tableIn (pc := 32) 300 dL_law_32 (by decide) (by decide) rfl (by decide) ?_
      exact lc_6 hF hL hi4 I hk
    · refine J_tableIn (pc := 32) 313 dL_law_32 (by decide) (by decide) rfl (by decide) ?_
      exact lc_7 hF hL hi4 I hk
    · refine J_tableIn (pc := 32) 336 dL_law_32 (by decide) (by decide) rfl (by decide) ?_
      exact lc_8 hF hL hi4 I hk
    · refine J_tableIn (pc := 32) 369 dL_law_32 (by decide) (by decide) rfl (by decide) ?_
      exact lc_9 hF hL hi4 I hk
    · refine J_tableIn (pc := 32) 392 dL_law_32 (by decide) (by decide) rfl (by decide) ?_
      exact lc_10 hF hL hi4 I hk
    · refine J_tableIn (pc := 32) 415 dL_law_32 (by decide) (by decide) rfl (by decide) ?_
      exact lc_11 hF hL hi4 I hk
    · refine J_tableIn (pc := 32) 428 dL_law_32 (by decide) (by decide) rfl (by decide) ?_
      exact lc_12 hF hL hi4 I hk
    · refine J_tableIn (pc := 32) 451 dL_law_32 (by decide) (by decide) rfl (by decide) ?_
      exact lc_13 hF hL hi4 I hk
    · refine J_tableIn (pc := 32) 484 dL_law_32 (by decide) (by decide) rfl (by decide) ?_
      exact lc_14 hF hL hi4 I hk
    · refine J_tableIn (pc := 32) 507 dL_law_32 (by decide) (by decide) rfl (by decide) ?_
      exact lc_15 hF hL hi4 I hk
    · refine J_tableIn (pc := 32) 530 dL_law_32 (by decide) (by decide) rfl (by decide) ?_
      exact lc_16 hF hL hi4 I hk
    · refine J_tableIn (pc := 32) 573 dL_law_32 (by decide) (by decide) rfl (by decide) ?_
      exact lc_17 hF hL hi4 I hk
    · refine J_tableIn (pc := 32) 606 dL_law_32 (by decide) (by decide) rfl (by decide) ?_
      exact lc_18 hF hL hi4 I hk
    · refine J_tableIn (pc := 32) 619 dL_law_32 (by decide) (by decide) rfl (by decide) ?_
      exact lc_19 hF hL hi4 I hk
    · refine J_tableIn (pc := 32) 642 dL_law_32 (by decide) (by decide) rfl (by decide) ?_
      exact lc_20 hF hL hi4 I hk
    · refine J_tableIn (pc := 32) 655 dL_law_32 (by decide) (by decide) rfl (by decide) ?_
      exact lc_21 hF hL hi4 I hk
    · refine J_tableIn (pc := 32) 688 dL_law_32 (by decide) (by decide) rfl (by decide) ?_
      exact lc_22 hF hL hi4 I hk
    · refine J_tableIn (pc := 32) 711 dL_law_32 (by decide) (by decide) rfl (by decide) ?_
      exact lc_23 hF hL hi4 I hk
    · refine J_tableIn (pc := 32) 734 dL_law_32 (by decide) (by decide) rfl (by decide) ?_
      exact lc_24 hF hL hi4 I hk
    · refine J_tableIn (pc := 32) 757 dL_law_32 (by decide) (by decide) rfl (by decide) ?_
      exact lc_25 hF hL hi4 I hk
    · refine J_tableOut (pc := 32) 771 dL_law_32 hsw (by decide) ?_
      exact hk _ _ _ I
