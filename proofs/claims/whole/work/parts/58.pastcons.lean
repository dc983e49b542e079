theorem svJ_cast {l : Launch} {G : svG} {R : Room} {M : svM} {F : svF} {cs sl cs' sl' pc : Nat} {ls ls' : List (Option Value)} {st : List Value} {sh sh' : svS} {hi : svH} {hl : svL} {hr : svR} (e1 : cs' = cs) (e2 : sl' = sl) (e3 : ls' = ls) (e4 : sh' = sh) (h : svJ l G R M F cs' sl' pc ls' st sh' hi hl hr) : svJ l G R M F cs sl pc ls st sh hi hl hr := by
  subst e1; subst e2; subst e3; subst e4; exact h
def nowRows : Nat → svS
  | 0 => []
  | t + 1 => nowRows t ++ [(0, 3)] ++ [(1, 6)] ++ [(1, 8)] ++ [(1, 8)]
theorem nowRows_len : ∀ t, (nowRows t).length = 4 * t := by
  intro t
  induction t with
  | zero => rfl
  | succ t ih => rw [nowRows]; simp only [List.length_append, List.length_cons, List.length_nil, ih]; omega
theorem shn {sh : svS} {q : Nat × Nat} {i : Nat} (h : sh.length = i) : (sh ++ [q])[i]? = some q := by
  subst h
  simp
theorem sv_rowsAt {p : Nat} (hS : svSH[p]? = some (0, 4)) {t : Nat} (ht : t < 10) : svSH[p + 2 + 4 * t]? = some (0, 3) := by
  have h := sv_all (P := fun i => !(decide (svSH[i]? = some (0, 4))) || (List.range 10).all (fun t => decide (svSH[i + 2 + 4 * t]? = some (0, 3)))) (by decide +kernel) (sv_lt hS)
  rw [hS] at h
  have h2 : (List.range 10).all (fun t => decide (svSH[p + 2 + 4 * t]? = some (0, 3))) = true := by simpa using h
  exact of_decide_eq_true (List.all_eq_true.mp h2 t (List.mem_range.mpr ht))
theorem sv_p22 {p : Nat} (hS : svSH[p]? = some (0, 4)) (h : p + 1 = 22) : p = 21 := by omega
theorem Ht_row {p : Nat} (hS : svSH[p]? = some (0, 4)) (k : Nat) : svHt (p + 1) k = if k < 10 then some (p + 2 + 4 * k) else none := by
  have h1 : svSH[p + 1]? = some (4, 10) := ar_P1 hS
  unfold svHt sv_hr
  rw [if_neg (by omega), if_neg (by omega)]
  by_cases h : p + 1 = 22
  · rw [if_pos h]
    obtain rfl : p = 21 := by omega
    rfl
  · rw [if_neg h, h1]
    rfl
/-- cells of the references: what was ahead and behind is as it was, what lies between as it is to be -/
def cBt (hr c : svR) (lo hh : Nat) : Prop := (∀ q, q < lo ∨ hh ≤ q → c q = hr q) ∧ ∀ q, lo ≤ q → q < hh → c q = svHt q
set_option maxRecDepth 20000 in
set_option maxHeartbeats 2000000 in
theorem lo_X4_init {l : Launch} {G : svG} {sh : svS} {hi : svH} {hl : svL} {hr : svR} {i : Nat} (hz : sh.length = i + 1) (hsh : sh[i]? = some (0, 4)) (hS : svSH[i]? = some (0, 4)) (hr0 : ∀ q, i ≤ q → hr q = noR) : ∀ t, t ≤ 10 → ∀ (h' : svH) (l' : svL) (r' : svR), (∀ q, q < i → h' q = hi q) → h' i 0 = 0 → (∀ q, q < i → r' q = hr q) → r' i = svHt i → (∀ k, r' (i + 1) k = if k < t then some (i + 2 + 4 * k) else none) → (∀ q, i + 2 ≤ q → q < i + 2 + 4 * t → r' q = svHt q) → (∀ q, i + 2 + 4 * t ≤ q → r' q = noR) → svJ l G (sv_rm 2 41 310) mX4_init (sv_Fm G (fun v sh' a b c => v = none ∧ sh' = sh ++ [(4, 10)] ++ nowRows 10 ∧ (∀ q, q < i → a q = hi q) ∧ cBt hr c i (i + 42) ∧ a i 0 = 0) 41 310) (1 + 4 * t) (10 + 30 * t) 20 [some (sv_rf G.1 i), some (.int (nI t))] [] (sh ++ [(4, 10)] ++ nowRows t) h' l' r' := by
  have hi0 : i ≠ 0 := sv_ne hS sh_0 (by simp)
  refine sv_up (fun t ht ih h' l' r' i1 i2 j1 j2 j3 j4 j5 => ?_)
  have hlen : List.length ((sh ++ [(4, 10)] ++ nowRows t) : svS) = i + 2 + 4 * t := by simp only [List.length_append, List.length_cons, List.length_nil, nowRows_len]; omega
  have hv : r' i 1 = some (i + 1) := by rw [j2, Ht_obj hS hi0]; rfl
  have so : (sh ++ [(4, 10)] ++ nowRows t)[i]? = some (0, 4) := shx (shx hsh)
  have sr : (sh ++ [(4, 10)] ++ nowRows t)[i + 1]? = some (4, 10) := shx (shn hz)
  refine S_iload_1 (pc := 20) dX4_init_20 ?_
  refine S_aload_0 (pc := 21) dX4_init_21 ?_
  refine fgX4_17 (pc := 22) so hv dX4_init_22 ?_
  refine J_alen4 (pc := 25) (10) sr rfl dX4_init_25 ?_
  refine J_icmp_ge (pc := 26) 48 dX4_init_26 (by decide) (fun h26 => ?_) (fun h26 => ?_)
  · rw [show (10 : Int32) = nI 10 from rfl, nI_leI (by omega) (by omega)] at h26
    obtain rfl : t = 10 := by omega
    refine J_return (pc := 48) dX4_init_48 rfl ⟨rfl, rfl, i1, ⟨fun q hq => ?_, fun q h1 h2 => ?_⟩, i2⟩
    · rcases hq with hq | hq
      · exact j1 q hq
      · rw [j5 q (by omega), hr0 q (by omega)]
    · rcases (show q = i ∨ q = i + 1 ∨ i + 2 ≤ q by omega) with rfl | rfl | h3
      · exact j2
      · funext k
        rw [j3 k, Ht_row hS k]
      · exact j4 q h3 (by omega)
  · rw [show (10 : Int32) = nI 10 from rfl, nI_leI (by omega) (by omega)] at h26
    refine S_aload_0 (pc := 29) dX4_init_29 ?_
    refine fgX4_17 (pc := 30) so hv dX4_init_30 ?_
    refine S_iload_1 (pc := 33) dX4_init_33 ?_
    refine nwX4_15 (pc := 34) (show 1 + 4 * t + 1 ≤ 41 by omega) (show 10 + 30 * t + 8 ≤ 310 by omega) dX4_init_34 ?_
    rw [hlen]
    refine J_dup (pc := 37) rfl dX4_init_37 ?_
    refine caX4_21 (pc := 38) (t_X3_init (l := l) (G := G) (i := i + 2 + 4 * t) (by rw [List.length_append, hlen]; rfl) (shn hlen) (sv_rowsAt hS (by omega)) (fun q hq => ?_)) (Nat.le_of_ble_eq_true rfl) ⟨rfl, rfl, ⟨by decide, by decide⟩, show 1 + 4 * t + 1 + 3 ≤ 41 by omega, show 10 + 30 * t + 8 + 22 ≤ 310 by omega⟩ dX4_init_38 (fun v38 s38 a38 b38 c38 p38 => ?_)
    · by_cases e : q = i + 2 + 4 * t
      · rw [e]; exact sv_z_at
      · rw [sv_z_off e]; exact j5 q hq
    obtain ⟨rfl, rfl, rfl, k1, k2, k3, -⟩ := p38
    refine J_aast_n (pc := 41) t (shx (shx (shx (shx sr)))) rfl (by omega) (by decide) (shx (shx (shx (shn hlen)))) dX4_init_41 ?_
    refine S_inc_1 (pc := 42) (1) rfl dX4_init_42 (by decide) ?_
    refine J_goto (pc := 45) 20 dX4_init_45 (by decide) ?_
    refine svJ_cast (show 1 + 4 * (t + 1) = 1 + 4 * t + 1 + 3 by omega) (show 10 + 30 * (t + 1) = 10 + 30 * t + 8 + 22 by omega) (by rw [nI_succ]) (by rw [nowRows]; simp only [List.append_assoc]) (ih (t + 1) (by omega) (by omega) _ _ _ (fun q hq => ?_) ?_ (fun q hq => ?_) ?_ (fun k => ?_) (fun q h1 h2 => ?_) (fun q h1 => ?_))
    · rw [k1 q (by omega), sv_z_off (by omega)]; exact i1 q hq
    · rw [k1 i (by omega), sv_z_off (by omega)]; exact i2
    · rw [sv_u2_off (by omega), k2 q (by omega), sv_z_off (by omega)]; exact j1 q hq
    · rw [sv_u2_off (by omega), k2 i (by omega), sv_z_off (by omega)]; exact j2
    · by_cases e : k = t
      · rw [e, sv_u2_at, if_pos (by omega)]
      · rw [sv_u2_k e, k2 (i + 1) (by omega), sv_z_off (by omega), j3 k]
        by_cases hk : k < t
        · rw [if_pos hk, if_pos (by omega)]
        · rw [if_neg hk, if_neg (by omega)]
    · rw [sv_u2_off (by omega)]
      by_cases e : q < i + 2 + 4 * t
      · rw [k2 q (by omega), sv_z_off (by omega)]; exact j4 q h1 e
      · exact k3 q (by omega) (by omega)
    · rw [sv_u2_off (by omega), k2 q (by omega), sv_z_off (by omega)]; exact j5 q (by omega)
set_option maxRecDepth 20000 in
set_option maxHeartbeats 2000000 in
theorem t_X4_init {l : Launch} {G : svG} {sh : svS} {hi : svH} {hl : svL} {hr : svR} {i : Nat} (hz : sh.length = i + 1) (hsh : sh[i]? = some (0, 4)) (hS : svSH[i]? = some (0, 4)) (hr0 : ∀ q, i ≤ q → hr q = noR) : svT l G yX4_init mX4_init (sv_rm 2 41 310) 41 310 [sv_rf G.1 i] sh hi hl hr (fun v sh' a b c => v = none ∧ sh' = sh ++ [(4, 10)] ++ nowRows 10 ∧ (∀ q, q < i → a q = hi q) ∧ cBt hr c i (i + 42) ∧ a i 0 = 0) := by
  have hi0 : i ≠ 0 := sv_ne hS sh_0 (by simp)
  refine sv_entry (by decide +kernel) rfl rfl (Nat.le_of_ble_eq_true rfl) (by simp [Value.category, sv_rf]) [some (sv_rf G.1 i), none] rfl ?_
  refine S_aload_0 (pc := 0) dX4_init_0 ?_
  refine obX4_3 (pc := 1) dX4_init_1 (by decide) (Nat.le_of_ble_eq_true rfl) ?_
  refine S_aload_0 (pc := 4) dX4_init_4 ?_
  refine J_iconst (pc := 5) (0) rfl dX4_init_5 ?_
  refine fpX4_9 (pc := 6) hsh dX4_init_6 ?_
  refine S_aload_0 (pc := 9) dX4_init_9 ?_
  refine J_bipush (pc := 10) (10) rfl dX4_init_10 ?_
  refine nqX4_15 (pc := 12) 10 rfl (by decide) (by decide) (by decide) dX4_init_12 ?_
  rw [hz]
  refine fpX4_17 (pc := 15) rfl (shx hsh) dX4_init_15 ?_
  refine J_iconst (pc := 18) (0) rfl dX4_init_18 ?_
  refine S_istore_1 (pc := 19) dX4_init_19 (by decide) ?_
  refine svJ_cast (show 1 + 4 * 0 = 0 + 1 by rfl) (show 10 + 30 * 0 = 0 + 10 by rfl) (by rfl) (by rw [nowRows, List.append_nil]) (lo_X4_init (hl := hl) hz hsh hS hr0 0 (by decide) _ _ _ (fun q hq => ?_) ?_ (fun q hq => ?_) ?_ (fun k => ?_) (fun q h1 h2 => ?_) (fun q h1 => ?_))
  · rw [sv_u2_off (by omega)]
  · exact sv_u2_at
  · rw [sv_u2_off (by omega), sv_z_off (by omega)]
  · funext k
    rw [Ht_obj hS hi0]
    by_cases e : k = 1
    · rw [e, sv_u2_at]; rfl
    · rw [sv_u2_k e, sv_z_off (by omega), hr0 i (Nat.le_refl _)]
      rcases (show k = 0 ∨ 2 ≤ k by omega) with rfl | hk
      · rfl
      · show none = (sv_off 4 k).map _
        rw [off_none (fun _ => rfl) hk]; rfl
  · rw [sv_u2_off (by omega), sv_z_at, if_neg (by omega)]
  · omega
  · rw [sv_u2_off (by omega), sv_z_off (by omega)]; exact hr0 q (by omega)
set_option maxRecDepth 20000 in
set_option maxHeartbeats 2000000 in
theorem t_X2_init {l : Launch} {G : svG} {sh : svS} {hi : svH} {hl : svL} {hr : svR} {i : Nat} (hz : sh.length = i + 1) (hsh : sh[i]? = some (0, 2)) (hS : svSH[i]? = some (0, 2)) (hr0 : ∀ q, i ≤ q → hr q = noR) : svT l G yX2_init mX2_init (sv_rm 3 46 342) 46 342 [sv_rf G.1 i] sh hi hl hr (fun v sh' a b c => v = none ∧ sh' = sh ++ [(0, 3)] ++ [(1, 6)] ++ [(1, 8)] ++ [(1, 8)] ++ [(0, 4)] ++ [(4, 10)] ++ nowRows 10 ∧ (∀ q, q < i → a q = hi q) ∧ cBt hr c i (i + 47) ∧ a i 0 = 0 ∧ a (i + 5) 0 = 0) := by
  have hi0 : i ≠ 0 := sv_ne hS sh_0 (by simp)
  have hl5 : List.length (sh ++ [(0, 3)] ++ [(1, 6)] ++ [(1, 8)] ++ [(1, 8)] : svS) = i + 5 := by simp only [List.length_append, List.length_cons, List.length_nil]; omega
  refine sv_entry (by decide +kernel) rfl rfl (Nat.le_of_ble_eq_true rfl) (by simp [Value.category, sv_rf]) [some (sv_rf G.1 i)] rfl ?_
  refine S_aload_0 (pc := 0) dX2_init_0 ?_
  refine obX2_1 (pc := 1) dX2_init_1 (by decide) (Nat.le_of_ble_eq_true rfl) ?_
  refine S_aload_0 (pc := 4) dX2_init_4 ?_
  refine J_iconst (pc := 5) (0) rfl dX2_init_5 ?_
  refine fpX2_7 (pc := 6) (Or.inl rfl) hsh dX2_init_6 ?_
  refine S_aload_0 (pc := 9) dX2_init_9 ?_
  refine nwX2_13 (pc := 10) (by decide) (by decide) dX2_init_10 ?_
  rw [hz]
  refine J_dup (pc := 13) rfl dX2_init_13 ?_
  refine caX2_15 (pc := 14) (t_X3_init (l := l) (G := G) (i := i + 1) (by rw [List.length_append, hz]; rfl) (shn hz) (ar_I1 hS) (fun q hq => ?_)) (Nat.le_of_ble_eq_true rfl) ⟨rfl, rfl, ⟨by decide, by decide⟩, by decide, by decide⟩ dX2_init_14 (fun v14 s14 a14 b14 c14 p14 => ?_)
  · by_cases e : q = i + 1
    · rw [e]; exact sv_z_at
    · rw [sv_z_off e]; exact hr0 q (by omega)
  obtain ⟨rfl, rfl, rfl, k1, k2, k3, -⟩ := p14
  refine fpX2_16 (pc := 17) rfl (shx (shx (shx (shx hsh)))) dX2_init_17 ?_
  refine S_aload_0 (pc := 20) dX2_init_20 ?_
  refine nwX2_20 (pc := 21) (by decide) (by decide) dX2_init_21 ?_
  rw [hl5]
  refine J_dup (pc := 24) rfl dX2_init_24 ?_
  refine caX2_22 (pc := 25) (t_X4_init (l := l) (G := G) (i := i + 5) (by rw [List.length_append, hl5]; rfl) (shn hl5) (ar_I2 hS) (fun q hq => ?_)) (Nat.le_of_ble_eq_true rfl) ⟨rfl, rfl, ⟨by decide, by decide⟩, by decide, by decide⟩ dX2_init_25 (fun v25 s25 a25 b25 c25 p25 => ?_)
  · by_cases e : q = i + 5
    · rw [e]; exact sv_z_at
    · rw [sv_z_off e, sv_u2_off (by omega), k2 q (by omega), sv_z_off (by omega)]; exact hr0 q (by omega)
  obtain ⟨rfl, rfl, g1, ⟨g2, g3⟩, g4⟩ := p25
  refine fpX2_23 (pc := 28) rfl (shx (shx (shx (shx (shx (shx (shx hsh))))))) dX2_init_28 ?_
  refine J_return (pc := 31) dX2_init_31 rfl ⟨rfl, rfl, fun q hq => ?_, ⟨fun q hq => ?_, fun q h1 h2 => ?_⟩, ?_, g4⟩
  · rw [g1 q (by omega), sv_z_off (by omega), k1 q (by omega), sv_z_off (by omega), sv_u2_off (by omega)]
  · rw [sv_u2_off (by omega), g2 q (by omega), sv_z_off (by omega), sv_u2_off (by omega), k2 q (by omega), sv_z_off (by omega)]
  · by_cases e : q = i
    · subst e
      funext k
      rw [Ht_obj hS hi0]
      by_cases e2 : k = 2
      · rw [e2, sv_u2_at]; rfl
      · rw [sv_u2_k e2, g2 q (by omega), sv_z_off (by omega)]
        by_cases e1 : k = 1
        · rw [e1, sv_u2_at]; rfl
        · rw [sv_u2_k e1, k2 q (by omega), sv_z_off (by omega), hr0 q (Nat.le_refl _)]
          rcases (show k = 0 ∨ 3 ≤ k by omega) with rfl | hk
          · rfl
          · show none = (sv_off 2 k).map _
            rw [off_none (fun _ => rfl) hk]; rfl
    · rw [sv_u2_off e]
      by_cases e5 : q < i + 5
      · rw [g2 q (by omega), sv_z_off (by omega), sv_u2_off e]; exact k3 q (by omega) (by omega)
      · exact g3 q (by omega) (by omega)
  · rw [g1 i (by omega), sv_z_off (by omega), k1 i (by omega), sv_z_off (by omega)]; exact sv_u2_at
