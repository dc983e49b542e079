theorem sv_cp_ne {hi : svH} {i j n q : Nat} (h : q ≠ j) : sv_cp hi i j n q = hi q := if_neg h
theorem sv_cp_eq {hi : svH} {i j n k : Nat} (h : k < n) : sv_cp hi i j n j k = hi i k := by simp [sv_cp, h]
/-- one day copied over another -/
def cpR (hi a : svH) (s d : Nat) : Prop := (∀ q, q < d ∨ d + 3 < q → a q = hi q) ∧ (∀ k, k < 5 → a d k = hi s k) ∧ (∀ k, k < 6 → a (d + 1) k = hi (s + 1) k) ∧ (∀ k, k < 8 → a (d + 2) k = hi (s + 2) k) ∧ ∀ k, k < 8 → a (d + 3) k = hi (s + 3) k
theorem cpR_of {hi : svH} {s d : Nat} (h : s + 3 < d ∨ d + 3 < s) {v0 v1 v2 v3 v4 : Int32} (e0 : v0 = hi s 0) (e1 : v1 = hi s 1) (e2 : v2 = hi s 2) (e3 : v3 = hi s 3) (e4 : v4 = hi s 4) :
    cpR hi (sv_cp (sv_cp (sv_cp (sv_u2 (sv_u2 (sv_u2 (sv_u2 (sv_u2 hi d 0 v0) d 1 v1) d 2 v2) d 3 v3) d 4 v4) (s + 1) (d + 1) 6) (s + 2) (d + 2) 8) (s + 3) (d + 3) 8) s d := by
  refine ⟨fun q hq => ?_, fun k hk => ?_, fun k hk => ?_, fun k hk => ?_, fun k hk => ?_⟩
  · rw [sv_cp_ne (by omega), sv_cp_ne (by omega), sv_cp_ne (by omega), sv_u2_off (by omega), sv_u2_off (by omega), sv_u2_off (by omega), sv_u2_off (by omega), sv_u2_off (by omega)]
  · rw [sv_cp_ne (by omega), sv_cp_ne (by omega), sv_cp_ne (by omega)]
    rcases (show k = 0 ∨ k = 1 ∨ k = 2 ∨ k = 3 ∨ k = 4 by omega) with rfl | rfl | rfl | rfl | rfl <;> simp [sv_u2, e0, e1, e2, e3, e4]
  · rw [sv_cp_ne (by omega), sv_cp_ne (by omega), sv_cp_eq hk, sv_u2_off (by omega), sv_u2_off (by omega), sv_u2_off (by omega), sv_u2_off (by omega), sv_u2_off (by omega)]
  · rw [sv_cp_ne (by omega), sv_cp_eq hk, sv_cp_ne (by omega), sv_u2_off (by omega), sv_u2_off (by omega), sv_u2_off (by omega), sv_u2_off (by omega), sv_u2_off (by omega)]
  · rw [sv_cp_eq hk, sv_cp_ne (by omega), sv_cp_ne (by omega), sv_u2_off (by omega), sv_u2_off (by omega), sv_u2_off (by omega), sv_u2_off (by omega), sv_u2_off (by omega)]
set_option maxRecDepth 20000 in
set_option maxHeartbeats 2000000 in
theorem t_X3_copyFrom {l : Launch} {G : svG} {hi : svH} {hl : svL} {tw dr : Nat} {pm : Nat → Nat} {s d : Nat} (hs : svSH[s]? = some (0, 3)) (hd : svSH[d]? = some (0, 3)) (hds : s + 3 < d ∨ d + 3 < s) : svV l G yX3_copyFrom mX3_copyFrom rX3_copyFrom [sv_rf G.1 d, sv_rf G.1 s] hi hl (sv_hr tw dr pm) (fun a b c => cpR hi a s d ∧ hl = b ∧ sv_hr tw dr pm = c) := by
  have hne : ¬ s = d := by omega
  refine sv_entry (by decide +kernel) rfl rfl (Nat.le_of_ble_eq_true rfl) (by simp [Value.category, sv_rf]) [some (sv_rf G.1 d), some (sv_rf G.1 s)] rfl ?_
  refine S_aload_0 (pc := 0) dX3_copyFrom_0 ?_
  refine S_aload_1 (pc := 1) dX3_copyFrom_1 ?_
  refine fgX3_9 (pc := 2) hs dX3_copyFrom_2 ?_
  refine fpX3_9 (pc := 5) hd dX3_copyFrom_5 ?_
  refine S_aload_0 (pc := 8) dX3_copyFrom_8 ?_
  refine S_aload_1 (pc := 9) dX3_copyFrom_9 ?_
  refine fgX3_15 (pc := 10) hs dX3_copyFrom_10 ?_
  refine fpX3_15 (pc := 13) hd dX3_copyFrom_13 ?_
  refine S_aload_0 (pc := 16) dX3_copyFrom_16 ?_
  refine S_aload_1 (pc := 17) dX3_copyFrom_17 ?_
  refine fgX3_18 (pc := 18) hs dX3_copyFrom_18 ?_
  refine fpX3_18 (pc := 21) hd dX3_copyFrom_21 ?_
  refine S_aload_0 (pc := 24) dX3_copyFrom_24 ?_
  refine S_aload_1 (pc := 25) dX3_copyFrom_25 ?_
  refine fgX3_21 (pc := 26) hs dX3_copyFrom_26 ?_
  refine fpX3_21 (pc := 29) hd dX3_copyFrom_29 ?_
  refine S_aload_0 (pc := 32) dX3_copyFrom_32 ?_
  refine S_aload_1 (pc := 33) dX3_copyFrom_33 ?_
  refine fgX3_24 (pc := 34) hs dX3_copyFrom_34 ?_
  refine fpX3_24 (pc := 37) hd dX3_copyFrom_37 ?_
  refine S_aload_1 (pc := 40) dX3_copyFrom_40 ?_
  refine fgX3_27 (pc := 41) hs (hv_N5 hs) dX3_copyFrom_41 ?_
  refine S_aload_0 (pc := 44) dX3_copyFrom_44 ?_
  refine fgX3_27 (pc := 45) hd (hv_N5 hd) dX3_copyFrom_45 ?_
  refine caX3_41 (pc := 48) (t_X7_copy (l := l) (G := G) (ar_N5 hs) (ar_N5 hd) (by decide)) (Nat.le_of_ble_eq_true rfl) ⟨rfl, rfl, ⟨by decide, by decide⟩, by decide, by decide⟩ dX3_copyFrom_48 (fun a48 b48 c48 p48 => ?_)
  obtain ⟨rfl, rfl, rfl⟩ := p48
  refine S_aload_1 (pc := 51) dX3_copyFrom_51 ?_
  refine fgX3_31 (pc := 52) hs (hv_N6 hs) dX3_copyFrom_52 ?_
  refine S_aload_0 (pc := 55) dX3_copyFrom_55 ?_
  refine fgX3_31 (pc := 56) hd (hv_N6 hd) dX3_copyFrom_56 ?_
  refine caX3_41 (pc := 59) (t_X7_copy (l := l) (G := G) (ar_N6 hs) (ar_N6 hd) (by decide)) (Nat.le_of_ble_eq_true rfl) ⟨rfl, rfl, ⟨by decide, by decide⟩, by decide, by decide⟩ dX3_copyFrom_59 (fun a59 b59 c59 p59 => ?_)
  obtain ⟨rfl, rfl, rfl⟩ := p59
  refine S_aload_1 (pc := 62) dX3_copyFrom_62 ?_
  refine fgX3_34 (pc := 63) hs (hv_N7 hs) dX3_copyFrom_63 ?_
  refine S_aload_0 (pc := 66) dX3_copyFrom_66 ?_
  refine fgX3_34 (pc := 67) hd (hv_N7 hd) dX3_copyFrom_67 ?_
  refine caX3_41 (pc := 70) (t_X7_copy (l := l) (G := G) (ar_N7 hs) (ar_N7 hd) (by decide)) (Nat.le_of_ble_eq_true rfl) ⟨rfl, rfl, ⟨by decide, by decide⟩, by decide, by decide⟩ dX3_copyFrom_70 (fun a70 b70 c70 p70 => ?_)
  obtain ⟨rfl, rfl, rfl⟩ := p70
  exact J_return (pc := 73) dX3_copyFrom_73 rfl ⟨rfl, rfl, ⟨cpR_of hds rfl (by simp [sv_u2, hne]) (by simp [sv_u2, hne]) (by simp [sv_u2, hne]) (by simp [sv_u2, hne]), rfl, rfl⟩⟩
set_option maxRecDepth 20000 in
set_option maxHeartbeats 2000000 in
theorem t_X4_rowAt {l : Launch} {G : svG} {hi : svH} {hl : svL} {tw dr : Nat} {pm : Nat → Nat} {p j q : Nat} (hp : svSH[p]? = some (0, 4)) (hj : j < 10) (hq : sv_hr tw dr pm (p + 1) j = some q) {x : Int32} (hx : x = nI j) : svO l G yX4_rowAt mX4_rowAt rX4_rowAt [sv_rf G.1 p, .int x] hi hl (sv_hr tw dr pm) (fun r a b c => r = some q ∧ hi = a ∧ hl = b ∧ sv_hr tw dr pm = c) := by
  have h0 : 0 ≤ x ∧ x < 10 := by subst hx; exact ⟨nI_pos' (by omega), nI_lt hj (by decide)⟩
  refine sv_entry (by decide +kernel) rfl rfl (Nat.le_of_ble_eq_true rfl) (by simp [Value.category, sv_rf]) [some (sv_rf G.1 p), some (.int x)] rfl ?_
  refine S_iload_1 (pc := 0) dX4_rowAt_0 ?_
  refine S_aload_0 (pc := 1) dX4_rowAt_1 ?_
  refine fgX4_17 (pc := 2) hp (hv_P1 hp) dX4_rowAt_2 ?_
  refine J_alen4 (pc := 5) (10) (ar_P1 hp) rfl dX4_rowAt_5 ?_
  refine caX4_33 (pc := 6) (t_X7_isIn (l := l) (G := G)) (Nat.le_of_ble_eq_true rfl) ⟨rfl, rfl, ⟨by decide, by decide⟩, by decide, by decide⟩ dX4_rowAt_6 (fun r6 a6 b6 c6 p6 => ?_)
  obtain ⟨rfl, rfl, rfl, rfl⟩ := p6
  refine J_if_eq_b (pc := 9) 21 dX4_rowAt_9 (by decide) (fun h9 => ?_) (fun h9 => ?_)
  · exact absurd h0 h9
  · refine S_aload_0 (pc := 12) dX4_rowAt_12 ?_
    refine fgX4_17 (pc := 13) hp (hv_P1 hp) dX4_rowAt_13 ?_
    refine S_iload_1 (pc := 16) dX4_rowAt_16 ?_
    refine J_aald_n (pc := 17) j (ar_P1 hp) hx hj (by decide) hq dX4_rowAt_17 ?_
    refine J_goto (pc := 18) 22 dX4_rowAt_18 (by decide) ?_
    exact J_areturn (pc := 22) dX4_rowAt_22 rfl ⟨some q, rfl, rfl, ⟨rfl, rfl, rfl, rfl⟩⟩
/-- the rows of what is known: days, apart -/
def pmok (pm : Nat → Nat) : Prop := (∀ j, j < 10 → svSH[pm j]? = some (0, 3) ∧ 23 ≤ pm j ∧ pm j ≤ 59) ∧ ∀ i j, i < 10 → j < 10 → i ≠ j → pm i + 3 < pm j ∨ pm j + 3 < pm i
def rot (pm pm' : Nat → Nat) : Prop := (∀ j, j < 9 → pm' j = pm (j + 1)) ∧ pm' 9 = pm 0
theorem pmok.rot {pm pm' : Nat → Nat} (h : pmok pm) (hr : rot pm pm') : pmok pm' := by
  have e : ∀ j, j < 10 → ∃ i, i < 10 ∧ pm' j = pm i ∧ (i = if j = 9 then 0 else j + 1) := fun j hj => by
    by_cases h9 : j = 9
    · exact ⟨0, by omega, by rw [h9]; exact hr.2, by simp [h9]⟩
    · exact ⟨j + 1, by omega, hr.1 j (by omega), by simp [h9]⟩
  refine ⟨fun j hj => ?_, fun i j h1 h2 h3 => ?_⟩
  · obtain ⟨i, h1, h2, -⟩ := e j hj
    rw [h2]; exact h.1 i h1
  · obtain ⟨i', a1, a2, a3⟩ := e i h1
    obtain ⟨j', b1, b2, b3⟩ := e j h2
    rw [a2, b2]
    refine h.2 i' j' a1 b1 (fun z => h3 ?_)
    rw [a3, b3] at z
    by_cases q1 : i = 9 <;> by_cases q2 : j = 9 <;> simp [q1, q2] at z <;> omega
theorem sv_hr_pm {tw dr : Nat} {pm : Nat → Nat} {k q : Nat} (hk : k < 10) : sv_u2 (sv_hr tw dr pm) 22 k (some q) = sv_hr tw dr (fun j => if j = k then q else pm j) := by
  funext i j
  by_cases h : i = 22
  · subst h
    by_cases hj : j = k
    · subst hj; simp [sv_u2, sv_hr, hk]
    · simp [sv_u2, sv_hr, hj]
  · simp [sv_u2, h, sv_hr]
set_option maxRecDepth 20000 in
set_option maxHeartbeats 2000000 in
theorem lo_X4_loseOldest {l : Launch} {G : svG} {hi : svH} {hl : svL} {tw dr : Nat} {pm : Nat → Nat} (hpm : pmok pm) : ∀ t, t ≤ 10 → 1 ≤ t → ∀ (pm' : Nat → Nat) (z : Option Value), (∀ j, j < t - 1 → pm' j = pm (j + 1)) → pm' (t - 1) = pm 0 → (∀ j, t ≤ j → pm' j = pm j) → svJ l G rX4_loseOldest mX4_loseOldest (sv_Fm G (fun v sh a b c => v = none ∧ sh = svSH ∧ ((fun a b c => ∃ pm', rot pm pm' ∧ sv_u2 hi 21 0 9 = a ∧ hl = b ∧ sv_hr tw dr pm' = c)) a b c) 0 0) 0 0 2 [some (sv_rf G.1 21), some (.int (nI t)), z] [] svSH hi hl (sv_hr tw dr pm') := by
  refine sv_up (fun t ht ih h1 pm' z i1 i2 i3 => ?_)
  refine S_iload_1 (pc := 2) dX4_loseOldest_2 ?_
  refine S_aload_0 (pc := 3) dX4_loseOldest_3 ?_
  refine fgX4_17 (pc := 4) sh_21 hv_21_1 dX4_loseOldest_4 ?_
  refine J_alen4 (pc := 7) (10) sh_22 rfl dX4_loseOldest_7 ?_
  refine J_icmp_ge (pc := 8) 47 dX4_loseOldest_8 (by decide) (fun h8 => ?_) (fun h8 => ?_)
  · rw [show (10 : Int32) = nI 10 from rfl, nI_leI (by omega) (by omega)] at h8
    obtain rfl : t = 10 := by omega
    refine S_aload_0 (pc := 47) dX4_loseOldest_47 ?_
    refine S_aload_0 (pc := 48) dX4_loseOldest_48 ?_
    refine fgX4_17 (pc := 49) sh_21 hv_21_1 dX4_loseOldest_49 ?_
    refine J_alen4 (pc := 52) (10) sh_22 rfl dX4_loseOldest_52 ?_
    refine J_iconst (pc := 53) (1) rfl dX4_loseOldest_53 ?_
    refine J_isub (pc := 54) dX4_loseOldest_54 ?_
    refine fpX4_9 (pc := 55) sh_21 dX4_loseOldest_55 ?_
    exact J_return (pc := 58) dX4_loseOldest_58 rfl ⟨rfl, rfl, ⟨pm', ⟨fun j hj => i1 j (by omega), i2⟩, rfl, rfl, rfl⟩⟩
  · rw [show (10 : Int32) = nI 10 from rfl, nI_leI (by omega) (by omega)] at h8
    have q1 : svSH[pm' (t - 1)]? = some (0, 3) := by rw [i2]; exact (hpm.1 0 (by omega)).1
    have q2 : svSH[pm' t]? = some (0, 3) := by rw [i3 t (by omega)]; exact (hpm.1 t (by omega)).1
    refine S_aload_0 (pc := 11) dX4_loseOldest_11 ?_
    refine fgX4_17 (pc := 12) sh_21 hv_21_1 dX4_loseOldest_12 ?_
    refine S_iload_1 (pc := 15) dX4_loseOldest_15 ?_
    refine J_iconst (pc := 16) (1) rfl dX4_loseOldest_16 ?_
    refine J_isub (pc := 17) dX4_loseOldest_17 ?_
    refine J_aald_n (pc := 18) (t - 1) sh_22 (by rw [show (1 : Int32) = nI 1 from rfl, pk_sub (by omega)]) (by omega) (by decide) (hv_rows (by omega)) dX4_loseOldest_18 ?_
    refine S_astore_2 (pc := 19) dX4_loseOldest_19 (by decide) ?_
    refine S_aload_0 (pc := 20) dX4_loseOldest_20 ?_
    refine fgX4_17 (pc := 21) sh_21 hv_21_1 dX4_loseOldest_21 ?_
    refine S_iload_1 (pc := 24) dX4_loseOldest_24 ?_
    refine J_iconst (pc := 25) (1) rfl dX4_loseOldest_25 ?_
    refine J_isub (pc := 26) dX4_loseOldest_26 ?_
    refine S_aload_0 (pc := 27) dX4_loseOldest_27 ?_
    refine fgX4_17 (pc := 28) sh_21 hv_21_1 dX4_loseOldest_28 ?_
    refine S_iload_1 (pc := 31) dX4_loseOldest_31 ?_
    refine J_aald_n (pc := 32) t sh_22 rfl (by omega) (by decide) (hv_rows (by omega)) dX4_loseOldest_32 ?_
    refine J_aast_n (pc := 33) (t - 1) sh_22 (by rw [show (1 : Int32) = nI 1 from rfl, pk_sub (by omega)]) (by omega) (by decide) q2 dX4_loseOldest_33 ?_
    rw [sv_hr_pm (by omega)]
    refine S_aload_0 (pc := 34) dX4_loseOldest_34 ?_
    refine fgX4_17 (pc := 35) sh_21 hv_21_1 dX4_loseOldest_35 ?_
    refine S_iload_1 (pc := 38) dX4_loseOldest_38 ?_
    refine S_aload_2 (pc := 39) dX4_loseOldest_39 ?_
    refine J_aast_n (pc := 40) t sh_22 rfl (by omega) (by decide) q1 dX4_loseOldest_40 ?_
    refine S_inc_1 (pc := 41) (1) rfl dX4_loseOldest_41 (by decide) ?_
    refine J_goto (pc := 44) 2 dX4_loseOldest_44 (by decide) ?_
    rw [sv_hr_pm (by omega)]
    refine svJ_ls (by rw [nI_succ]) (ih (t + 1) (by omega) (by omega) (by omega) _ _ (fun j hj => ?_) ?_ (fun j hj => ?_))
    · by_cases e : j = t - 1
      · rw [if_neg (by omega), if_pos e, i3 t (by omega)]; congr 1; omega
      · rw [if_neg (by omega), if_neg e]; exact i1 j (by omega)
    · rw [if_pos (by omega)]; exact i2
    · rw [if_neg (by omega), if_neg (by omega)]; exact i3 j (by omega)
set_option maxRecDepth 20000 in
set_option maxHeartbeats 2000000 in
theorem t_X4_loseOldest {l : Launch} {G : svG} {hi : svH} {hl : svL} {tw dr : Nat} {pm : Nat → Nat} (hpm : pmok pm) : svV l G yX4_loseOldest mX4_loseOldest rX4_loseOldest [sv_rf G.1 21] hi hl (sv_hr tw dr pm) (fun a b c => ∃ pm', rot pm pm' ∧ sv_u2 hi 21 0 9 = a ∧ hl = b ∧ sv_hr tw dr pm' = c) := by
  refine sv_entry (by decide +kernel) rfl rfl (Nat.le_of_ble_eq_true rfl) (by simp [Value.category, sv_rf]) [some (sv_rf G.1 21), none, none] rfl ?_
  refine J_iconst (pc := 0) (1) rfl dX4_loseOldest_0 ?_
  refine S_istore_1 (pc := 1) dX4_loseOldest_1 (by decide) ?_
  
  exact lo_X4_loseOldest hpm 1 (by omega) (by omega) pm _ (fun j hj => by omega) rfl (fun _ _ => rfl)
def pushed (hi a : svH) (d n : Nat) : Prop := a 21 0 = nI (n + 1) ∧ (∀ q, q ≠ 21 → q < d ∨ d + 3 < q → a q = hi q) ∧ (∀ k, k < 5 → a d k = hi 17 k) ∧ (∀ k, k < 6 → a (d + 1) k = hi 18 k) ∧ (∀ k, k < 8 → a (d + 2) k = hi 19 k) ∧ ∀ k, k < 8 → a (d + 3) k = hi 20 k
theorem pushed_of {hi a : svH} {d n : Nat} (hd : 23 ≤ d) (h : cpR hi a 17 d) (hk : hi 21 0 = nI n) : pushed hi (sv_u2 a 21 0 (a 21 0 + 1)) d n := by
  obtain ⟨h1, h2, h3, h4, h5⟩ := h
  refine ⟨by rw [sv_u2_at, h1 21 (by omega), hk, nI_succ], fun q hq hq2 => by rw [sv_u2_off hq, h1 q hq2], fun k hk => by rw [sv_u2_off (by omega), h2 k hk], fun k hk => by rw [sv_u2_off (by omega), h3 k hk], fun k hk => by rw [sv_u2_off (by omega), h4 k hk], fun k hk => by rw [sv_u2_off (by omega), h5 k hk]⟩
theorem pushed.from {hi hi' a : svH} {d n : Nat} (hd : 23 ≤ d) (h : pushed hi' a d n) (he : ∀ q, q ≠ 21 → hi' q = hi q) : pushed hi a d n := by
  obtain ⟨h1, h2, h3, h4, h5, h6⟩ := h
  refine ⟨h1, fun q g1 g2 => (h2 q g1 g2).trans (he q g1), fun k hk => ?_, fun k hk => ?_, fun k hk => ?_, fun k hk => ?_⟩
  · rw [h3 k hk, he 17 (by decide)]
  · rw [h4 k hk, he 18 (by decide)]
  · rw [h5 k hk, he 19 (by decide)]
  · rw [h6 k hk, he 20 (by decide)]
set_option maxRecDepth 20000 in
set_option maxHeartbeats 2000000 in
theorem tl_X4_push {l : Launch} {G : svG} {hi : svH} {hl : svL} {tw dr : Nat} {pm : Nat → Nat} {n : Nat} (hn : n ≤ 9) (hK : hi 21 0 = nI n) (hpm : pmok pm) {Q : svH → svL → svR → Prop} (hQ : ∀ a, pushed hi a (pm n) n → Q a hl (sv_hr tw dr pm)) : svJ l G rX4_push mX4_push (sv_Fm G (fun v sh a b c => v = none ∧ sh = svSH ∧ (Q) a b c) 0 0) 0 0 16 [some (sv_rf G.1 21), some (sv_rf G.1 17), none] [] svSH hi hl (sv_hr tw dr pm) := by
  have hq := hpm.1 n (by omega)
  refine S_aload_0 (pc := 16) dX4_push_16 ?_
  refine S_aload_0 (pc := 17) dX4_push_17 ?_
  refine fgX4_9 (pc := 18) sh_21 dX4_push_18 ?_
  refine caX4_25 (pc := 21) (t_X4_rowAt (l := l) (G := G) (p := 21) (j := n) (q := pm n) sh_21 (by omega) (hv_rows (by omega)) hK) sh_21 (Nat.le_of_ble_eq_true rfl) ⟨rfl, rfl, ⟨by decide, by decide⟩, by decide, by decide⟩ dX4_push_21 (fun r21 a21 b21 c21 p21 => ?_)
  obtain ⟨rfl, rfl, rfl, rfl⟩ := p21
  rw [show sv_rv G.1 (some (pm n)) = sv_rf G.1 (pm n) from rfl]
  refine S_astore_2 (pc := 24) dX4_push_24 (by decide) ?_
  refine S_aload_2 (pc := 25) dX4_push_25 ?_
  refine J_ifnonnull (pc := 26) 30 dX4_push_26 (by decide) ?_
  refine S_aload_2 (pc := 30) dX4_push_30 ?_
  refine S_aload_1 (pc := 31) dX4_push_31 ?_
  refine caX4_29 (pc := 32) (t_X3_copyFrom (l := l) (G := G) sh_17 hq.1 (by omega)) hq.1 (Nat.le_of_ble_eq_true rfl) ⟨rfl, rfl, ⟨by decide, by decide⟩, by decide, by decide⟩ dX4_push_32 (fun a32 b32 c32 p32 => ?_)
  obtain ⟨i1, rfl, rfl⟩ := p32
  refine S_aload_0 (pc := 35) dX4_push_35 ?_
  refine J_dup (pc := 36) rfl dX4_push_36 ?_
  refine fgX4_9 (pc := 37) sh_21 dX4_push_37 ?_
  refine J_iconst (pc := 40) (1) rfl dX4_push_40 ?_
  refine J_iadd (pc := 41) dX4_push_41 ?_
  refine fpX4_9 (pc := 42) sh_21 dX4_push_42 ?_
  exact J_return (pc := 45) dX4_push_45 rfl ⟨rfl, rfl, (hQ _ (pushed_of hq.2.1 i1 hK))⟩
set_option maxRecDepth 20000 in
set_option maxHeartbeats 2000000 in
theorem t_X4_push {l : Launch} {G : svG} {hi : svH} {hl : svL} {tw dr : Nat} {pm : Nat → Nat} {K : Nat} (hK : hi 21 0 = nI K) (hK10 : K ≤ 10) (hpm : pmok pm) : svV l G yX4_push mX4_push rX4_push [sv_rf G.1 21, sv_rf G.1 17] hi hl (sv_hr tw dr pm) (fun a b c => ∃ (pm' : Nat → Nat) (n : Nat), n ≤ 9 ∧ pmok pm' ∧ ((n = K ∧ pm' = pm) ∨ (K = 10 ∧ n = 9 ∧ rot pm pm')) ∧ pushed hi a (pm' n) n ∧ hl = b ∧ sv_hr tw dr pm' = c) := by
  refine sv_entry (by decide +kernel) rfl rfl (Nat.le_of_ble_eq_true rfl) (by simp [Value.category, sv_rf]) [some (sv_rf G.1 21), some (sv_rf G.1 17), none] rfl ?_
  refine S_aload_0 (pc := 0) dX4_push_0 ?_
  refine fgX4_9 (pc := 1) sh_21 dX4_push_1 ?_
  refine S_aload_0 (pc := 4) dX4_push_4 ?_
  refine fgX4_17 (pc := 5) sh_21 hv_21_1 dX4_push_5 ?_
  refine J_alen4 (pc := 8) (10) sh_22 rfl dX4_push_8 ?_
  refine J_icmp_lt (pc := 9) 16 dX4_push_9 (by decide) (fun h9 => ?_) (fun h9 => ?_)
  · rw [hK, show (10 : Int32) = nI 10 from rfl, nI_ltI (by omega) (by omega)] at h9
    exact tl_X4_push (n := K) (by omega) hK hpm (fun a ha => ⟨pm, K, by omega, hpm, Or.inl ⟨rfl, rfl⟩, ha, rfl, rfl⟩)
  · rw [hK, show (10 : Int32) = nI 10 from rfl, nI_ltI (by omega) (by omega)] at h9
    obtain rfl : K = 10 := by omega
    refine S_aload_0 (pc := 12) dX4_push_12 ?_
    refine caX4_22 (pc := 13) (t_X4_loseOldest (l := l) (G := G) hpm) sh_21 (Nat.le_of_ble_eq_true rfl) ⟨rfl, rfl, ⟨by decide, by decide⟩, by decide, by decide⟩ dX4_push_13 (fun a13 b13 c13 p13 => ?_)
    obtain ⟨pm', hro, rfl, rfl, rfl⟩ := p13
    exact tl_X4_push (n := 9) (by omega) sv_u2_at (hpm.rot hro) (fun a ha => ⟨pm', 9, by omega, hpm.rot hro, Or.inr ⟨rfl, rfl, hro⟩, ha.from ((hpm.rot hro).1 9 (by omega)).2.1 (fun q hq => sv_u2_off hq), rfl, rfl⟩)
set_option maxRecDepth 20000 in
set_option maxHeartbeats 2000000 in
theorem t_X4_popInto {l : Launch} {G : svG} {hi : svH} {hl : svL} {tw dr : Nat} {pm : Nat → Nat} {n : Nat} (hn : n ≤ 9) (hK : hi 21 0 = nI (n + 1)) (hpm : pmok pm) : svV l G yX4_popInto mX4_popInto rX4_popInto [sv_rf G.1 21, sv_rf G.1 17] hi hl (sv_hr tw dr pm) (fun a b c => a 21 0 = nI n ∧ (∀ q, q ≠ 21 → q < 17 ∨ 20 < q → a q = hi q) ∧ (∀ k, k < 5 → a 17 k = hi (pm n) k) ∧ (∀ k, k < 6 → a 18 k = hi (pm n + 1) k) ∧ (∀ k, k < 8 → a 19 k = hi (pm n + 2) k) ∧ (∀ k, k < 8 → a 20 k = hi (pm n + 3) k) ∧ hl = b ∧ sv_hr tw dr pm = c) := by
  have hq := hpm.1 n (by omega)
  refine sv_entry (by decide +kernel) rfl rfl (Nat.le_of_ble_eq_true rfl) (by simp [Value.category, sv_rf]) [some (sv_rf G.1 21), some (sv_rf G.1 17), none] rfl ?_
  refine S_aload_0 (pc := 0) dX4_popInto_0 ?_
  refine S_aload_0 (pc := 1) dX4_popInto_1 ?_
  refine fgX4_9 (pc := 2) sh_21 dX4_popInto_2 ?_
  refine J_iconst (pc := 5) (1) rfl dX4_popInto_5 ?_
  refine J_isub (pc := 6) dX4_popInto_6 ?_
  refine caX4_25 (pc := 7) (t_X4_rowAt (l := l) (G := G) (p := 21) (j := n) (q := pm n) sh_21 (by omega) (hv_rows (by omega)) (by rw [hK, nI_pred])) sh_21 (Nat.le_of_ble_eq_true rfl) ⟨rfl, rfl, ⟨by decide, by decide⟩, by decide, by decide⟩ dX4_popInto_7 (fun r7 a7 b7 c7 p7 => ?_)
  obtain ⟨rfl, rfl, rfl, rfl⟩ := p7
  rw [show sv_rv G.1 (some (pm n)) = sv_rf G.1 (pm n) from rfl]
  refine S_astore_2 (pc := 10) dX4_popInto_10 (by decide) ?_
  refine S_aload_2 (pc := 11) dX4_popInto_11 ?_
  refine J_ifnonnull (pc := 12) 16 dX4_popInto_12 (by decide) ?_
  refine S_aload_1 (pc := 16) dX4_popInto_16 ?_
  refine S_aload_2 (pc := 17) dX4_popInto_17 ?_
  refine caX4_29 (pc := 18) (t_X3_copyFrom (l := l) (G := G) hq.1 sh_17 (by omega)) sh_17 (Nat.le_of_ble_eq_true rfl) ⟨rfl, rfl, ⟨by decide, by decide⟩, by decide, by decide⟩ dX4_popInto_18 (fun a18 b18 c18 p18 => ?_)
  obtain ⟨⟨j1, j2, j3, j4, j5⟩, rfl, rfl⟩ := p18
  refine S_aload_0 (pc := 21) dX4_popInto_21 ?_
  refine J_dup (pc := 22) rfl dX4_popInto_22 ?_
  refine fgX4_9 (pc := 23) sh_21 dX4_popInto_23 ?_
  refine J_iconst (pc := 26) (1) rfl dX4_popInto_26 ?_
  refine J_isub (pc := 27) dX4_popInto_27 ?_
  refine fpX4_9 (pc := 28) sh_21 dX4_popInto_28 ?_
  exact J_return (pc := 31) dX4_popInto_31 rfl ⟨rfl, rfl, ⟨by rw [sv_u2_at, j1 21 (by omega), hK, nI_pred], fun q g1 g2 => by rw [sv_u2_off g1, j1 q g2], fun k hk => by rw [sv_u2_off (by omega), j2 k hk], fun k hk => by rw [sv_u2_off (by omega), j3 k hk], fun k hk => by rw [sv_u2_off (by omega), j4 k hk], fun k hk => by rw [sv_u2_off (by omega), j5 k hk], rfl, rfl⟩⟩
