theorem sv_in_t {x n : Int32} (h1 : ¬ x < 0) (h2 : ¬ n ≤ x) : sv_b (0 ≤ x ∧ x < n) = 1 := sv_b_t ⟨Int32.not_lt.mp h1, Int32.not_le.mp h2⟩
theorem sv_in_f1 {x n : Int32} (h1 : x < 0) : sv_b (0 ≤ x ∧ x < n) = 0 := sv_b_f (fun z => Int32.not_le.mpr h1 z.1)
theorem sv_in_f2 {x n : Int32} (h1 : n ≤ x) : sv_b (0 ≤ x ∧ x < n) = 0 := sv_b_f (fun z => Int32.not_le.mpr z.2 h1)
set_option maxRecDepth 20000 in
set_option maxHeartbeats 1000000 in
theorem t_X7_isIn {l : Launch} {G : svG} {hi : svH} {hl : svL} {hr : svR} {x n : Int32} : svIp l G yX7_isIn mX7_isIn rX7_isIn [.int x, .int n] hi hl hr (sv_b (0 ≤ x ∧ x < n)) := by
  refine sv_entry (by decide +kernel) rfl rfl (Nat.le_of_ble_eq_true rfl) (by simp [Value.category, sv_rf]) [some (.int x), some (.int n)] rfl ?_
  refine S_iload_0 (pc := 0) dX7_isIn_0 ?_
  refine J_if_lt (pc := 1) 13 dX7_isIn_1 (by decide) (fun h1 => ?_) (fun h1 => ?_)
  · refine J_iconst (pc := 13) (0) rfl dX7_isIn_13 ?_
    exact J_ireturn (pc := 14) dX7_isIn_14 rfl rfl ⟨_, rfl, rfl, ⟨by first | exact sv_in_t h1 h6 | exact sv_in_f1 h1 | exact sv_in_f2 h6, rfl, rfl, rfl⟩⟩
  · refine S_iload_0 (pc := 4) dX7_isIn_4 ?_
    refine S_iload_1 (pc := 5) dX7_isIn_5 ?_
    refine J_icmp_ge (pc := 6) 13 dX7_isIn_6 (by decide) (fun h6 => ?_) (fun h6 => ?_)
    · refine J_iconst (pc := 13) (0) rfl dX7_isIn_13 ?_
      exact J_ireturn (pc := 14) dX7_isIn_14 rfl rfl ⟨_, rfl, rfl, ⟨by first | exact sv_in_t h1 h6 | exact sv_in_f1 h1 | exact sv_in_f2 h6, rfl, rfl, rfl⟩⟩
    · refine J_iconst (pc := 9) (1) rfl dX7_isIn_9 ?_
      refine J_goto (pc := 10) 14 dX7_isIn_10 (by decide) ?_
      exact J_ireturn (pc := 14) dX7_isIn_14 rfl rfl ⟨_, rfl, rfl, ⟨by first | exact sv_in_t h1 h6 | exact sv_in_f1 h1 | exact sv_in_f2 h6, rfl, rfl, rfl⟩⟩
set_option maxRecDepth 20000 in
set_option maxHeartbeats 1000000 in
theorem t_X7_bit {l : Launch} {G : svG} {hi : svH} {hl : svL} {hr : svR} {b i : Int32} : svIp l G yX7_bit mX7_bit rX7_bit [.int b, .int i] hi hl hr (sv_bit b i) := by
  refine sv_entry (by decide +kernel) rfl rfl (Nat.le_of_ble_eq_true rfl) (by simp [Value.category, sv_rf]) [some (.int b), some (.int i)] rfl ?_
  refine S_iload_1 (pc := 0) dX7_bit_0 ?_
  refine J_bipush (pc := 1) (32) rfl dX7_bit_1 ?_
  refine caX7_68 (pc := 3) (t_X7_isIn (l := l) (G := G)) (Nat.le_of_ble_eq_true rfl) ⟨rfl, rfl, ⟨by decide, by decide⟩, by decide, by decide⟩ dX7_bit_3 (fun r3 a3 b3 c3 p3 => ?_)
  obtain ⟨rfl, rfl, rfl, rfl⟩ := p3
  refine J_if_eq_b (pc := 6) 17 dX7_bit_6 (by decide) (fun h6 => ?_) (fun h6 => ?_)
  · refine J_iconst (pc := 17) (0) rfl dX7_bit_17 ?_
    exact J_ireturn (pc := 18) dX7_bit_18 rfl rfl ⟨_, rfl, rfl, ⟨by first | exact if_pos h6 | exact if_neg h6, rfl, rfl, rfl⟩⟩
  · refine S_iload_0 (pc := 9) dX7_bit_9 ?_
    refine S_iload_1 (pc := 10) dX7_bit_10 ?_
    refine J_ishr (pc := 11) dX7_bit_11 ?_
    refine J_iconst (pc := 12) (1) rfl dX7_bit_12 ?_
    refine J_iand (pc := 13) dX7_bit_13 ?_
    refine J_goto (pc := 14) 18 dX7_bit_14 (by decide) ?_
    exact J_ireturn (pc := 18) dX7_bit_18 rfl rfl ⟨_, rfl, rfl, ⟨by first | exact if_pos h6 | exact if_neg h6, rfl, rfl, rfl⟩⟩
set_option maxRecDepth 20000 in
set_option maxHeartbeats 1000000 in
theorem t_X7_at {l : Launch} {G : svG} {hi : svH} {hl : svL} {hr : svR} {i n : Nat} {x : Int32} (hsh : svSH[i]? = some (1, n)) (hn : n < 2 ^ 31) : svIp l G yX7_at mX7_at rX7_at [sv_rf G.1 i, .int x] hi hl hr (sv_at n (hi i) x) := by
  refine sv_entry (by decide +kernel) rfl rfl (Nat.le_of_ble_eq_true rfl) (by simp [Value.category, sv_rf]) [some (sv_rf G.1 i), some (.int x)] rfl ?_
  refine S_iload_1 (pc := 0) dX7_at_0 ?_
  refine S_aload_0 (pc := 1) dX7_at_1 ?_
  refine J_alen1 (pc := 2) (nI n) hsh rfl dX7_at_2 ?_
  refine caX7_68 (pc := 3) (t_X7_isIn (l := l) (G := G)) (Nat.le_of_ble_eq_true rfl) ⟨rfl, rfl, ⟨by decide, by decide⟩, by decide, by decide⟩ dX7_at_3 (fun r3 a3 b3 c3 p3 => ?_)
  obtain ⟨rfl, rfl, rfl, rfl⟩ := p3
  refine J_if_eq_b (pc := 6) 15 dX7_at_6 (by decide) (fun h6 => ?_) (fun h6 => ?_)
  · refine J_iconst (pc := 15) (0) rfl dX7_at_15 ?_
    exact J_ireturn (pc := 16) dX7_at_16 rfl rfl ⟨_, rfl, rfl, ⟨by first | exact if_pos h6 | exact if_neg h6, rfl, rfl, rfl⟩⟩
  · refine S_aload_0 (pc := 9) dX7_at_9 ?_
    refine S_iload_1 (pc := 10) dX7_at_10 ?_
    refine J_iald (pc := 11) hsh (sv_in0 h6 hn) dX7_at_11 ?_
    refine J_goto (pc := 12) 16 dX7_at_12 (by decide) ?_
    exact J_ireturn (pc := 16) dX7_at_16 rfl rfl ⟨_, rfl, rfl, ⟨by first | exact if_pos h6 | exact if_neg h6, rfl, rfl, rfl⟩⟩
