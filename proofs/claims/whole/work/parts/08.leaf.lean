theorem sv_in_t {x n : Int32} (h1 : ¬ x < 0) (h2 : ¬ n ≤ x) : sv_b (0 ≤ x ∧ x < n) = 1 := sv_b_t ⟨Int32.not_lt.mp h1, Int32.not_le.mp h2⟩
theorem sv_in_f1 {x n : Int32} (h1 : x < 0) : sv_b (0 ≤ x ∧ x < n) = 0 := sv_b_f (fun z => Int32.not_le.mpr h1 z.1)
theorem sv_in_f2 {x n : Int32} (h1 : n ≤ x) : sv_b (0 ≤ x ∧ x < n) = 0 := sv_b_f (fun z => Int32.not_le.mpr z.2 h1)
def sv_us (x y : Int32) : Int32 := (x.toUInt32 >>> (y.toUInt32 &&& Int32.toUInt32 31)).toInt32
/-- a row with one place changed, a row copied over another -/
def sv_set (hi : svH) (i n : Nat) (x v : Int32) : svH := if 0 ≤ x ∧ x < nI n then sv_u2 hi i x.toNatClampNeg v else hi
def sv_cp (hi : svH) (i j n : Nat) : svH := fun b => if b = j then (fun k => if k < n then hi i k else hi j k) else hi b
set_option maxRecDepth 20000 in
set_option maxHeartbeats 1000000 in
theorem t_X7_isIn {l : Launch} {G : svG} {hi : svH} {hl : svL} {hr : svR} {x n : Int32} : svIp l G yX7_isIn mX7_isIn rX7_isIn [.int x, .int n] hi hl hr (sv_b (0 ≤ x ∧ x < n)) := by
  refine sv_entry (by decide +kernel) rfl rfl (Nat.le_of_ble_eq_true rfl) (by simp [Value.category, sv_rf]) [some (.int x), some (.int n)] rfl ?_
  refine S_iload_0 (pc := 0) dX7_isIn_0 ?_
  refine J_if_lt (pc := 1) 13 dX7_isIn_1 (by decide) (fun h1 => ?_) (fun h1 => ?_)
  · refine J_iconst (pc := 13) (0) rfl dX7_isIn_13 ?_
    exact J_ireturn (pc := 14) dX7_isIn_14 rfl rfl ⟨_, rfl, rfl, ⟨by first | exact sv_in_t h1 h6 | exact sv_in_f1 h1 | exact sv_in_f2 h6, rfl, rfl, rfl⟩⟩
  · refine S_iload_0 (pc := 4) dX7_isIn_4 ?_
    refine S_iload_1 (pc := 5) dX7_isIn_5 ?_
    refine J_icmp_ge (pc := 6) 13 dX7_isIn_6 (by decide) (fun h6 => ?_) (fun h6 => ?_)
    · refine J_iconst (pc := 13) (0) rfl dX7_isIn_13 ?_
      exact J_ireturn (pc := 14) dX7_isIn_14 rfl rfl ⟨_, rfl, rfl, ⟨by first | exact sv_in_t h1 h6 | exact sv_in_f1 h1 | exact sv_in_f2 h6, rfl, rfl, rfl⟩⟩
    · refine J_iconst (pc := 9) (1) rfl dX7_isIn_9 ?_
      refine J_goto (pc := 10) 14 dX7_isIn_10 (by decide) ?_
      exact J_ireturn (pc := 14) dX7_isIn_14 rfl rfl ⟨_, rfl, rfl, ⟨by first | exact sv_in_t h1 h6 | exact sv_in_f1 h1 | exact sv_in_f2 h6, rfl, rfl, rfl⟩⟩
set_option maxRecDepth 20000 in
set_option maxHeartbeats 1000000 in
theorem t_X7_bit {l : Launch} {G : svG} {hi : svH} {hl : svL} {hr : svR} {b i : Int32} : svIp l G yX7_bit mX7_bit rX7_bit [.int b, .int i] hi hl hr (sv_bit b i) := by
  refine sv_entry (by decide +kernel) rfl rfl (Nat.le_of_ble_eq_true rfl) (by simp [Value.category, sv_rf]) [some (.int b), some (.int i)] rfl ?_
  refine S_iload_1 (pc := 0) dX7_bit_0 ?_
  refine J_bipush (pc := 1) (32) rfl dX7_bit_1 ?_
  refine caX7_68 (pc := 3) (t_X7_isIn (l := l) (G := G)) (Nat.le_of_ble_eq_true rfl) ⟨rfl, rfl, ⟨by decide, by decide⟩, by decide, by decide⟩ dX7_bit_3 (fun r3 a3 b3 c3 p3 => ?_)
  obtain ⟨rfl, rfl, rfl, rfl⟩ := p3
  refine J_if_eq_b (pc := 6) 17 dX7_bit_6 (by decide) (fun h6 => ?_) (fun h6 => ?_)
  · refine J_iconst (pc := 17) (0) rfl dX7_bit_17 ?_
    exact J_ireturn (pc := 18) dX7_bit_18 rfl rfl ⟨_, rfl, rfl, ⟨by first | exact if_pos h6 | exact if_neg h6, rfl, rfl, rfl⟩⟩
  · refine S_iload_0 (pc := 9) dX7_bit_9 ?_
    refine S_iload_1 (pc := 10) dX7_bit_10 ?_
    refine J_ishr (pc := 11) dX7_bit_11 ?_
    refine J_iconst (pc := 12) (1) rfl dX7_bit_12 ?_
    refine J_iand (pc := 13) dX7_bit_13 ?_
    refine J_goto (pc := 14) 18 dX7_bit_14 (by decide) ?_
    exact J_ireturn (pc := 18) dX7_bit_18 rfl rfl ⟨_, rfl, rfl, ⟨by first | exact if_pos h6 | exact if_neg h6, rfl, rfl, rfl⟩⟩
set_option maxRecDepth 20000 in
set_option maxHeartbeats 1000000 in
theorem t_X7_at {l : Launch} {G : svG} {hi : svH} {hl : svL} {hr : svR} {i n : Nat} {x : Int32} (hsh : svSH[i]? = some (1, n)) (hn : n < 2 ^ 31) : svIp l G yX7_at mX7_at rX7_at [sv_rf G.1 i, .int x] hi hl hr (sv_at n (hi i) x) := by
  refine sv_entry (by decide +kernel) rfl rfl (Nat.le_of_ble_eq_true rfl) (by simp [Value.category, sv_rf]) [some (sv_rf G.1 i), some (.int x)] rfl ?_
  refine S_iload_1 (pc := 0) dX7_at_0 ?_
  refine S_aload_0 (pc := 1) dX7_at_1 ?_
  refine J_alen1 (pc := 2) (nI n) hsh rfl dX7_at_2 ?_
  refine caX7_68 (pc := 3) (t_X7_isIn (l := l) (G := G)) (Nat.le_of_ble_eq_true rfl) ⟨rfl, rfl, ⟨by decide, by decide⟩, by decide, by decide⟩ dX7_at_3 (fun r3 a3 b3 c3 p3 => ?_)
  obtain ⟨rfl, rfl, rfl, rfl⟩ := p3
  refine J_if_eq_b (pc := 6) 15 dX7_at_6 (by decide) (fun h6 => ?_) (fun h6 => ?_)
  · refine J_iconst (pc := 15) (0) rfl dX7_at_15 ?_
    exact J_ireturn (pc := 16) dX7_at_16 rfl rfl ⟨_, rfl, rfl, ⟨by first | exact if_pos h6 | exact if_neg h6, rfl, rfl, rfl⟩⟩
  · refine S_aload_0 (pc := 9) dX7_at_9 ?_
    refine S_iload_1 (pc := 10) dX7_at_10 ?_
    refine J_iald (pc := 11) hsh (sv_in0 h6 hn) dX7_at_11 ?_
    refine J_goto (pc := 12) 16 dX7_at_12 (by decide) ?_
    exact J_ireturn (pc := 16) dX7_at_16 rfl rfl ⟨_, rfl, rfl, ⟨by first | exact if_pos h6 | exact if_neg h6, rfl, rfl, rfl⟩⟩
set_option maxRecDepth 20000 in
set_option maxHeartbeats 1000000 in
theorem t_X7_set {l : Launch} {G : svG} {hi : svH} {hl : svL} {hr : svR} {i n : Nat} {x v : Int32} (hsh : svSH[i]? = some (1, n)) (hn : n < 2 ^ 31) : svVh l G yX7_set mX7_set rX7_set [sv_rf G.1 i, .int x, .int v] hi hl hr (sv_set hi i n x v) := by
  refine sv_entry (by decide +kernel) rfl rfl (Nat.le_of_ble_eq_true rfl) (by simp [Value.category, sv_rf]) [some (sv_rf G.1 i), some (.int x), some (.int v)] rfl ?_
  refine S_iload_1 (pc := 0) dX7_set_0 ?_
  refine S_aload_0 (pc := 1) dX7_set_1 ?_
  refine J_alen1 (pc := 2) (nI n) hsh rfl dX7_set_2 ?_
  refine caX7_68 (pc := 3) (t_X7_isIn (l := l) (G := G)) (Nat.le_of_ble_eq_true rfl) ⟨rfl, rfl, ⟨by decide, by decide⟩, by decide, by decide⟩ dX7_set_3 (fun r3 a3 b3 c3 p3 => ?_)
  obtain ⟨rfl, rfl, rfl, rfl⟩ := p3
  refine J_if_eq_b (pc := 6) 13 dX7_set_6 (by decide) (fun h6 => ?_) (fun h6 => ?_)
  · exact J_return (pc := 13) dX7_set_13 rfl ⟨rfl, rfl, ⟨by first | exact if_pos h6 | exact if_neg h6, rfl, rfl⟩⟩
  · refine S_aload_0 (pc := 9) dX7_set_9 ?_
    refine S_iload_1 (pc := 10) dX7_set_10 ?_
    refine S_iload_2 (pc := 11) dX7_set_11 ?_
    refine J_iast (pc := 12) hsh (sv_in0 h6 hn) dX7_set_12 ?_
    exact J_return (pc := 13) dX7_set_13 rfl ⟨rfl, rfl, ⟨by first | exact if_pos h6 | exact if_neg h6, rfl, rfl⟩⟩
set_option maxRecDepth 20000 in
set_option maxHeartbeats 1000000 in
theorem t_X7_raise {l : Launch} {G : svG} {hi : svH} {hl : svL} {hr : svR} {i n : Nat} {x v : Int32} (hsh : svSH[i]? = some (1, n)) (hn : n < 2 ^ 31) : svVh l G yX7_raise mX7_raise rX7_raise [sv_rf G.1 i, .int x, .int v] hi hl hr (sv_set hi i n x (hi i x.toNatClampNeg + v)) := by
  refine sv_entry (by decide +kernel) rfl rfl (Nat.le_of_ble_eq_true rfl) (by simp [Value.category, sv_rf]) [some (sv_rf G.1 i), some (.int x), some (.int v)] rfl ?_
  refine S_iload_1 (pc := 0) dX7_raise_0 ?_
  refine S_aload_0 (pc := 1) dX7_raise_1 ?_
  refine J_alen1 (pc := 2) (nI n) hsh rfl dX7_raise_2 ?_
  refine caX7_68 (pc := 3) (t_X7_isIn (l := l) (G := G)) (Nat.le_of_ble_eq_true rfl) ⟨rfl, rfl, ⟨by decide, by decide⟩, by decide, by decide⟩ dX7_raise_3 (fun r3 a3 b3 c3 p3 => ?_)
  obtain ⟨rfl, rfl, rfl, rfl⟩ := p3
  refine J_if_eq_b (pc := 6) 16 dX7_raise_6 (by decide) (fun h6 => ?_) (fun h6 => ?_)
  · exact J_return (pc := 16) dX7_raise_16 rfl ⟨rfl, rfl, ⟨by first | exact if_pos h6 | exact if_neg h6, rfl, rfl⟩⟩
  · refine S_aload_0 (pc := 9) dX7_raise_9 ?_
    refine S_iload_1 (pc := 10) dX7_raise_10 ?_
    refine J_dup2 (pc := 11) rfl rfl dX7_raise_11 ?_
    refine J_iald (pc := 12) hsh (sv_in0 h6 hn) dX7_raise_12 ?_
    refine S_iload_2 (pc := 13) dX7_raise_13 ?_
    refine J_iadd (pc := 14) dX7_raise_14 ?_
    refine J_iast (pc := 15) hsh (sv_in0 h6 hn) dX7_raise_15 ?_
    exact J_return (pc := 16) dX7_raise_16 rfl ⟨rfl, rfl, ⟨by first | exact if_pos h6 | exact if_neg h6, rfl, rfl⟩⟩
theorem sv_cpy_cp {hi : svH} {i j n : Nat} {N : Int32} (h : N.toNatClampNeg = n) : (fun b => if b = j then va_cpy (hi i) (hi j) (0 : Int32).toNatClampNeg (0 : Int32).toNatClampNeg N.toNatClampNeg else hi b) = sv_cp hi i j n := by
  rw [h]
  funext b
  by_cases hb : b = j
  · simp only [sv_cp, hb, if_true]
    funext k
    simp [va_cpy]
  · simp [sv_cp, hb]
theorem sv_min_n {n : Nat} : (if nI n < nI n then nI n else nI n) = nI n := by simp
set_option maxRecDepth 20000 in
set_option maxHeartbeats 1000000 in
theorem t_X7_copy {l : Launch} {G : svG} {hi : svH} {hl : svL} {hr : svR} {i j n : Nat} (hsh : svSH[i]? = some (1, n)) (hsj : svSH[j]? = some (1, n)) (hn : n < 2 ^ 31) : svVh l G yX7_copy mX7_copy rX7_copy [sv_rf G.1 i, sv_rf G.1 j] hi hl hr (sv_cp hi i j n) := by
  refine sv_entry (by decide +kernel) rfl rfl (Nat.le_of_ble_eq_true rfl) (by simp [Value.category, sv_rf]) [some (sv_rf G.1 i), some (sv_rf G.1 j)] rfl ?_
  refine S_aload_0 (pc := 0) dX7_copy_0 ?_
  refine J_iconst (pc := 1) (0) rfl dX7_copy_1 ?_
  refine S_aload_1 (pc := 2) dX7_copy_2 ?_
  refine J_iconst (pc := 3) (0) rfl dX7_copy_3 ?_
  refine S_aload_0 (pc := 4) dX7_copy_4 ?_
  refine J_alen1 (pc := 5) (nI n) hsh rfl dX7_copy_5 ?_
  refine S_aload_1 (pc := 6) dX7_copy_6 ?_
  refine J_alen1 (pc := 7) (nI n) hsj rfl dX7_copy_7 ?_
  refine maX7_280 (pc := 8) (by decide) (Nat.le_of_ble_eq_true rfl) (by decide) (by decide) dX7_copy_8 ?_
  refine cpX7_285 (pc := 11) hsh hsj (by decide) (by decide) (by rw [sv_min_n]; exact nI_pos hn) (by rw [sv_min_n, nI_clamp hn]; simp) (by rw [sv_min_n, nI_clamp hn]; simp) (by decide) (Nat.le_of_ble_eq_true rfl) dX7_copy_11 ?_
  exact J_return (pc := 14) dX7_copy_14 rfl ⟨rfl, rfl, ⟨(sv_cpy_cp (by rw [sv_min_n, nI_clamp hn])).symm, rfl, rfl⟩⟩
def sv_bc (x : Int32) : Int32 :=
  let a := x - (sv_us x 1 &&& 1431655765)
  let b := (a &&& 858993459) + (sv_us a 2 &&& 858993459)
  let c := (b + sv_us b 4) &&& 252645135
  let d := c + sv_us c 8
  let e := d + sv_us d 16
  e &&& 63
def sv_nt1 (n y : Int32) : Int32 := if y ≤ 4 then n + sv_us y 1 else (n + 2) + sv_us (sv_us y 2) 1
def sv_nt2 (n y : Int32) : Int32 := if y ≤ 16 then sv_nt1 n y else sv_nt1 (n + 4) (sv_us y 4)
def sv_nt3 (n y : Int32) : Int32 := if y ≤ 256 then sv_nt2 n y else sv_nt2 (n + 8) (sv_us y 8)
def sv_nt4 (n y : Int32) : Int32 := if y ≤ 65536 then sv_nt3 n y else sv_nt3 (n + 16) (sv_us y 16)
def sv_ntz (x : Int32) : Int32 := if 0 < ((x ^^^ (-1)) &&& (x - 1)) then sv_nt4 1 ((x ^^^ (-1)) &&& (x - 1)) else ((x ^^^ (-1)) &&& (x - 1)) &&& 32
set_option maxRecDepth 20000 in
set_option maxHeartbeats 1000000 in
theorem t_J6_bitCount_0f7a4 {l : Launch} {G : svG} {hi : svH} {hl : svL} {hr : svR} {x : Int32} : svIp l G yJ6_bitCount_0f7a4 mJ6_bitCount_0f7a4 rJ6_bitCount_0f7a4 [.int x] hi hl hr (sv_bc x) := by
  refine sv_entry (by decide +kernel) rfl rfl (Nat.le_of_ble_eq_true rfl) (by simp [Value.category, sv_rf]) [some (.int x)] rfl ?_
  refine S_iload_0 (pc := 0) dJ6_bitCount_0f7a4_0 ?_
  refine S_iload_0 (pc := 1) dJ6_bitCount_0f7a4_1 ?_
  refine J_iconst (pc := 2) (1) rfl dJ6_bitCount_0f7a4_2 ?_
  refine J_iushr (pc := 3) rfl dJ6_bitCount_0f7a4_3 ?_
  refine ldJ6_265 (pc := 4) dJ6_bitCount_0f7a4_4 ?_
  refine J_iand (pc := 7) dJ6_bitCount_0f7a4_7 ?_
  refine J_isub (pc := 8) dJ6_bitCount_0f7a4_8 ?_
  refine S_istore_0 (pc := 9) dJ6_bitCount_0f7a4_9 (by decide) ?_
  refine S_iload_0 (pc := 10) dJ6_bitCount_0f7a4_10 ?_
  refine ldJ6_266 (pc := 11) dJ6_bitCount_0f7a4_11 ?_
  refine J_iand (pc := 14) dJ6_bitCount_0f7a4_14 ?_
  refine S_iload_0 (pc := 15) dJ6_bitCount_0f7a4_15 ?_
  refine J_iconst (pc := 16) (2) rfl dJ6_bitCount_0f7a4_16 ?_
  refine J_iushr (pc := 17) rfl dJ6_bitCount_0f7a4_17 ?_
  refine ldJ6_266 (pc := 18) dJ6_bitCount_0f7a4_18 ?_
  refine J_iand (pc := 21) dJ6_bitCount_0f7a4_21 ?_
  refine J_iadd (pc := 22) dJ6_bitCount_0f7a4_22 ?_
  refine S_istore_0 (pc := 23) dJ6_bitCount_0f7a4_23 (by decide) ?_
  refine S_iload_0 (pc := 24) dJ6_bitCount_0f7a4_24 ?_
  refine S_iload_0 (pc := 25) dJ6_bitCount_0f7a4_25 ?_
  refine J_iconst (pc := 26) (4) rfl dJ6_bitCount_0f7a4_26 ?_
  refine J_iushr (pc := 27) rfl dJ6_bitCount_0f7a4_27 ?_
  refine J_iadd (pc := 28) dJ6_bitCount_0f7a4_28 ?_
  refine ldJ6_267 (pc := 29) dJ6_bitCount_0f7a4_29 ?_
  refine J_iand (pc := 32) dJ6_bitCount_0f7a4_32 ?_
  refine S_istore_0 (pc := 33) dJ6_bitCount_0f7a4_33 (by decide) ?_
  refine S_iload_0 (pc := 34) dJ6_bitCount_0f7a4_34 ?_
  refine S_iload_0 (pc := 35) dJ6_bitCount_0f7a4_35 ?_
  refine J_bipush (pc := 36) (8) rfl dJ6_bitCount_0f7a4_36 ?_
  refine J_iushr (pc := 38) rfl dJ6_bitCount_0f7a4_38 ?_
  refine J_iadd (pc := 39) dJ6_bitCount_0f7a4_39 ?_
  refine S_istore_0 (pc := 40) dJ6_bitCount_0f7a4_40 (by decide) ?_
  refine S_iload_0 (pc := 41) dJ6_bitCount_0f7a4_41 ?_
  refine S_iload_0 (pc := 42) dJ6_bitCount_0f7a4_42 ?_
  refine J_bipush (pc := 43) (16) rfl dJ6_bitCount_0f7a4_43 ?_
  refine J_iushr (pc := 45) rfl dJ6_bitCount_0f7a4_45 ?_
  refine J_iadd (pc := 46) dJ6_bitCount_0f7a4_46 ?_
  refine S_istore_0 (pc := 47) dJ6_bitCount_0f7a4_47 (by decide) ?_
  refine S_iload_0 (pc := 48) dJ6_bitCount_0f7a4_48 ?_
  refine J_bipush (pc := 49) (63) rfl dJ6_bitCount_0f7a4_49 ?_
  refine J_iand (pc := 51) dJ6_bitCount_0f7a4_51 ?_
  exact J_ireturn (pc := 52) dJ6_bitCount_0f7a4_52 rfl rfl ⟨_, rfl, rfl, ⟨rfl, rfl, rfl, rfl⟩⟩
set_option maxRecDepth 20000 in
set_option maxHeartbeats 1000000 in
theorem t_J6_numberOfTrailingZeros_0f7a4 {l : Launch} {G : svG} {hi : svH} {hl : svL} {hr : svR} {x : Int32} : svIp l G yJ6_numberOfTrailingZeros_0f7a4 mJ6_numberOfTrailingZeros_0f7a4 rJ6_numberOfTrailingZeros_0f7a4 [.int x] hi hl hr (sv_ntz x) := by
  refine sv_entry (by decide +kernel) rfl rfl (Nat.le_of_ble_eq_true rfl) (by simp [Value.category, sv_rf]) [some (.int x), none] rfl ?_
  refine S_iload_0 (pc := 0) dJ6_numberOfTrailingZeros_0f7a4_0 ?_
  refine J_iconst (pc := 1) (-1) rfl dJ6_numberOfTrailingZeros_0f7a4_1 ?_
  refine J_ixor (pc := 2) dJ6_numberOfTrailingZeros_0f7a4_2 ?_
  refine S_iload_0 (pc := 3) dJ6_numberOfTrailingZeros_0f7a4_3 ?_
  refine J_iconst (pc := 4) (1) rfl dJ6_numberOfTrailingZeros_0f7a4_4 ?_
  refine J_isub (pc := 5) dJ6_numberOfTrailingZeros_0f7a4_5 ?_
  refine J_iand (pc := 6) dJ6_numberOfTrailingZeros_0f7a4_6 ?_
  refine S_istore_0 (pc := 7) dJ6_numberOfTrailingZeros_0f7a4_7 (by decide) ?_
  refine S_iload_0 (pc := 8) dJ6_numberOfTrailingZeros_0f7a4_8 ?_
  refine J_if_gt (pc := 9) 17 dJ6_numberOfTrailingZeros_0f7a4_9 (by decide) (fun h9 => ?_) (fun h9 => ?_)
  · refine J_iconst (pc := 17) (1) rfl dJ6_numberOfTrailingZeros_0f7a4_17 ?_
    refine S_istore_1 (pc := 18) dJ6_numberOfTrailingZeros_0f7a4_18 (by decide) ?_
    refine S_iload_0 (pc := 19) dJ6_numberOfTrailingZeros_0f7a4_19 ?_
    refine ldJ6_264 (pc := 20) dJ6_numberOfTrailingZeros_0f7a4_20 ?_
    refine J_icmp_le (pc := 23) 34 dJ6_numberOfTrailingZeros_0f7a4_23 (by decide) (fun h23 => ?_) (fun h23 => ?_)
    · refine S_iload_0 (pc := 34) dJ6_numberOfTrailingZeros_0f7a4_34 ?_
      refine J_sipush (pc := 35) (256) rfl dJ6_numberOfTrailingZeros_0f7a4_35 ?_
      refine J_icmp_le (pc := 38) 49 dJ6_numberOfTrailingZeros_0f7a4_38 (by decide) (fun h38 => ?_) (fun h38 => ?_)
      · refine S_iload_0 (pc := 49) dJ6_numberOfTrailingZeros_0f7a4_49 ?_
        refine J_bipush (pc := 50) (16) rfl dJ6_numberOfTrailingZeros_0f7a4_50 ?_
        refine J_icmp_le (pc := 52) 62 dJ6_numberOfTrailingZeros_0f7a4_52 (by decide) (fun h52 => ?_) (fun h52 => ?_)
        · refine S_iload_0 (pc := 62) dJ6_numberOfTrailingZeros_0f7a4_62 ?_
          refine J_iconst (pc := 63) (4) rfl dJ6_numberOfTrailingZeros_0f7a4_63 ?_
          refine J_icmp_le (pc := 64) 74 dJ6_numberOfTrailingZeros_0f7a4_64 (by decide) (fun h64 => ?_) (fun h64 => ?_)
          · refine S_iload_1 (pc := 74) dJ6_numberOfTrailingZeros_0f7a4_74 ?_
            refine S_iload_0 (pc := 75) dJ6_numberOfTrailingZeros_0f7a4_75 ?_
            refine J_iconst (pc := 76) (1) rfl dJ6_numberOfTrailingZeros_0f7a4_76 ?_
            refine J_iushr (pc := 77) rfl dJ6_numberOfTrailingZeros_0f7a4_77 ?_
            refine J_iadd (pc := 78) dJ6_numberOfTrailingZeros_0f7a4_78 ?_
            exact J_ireturn (pc := 79) dJ6_numberOfTrailingZeros_0f7a4_79 rfl rfl ⟨_, rfl, rfl, ⟨by
                  simp only [sv_ntz, sv_nt4, sv_nt3, sv_nt2, sv_nt1, sv_us, h9, h23, h38, h52, h64, ↓reduceIte], rfl, rfl, rfl⟩⟩
          · refine S_inc_1 (pc := 67) (2) rfl dJ6_numberOfTrailingZeros_0f7a4_67 (by decide) ?_
            refine S_iload_0 (pc := 70) dJ6_numberOfTrailingZeros_0f7a4_70 ?_
            refine J_iconst (pc := 71) (2) rfl dJ6_numberOfTrailingZeros_0f7a4_71 ?_
            refine J_iushr (pc := 72) rfl dJ6_numberOfTrailingZeros_0f7a4_72 ?_
            refine S_istore_0 (pc := 73) dJ6_numberOfTrailingZeros_0f7a4_73 (by decide) ?_
            refine S_iload_1 (pc := 74) dJ6_numberOfTrailingZeros_0f7a4_74 ?_
            refine S_iload_0 (pc := 75) dJ6_numberOfTrailingZeros_0f7a4_75 ?_
            refine J_iconst (pc := 76) (1) rfl dJ6_numberOfTrailingZeros_0f7a4_76 ?_
            refine J_iushr (pc := 77) rfl dJ6_numberOfTrailingZeros_0f7a4_77 ?_
            refine J_iadd (pc := 78) dJ6_numberOfTrailingZeros_0f7a4_78 ?_
            exact J_ireturn (pc := 79) dJ6_numberOfTrailingZeros_0f7a4_79 rfl rfl ⟨_, rfl, rfl, ⟨by
                  simp only [sv_ntz, sv_nt4, sv_nt3, sv_nt2, sv_nt1, sv_us, h9, h23, h38, h52, h64, ↓reduceIte], rfl, rfl, rfl⟩⟩
        · refine S_inc_1 (pc := 55) (4) rfl dJ6_numberOfTrailingZeros_0f7a4_55 (by decide) ?_
          refine S_iload_0 (pc := 58) dJ6_numberOfTrailingZeros_0f7a4_58 ?_
          refine J_iconst (pc := 59) (4) rfl dJ6_numberOfTrailingZeros_0f7a4_59 ?_
          refine J_iushr (pc := 60) rfl dJ6_numberOfTrailingZeros_0f7a4_60 ?_
          refine S_istore_0 (pc := 61) dJ6_numberOfTrailingZeros_0f7a4_61 (by decide) ?_
          refine S_iload_0 (pc := 62) dJ6_numberOfTrailingZeros_0f7a4_62 ?_
          refine J_iconst (pc := 63) (4) rfl dJ6_numberOfTrailingZeros_0f7a4_63 ?_
          refine J_icmp_le (pc := 64) 74 dJ6_numberOfTrailingZeros_0f7a4_64 (by decide) (fun h64 => ?_) (fun h64 => ?_)
          · refine S_iload_1 (pc := 74) dJ6_numberOfTrailingZeros_0f7a4_74 ?_
            refine S_iload_0 (pc := 75) dJ6_numberOfTrailingZeros_0f7a4_75 ?_
            refine J_iconst (pc := 76) (1) rfl dJ6_numberOfTrailingZeros_0f7a4_76 ?_
            refine J_iushr (pc := 77) rfl dJ6_numberOfTrailingZeros_0f7a4_77 ?_
            refine J_iadd (pc := 78) dJ6_numberOfTrailingZeros_0f7a4_78 ?_
            exact J_ireturn (pc := 79) dJ6_numberOfTrailingZeros_0f7a4_79 rfl rfl ⟨_, rfl, rfl, ⟨by
                  simp only [sv_ntz, sv_nt4, sv_nt3, sv_nt2, sv_nt1, sv_us, h9, h23, h38, h52, h64, ↓reduceIte], rfl, rfl, rfl⟩⟩
          · refine S_inc_1 (pc := 67) (2) rfl dJ6_numberOfTrailingZeros_0f7a4_67 (by decide) ?_
            refine S_iload_0 (pc := 70) dJ6_numberOfTrailingZeros_0f7a4_70 ?_
            refine J_iconst (pc := 71) (2) rfl dJ6_numberOfTrailingZeros_0f7a4_71 ?_
            refine J_iushr (pc := 72) rfl dJ6_numberOfTrailingZeros_0f7a4_72 ?_
            refine S_istore_0 (pc := 73) dJ6_numberOfTrailingZeros_0f7a4_73 (by decide) ?_
            refine S_iload_1 (pc := 74) dJ6_numberOfTrailingZeros_0f7a4_74 ?_
            refine S_iload_0 (pc := 75) dJ6_numberOfTrailingZeros_0f7a4_75 ?_
            refine J_iconst (pc := 76) (1) rfl dJ6_numberOfTrailingZeros_0f7a4_76 ?_
            refine J_iushr (pc := 77) rfl dJ6_numberOfTrailingZeros_0f7a4_77 ?_
            refine J_iadd (pc := 78) dJ6_numberOfTrailingZeros_0f7a4_78 ?_
            exact J_ireturn (pc := 79) dJ6_numberOfTrailingZeros_0f7a4_79 rfl rfl ⟨_, rfl, rfl, ⟨by
                  simp only [sv_ntz, sv_nt4, sv_nt3, sv_nt2, sv_nt1, sv_us, h9, h23, h38, h52, h64, ↓reduceIte], rfl, rfl, rfl⟩⟩
      · refine S_inc_1 (pc := 41) (8) rfl dJ6_numberOfTrailingZeros_0f7a4_41 (by decide) ?_
        refine S_iload_0 (pc := 44) dJ6_numberOfTrailingZeros_0f7a4_44 ?_
        refine J_bipush (pc := 45) (8) rfl dJ6_numberOfTrailingZeros_0f7a4_45 ?_
        refine J_iushr (pc := 47) rfl dJ6_numberOfTrailingZeros_0f7a4_47 ?_
        refine S_istore_0 (pc := 48) dJ6_numberOfTrailingZeros_0f7a4_48 (by decide) ?_
        refine S_iload_0 (pc := 49) dJ6_numberOfTrailingZeros_0f7a4_49 ?_
        refine J_bipush (pc := 50) (16) rfl dJ6_numberOfTrailingZeros_0f7a4_50 ?_
        refine J_icmp_le (pc := 52) 62 dJ6_numberOfTrailingZeros_0f7a4_52 (by decide) (fun h52 => ?_) (fun h52 => ?_)
        · refine S_iload_0 (pc := 62) dJ6_numberOfTrailingZeros_0f7a4_62 ?_
          refine J_iconst (pc := 63) (4) rfl dJ6_numberOfTrailingZeros_0f7a4_63 ?_
          refine J_icmp_le (pc := 64) 74 dJ6_numberOfTrailingZeros_0f7a4_64 (by decide) (fun h64 => ?_) (fun h64 => ?_)
          · refine S_iload_1 (pc := 74) dJ6_numberOfTrailingZeros_0f7a4_74 ?_
            refine S_iload_0 (pc := 75) dJ6_numberOfTrailingZeros_0f7a4_75 ?_
            refine J_iconst (pc := 76) (1) rfl dJ6_numberOfTrailingZeros_0f7a4_76 ?_
            refine J_iushr (pc := 77) rfl dJ6_numberOfTrailingZeros_0f7a4_77 ?_
            refine J_iadd (pc := 78) dJ6_numberOfTrailingZeros_0f7a4_78 ?_
            exact J_ireturn (pc := 79) dJ6_numberOfTrailingZeros_0f7a4_79 rfl rfl ⟨_, rfl, rfl, ⟨by
                  simp only [sv_ntz, sv_nt4, sv_nt3, sv_nt2, sv_nt1, sv_us, h9, h23, h38, h52, h64, ↓reduceIte], rfl, rfl, rfl⟩⟩
          · refine S_inc_1 (pc := 67) (2) rfl dJ6_numberOfTrailingZeros_0f7a4_67 (by decide) ?_
            refine S_iload_0 (pc := 70) dJ6_numberOfTrailingZeros_0f7a4_70 ?_
            refine J_iconst (pc := 71) (2) rfl dJ6_numberOfTrailingZeros_0f7a4_71 ?_
            refine J_iushr (pc := 72) rfl dJ6_numberOfTrailingZeros_0f7a4_72 ?_
            refine S_istore_0 (pc := 73) dJ6_numberOfTrailingZeros_0f7a4_73 (by decide) ?_
            refine S_iload_1 (pc := 74) dJ6_numberOfTrailingZeros_0f7a4_74 ?_
            refine S_iload_0 (pc := 75) dJ6_numberOfTrailingZeros_0f7a4_75 ?_
            refine J_iconst (pc := 76) (1) rfl dJ6_numberOfTrailingZeros_0f7a4_76 ?_
            refine J_iushr (pc := 77) rfl dJ6_numberOfTrailingZeros_0f7a4_77 ?_
            refine J_iadd (pc := 78) dJ6_numberOfTrailingZeros_0f7a4_78 ?_
            exact J_ireturn (pc := 79) dJ6_numberOfTrailingZeros_0f7a4_79 rfl rfl ⟨_, rfl, rfl, ⟨by
                  simp only [sv_ntz, sv_nt4, sv_nt3, sv_nt2, sv_nt1, sv_us, h9, h23, h38, h52, h64, ↓reduceIte], rfl, rfl, rfl⟩⟩
        · refine S_inc_1 (pc := 55) (4) rfl dJ6_numberOfTrailingZeros_0f7a4_55 (by decide) ?_
          refine S_iload_0 (pc := 58) dJ6_numberOfTrailingZeros_0f7a4_58 ?_
          refine J_iconst (pc := 59) (4) rfl dJ6_numberOfTrailingZeros_0f7a4_59 ?_
          refine J_iushr (pc := 60) rfl dJ6_numberOfTrailingZeros_0f7a4_60 ?_
          refine S_istore_0 (pc := 61) dJ6_numberOfTrailingZeros_0f7a4_61 (by decide) ?_
          refine S_iload_0 (pc := 62) dJ6_numberOfTrailingZeros_0f7a4_62 ?_
          refine J_iconst (pc := 63) (4) rfl dJ6_numberOfTrailingZeros_0f7a4_63 ?_
          refine J_icmp_le (pc := 64) 74 dJ6_numberOfTrailingZeros_0f7a4_64 (by decide) (fun h64 => ?_) (fun h64 => ?_)
          · refine S_iload_1 (pc := 74) dJ6_numberOfTrailingZeros_0f7a4_74 ?_
            refine S_iload_0 (pc := 75) dJ6_numberOfTrailingZeros_0f7a4_75 ?_
            refine J_iconst (pc := 76) (1) rfl dJ6_numberOfTrailingZeros_0f7a4_76 ?_
            refine J_iushr (pc := 77) rfl dJ6_numberOfTrailingZeros_0f7a4_77 ?_
            refine J_iadd (pc := 78) dJ6_numberOfTrailingZeros_0f7a4_78 ?_
            exact J_ireturn (pc := 79) dJ6_numberOfTrailingZeros_0f7a4_79 rfl rfl ⟨_, rfl, rfl, ⟨by
                  simp only [sv_ntz, sv_nt4, sv_nt3, sv_nt2, sv_nt1, sv_us, h9, h23, h38, h52, h64, ↓reduceIte], rfl, rfl, rfl⟩⟩
          · refine S_inc_1 (pc := 67) (2) rfl dJ6_numberOfTrailingZeros_0f7a4_67 (by decide) ?_
            refine S_iload_0 (pc := 70) dJ6_numberOfTrailingZeros_0f7a4_70 ?_
            refine J_iconst (pc := 71) (2) rfl dJ6_numberOfTrailingZeros_0f7a4_71 ?_
            refine J_iushr (pc := 72) rfl dJ6_numberOfTrailingZeros_0f7a4_72 ?_
            refine S_istore_0 (pc := 73) dJ6_numberOfTrailingZeros_0f7a4_73 (by decide) ?_
            refine S_iload_1 (pc := 74) dJ6_numberOfTrailingZeros_0f7a4_74 ?_
            refine S_iload_0 (pc := 75) dJ6_numberOfTrailingZeros_0f7a4_75 ?_
            refine J_iconst (pc := 76) (1) rfl dJ6_numberOfTrailingZeros_0f7a4_76 ?_
            refine J_iushr (pc := 77) rfl dJ6_numberOfTrailingZeros_0f7a4_77 ?_
            refine J_iadd (pc := 78) dJ6_numberOfTrailingZeros_0f7a4_78 ?_
            exact J_ireturn (pc := 79) dJ6_numberOfTrailingZeros_0f7a4_79 rfl rfl ⟨_, rfl, rfl, ⟨by
                  simp only [sv_ntz, sv_nt4, sv_nt3, sv_nt2, sv_nt1, sv_us, h9, h23, h38, h52, h64, ↓reduceIte], rfl, rfl, rfl⟩⟩
    · refine S_inc_1 (pc := 26) (16) rfl dJ6_numberOfTrailingZeros_0f7a4_26 (by decide) ?_
      refine S_iload_0 (pc := 29) dJ6_numberOfTrailingZeros_0f7a4_29 ?_
      refine J_bipush (pc := 30) (16) rfl dJ6_numberOfTrailingZeros_0f7a4_30 ?_
      refine J_iushr (pc := 32) rfl dJ6_numberOfTrailingZeros_0f7a4_32 ?_
      refine S_istore_0 (pc := 33) dJ6_numberOfTrailingZeros_0f7a4_33 (by decide) ?_
      refine S_iload_0 (pc := 34) dJ6_numberOfTrailingZeros_0f7a4_34 ?_
      refine J_sipush (pc := 35) (256) rfl dJ6_numberOfTrailingZeros_0f7a4_35 ?_
      refine J_icmp_le (pc := 38) 49 dJ6_numberOfTrailingZeros_0f7a4_38 (by decide) (fun h38 => ?_) (fun h38 => ?_)
      · refine S_iload_0 (pc := 49) dJ6_numberOfTrailingZeros_0f7a4_49 ?_
        refine J_bipush (pc := 50) (16) rfl dJ6_numberOfTrailingZeros_0f7a4_50 ?_
        refine J_icmp_le (pc := 52) 62 dJ6_numberOfTrailingZeros_0f7a4_52 (by decide) (fun h52 => ?_) (fun h52 => ?_)
        · refine S_iload_0 (pc := 62) dJ6_numberOfTrailingZeros_0f7a4_62 ?_
          refine J_iconst (pc := 63) (4) rfl dJ6_numberOfTrailingZeros_0f7a4_63 ?_
          refine J_icmp_le (pc := 64) 74 dJ6_numberOfTrailingZeros_0f7a4_64 (by decide) (fun h64 => ?_) (fun h64 => ?_)
          · refine S_iload_1 (pc := 74) dJ6_numberOfTrailingZeros_0f7a4_74 ?_
            refine S_iload_0 (pc := 75) dJ6_numberOfTrailingZeros_0f7a4_75 ?_
            refine J_iconst (pc := 76) (1) rfl dJ6_numberOfTrailingZeros_0f7a4_76 ?_
            refine J_iushr (pc := 77) rfl dJ6_numberOfTrailingZeros_0f7a4_77 ?_
            refine J_iadd (pc := 78) dJ6_numberOfTrailingZeros_0f7a4_78 ?_
            exact J_ireturn (pc := 79) dJ6_numberOfTrailingZeros_0f7a4_79 rfl rfl ⟨_, rfl, rfl, ⟨by
                  simp only [sv_ntz, sv_nt4, sv_nt3, sv_nt2, sv_nt1, sv_us, h9, h23, h38, h52, h64, ↓reduceIte], rfl, rfl, rfl⟩⟩
          · refine S_inc_1 (pc := 67) (2) rfl dJ6_numberOfTrailingZeros_0f7a4_67 (by decide) ?_
            refine S_iload_0 (pc := 70) dJ6_numberOfTrailingZeros_0f7a4_70 ?_
            refine J_iconst (pc := 71) (2) rfl dJ6_numberOfTrailingZeros_0f7a4_71 ?_
            refine J_iushr (pc := 72) rfl dJ6_numberOfTrailingZeros_0f7a4_72 ?_
            refine S_istore_0 (pc := 73) dJ6_numberOfTrailingZeros_0f7a4_73 (by decide) ?_
            refine S_iload_1 (pc := 74) dJ6_numberOfTrailingZeros_0f7a4_74 ?_
            refine S_iload_0 (pc := 75) dJ6_numberOfTrailingZeros_0f7a4_75 ?_
            refine J_iconst (pc := 76) (1) rfl dJ6_numberOfTrailingZeros_0f7a4_76 ?_
            refine J_iushr (pc := 77) rfl dJ6_numberOfTrailingZeros_0f7a4_77 ?_
            refine J_iadd (pc := 78) dJ6_numberOfTrailingZeros_0f7a4_78 ?_
            exact J_ireturn (pc := 79) dJ6_numberOfTrailingZeros_0f7a4_79 rfl rfl ⟨_, rfl, rfl, ⟨by
                  simp only [sv_ntz, sv_nt4, sv_nt3, sv_nt2, sv_nt1, sv_us, h9, h23, h38, h52, h64, ↓reduceIte], rfl, rfl, rfl⟩⟩
        · refine S_inc_1 (pc := 55) (4) rfl dJ6_numberOfTrailingZeros_0f7a4_55 (by decide) ?_
          refine S_iload_0 (pc := 58) dJ6_numberOfTrailingZeros_0f7a4_58 ?_
          refine J_iconst (pc := 59) (4) rfl dJ6_numberOfTrailingZeros_0f7a4_59 ?_
          refine J_iushr (pc := 60) rfl dJ6_numberOfTrailingZeros_0f7a4_60 ?_
          refine S_istore_0 (pc := 61) dJ6_numberOfTrailingZeros_0f7a4_61 (by decide) ?_
          refine S_iload_0 (pc := 62) dJ6_numberOfTrailingZeros_0f7a4_62 ?_
          refine J_iconst (pc := 63) (4) rfl dJ6_numberOfTrailingZeros_0f7a4_63 ?_
          refine J_icmp_le (pc := 64) 74 dJ6_numberOfTrailingZeros_0f7a4_64 (by decide) (fun h64 => ?_) (fun h64 => ?_)
          · refine S_iload_1 (pc := 74) dJ6_numberOfTrailingZeros_0f7a4_74 ?_
            refine S_iload_0 (pc := 75) dJ6_numberOfTrailingZeros_0f7a4_75 ?_
            refine J_iconst (pc := 76) (1) rfl dJ6_numberOfTrailingZeros_0f7a4_76 ?_
            refine J_iushr (pc := 77) rfl dJ6_numberOfTrailingZeros_0f7a4_77 ?_
            refine J_iadd (pc := 78) dJ6_numberOfTrailingZeros_0f7a4_78 ?_
            exact J_ireturn (pc := 79) dJ6_numberOfTrailingZeros_0f7a4_79 rfl rfl ⟨_, rfl, rfl, ⟨by
                  simp only [sv_ntz, sv_nt4, sv_nt3, sv_nt2, sv_nt1, sv_us, h9, h23, h38, h52, h64, ↓reduceIte], rfl, rfl, rfl⟩⟩
          · refine S_inc_1 (pc := 67) (2) rfl dJ6_numberOfTrailingZeros_0f7a4_67 (by decide) ?_
            refine S_iload_0 (pc := 70) dJ6_numberOfTrailingZeros_0f7a4_70 ?_
            refine J_iconst (pc := 71) (2) rfl dJ6_numberOfTrailingZeros_0f7a4_71 ?_
            refine J_iushr (pc := 72) rfl dJ6_numberOfTrailingZeros_0f7a4_72 ?_
            refine S_istore_0 (pc := 73) dJ6_numberOfTrailingZeros_0f7a4_73 (by decide) ?_
            refine S_iload_1 (pc := 74) dJ6_numberOfTrailingZeros_0f7a4_74 ?_
            refine S_iload_0 (pc := 75) dJ6_numberOfTrailingZeros_0f7a4_75 ?_
            refine J_iconst (pc := 76) (1) rfl dJ6_numberOfTrailingZeros_0f7a4_76 ?_
            refine J_iushr (pc := 77) rfl dJ6_numberOfTrailingZeros_0f7a4_77 ?_
            refine J_iadd (pc := 78) dJ6_numberOfTrailingZeros_0f7a4_78 ?_
            exact J_ireturn (pc := 79) dJ6_numberOfTrailingZeros_0f7a4_79 rfl rfl ⟨_, rfl, rfl, ⟨by
                  simp only [sv_ntz, sv_nt4, sv_nt3, sv_nt2, sv_nt1, sv_us, h9, h23, h38, h52, h64, ↓reduceIte], rfl, rfl, rfl⟩⟩
      · refine S_inc_1 (pc := 41) (8) rfl dJ6_numberOfTrailingZeros_0f7a4_41 (by decide) ?_
        refine S_iload_0 (pc := 44) dJ6_numberOfTrailingZeros_0f7a4_44 ?_
        refine J_bipush (pc := 45) (8) rfl dJ6_numberOfTrailingZeros_0f7a4_45 ?_
        refine J_iushr (pc := 47) rfl dJ6_numberOfTrailingZeros_0f7a4_47 ?_
        refine S_istore_0 (pc := 48) dJ6_numberOfTrailingZeros_0f7a4_48 (by decide) ?_
        refine S_iload_0 (pc := 49) dJ6_numberOfTrailingZeros_0f7a4_49 ?_
        refine J_bipush (pc := 50) (16) rfl dJ6_numberOfTrailingZeros_0f7a4_50 ?_
        refine J_icmp_le (pc := 52) 62 dJ6_numberOfTrailingZeros_0f7a4_52 (by decide) (fun h52 => ?_) (fun h52 => ?_)
        · refine S_iload_0 (pc := 62) dJ6_numberOfTrailingZeros_0f7a4_62 ?_
          refine J_iconst (pc := 63) (4) rfl dJ6_numberOfTrailingZeros_0f7a4_63 ?_
          refine J_icmp_le (pc := 64) 74 dJ6_numberOfTrailingZeros_0f7a4_64 (by decide) (fun h64 => ?_) (fun h64 => ?_)
          · refine S_iload_1 (pc := 74) dJ6_numberOfTrailingZeros_0f7a4_74 ?_
            refine S_iload_0 (pc := 75) dJ6_numberOfTrailingZeros_0f7a4_75 ?_
            refine J_iconst (pc := 76) (1) rfl dJ6_numberOfTrailingZeros_0f7a4_76 ?_
            refine J_iushr (pc := 77) rfl dJ6_numberOfTrailingZeros_0f7a4_77 ?_
            refine J_iadd (pc := 78) dJ6_numberOfTrailingZeros_0f7a4_78 ?_
            exact J_ireturn (pc := 79) dJ6_numberOfTrailingZeros_0f7a4_79 rfl rfl ⟨_, rfl, rfl, ⟨by
                  simp only [sv_ntz, sv_nt4, sv_nt3, sv_nt2, sv_nt1, sv_us, h9, h23, h38, h52, h64, ↓reduceIte], rfl, rfl, rfl⟩⟩
          · refine S_inc_1 (pc := 67) (2) rfl dJ6_numberOfTrailingZeros_0f7a4_67 (by decide) ?_
            refine S_iload_0 (pc := 70) dJ6_numberOfTrailingZeros_0f7a4_70 ?_
            refine J_iconst (pc := 71) (2) rfl dJ6_numberOfTrailingZeros_0f7a4_71 ?_
            refine J_iushr (pc := 72) rfl dJ6_numberOfTrailingZeros_0f7a4_72 ?_
            refine S_istore_0 (pc := 73) dJ6_numberOfTrailingZeros_0f7a4_73 (by decide) ?_
            refine S_iload_1 (pc := 74) dJ6_numberOfTrailingZeros_0f7a4_74 ?_
            refine S_iload_0 (pc := 75) dJ6_numberOfTrailingZeros_0f7a4_75 ?_
            refine J_iconst (pc := 76) (1) rfl dJ6_numberOfTrailingZeros_0f7a4_76 ?_
            refine J_iushr (pc := 77) rfl dJ6_numberOfTrailingZeros_0f7a4_77 ?_
            refine J_iadd (pc := 78) dJ6_numberOfTrailingZeros_0f7a4_78 ?_
            exact J_ireturn (pc := 79) dJ6_numberOfTrailingZeros_0f7a4_79 rfl rfl ⟨_, rfl, rfl, ⟨by
                  simp only [sv_ntz, sv_nt4, sv_nt3, sv_nt2, sv_nt1, sv_us, h9, h23, h38, h52, h64, ↓reduceIte], rfl, rfl, rfl⟩⟩
        · refine S_inc_1 (pc := 55) (4) rfl dJ6_numberOfTrailingZeros_0f7a4_55 (by decide) ?_
          refine S_iload_0 (pc := 58) dJ6_numberOfTrailingZeros_0f7a4_58 ?_
          refine J_iconst (pc := 59) (4) rfl dJ6_numberOfTrailingZeros_0f7a4_59 ?_
          refine J_iushr (pc := 60) rfl dJ6_numberOfTrailingZeros_0f7a4_60 ?_
          refine S_istore_0 (pc := 61) dJ6_numberOfTrailingZeros_0f7a4_61 (by decide) ?_
          refine S_iload_0 (pc := 62) dJ6_numberOfTrailingZeros_0f7a4_62 ?_
          refine J_iconst (pc := 63) (4) rfl dJ6_numberOfTrailingZeros_0f7a4_63 ?_
          refine J_icmp_le (pc := 64) 74 dJ6_numberOfTrailingZeros_0f7a4_64 (by decide) (fun h64 => ?_) (fun h64 => ?_)
          · refine S_iload_1 (pc := 74) dJ6_numberOfTrailingZeros_0f7a4_74 ?_
            refine S_iload_0 (pc := 75) dJ6_numberOfTrailingZeros_0f7a4_75 ?_
            refine J_iconst (pc := 76) (1) rfl dJ6_numberOfTrailingZeros_0f7a4_76 ?_
            refine J_iushr (pc := 77) rfl dJ6_numberOfTrailingZeros_0f7a4_77 ?_
            refine J_iadd (pc := 78) dJ6_numberOfTrailingZeros_0f7a4_78 ?_
            exact J_ireturn (pc := 79) dJ6_numberOfTrailingZeros_0f7a4_79 rfl rfl ⟨_, rfl, rfl, ⟨by
                  simp only [sv_ntz, sv_nt4, sv_nt3, sv_nt2, sv_nt1, sv_us, h9, h23, h38, h52, h64, ↓reduceIte], rfl, rfl, rfl⟩⟩
          · refine S_inc_1 (pc := 67) (2) rfl dJ6_numberOfTrailingZeros_0f7a4_67 (by decide) ?_
            refine S_iload_0 (pc := 70) dJ6_numberOfTrailingZeros_0f7a4_70 ?_
            refine J_iconst (pc := 71) (2) rfl dJ6_numberOfTrailingZeros_0f7a4_71 ?_
            refine J_iushr (pc := 72) rfl dJ6_numberOfTrailingZeros_0f7a4_72 ?_
            refine S_istore_0 (pc := 73) dJ6_numberOfTrailingZeros_0f7a4_73 (by decide) ?_
            refine S_iload_1 (pc := 74) dJ6_numberOfTrailingZeros_0f7a4_74 ?_
            refine S_iload_0 (pc := 75) dJ6_numberOfTrailingZeros_0f7a4_75 ?_
            refine J_iconst (pc := 76) (1) rfl dJ6_numberOfTrailingZeros_0f7a4_76 ?_
            refine J_iushr (pc := 77) rfl dJ6_numberOfTrailingZeros_0f7a4_77 ?_
            refine J_iadd (pc := 78) dJ6_numberOfTrailingZeros_0f7a4_78 ?_
            exact J_ireturn (pc := 79) dJ6_numberOfTrailingZeros_0f7a4_79 rfl rfl ⟨_, rfl, rfl, ⟨by
                  simp only [sv_ntz, sv_nt4, sv_nt3, sv_nt2, sv_nt1, sv_us, h9, h23, h38, h52, h64, ↓reduceIte], rfl, rfl, rfl⟩⟩
  · refine S_iload_0 (pc := 12) dJ6_numberOfTrailingZeros_0f7a4_12 ?_
    refine J_bipush (pc := 13) (32) rfl dJ6_numberOfTrailingZeros_0f7a4_13 ?_
    refine J_iand (pc := 15) dJ6_numberOfTrailingZeros_0f7a4_15 ?_
    exact J_ireturn (pc := 16) dJ6_numberOfTrailingZeros_0f7a4_16 rfl rfl ⟨_, rfl, rfl, ⟨by
          simp only [sv_ntz, sv_nt4, sv_nt3, sv_nt2, sv_nt1, sv_us, h9, ↓reduceIte], rfl, rfl, rfl⟩⟩
set_option maxRecDepth 20000 in
set_option maxHeartbeats 1000000 in
theorem t_X8_in {l : Launch} {G : svG} {hi : svH} {hl : svL} {hr : svR} {x a b : Int32} : svIp l G yX8_in mX8_in rX8_in [.int x, .int a, .int b] hi hl hr (sv_b (a ≤ x ∧ x ≤ b)) := by
  refine sv_entry (by decide +kernel) rfl rfl (Nat.le_of_ble_eq_true rfl) (by simp [Value.category, sv_rf]) [some (.int x), some (.int a), some (.int b)] rfl ?_
  refine S_iload_0 (pc := 0) dX8_in_0 ?_
  refine S_iload_1 (pc := 1) dX8_in_1 ?_
  refine J_icmp_lt (pc := 2) 14 dX8_in_2 (by decide) (fun h2 => ?_) (fun h2 => ?_)
  · refine J_iconst (pc := 14) (0) rfl dX8_in_14 ?_
    exact J_ireturn (pc := 15) dX8_in_15 rfl rfl ⟨_, rfl, rfl, ⟨by first | exact sv_b_t ⟨Int32.not_lt.mp h2, Int32.not_lt.mp h7⟩ | exact sv_b_f (fun z => Int32.not_le.mpr h2 z.1) | exact sv_b_f (fun z => Int32.not_le.mpr h7 z.2), rfl, rfl, rfl⟩⟩
  · refine S_iload_0 (pc := 5) dX8_in_5 ?_
    refine S_iload_2 (pc := 6) dX8_in_6 ?_
    refine J_icmp_gt (pc := 7) 14 dX8_in_7 (by decide) (fun h7 => ?_) (fun h7 => ?_)
    · refine J_iconst (pc := 14) (0) rfl dX8_in_14 ?_
      exact J_ireturn (pc := 15) dX8_in_15 rfl rfl ⟨_, rfl, rfl, ⟨by first | exact sv_b_t ⟨Int32.not_lt.mp h2, Int32.not_lt.mp h7⟩ | exact sv_b_f (fun z => Int32.not_le.mpr h2 z.1) | exact sv_b_f (fun z => Int32.not_le.mpr h7 z.2), rfl, rfl, rfl⟩⟩
    · refine J_iconst (pc := 10) (1) rfl dX8_in_10 ?_
      refine J_goto (pc := 11) 15 dX8_in_11 (by decide) ?_
      exact J_ireturn (pc := 15) dX8_in_15 rfl rfl ⟨_, rfl, rfl, ⟨by first | exact sv_b_t ⟨Int32.not_lt.mp h2, Int32.not_lt.mp h7⟩ | exact sv_b_f (fun z => Int32.not_le.mpr h2 z.1) | exact sv_b_f (fun z => Int32.not_le.mpr h7 z.2), rfl, rfl, rfl⟩⟩
def sv_hs (b : Int32) (k : Int32) : Prop := b >>> (k &&& 31) &&& 1 = 1
noncomputable def sv_hb (b : Int32) (k : Nat) : Bool := b.toBitVec.getLsbD k
set_option maxRecDepth 20000 in
set_option maxHeartbeats 1000000 in
theorem t_X8_has {l : Launch} {G : svG} {hi : svH} {hl : svL} {hr : svR} {x k : Int32} : svIp l G yX8_has mX8_has rX8_has [.int x, .int k] hi hl hr (sv_b (x >>> (k &&& 31) &&& 1 = 1)) := by
  refine sv_entry (by decide +kernel) rfl rfl (Nat.le_of_ble_eq_true rfl) (by simp [Value.category, sv_rf]) [some (.int x), some (.int k)] rfl ?_
  refine S_iload_0 (pc := 0) dX8_has_0 ?_
  refine S_iload_1 (pc := 1) dX8_has_1 ?_
  refine J_ishr (pc := 2) dX8_has_2 ?_
  refine J_iconst (pc := 3) (1) rfl dX8_has_3 ?_
  refine J_iand (pc := 4) dX8_has_4 ?_
  refine J_iconst (pc := 5) (1) rfl dX8_has_5 ?_
  refine J_icmp_ne (pc := 6) 13 dX8_has_6 (by decide) (fun h6 => ?_) (fun h6 => ?_)
  · refine J_iconst (pc := 13) (0) rfl dX8_has_13 ?_
    exact J_ireturn (pc := 14) dX8_has_14 rfl rfl ⟨_, rfl, rfl, ⟨by first | exact sv_b_t h6 | exact sv_b_f h6, rfl, rfl, rfl⟩⟩
  · refine J_iconst (pc := 9) (1) rfl dX8_has_9 ?_
    refine J_goto (pc := 10) 14 dX8_has_10 (by decide) ?_
    exact J_ireturn (pc := 14) dX8_has_14 rfl rfl ⟨_, rfl, rfl, ⟨by first | exact sv_b_t h6 | exact sv_b_f h6, rfl, rfl, rfl⟩⟩
set_option maxRecDepth 20000 in
set_option maxHeartbeats 1000000 in
theorem t_X8_isFigure {l : Launch} {G : svG} {hi : svH} {hl : svL} {hr : svR} {x : Int32} : svIp l G yX8_isFigure mX8_isFigure rX8_isFigure [.int x] hi hl hr (sv_b (48 ≤ x ∧ x ≤ 57)) := by
  refine sv_entry (by decide +kernel) rfl rfl (Nat.le_of_ble_eq_true rfl) (by simp [Value.category, sv_rf]) [some (.int x)] rfl ?_
  refine S_iload_0 (pc := 0) dX8_isFigure_0 ?_
  refine J_bipush (pc := 1) (48) rfl dX8_isFigure_1 ?_
  refine J_bipush (pc := 3) (57) rfl dX8_isFigure_3 ?_
  refine caX8_69 (pc := 5) (t_X8_in (l := l) (G := G)) (Nat.le_of_ble_eq_true rfl) ⟨rfl, rfl, ⟨by decide, by decide⟩, by decide, by decide⟩ dX8_isFigure_5 (fun r5 a5 b5 c5 p5 => ?_)
  obtain ⟨rfl, rfl, rfl, rfl⟩ := p5
  exact J_ireturn (pc := 8) dX8_isFigure_8 rfl sv_b_nar ⟨_, rfl, rfl, ⟨rfl, rfl, rfl, rfl⟩⟩
set_option maxRecDepth 20000 in
set_option maxHeartbeats 1000000 in
theorem t_X8_isLetter {l : Launch} {G : svG} {hi : svH} {hl : svL} {hr : svR} {x : Int32} : svIp l G yX8_isLetter mX8_isLetter rX8_isLetter [.int x] hi hl hr (sv_b (97 ≤ x ∧ x ≤ 122)) := by
  refine sv_entry (by decide +kernel) rfl rfl (Nat.le_of_ble_eq_true rfl) (by simp [Value.category, sv_rf]) [some (.int x)] rfl ?_
  refine S_iload_0 (pc := 0) dX8_isLetter_0 ?_
  refine J_bipush (pc := 1) (97) rfl dX8_isLetter_1 ?_
  refine J_bipush (pc := 3) (122) rfl dX8_isLetter_3 ?_
  refine caX8_69 (pc := 5) (t_X8_in (l := l) (G := G)) (Nat.le_of_ble_eq_true rfl) ⟨rfl, rfl, ⟨by decide, by decide⟩, by decide, by decide⟩ dX8_isLetter_5 (fun r5 a5 b5 c5 p5 => ?_)
  obtain ⟨rfl, rfl, rfl, rfl⟩ := p5
  exact J_ireturn (pc := 8) dX8_isLetter_8 rfl sv_b_nar ⟨_, rfl, rfl, ⟨rfl, rfl, rfl, rfl⟩⟩
set_option maxRecDepth 20000 in
set_option maxHeartbeats 1000000 in
theorem t_X8_isOne {l : Launch} {G : svG} {hi : svH} {hl : svL} {tw dr : Nat} {pm : Nat → Nat} {x : Int32} : svIp l G yX8_isOne mX8_isOne rX8_isOne [sv_rf G.1 164, .int x] hi hl (sv_hr tw dr pm) (sv_b (0 ≤ x ∧ x ≤ hi 164 0 - 1)) := by
  refine sv_entry (by decide +kernel) rfl rfl (Nat.le_of_ble_eq_true rfl) (by simp [Value.category, sv_rf]) [some (sv_rf G.1 164), some (.int x)] rfl ?_
  refine S_iload_1 (pc := 0) dX8_isOne_0 ?_
  refine J_iconst (pc := 1) (0) rfl dX8_isOne_1 ?_
  refine S_aload_0 (pc := 2) dX8_isOne_2 ?_
  refine fgX8_7 (pc := 3) sh_164 dX8_isOne_3 ?_
  refine J_iconst (pc := 6) (1) rfl dX8_isOne_6 ?_
  refine J_isub (pc := 7) dX8_isOne_7 ?_
  refine caX8_69 (pc := 8) (t_X8_in (l := l) (G := G)) (Nat.le_of_ble_eq_true rfl) ⟨rfl, rfl, ⟨by decide, by decide⟩, by decide, by decide⟩ dX8_isOne_8 (fun r8 a8 b8 c8 p8 => ?_)
  obtain ⟨rfl, rfl, rfl, rfl⟩ := p8
  exact J_ireturn (pc := 11) dX8_isOne_11 rfl sv_b_nar ⟨_, rfl, rfl, ⟨rfl, rfl, rfl, rfl⟩⟩
set_option maxRecDepth 20000 in
set_option maxHeartbeats 1000000 in
theorem t_X8_isTrain {l : Launch} {G : svG} {hi : svH} {hl : svL} {tw dr : Nat} {pm : Nat → Nat} {x : Int32} : svIp l G yX8_isTrain mX8_isTrain rX8_isTrain [sv_rf G.1 164, .int x] hi hl (sv_hr tw dr pm) (sv_b (0 ≤ x ∧ x ≤ hi 164 2 - 1)) := by
  refine sv_entry (by decide +kernel) rfl rfl (Nat.le_of_ble_eq_true rfl) (by simp [Value.category, sv_rf]) [some (sv_rf G.1 164), some (.int x)] rfl ?_
  refine S_iload_1 (pc := 0) dX8_isTrain_0 ?_
  refine J_iconst (pc := 1) (0) rfl dX8_isTrain_1 ?_
  refine S_aload_0 (pc := 2) dX8_isTrain_2 ?_
  refine fgX8_73 (pc := 3) sh_164 dX8_isTrain_3 ?_
  refine J_iconst (pc := 6) (1) rfl dX8_isTrain_6 ?_
  refine J_isub (pc := 7) dX8_isTrain_7 ?_
  refine caX8_69 (pc := 8) (t_X8_in (l := l) (G := G)) (Nat.le_of_ble_eq_true rfl) ⟨rfl, rfl, ⟨by decide, by decide⟩, by decide, by decide⟩ dX8_isTrain_8 (fun r8 a8 b8 c8 p8 => ?_)
  obtain ⟨rfl, rfl, rfl, rfl⟩ := p8
  exact J_ireturn (pc := 11) dX8_isTrain_11 rfl sv_b_nar ⟨_, rfl, rfl, ⟨rfl, rfl, rfl, rfl⟩⟩
set_option maxRecDepth 20000 in
set_option maxHeartbeats 1000000 in
theorem t_X8_isGroup {l : Launch} {G : svG} {hi : svH} {hl : svL} {tw dr : Nat} {pm : Nat → Nat} {x : Int32} : svIp l G yX8_isGroup mX8_isGroup rX8_isGroup [sv_rf G.1 164, .int x] hi hl (sv_hr tw dr pm) (sv_b (0 ≤ x ∧ x ≤ hi 164 4 - 1)) := by
  refine sv_entry (by decide +kernel) rfl rfl (Nat.le_of_ble_eq_true rfl) (by simp [Value.category, sv_rf]) [some (sv_rf G.1 164), some (.int x)] rfl ?_
  refine S_iload_1 (pc := 0) dX8_isGroup_0 ?_
  refine J_iconst (pc := 1) (0) rfl dX8_isGroup_1 ?_
  refine S_aload_0 (pc := 2) dX8_isGroup_2 ?_
  refine fgX8_76 (pc := 3) sh_164 dX8_isGroup_3 ?_
  refine J_iconst (pc := 6) (1) rfl dX8_isGroup_6 ?_
  refine J_isub (pc := 7) dX8_isGroup_7 ?_
  refine caX8_69 (pc := 8) (t_X8_in (l := l) (G := G)) (Nat.le_of_ble_eq_true rfl) ⟨rfl, rfl, ⟨by decide, by decide⟩, by decide, by decide⟩ dX8_isGroup_8 (fun r8 a8 b8 c8 p8 => ?_)
  obtain ⟨rfl, rfl, rfl, rfl⟩ := p8
  exact J_ireturn (pc := 11) dX8_isGroup_11 rfl sv_b_nar ⟨_, rfl, rfl, ⟨rfl, rfl, rfl, rfl⟩⟩
set_option maxRecDepth 20000 in
set_option maxHeartbeats 1000000 in
theorem t_X8_isStopped {l : Launch} {G : svG} {hi : svH} {hl : svL} {tw dr : Nat} {pm : Nat → Nat} {x : Int32} : svIp l G yX8_isStopped mX8_isStopped rX8_isStopped [sv_rf G.1 164, .int x] hi hl (sv_hr tw dr pm) (sv_b (hi 169 25 >>> (x &&& 31) &&& 1 = 1)) := by
  refine sv_entry (by decide +kernel) rfl rfl (Nat.le_of_ble_eq_true rfl) (by simp [Value.category, sv_rf]) [some (sv_rf G.1 164), some (.int x)] rfl ?_
  refine S_aload_0 (pc := 0) dX8_isStopped_0 ?_
  refine fgX8_29 (pc := 1) sh_164 hv_164_8 dX8_isStopped_1 ?_
  refine J_bipush (pc := 4) (25) rfl dX8_isStopped_4 ?_
  refine J_iald_n (pc := 6) 25 sh_169 rfl (by decide) (by decide) dX8_isStopped_6 ?_
  refine S_iload_1 (pc := 7) dX8_isStopped_7 ?_
  refine caX8_159 (pc := 8) (t_X8_has (l := l) (G := G)) (Nat.le_of_ble_eq_true rfl) ⟨rfl, rfl, ⟨by decide, by decide⟩, by decide, by decide⟩ dX8_isStopped_8 (fun r8 a8 b8 c8 p8 => ?_)
  obtain ⟨rfl, rfl, rfl, rfl⟩ := p8
  exact J_ireturn (pc := 11) dX8_isStopped_11 rfl sv_b_nar ⟨_, rfl, rfl, ⟨rfl, rfl, rfl, rfl⟩⟩
set_option maxRecDepth 20000 in
set_option maxHeartbeats 1000000 in
theorem t_X8_letterAt {l : Launch} {G : svG} {hi : svH} {hl : svL} {tw dr : Nat} {pm : Nat → Nat} {j n : Nat} (hn : hi 164 15 = nI n) (hn2 : n ≤ 120) (hj : j < 1000) : svIp l G yX8_letterAt mX8_letterAt rX8_letterAt [sv_rf G.1 164, .int (nI j)] hi hl (sv_hr tw dr pm) (if j < n then hi 173 j else -1) := by
  refine sv_entry (by decide +kernel) rfl rfl (Nat.le_of_ble_eq_true rfl) (by simp [Value.category, sv_rf]) [some (sv_rf G.1 164), some (.int (nI j))] rfl ?_
  refine S_iload_1 (pc := 0) dX8_letterAt_0 ?_
  refine S_aload_0 (pc := 1) dX8_letterAt_1 ?_
  refine fgX8_79 (pc := 2) sh_164 dX8_letterAt_2 ?_
  refine J_icmp_ge (pc := 5) 17 dX8_letterAt_5 (by decide) (fun h5 => ?_) (fun h5 => ?_)
  · refine J_iconst (pc := 17) (-1) rfl dX8_letterAt_17 ?_
    exact J_ireturn (pc := 18) dX8_letterAt_18 rfl rfl ⟨_, rfl, rfl, ⟨by rw [hn, nI_leI (by omega) (by omega)] at h5; first | exact if_pos (by omega) | exact if_neg (by omega), rfl, rfl, rfl⟩⟩
  · refine S_aload_0 (pc := 8) dX8_letterAt_8 ?_
    refine fgX8_42 (pc := 9) sh_164 hv_164_14 dX8_letterAt_9 ?_
    refine S_iload_1 (pc := 12) dX8_letterAt_12 ?_
    refine J_iald_n (pc := 13) j sh_173 rfl (by rw [hn] at h5; have := h5; rw [nI_leI (by omega) (by omega)] at this; omega) (by decide) dX8_letterAt_13 ?_
    refine J_goto (pc := 14) 18 dX8_letterAt_14 (by decide) ?_
    exact J_ireturn (pc := 18) dX8_letterAt_18 rfl rfl ⟨_, rfl, rfl, ⟨by rw [hn, nI_leI (by omega) (by omega)] at h5; first | exact if_pos (by omega) | exact if_neg (by omega), rfl, rfl, rfl⟩⟩
def sv_cho (f s a b : Int32) : Int32 := if f = a ∨ f = b then f else if s = a ∨ s = b then s else if b ≤ a then b else a
set_option maxRecDepth 20000 in
set_option maxHeartbeats 1000000 in
theorem t_X8_chosen {l : Launch} {G : svG} {hi : svH} {hl : svL} {hr : svR} {x a b : Int32} : svIp l G yX8_chosen mX8_chosen rX8_chosen [.int x, .int a, .int b] hi hl hr (sv_cho (x / 10) (x - x / 10 * 10) a b) := by
  refine sv_entry (by decide +kernel) rfl rfl (Nat.le_of_ble_eq_true rfl) (by simp [Value.category, sv_rf]) [some (.int x), some (.int a), some (.int b), none, none] rfl ?_
  refine S_iload_0 (pc := 0) dX8_chosen_0 ?_
  refine J_bipush (pc := 1) (10) rfl dX8_chosen_1 ?_
  refine J_idiv (pc := 3) (by decide) dX8_chosen_3 ?_
  refine S_istore_3 (pc := 4) dX8_chosen_4 (by decide) ?_
  refine S_iload_0 (pc := 5) dX8_chosen_5 ?_
  refine J_bipush (pc := 6) (10) rfl dX8_chosen_6 ?_
  refine J_irem (pc := 8) (by decide) dX8_chosen_8 ?_
  refine S_istore_4 (pc := 9) dX8_chosen_9 (by decide) ?_
  refine S_iload_3 (pc := 11) dX8_chosen_11 ?_
  refine S_iload_1 (pc := 12) dX8_chosen_12 ?_
  refine J_icmp_eq (pc := 13) 21 dX8_chosen_13 (by decide) (fun h13 => ?_) (fun h13 => ?_)
  · refine S_iload_3 (pc := 21) dX8_chosen_21 ?_
    refine J_goto (pc := 22) 52 dX8_chosen_22 (by decide) ?_
    exact J_ireturn (pc := 52) dX8_chosen_52 rfl rfl ⟨_, rfl, rfl, ⟨by simp only [sv_cho, h13, true_or, or_true, or_self, not_false_eq_true, ↓reduceIte], rfl, rfl, rfl⟩⟩
  · refine S_iload_3 (pc := 16) dX8_chosen_16 ?_
    refine S_iload_2 (pc := 17) dX8_chosen_17 ?_
    refine J_icmp_ne (pc := 18) 25 dX8_chosen_18 (by decide) (fun h18 => ?_) (fun h18 => ?_)
    · refine S_iload_4 (pc := 25) dX8_chosen_25 ?_
      refine S_iload_1 (pc := 27) dX8_chosen_27 ?_
      refine J_icmp_eq (pc := 28) 37 dX8_chosen_28 (by decide) (fun h28 => ?_) (fun h28 => ?_)
      · refine S_iload_4 (pc := 37) dX8_chosen_37 ?_
        refine J_goto (pc := 39) 52 dX8_chosen_39 (by decide) ?_
        exact J_ireturn (pc := 52) dX8_chosen_52 rfl rfl ⟨_, rfl, rfl, ⟨by simp only [sv_cho, h13, h18, h28, true_or, or_true, or_self, not_false_eq_true, ↓reduceIte], rfl, rfl, rfl⟩⟩
      · refine S_iload_4 (pc := 31) dX8_chosen_31 ?_
        refine S_iload_2 (pc := 33) dX8_chosen_33 ?_
        refine J_icmp_ne (pc := 34) 42 dX8_chosen_34 (by decide) (fun h34 => ?_) (fun h34 => ?_)
        · refine S_iload_1 (pc := 42) dX8_chosen_42 ?_
          refine S_iload_2 (pc := 43) dX8_chosen_43 ?_
          refine J_icmp_ge (pc := 44) 51 dX8_chosen_44 (by decide) (fun h44 => ?_) (fun h44 => ?_)
          · refine S_iload_2 (pc := 51) dX8_chosen_51 ?_
            exact J_ireturn (pc := 52) dX8_chosen_52 rfl rfl ⟨_, rfl, rfl, ⟨by simp only [sv_cho, h13, h18, h28, h34, h44, true_or, or_true, or_self, not_false_eq_true, ↓reduceIte], rfl, rfl, rfl⟩⟩
          · refine S_iload_1 (pc := 47) dX8_chosen_47 ?_
            refine J_goto (pc := 48) 52 dX8_chosen_48 (by decide) ?_
            exact J_ireturn (pc := 52) dX8_chosen_52 rfl rfl ⟨_, rfl, rfl, ⟨by simp only [sv_cho, h13, h18, h28, h34, h44, true_or, or_true, or_self, not_false_eq_true, ↓reduceIte], rfl, rfl, rfl⟩⟩
        · refine S_iload_4 (pc := 37) dX8_chosen_37 ?_
          refine J_goto (pc := 39) 52 dX8_chosen_39 (by decide) ?_
          exact J_ireturn (pc := 52) dX8_chosen_52 rfl rfl ⟨_, rfl, rfl, ⟨by simp only [sv_cho, h13, h18, h28, h34, true_or, or_true, or_self, not_false_eq_true, ↓reduceIte], rfl, rfl, rfl⟩⟩
    · refine S_iload_3 (pc := 21) dX8_chosen_21 ?_
      refine J_goto (pc := 22) 52 dX8_chosen_22 (by decide) ?_
      exact J_ireturn (pc := 52) dX8_chosen_52 rfl rfl ⟨_, rfl, rfl, ⟨by simp only [sv_cho, h13, h18, true_or, or_true, or_self, not_false_eq_true, ↓reduceIte], rfl, rfl, rfl⟩⟩
