/-- how far a run goes -/
def mRun (P : Nat → Bool) : Nat → Nat → Nat
  | 0, p => p
  | d + 1, p => if P p = true then mRun P d (p + 1) else p
def rE (P : Nat → Bool) (n p : Nat) : Nat := mRun P (n - p) p
theorem rE_step {P : Nat → Bool} {n q : Nat} (h : q < n) (hp : P q = true) : rE P n q = rE P n (q + 1) := by
  unfold rE
  rw [show n - q = n - (q + 1) + 1 by omega, mRun, if_pos hp]
theorem rE_stop {P : Nat → Bool} {n q : Nat} (h : n ≤ q ∨ P q = false) : rE P n q = q := by
  unfold rE
  by_cases e : n ≤ q
  · rw [show n - q = 0 by omega]; rfl
  · rw [show n - q = n - (q + 1) + 1 by omega, mRun, if_neg (by rw [h.resolve_left e]; decide)]
theorem mRun_le {P : Nat → Bool} : ∀ d p, p ≤ mRun P d p ∧ mRun P d p ≤ p + d
  | 0, p => ⟨Nat.le_refl _, Nat.le_refl _⟩
  | d + 1, p => by
    rw [mRun]
    have := mRun_le (P := P) d (p + 1)
    split <;> omega
theorem rE_le {P : Nat → Bool} {n p : Nat} (h : p ≤ n) : p ≤ rE P n p ∧ rE P n p ≤ n := by
  have := mRun_le (P := P) (n - p) p
  unfold rE
  omega
def lxV (v : Nat) (x : Int32) : Nat := if v < 100 then v * 10 + (x.toNatClampNeg - 48) else v
def mVal (P : Nat → Bool) (s : Nat → Int32) : Nat → Nat → Nat → Nat
  | 0, _, v => v
  | d + 1, p, v => if P p = true then mVal P s d (p + 1) (lxV v (s p)) else v
def vE (P : Nat → Bool) (s : Nat → Int32) (n p v : Nat) : Nat := mVal P s (n - p) p v
theorem vE_step {P : Nat → Bool} {s : Nat → Int32} {n q v : Nat} (h : q < n) (hp : P q = true) : vE P s n q v = vE P s n (q + 1) (lxV v (s q)) := by
  unfold vE
  rw [show n - q = n - (q + 1) + 1 by omega, mVal, if_pos hp]
theorem vE_stop {P : Nat → Bool} {s : Nat → Int32} {n q v : Nat} (h : n ≤ q ∨ P q = false) : vE P s n q v = v := by
  unfold vE
  by_cases e : n ≤ q
  · rw [show n - q = 0 by omega]; rfl
  · rw [show n - q = n - (q + 1) + 1 by omega, mVal, if_neg (by rw [h.resolve_left e]; decide)]
def lxL (s : Nat → Int32) (k : Nat) : Bool := decide (97 ≤ s k ∧ s k ≤ 122)
def lxD (s : Nat → Int32) (k : Nat) : Bool := decide (48 ≤ s k ∧ s k ≤ 57)
def lxS (s : Nat → Int32) (k : Nat) : Bool := decide (s k = 32)
theorem lxV_dig {v : Nat} {x : Int32} (hv : v < 1000) (hx : 48 ≤ x ∧ x ≤ 57) : lxV v x < 1000 ∧ (v < 100 → nI v * 10 + x - 48 = nI (lxV v x) ∧ 10 * nI v + x - 48 = nI (lxV v x)) ∧ (¬ v < 100 → lxV v x = v) := by
  obtain ⟨j, hj, rfl⟩ : ∃ j, j < 58 ∧ x = nI j := by
    have h0 : (0 : Int32) ≤ x := Int32.le_trans (by decide) hx.1
    have h1 : x < nI 58 := by rw [Int32.lt_iff_toInt_lt]; have := Int32.le_iff_toInt_le.mp hx.2; rw [nI_toInt (by decide)]; simp at this; omega
    obtain ⟨j, hj, e⟩ := sv_ix ⟨h0, h1⟩ (by decide)
    exact ⟨j, hj, e⟩
  have h48 : 48 ≤ j := by have := hx.1; rw [show (48 : Int32) = nI 48 from rfl, nI_leI (by omega) (by omega)] at this; exact this
  unfold lxV
  rw [nI_clamp (by omega)]
  refine ⟨by split <;> omega, fun h => ?_, fun h => by rw [if_neg h]⟩
  rw [if_pos h, show (10 : Int32) = nI 10 from rfl, show (48 : Int32) = nI 48 from rfl, pk_mul, pk_mul, nI_add, nI_add, pk_sub (by omega), pk_sub (by omega)]
  exact ⟨by congr 1; omega, by congr 1; omega⟩
/-- a token: its start, what it is, its number or letter, the place after it -/
def lxTok (s : Nat → Int32) (n p : Nat) : Int32 :=
  if n ≤ p then 0 else if lxL s p = true then 1 else if lxD s p = true then (if (s p = 48 ∧ 1 < rE (lxD s) n p - p) ∨ 99 < vE (lxD s) s n p 0 then 4 else 2) else if s p = 59 then 3 else 4
def lxVal (s : Nat → Int32) (n p : Nat) : Int32 :=
  if lxL s p = true then (if rE (lxL s) n p - p = 1 then s p else 0) else nI (vE (lxD s) s n p 0)
def lxNext (s : Nat → Int32) (n p : Nat) : Nat :=
  if n ≤ p then p else if lxL s p = true then rE (lxL s) n p else if lxD s p = true then rE (lxD s) n p else p + 1
def lxOut (hi a : svH) (o kp ks kt kv : Nat) (s : Nat → Int32) (n p : Nat) : Prop := (∀ q, q ≠ o → a q = hi q) ∧ (∀ k, k ≠ kp → k ≠ ks → k ≠ kt → k ≠ kv → a o k = hi o k) ∧ a o kp = nI (lxNext s n (rE (lxS s) n p)) ∧ a o ks = nI (rE (lxS s) n p) ∧ a o kt = lxTok s n (rE (lxS s) n p) ∧ ((a o kt = 1 ∨ a o kt = 2) → a o kv = lxVal s n (rE (lxS s) n p))
set_option maxRecDepth 20000 in
set_option maxHeartbeats 2000000 in
theorem t_X5_byteAt {l : Launch} {G : svG} {hi : svH} {hl : svL} {tw dr : Nat} {pm : Nat → Nat} {j n : Nat} (hn : hi 15 0 = nI n) (hn2 : n ≤ 120) (hj : j < n) {x v0 : Int32} (hx : x = nI j) (hv : hi 16 j = v0) : svIp l G yX5_byteAt mX5_byteAt rX5_byteAt [sv_rf G.1 15, .int x] hi hl (sv_hr tw dr pm) v0 := by
  subst hx
  subst hv
  refine sv_entry (by decide +kernel) rfl rfl (Nat.le_of_ble_eq_true rfl) (by simp [Value.category, sv_rf]) [some (sv_rf G.1 15), some (.int (nI j))] rfl ?_
  refine S_iload_1 (pc := 0) dX5_byteAt_0 ?_
  refine J_if_lt (pc := 1) 30 dX5_byteAt_1 (by decide) (fun h1 => ?_) (fun h1 => ?_)
  · exact absurd h1 (Int32.not_lt.mpr (nI_pos' (by omega)))
  · refine S_iload_1 (pc := 4) dX5_byteAt_4 ?_
    refine S_aload_0 (pc := 5) dX5_byteAt_5 ?_
    refine fgX5_9 (pc := 6) sh_15 dX5_byteAt_6 ?_
    refine J_icmp_ge (pc := 9) 30 dX5_byteAt_9 (by decide) (fun h9 => ?_) (fun h9 => ?_)
    · exact absurd h9 (Int32.not_le.mpr (by rw [hn]; exact nI_lt hj (by omega)))
    · refine S_iload_1 (pc := 12) dX5_byteAt_12 ?_
      refine S_aload_0 (pc := 13) dX5_byteAt_13 ?_
      refine fgX5_15 (pc := 14) sh_15 hv_15_1 dX5_byteAt_14 ?_
      refine J_alen2 (pc := 17) (120) sh_16 rfl dX5_byteAt_17 ?_
      refine J_icmp_ge (pc := 18) 30 dX5_byteAt_18 (by decide) (fun h18 => ?_) (fun h18 => ?_)
      · exact absurd h18 (Int32.not_le.mpr (nI_lt (show j < 120 by omega) (by decide)))
      · refine S_aload_0 (pc := 21) dX5_byteAt_21 ?_
        refine fgX5_15 (pc := 22) sh_15 hv_15_1 dX5_byteAt_22 ?_
        refine S_iload_1 (pc := 25) dX5_byteAt_25 ?_
        refine J_cald_n (pc := 26) j sh_16 rfl (by omega) (by decide) dX5_byteAt_26 ?_
        refine J_goto (pc := 27) 31 dX5_byteAt_27 (by decide) ?_
        exact J_ireturn (pc := 31) dX5_byteAt_31 rfl rfl ⟨_, rfl, rfl, ⟨rfl, rfl, rfl, rfl⟩⟩
set_option maxRecDepth 20000 in
set_option maxHeartbeats 2000000 in
theorem t_X5_isLetter {l : Launch} {G : svG} {hi : svH} {hl : svL} {hr : svR} {x : Int32} : svIp l G yX5_isLetter mX5_isLetter rX5_isLetter [.int x] hi hl hr (sv_b (97 ≤ x ∧ x ≤ 122)) := by
  refine sv_entry (by decide +kernel) rfl rfl (Nat.le_of_ble_eq_true rfl) (by simp [Value.category, sv_rf]) [some (.int x)] rfl ?_
  refine S_iload_0 (pc := 0) dX5_isLetter_0 ?_
  refine J_bipush (pc := 1) (97) rfl dX5_isLetter_1 ?_
  refine J_icmp_lt (pc := 3) 16 dX5_isLetter_3 (by decide) (fun h3 => ?_) (fun h3 => ?_)
  · refine J_iconst (pc := 16) (0) rfl dX5_isLetter_16 ?_
    exact J_ireturn (pc := 17) dX5_isLetter_17 rfl rfl ⟨_, rfl, rfl, ⟨by first | exact sv_b_t ⟨Int32.not_lt.mp h3, Int32.not_lt.mp h9⟩ | exact sv_b_f (fun z => Int32.not_le.mpr h3 z.1) | exact sv_b_f (fun z => Int32.not_le.mpr h9 z.2), rfl, rfl, rfl⟩⟩
  · refine S_iload_0 (pc := 6) dX5_isLetter_6 ?_
    refine J_bipush (pc := 7) (122) rfl dX5_isLetter_7 ?_
    refine J_icmp_gt (pc := 9) 16 dX5_isLetter_9 (by decide) (fun h9 => ?_) (fun h9 => ?_)
    · refine J_iconst (pc := 16) (0) rfl dX5_isLetter_16 ?_
      exact J_ireturn (pc := 17) dX5_isLetter_17 rfl rfl ⟨_, rfl, rfl, ⟨by first | exact sv_b_t ⟨Int32.not_lt.mp h3, Int32.not_lt.mp h9⟩ | exact sv_b_f (fun z => Int32.not_le.mpr h3 z.1) | exact sv_b_f (fun z => Int32.not_le.mpr h9 z.2), rfl, rfl, rfl⟩⟩
    · refine J_iconst (pc := 12) (1) rfl dX5_isLetter_12 ?_
      refine J_goto (pc := 13) 17 dX5_isLetter_13 (by decide) ?_
      exact J_ireturn (pc := 17) dX5_isLetter_17 rfl rfl ⟨_, rfl, rfl, ⟨by first | exact sv_b_t ⟨Int32.not_lt.mp h3, Int32.not_lt.mp h9⟩ | exact sv_b_f (fun z => Int32.not_le.mpr h3 z.1) | exact sv_b_f (fun z => Int32.not_le.mpr h9 z.2), rfl, rfl, rfl⟩⟩
set_option maxRecDepth 20000 in
set_option maxHeartbeats 2000000 in
theorem t_X5_isDigit {l : Launch} {G : svG} {hi : svH} {hl : svL} {hr : svR} {x : Int32} : svIp l G yX5_isDigit mX5_isDigit rX5_isDigit [.int x] hi hl hr (sv_b (48 ≤ x ∧ x ≤ 57)) := by
  refine sv_entry (by decide +kernel) rfl rfl (Nat.le_of_ble_eq_true rfl) (by simp [Value.category, sv_rf]) [some (.int x)] rfl ?_
  refine S_iload_0 (pc := 0) dX5_isDigit_0 ?_
  refine J_bipush (pc := 1) (48) rfl dX5_isDigit_1 ?_
  refine J_icmp_lt (pc := 3) 16 dX5_isDigit_3 (by decide) (fun h3 => ?_) (fun h3 => ?_)
  · refine J_iconst (pc := 16) (0) rfl dX5_isDigit_16 ?_
    exact J_ireturn (pc := 17) dX5_isDigit_17 rfl rfl ⟨_, rfl, rfl, ⟨by first | exact sv_b_t ⟨Int32.not_lt.mp h3, Int32.not_lt.mp h9⟩ | exact sv_b_f (fun z => Int32.not_le.mpr h3 z.1) | exact sv_b_f (fun z => Int32.not_le.mpr h9 z.2), rfl, rfl, rfl⟩⟩
  · refine S_iload_0 (pc := 6) dX5_isDigit_6 ?_
    refine J_bipush (pc := 7) (57) rfl dX5_isDigit_7 ?_
    refine J_icmp_gt (pc := 9) 16 dX5_isDigit_9 (by decide) (fun h9 => ?_) (fun h9 => ?_)
    · refine J_iconst (pc := 16) (0) rfl dX5_isDigit_16 ?_
      exact J_ireturn (pc := 17) dX5_isDigit_17 rfl rfl ⟨_, rfl, rfl, ⟨by first | exact sv_b_t ⟨Int32.not_lt.mp h3, Int32.not_lt.mp h9⟩ | exact sv_b_f (fun z => Int32.not_le.mpr h3 z.1) | exact sv_b_f (fun z => Int32.not_le.mpr h9 z.2), rfl, rfl, rfl⟩⟩
    · refine J_iconst (pc := 12) (1) rfl dX5_isDigit_12 ?_
      refine J_goto (pc := 13) 17 dX5_isDigit_13 (by decide) ?_
      exact J_ireturn (pc := 17) dX5_isDigit_17 rfl rfl ⟨_, rfl, rfl, ⟨by first | exact sv_b_t ⟨Int32.not_lt.mp h3, Int32.not_lt.mp h9⟩ | exact sv_b_f (fun z => Int32.not_le.mpr h3 z.1) | exact sv_b_f (fun z => Int32.not_le.mpr h9 z.2), rfl, rfl, rfl⟩⟩
set_option maxRecDepth 20000 in
set_option maxHeartbeats 2000000 in
theorem lo_X5_stepWord {l : Launch} {G : svG} {hi : svH} {hl : svL} {tw dr : Nat} {pm : Nat → Nat} {n st : Nat} (hn2 : n ≤ 120) (hst : st < n) {Q : svH → Prop} (hn : hi 15 0 = nI n) (h3 : hi 15 3 = nI st) (hQ : ∀ a, (∀ q, q ≠ 15 → a q = hi q) → (∀ k, k < 2 ∨ 6 ≤ k → a 15 k = hi 15 k) → a 15 2 = nI (rE (lxL (hi 16)) n st) → a 15 3 = hi 15 3 → a 15 4 = 1 → a 15 5 = (if rE (lxL (hi 16)) n st - st = 1 then hi 16 st else 0) → Q a) : ∀ q, q ≤ n → ∀ h' : svH, st ≤ q → (∀ q, q ≠ 15 → h' q = hi q) → (∀ k, k ≠ 2 → h' 15 k = hi 15 k) → h' 15 2 = nI q → rE (lxL (hi 16)) n q = rE (lxL (hi 16)) n st → svJ l G rX5_stepWord mX5_stepWord (sv_Fm G (fun v sh a b c => v = none ∧ sh = svSH ∧ ((fun a b c => Q a ∧ hl = b ∧ sv_hr tw dr pm = c)) a b c) 0 0) 0 0 0 [some (sv_rf G.1 15)] [] svSH h' hl (sv_hr tw dr pm) := by
  refine sv_up (fun q hq ih h' hsq i1 ik i2 ie => ?_)
  have i0 : h' 15 0 = nI n := by rw [ik 0 (by decide)]; exact hn
  have i16 : h' 16 = hi 16 := i1 16 (by decide)
  have hle := rE_le (P := lxL (hi 16)) (n := n) (p := st) (by omega)
  refine S_aload_0 (pc := 0) dX5_stepWord_0 ?_
  refine fgX5_19 (pc := 1) sh_15 dX5_stepWord_1 ?_
  refine S_aload_0 (pc := 4) dX5_stepWord_4 ?_
  refine fgX5_9 (pc := 5) sh_15 dX5_stepWord_5 ?_
  refine J_icmp_ge (pc := 8) 38 dX5_stepWord_8 (by decide) (fun h8 => ?_) (fun h8 => ?_)
  · rw [i2, i0, nI_leI (by omega) (by omega)] at h8
    have eE : rE (lxL (hi 16)) n st = q := by rw [← ie]; exact rE_stop (Or.inl h8)
    refine S_aload_0 (pc := 38) dX5_stepWord_38 ?_
    refine J_iconst (pc := 39) (1) rfl dX5_stepWord_39 ?_
    refine fpX5_25 (pc := 40) sh_15 dX5_stepWord_40 ?_
    refine S_aload_0 (pc := 43) dX5_stepWord_43 ?_
    refine S_aload_0 (pc := 44) dX5_stepWord_44 ?_
    refine fgX5_19 (pc := 45) sh_15 dX5_stepWord_45 ?_
    refine S_aload_0 (pc := 48) dX5_stepWord_48 ?_
    refine fgX5_22 (pc := 49) sh_15 dX5_stepWord_49 ?_
    refine J_isub (pc := 52) dX5_stepWord_52 ?_
    refine J_iconst (pc := 53) (1) rfl dX5_stepWord_53 ?_
    refine J_icmp_ne (pc := 54) 68 dX5_stepWord_54 (by decide) (fun h54 => ?_) (fun h54 => ?_)
    · have h54 : ¬ rE (lxL (hi 16)) n st - st = 1 := by
        intro z
        apply h54
        rw [sv_u2_k (by decide), sv_u2_k (by decide), i2, ik 3 (by decide), h3, pk_sub (by omega), ← eE, z]; rfl
      refine J_iconst (pc := 68) (0) rfl dX5_stepWord_68 ?_
      refine fpX5_28 (pc := 69) sh_15 dX5_stepWord_69 ?_
      exact J_return (pc := 72) dX5_stepWord_72 rfl ⟨rfl, rfl, ⟨hQ _ (fun q g => by rw [sv_u2_off g, sv_u2_off g]; exact i1 q g) (fun k hk => by rw [sv_u2_k (by omega), sv_u2_k (by omega)]; exact ik k (by omega)) (by rw [sv_u2_k (by decide), sv_u2_k (by decide), i2, eE]) (by rw [sv_u2_k (by decide), sv_u2_k (by decide)]; exact ik 3 (by decide)) (by rw [sv_u2_k (by decide), sv_u2_at]) (by rw [sv_u2_at]; first | rw [if_neg h54] | rw [if_pos h54]), rfl, rfl⟩⟩
    · have h54 : rE (lxL (hi 16)) n st - st = 1 := by
        rw [sv_u2_k (by decide), sv_u2_k (by decide), i2, ik 3 (by decide), h3, pk_sub (by omega), show (1 : Int32) = nI 1 from rfl, nI_eq (by omega) (by omega)] at h54
        rw [eE]; exact h54
      refine S_aload_0 (pc := 57) dX5_stepWord_57 ?_
      refine S_aload_0 (pc := 58) dX5_stepWord_58 ?_
      refine fgX5_22 (pc := 59) sh_15 dX5_stepWord_59 ?_
      refine caX5_86 (pc := 62) (t_X5_byteAt (l := l) (G := G) (hi := sv_u2 h' 15 4 1) (j := st) (by rw [sv_u2_k (by decide)]; exact i0) hn2 hst (by rw [sv_u2_k (by decide), ik 3 (by decide)]; exact h3) (show sv_u2 h' 15 4 1 16 st = hi 16 st from by rw [sv_u2_off (by decide), i16])) sh_15 (Nat.le_of_ble_eq_true rfl) ⟨rfl, rfl, ⟨by decide, by decide⟩, by decide, by decide⟩ dX5_stepWord_62 (fun r62 a62 b62 c62 p62 => ?_)
      obtain ⟨rfl, rfl, rfl, rfl⟩ := p62
      refine J_goto (pc := 65) 69 dX5_stepWord_65 (by decide) ?_
      refine fpX5_28 (pc := 69) sh_15 dX5_stepWord_69 ?_
      exact J_return (pc := 72) dX5_stepWord_72 rfl ⟨rfl, rfl, ⟨hQ _ (fun q g => by rw [sv_u2_off g, sv_u2_off g]; exact i1 q g) (fun k hk => by rw [sv_u2_k (by omega), sv_u2_k (by omega)]; exact ik k (by omega)) (by rw [sv_u2_k (by decide), sv_u2_k (by decide), i2, eE]) (by rw [sv_u2_k (by decide), sv_u2_k (by decide)]; exact ik 3 (by decide)) (by rw [sv_u2_k (by decide), sv_u2_at]) (by rw [sv_u2_at]; first | rw [if_neg h54] | rw [if_pos h54]), rfl, rfl⟩⟩
  · rw [i2, i0, nI_leI (by omega) (by omega)] at h8
    refine S_aload_0 (pc := 11) dX5_stepWord_11 ?_
    refine S_aload_0 (pc := 12) dX5_stepWord_12 ?_
    refine fgX5_19 (pc := 13) sh_15 dX5_stepWord_13 ?_
    refine caX5_86 (pc := 16) (t_X5_byteAt (l := l) (G := G) (j := q) i0 hn2 (by omega) i2 (congrFun i16 _)) sh_15 (Nat.le_of_ble_eq_true rfl) ⟨rfl, rfl, ⟨by decide, by decide⟩, by decide, by decide⟩ dX5_stepWord_16 (fun r16 a16 b16 c16 p16 => ?_)
    obtain ⟨rfl, rfl, rfl, rfl⟩ := p16
    refine caX5_90 (pc := 19) (t_X5_isLetter (l := l) (G := G)) (Nat.le_of_ble_eq_true rfl) ⟨rfl, rfl, ⟨by decide, by decide⟩, by decide, by decide⟩ dX5_stepWord_19 (fun r19 a19 b19 c19 p19 => ?_)
    obtain ⟨rfl, rfl, rfl, rfl⟩ := p19
    refine J_if_eq_b (pc := 22) 38 dX5_stepWord_22 (by decide) (fun h22 => ?_) (fun h22 => ?_)
    · have eE : rE (lxL (hi 16)) n st = q := by rw [← ie]; exact rE_stop (Or.inr (decide_eq_false h22))
      refine S_aload_0 (pc := 38) dX5_stepWord_38 ?_
      refine J_iconst (pc := 39) (1) rfl dX5_stepWord_39 ?_
      refine fpX5_25 (pc := 40) sh_15 dX5_stepWord_40 ?_
      refine S_aload_0 (pc := 43) dX5_stepWord_43 ?_
      refine S_aload_0 (pc := 44) dX5_stepWord_44 ?_
      refine fgX5_19 (pc := 45) sh_15 dX5_stepWord_45 ?_
      refine S_aload_0 (pc := 48) dX5_stepWord_48 ?_
      refine fgX5_22 (pc := 49) sh_15 dX5_stepWord_49 ?_
      refine J_isub (pc := 52) dX5_stepWord_52 ?_
      refine J_iconst (pc := 53) (1) rfl dX5_stepWord_53 ?_
      refine J_icmp_ne (pc := 54) 68 dX5_stepWord_54 (by decide) (fun h54 => ?_) (fun h54 => ?_)
      · have h54 : ¬ rE (lxL (hi 16)) n st - st = 1 := by
          intro z
          apply h54
          rw [sv_u2_k (by decide), sv_u2_k (by decide), i2, ik 3 (by decide), h3, pk_sub (by omega), ← eE, z]; rfl
        refine J_iconst (pc := 68) (0) rfl dX5_stepWord_68 ?_
        refine fpX5_28 (pc := 69) sh_15 dX5_stepWord_69 ?_
        exact J_return (pc := 72) dX5_stepWord_72 rfl ⟨rfl, rfl, ⟨hQ _ (fun q g => by rw [sv_u2_off g, sv_u2_off g]; exact i1 q g) (fun k hk => by rw [sv_u2_k (by omega), sv_u2_k (by omega)]; exact ik k (by omega)) (by rw [sv_u2_k (by decide), sv_u2_k (by decide), i2, eE]) (by rw [sv_u2_k (by decide), sv_u2_k (by decide)]; exact ik 3 (by decide)) (by rw [sv_u2_k (by decide), sv_u2_at]) (by rw [sv_u2_at]; first | rw [if_neg h54] | rw [if_pos h54]), rfl, rfl⟩⟩
      · have h54 : rE (lxL (hi 16)) n st - st = 1 := by
          rw [sv_u2_k (by decide), sv_u2_k (by decide), i2, ik 3 (by decide), h3, pk_sub (by omega), show (1 : Int32) = nI 1 from rfl, nI_eq (by omega) (by omega)] at h54
          rw [eE]; exact h54
        refine S_aload_0 (pc := 57) dX5_stepWord_57 ?_
        refine S_aload_0 (pc := 58) dX5_stepWord_58 ?_
        refine fgX5_22 (pc := 59) sh_15 dX5_stepWord_59 ?_
        refine caX5_86 (pc := 62) (t_X5_byteAt (l := l) (G := G) (hi := sv_u2 h' 15 4 1) (j := st) (by rw [sv_u2_k (by decide)]; exact i0) hn2 hst (by rw [sv_u2_k (by decide), ik 3 (by decide)]; exact h3) (show sv_u2 h' 15 4 1 16 st = hi 16 st from by rw [sv_u2_off (by decide), i16])) sh_15 (Nat.le_of_ble_eq_true rfl) ⟨rfl, rfl, ⟨by decide, by decide⟩, by decide, by decide⟩ dX5_stepWord_62 (fun r62 a62 b62 c62 p62 => ?_)
        obtain ⟨rfl, rfl, rfl, rfl⟩ := p62
        refine J_goto (pc := 65) 69 dX5_stepWord_65 (by decide) ?_
        refine fpX5_28 (pc := 69) sh_15 dX5_stepWord_69 ?_
        exact J_return (pc := 72) dX5_stepWord_72 rfl ⟨rfl, rfl, ⟨hQ _ (fun q g => by rw [sv_u2_off g, sv_u2_off g]; exact i1 q g) (fun k hk => by rw [sv_u2_k (by omega), sv_u2_k (by omega)]; exact ik k (by omega)) (by rw [sv_u2_k (by decide), sv_u2_k (by decide), i2, eE]) (by rw [sv_u2_k (by decide), sv_u2_k (by decide)]; exact ik 3 (by decide)) (by rw [sv_u2_k (by decide), sv_u2_at]) (by rw [sv_u2_at]; first | rw [if_neg h54] | rw [if_pos h54]), rfl, rfl⟩⟩
    · have hP : lxL (hi 16) q = true := decide_eq_true h22
      refine S_aload_0 (pc := 25) dX5_stepWord_25 ?_
      refine J_dup (pc := 26) rfl dX5_stepWord_26 ?_
      refine fgX5_19 (pc := 27) sh_15 dX5_stepWord_27 ?_
      refine J_iconst (pc := 30) (1) rfl dX5_stepWord_30 ?_
      refine J_iadd (pc := 31) dX5_stepWord_31 ?_
      refine fpX5_19 (pc := 32) sh_15 dX5_stepWord_32 ?_
      refine J_goto (pc := 35) 0 dX5_stepWord_35 (by decide) ?_
      exact ih (q + 1) (by omega) (by omega) _ (by omega) (fun q g => by rw [sv_u2_off g]; exact i1 q g) (fun k hk => by rw [sv_u2_k hk]; exact ik k hk) (by rw [sv_u2_at, i2, nI_succ]) (by rw [← ie]; exact (rE_step (by omega) hP).symm)
