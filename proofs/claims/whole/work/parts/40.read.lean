/-! the reader, apart from both programs: tokens by their places, and a town as it is told -/
def tkS (s : Nat → Int32) (n p : Nat) : Nat := rE (lxS s) n p
def tkT (s : Nat → Int32) (n p : Nat) : Int32 := lxTok s n (rE (lxS s) n p)
def tkV (s : Nat → Int32) (n p : Nat) : Int32 := lxVal s n (rE (lxS s) n p)
def tkN (s : Nat → Int32) (n p : Nat) : Nat := lxNext s n (rE (lxS s) n p)
theorem tk_le {s : Nat → Int32} {n p : Nat} (hp : p ≤ n) : p ≤ tkS s n p ∧ tkS s n p ≤ tkN s n p ∧ tkN s n p ≤ n := by
  have h := rE_le (P := lxS s) hp
  unfold tkS tkN lxNext
  have h1 := rE_le (P := lxL s) h.2
  have h2 := rE_le (P := lxD s) h.2
  split
  · omega
  · split
    · omega
    · split <;> omega
theorem tk_adv {s : Nat → Int32} {n p : Nat} (hp : p ≤ n) (ht : ¬ tkT s n p = 0) : p < tkN s n p := by
  have h := rE_le (P := lxS s) hp
  unfold tkN lxNext
  by_cases h0 : n ≤ rE (lxS s) n p
  · exact absurd (by unfold tkT lxTok; rw [if_pos h0]) ht
  · rw [if_neg h0]
    split
    · rename_i hL
      rw [rE_step (by omega) hL]
      have := rE_le (P := lxL s) (n := n) (p := rE (lxS s) n p + 1) (by omega)
      omega
    · split
      · rename_i hD
        rw [rE_step (by omega) hD]
        have := rE_le (P := lxD s) (n := n) (p := rE (lxS s) n p + 1) (by omega)
        omega
      · omega
def num (s : Nat → Int32) (n p : Nat) (lo hh : Int32) : Bool := decide (tkT s n p = 2 ∧ lo ≤ tkV s n p ∧ tkV s n p ≤ hh)
def rdStop (s : Nat → Int32) (n : Nat) (D : svH) (p : Nat) : Nat ⊕ (svH × Nat) := if tkT s n p = 3 then .inr (D, tkN s n p) else .inl (tkS s n p)
def rdChoice (s : Nat → Int32) (n : Nat) (D : svH) (p : Nat) : Nat ⊕ (svH × Nat) :=
  if num s n p 2 6 = true then
    (if num s n (tkN s n p) 1 (tkV s n p) = true then
      (if num s n (tkN s n (tkN s n p)) 0 20 = true then
        rdStop s n (sv_u2 (sv_u2 (sv_u2 D 0 0 (tkV s n p)) 0 1 (tkV s n (tkN s n p))) 0 2 (tkV s n (tkN s n (tkN s n p)))) (tkN s n (tkN s n (tkN s n p)))
      else .inl (tkS s n (tkN s n (tkN s n p))))
    else .inl (tkS s n (tkN s n p)))
  else .inl (tkS s n p)
def addT (D : svH) (T : Nat) (h c l : Int32) : svH := sv_u2 (sv_u2 (sv_u2 (sv_u2 D 1 T h) 2 T c) 3 T l) 0 3 (nI (T + 1))
def addG (D : svH) (T : Nat) (h c l : Int32) : svH := sv_u2 (sv_u2 (sv_u2 (sv_u2 D 4 T h) 5 T c) 6 T l) 0 4 (nI (T + 1))
def rdTrain (s : Nat → Int32) (n : Nat) (D : svH) (p : Nat) : Nat ⊕ (svH × Nat) :=
  if num s n p 0 23 = true then
    (if num s n (tkN s n p) 1 30 = true then
      (if num s n (tkN s n (tkN s n p)) 0 (D 0 0 - 1) = true then
        rdStop s n (addT D (D 0 3).toNatClampNeg (tkV s n p) (tkV s n (tkN s n p)) (tkV s n (tkN s n (tkN s n p)))) (tkN s n (tkN s n (tkN s n p)))
      else .inl (tkS s n (tkN s n (tkN s n p))))
    else .inl (tkS s n (tkN s n p)))
  else .inl (tkS s n p)
def rdGroup (s : Nat → Int32) (n : Nat) (D : svH) (p : Nat) : Nat ⊕ (svH × Nat) :=
  if num s n p 1 30 = true then
    (if num s n (tkN s n p) 0 (D 0 0 - 1) = true then
      (if num s n (tkN s n (tkN s n p)) 0 (D 0 0 - 1) = true ∧ ¬ tkV s n (tkN s n (tkN s n p)) = tkV s n (tkN s n p) then
        rdStop s n (addG D (D 0 4).toNatClampNeg (tkV s n p) (tkV s n (tkN s n p)) (tkV s n (tkN s n (tkN s n p)))) (tkN s n (tkN s n (tkN s n p)))
      else .inl (tkS s n (tkN s n (tkN s n p))))
    else .inl (tkS s n (tkN s n p)))
  else .inl (tkS s n p)
def rdItem (s : Nat → Int32) (n : Nat) (D : svH) (items p : Nat) : Nat ⊕ (svH × Nat) :=
  if tkT s n p = 1 ∧ tkV s n p = 99 ∧ items = 0 then rdChoice s n D (tkN s n p)
  else if tkT s n p = 1 ∧ tkV s n p = 116 ∧ D 0 3 < 8 then rdTrain s n D (tkN s n p)
  else if tkT s n p = 1 ∧ tkV s n p = 114 ∧ D 0 4 < 6 then rdGroup s n D (tkN s n p)
  else .inl (tkS s n p)
def rdAll (s : Nat → Int32) (n : Nat) : Nat → svH → Nat → Nat → Nat ⊕ (svH × Nat)
  | 0, _, _, _ => .inl 0
  | d + 1, D, items, p => if tkT s n p = 0 then .inr (D, items) else match rdItem s n D items p with
    | .inl f => .inl f
    | .inr (D', p') => rdAll s n d D' (items + 1) p'
/-- a town being told: canonical D against cells f (fields, hours, crowds, likes, people, firsts, seconds); its numbers in their bounds -/
def dRel (D f : svH) : Prop := (∀ k, k < 5 → f 0 k = D 0 k) ∧ ∃ C L B T Gn, D 0 0 = nI C ∧ D 0 1 = nI L ∧ D 0 2 = nI B ∧ D 0 3 = nI T ∧ D 0 4 = nI Gn ∧ 2 ≤ C ∧ C ≤ 6 ∧ 1 ≤ L ∧ L ≤ C ∧ B ≤ 20 ∧ T ≤ 8 ∧ Gn ≤ 6 ∧
  (∀ t, t < T → f 1 t = D 1 t ∧ f 2 t = D 2 t ∧ f 3 t = D 3 t ∧ (∃ h, h ≤ 23 ∧ D 1 t = nI h) ∧ ∃ j, j < C ∧ D 3 t = nI j) ∧ ∀ r, r < Gn → f 4 r = D 4 r ∧ f 5 r = D 5 r ∧ f 6 r = D 6 r ∧ (∃ j, j < C ∧ D 5 r = nI j) ∧ ∃ j, j < C ∧ D 6 r = nI j
set_option maxRecDepth 20000 in
set_option maxHeartbeats 2000000 in
theorem t_X5_readNumber {l : Launch} {G : svG} {hi : svH} {hl : svL} {tw dr : Nat} {pm : Nat → Nat} {n p : Nat} (hn2 : n ≤ 120) (hn : hi 15 0 = nI n) (h2 : hi 15 2 = nI p) (hp : p ≤ n) {lo hh : Int32} : svI l G yX5_readNumber mX5_readNumber rX5_readNumber [sv_rf G.1 15, .int lo, .int hh] hi hl (sv_hr tw dr pm) (fun r a b c => sv_b (num (hi 16) n p lo hh = true) = r ∧ lxOut hi a 15 2 3 4 5 (hi 16) n p ∧ hl = b ∧ sv_hr tw dr pm = c) := by
  refine sv_entry (by decide +kernel) rfl rfl (Nat.le_of_ble_eq_true rfl) (by simp [Value.category, sv_rf]) [some (sv_rf G.1 15), some (.int lo), some (.int hh)] rfl ?_
  refine S_aload_0 (pc := 0) dX5_readNumber_0 ?_
  refine caX5_40 (pc := 1) (t_X5_step (l := l) (G := G) hn2 hn h2 hp) sh_15 (Nat.le_of_ble_eq_true rfl) ⟨rfl, rfl, ⟨by decide, by decide⟩, by decide, by decide⟩ dX5_readNumber_1 (fun a1 b1 c1 p1 => ?_)
  obtain ⟨lx, rfl, rfl⟩ := p1
  have ht : a1 15 4 = tkT (hi 16) n p := lx.2.2.2.2.1
  refine S_aload_0 (pc := 4) dX5_readNumber_4 ?_
  refine fgX5_25 (pc := 5) sh_15 dX5_readNumber_5 ?_
  refine J_iconst (pc := 8) (2) rfl dX5_readNumber_8 ?_
  refine J_icmp_ne (pc := 9) 32 dX5_readNumber_9 (by decide) (fun h9 => ?_) (fun h9 => ?_)
  · rw [ht] at h9
    refine J_iconst (pc := 32) (0) rfl dX5_readNumber_32 ?_
    exact J_ireturn (pc := 33) dX5_readNumber_33 rfl rfl ⟨_, rfl, rfl, ⟨by
        unfold num
        first
        | exact sv_b_f (fun q => h9 (of_decide_eq_true q).1)
        | exact sv_b_f (fun q => Int32.not_le.mpr h17 (of_decide_eq_true q).2.1)
        | exact sv_b_f (fun q => Int32.not_le.mpr h25 (of_decide_eq_true q).2.2)
        | exact sv_b_t (decide_eq_true ⟨h9, Int32.not_lt.mp h17, Int32.not_lt.mp h25⟩), lx, rfl, rfl⟩⟩
  · rw [ht] at h9
    have hv : a1 15 5 = tkV (hi 16) n p := lx.2.2.2.2.2 (Or.inr (by rw [ht]; exact h9))
    refine S_aload_0 (pc := 12) dX5_readNumber_12 ?_
    refine fgX5_28 (pc := 13) sh_15 dX5_readNumber_13 ?_
    refine S_iload_1 (pc := 16) dX5_readNumber_16 ?_
    refine J_icmp_lt (pc := 17) 32 dX5_readNumber_17 (by decide) (fun h17 => ?_) (fun h17 => ?_)
    · rw [hv] at h17
      refine J_iconst (pc := 32) (0) rfl dX5_readNumber_32 ?_
      exact J_ireturn (pc := 33) dX5_readNumber_33 rfl rfl ⟨_, rfl, rfl, ⟨by
          unfold num
          first
          | exact sv_b_f (fun q => h9 (of_decide_eq_true q).1)
          | exact sv_b_f (fun q => Int32.not_le.mpr h17 (of_decide_eq_true q).2.1)
          | exact sv_b_f (fun q => Int32.not_le.mpr h25 (of_decide_eq_true q).2.2)
          | exact sv_b_t (decide_eq_true ⟨h9, Int32.not_lt.mp h17, Int32.not_lt.mp h25⟩), lx, rfl, rfl⟩⟩
    · rw [hv] at h17
      refine S_aload_0 (pc := 20) dX5_readNumber_20 ?_
      refine fgX5_28 (pc := 21) sh_15 dX5_readNumber_21 ?_
      refine S_iload_2 (pc := 24) dX5_readNumber_24 ?_
      refine J_icmp_gt (pc := 25) 32 dX5_readNumber_25 (by decide) (fun h25 => ?_) (fun h25 => ?_)
      · rw [hv] at h25
        refine J_iconst (pc := 32) (0) rfl dX5_readNumber_32 ?_
        exact J_ireturn (pc := 33) dX5_readNumber_33 rfl rfl ⟨_, rfl, rfl, ⟨by
            unfold num
            first
            | exact sv_b_f (fun q => h9 (of_decide_eq_true q).1)
            | exact sv_b_f (fun q => Int32.not_le.mpr h17 (of_decide_eq_true q).2.1)
            | exact sv_b_f (fun q => Int32.not_le.mpr h25 (of_decide_eq_true q).2.2)
            | exact sv_b_t (decide_eq_true ⟨h9, Int32.not_lt.mp h17, Int32.not_lt.mp h25⟩), lx, rfl, rfl⟩⟩
      · rw [hv] at h25
        refine J_iconst (pc := 28) (1) rfl dX5_readNumber_28 ?_
        refine J_goto (pc := 29) 33 dX5_readNumber_29 (by decide) ?_
        exact J_ireturn (pc := 33) dX5_readNumber_33 rfl rfl ⟨_, rfl, rfl, ⟨by
            unfold num
            first
            | exact sv_b_f (fun q => h9 (of_decide_eq_true q).1)
            | exact sv_b_f (fun q => Int32.not_le.mpr h17 (of_decide_eq_true q).2.1)
            | exact sv_b_f (fun q => Int32.not_le.mpr h25 (of_decide_eq_true q).2.2)
            | exact sv_b_t (decide_eq_true ⟨h9, Int32.not_lt.mp h17, Int32.not_lt.mp h25⟩), lx, rfl, rfl⟩⟩
set_option maxRecDepth 20000 in
set_option maxHeartbeats 2000000 in
theorem t_X5_readStop {l : Launch} {G : svG} {hi : svH} {hl : svL} {tw dr : Nat} {pm : Nat → Nat} {n p : Nat} (hn2 : n ≤ 120) (hn : hi 15 0 = nI n) (h2 : hi 15 2 = nI p) (hp : p ≤ n) : svI l G yX5_readStop mX5_readStop rX5_readStop [sv_rf G.1 15] hi hl (sv_hr tw dr pm) (fun r a b c => sv_b (tkT (hi 16) n p = 3) = r ∧ lxOut hi a 15 2 3 4 5 (hi 16) n p ∧ hl = b ∧ sv_hr tw dr pm = c) := by
  refine sv_entry (by decide +kernel) rfl rfl (Nat.le_of_ble_eq_true rfl) (by simp [Value.category, sv_rf]) [some (sv_rf G.1 15)] rfl ?_
  refine S_aload_0 (pc := 0) dX5_readStop_0 ?_
  refine caX5_40 (pc := 1) (t_X5_step (l := l) (G := G) hn2 hn h2 hp) sh_15 (Nat.le_of_ble_eq_true rfl) ⟨rfl, rfl, ⟨by decide, by decide⟩, by decide, by decide⟩ dX5_readStop_1 (fun a1 b1 c1 p1 => ?_)
  obtain ⟨lx, rfl, rfl⟩ := p1
  have ht : a1 15 4 = tkT (hi 16) n p := lx.2.2.2.2.1
  refine S_aload_0 (pc := 4) dX5_readStop_4 ?_
  refine fgX5_25 (pc := 5) sh_15 dX5_readStop_5 ?_
  refine J_iconst (pc := 8) (3) rfl dX5_readStop_8 ?_
  refine J_icmp_ne (pc := 9) 16 dX5_readStop_9 (by decide) (fun h9 => ?_) (fun h9 => ?_)
  · rw [ht] at h9
    refine J_iconst (pc := 16) (0) rfl dX5_readStop_16 ?_
    exact J_ireturn (pc := 17) dX5_readStop_17 rfl rfl ⟨_, rfl, rfl, ⟨by first | exact sv_b_f h9 | exact sv_b_t h9, lx, rfl, rfl⟩⟩
  · rw [ht] at h9
    refine J_iconst (pc := 12) (1) rfl dX5_readStop_12 ?_
    refine J_goto (pc := 13) 17 dX5_readStop_13 (by decide) ?_
    exact J_ireturn (pc := 17) dX5_readStop_17 rfl rfl ⟨_, rfl, rfl, ⟨by first | exact sv_b_f h9 | exact sv_b_t h9, lx, rfl, rfl⟩⟩
set_option maxRecDepth 20000 in
set_option maxHeartbeats 2000000 in
theorem t_X6_reset {l : Launch} {G : svG} {hi : svH} {hl : svL} {tw dr : Nat} {pm : Nat → Nat} (hdr : svSH[dr]? = some (0, 6)) : svVh l G yX6_reset mX6_reset rX6_reset [sv_rf G.1 dr] hi hl (sv_hr tw dr pm) (sv_u2 (sv_u2 (sv_u2 (sv_u2 (sv_u2 hi dr 0 3) dr 1 2) dr 2 3) dr 3 0) dr 4 0) := by
  refine sv_entry (by decide +kernel) rfl rfl (Nat.le_of_ble_eq_true rfl) (by simp [Value.category, sv_rf]) [some (sv_rf G.1 dr)] rfl ?_
  refine S_aload_0 (pc := 0) dX6_reset_0 ?_
  refine J_iconst (pc := 1) (3) rfl dX6_reset_1 ?_
  refine fpX6_9 (pc := 2) hdr dX6_reset_2 ?_
  refine S_aload_0 (pc := 5) dX6_reset_5 ?_
  refine J_iconst (pc := 6) (2) rfl dX6_reset_6 ?_
  refine fpX6_15 (pc := 7) hdr dX6_reset_7 ?_
  refine S_aload_0 (pc := 10) dX6_reset_10 ?_
  refine J_iconst (pc := 11) (3) rfl dX6_reset_11 ?_
  refine fpX6_18 (pc := 12) hdr dX6_reset_12 ?_
  refine S_aload_0 (pc := 15) dX6_reset_15 ?_
  refine J_iconst (pc := 16) (0) rfl dX6_reset_16 ?_
  refine fpX6_21 (pc := 17) hdr dX6_reset_17 ?_
  refine S_aload_0 (pc := 20) dX6_reset_20 ?_
  refine J_iconst (pc := 21) (0) rfl dX6_reset_21 ?_
  refine fpX6_24 (pc := 22) hdr dX6_reset_22 ?_
  exact J_return (pc := 25) dX6_reset_25 rfl ⟨rfl, rfl, ⟨rfl, rfl, rfl⟩⟩
set_option maxRecDepth 20000 in
set_option maxHeartbeats 2000000 in
theorem t_X6_addTrain {l : Launch} {G : svG} {hi : svH} {hl : svL} {tw dr : Nat} {pm : Nat → Nat} (hdr : svSH[dr]? = some (0, 6)) {T : Nat} {h c0 l0 : Int32} (hT : hi dr 3 = nI T) (hT8 : T < 8) : svVh l G yX6_addTrain mX6_addTrain rX6_addTrain [sv_rf G.1 dr, .int h, .int c0, .int l0] hi hl (sv_hr tw dr pm) (sv_u2 (sv_u2 (sv_u2 (sv_u2 hi (dr + 1) T h) (dr + 2) T c0) (dr + 3) T l0) dr 3 (nI (T + 1))) := by
  refine sv_entry (by decide +kernel) rfl rfl (Nat.le_of_ble_eq_true rfl) (by simp [Value.category, sv_rf]) [some (sv_rf G.1 dr), some (.int h), some (.int c0), some (.int l0)] rfl ?_
  refine S_aload_0 (pc := 0) dX6_addTrain_0 ?_
  refine fgX6_27 (pc := 1) hdr (hv_T5 hdr) dX6_addTrain_1 ?_
  refine S_aload_0 (pc := 4) dX6_addTrain_4 ?_
  refine fgX6_21 (pc := 5) hdr dX6_addTrain_5 ?_
  refine S_iload_1 (pc := 8) dX6_addTrain_8 ?_
  refine caX6_46 (pc := 9) (t_X7_set_x (l := l) (G := G) T hT (ar_T5 hdr) hT8 (by decide)) (Nat.le_of_ble_eq_true rfl) ⟨rfl, rfl, ⟨by decide, by decide⟩, by decide, by decide⟩ dX6_addTrain_9 (fun a9 b9 c9 p9 => ?_)
  obtain ⟨rfl, rfl, rfl⟩ := p9
  refine S_aload_0 (pc := 12) dX6_addTrain_12 ?_
  refine fgX6_31 (pc := 13) hdr (hv_T6 hdr) dX6_addTrain_13 ?_
  refine S_aload_0 (pc := 16) dX6_addTrain_16 ?_
  refine fgX6_21 (pc := 17) hdr dX6_addTrain_17 ?_
  refine S_iload_2 (pc := 20) dX6_addTrain_20 ?_
  refine caX6_46 (pc := 21) (t_X7_set_x (l := l) (G := G) T (by rw [sv_u2_off (by omega)]; exact hT) (ar_T6 hdr) hT8 (by decide)) (Nat.le_of_ble_eq_true rfl) ⟨rfl, rfl, ⟨by decide, by decide⟩, by decide, by decide⟩ dX6_addTrain_21 (fun a21 b21 c21 p21 => ?_)
  obtain ⟨rfl, rfl, rfl⟩ := p21
  refine S_aload_0 (pc := 24) dX6_addTrain_24 ?_
  refine fgX6_34 (pc := 25) hdr (hv_T7 hdr) dX6_addTrain_25 ?_
  refine S_aload_0 (pc := 28) dX6_addTrain_28 ?_
  refine fgX6_21 (pc := 29) hdr dX6_addTrain_29 ?_
  refine S_iload_3 (pc := 32) dX6_addTrain_32 ?_
  refine caX6_46 (pc := 33) (t_X7_set_x (l := l) (G := G) T (by rw [sv_u2_off (by omega), sv_u2_off (by omega)]; exact hT) (ar_T7 hdr) hT8 (by decide)) (Nat.le_of_ble_eq_true rfl) ⟨rfl, rfl, ⟨by decide, by decide⟩, by decide, by decide⟩ dX6_addTrain_33 (fun a33 b33 c33 p33 => ?_)
  obtain ⟨rfl, rfl, rfl⟩ := p33
  refine S_aload_0 (pc := 36) dX6_addTrain_36 ?_
  refine J_dup (pc := 37) rfl dX6_addTrain_37 ?_
  refine fgX6_21 (pc := 38) hdr dX6_addTrain_38 ?_
  refine J_iconst (pc := 41) (1) rfl dX6_addTrain_41 ?_
  refine J_iadd (pc := 42) dX6_addTrain_42 ?_
  refine fpX6_21 (pc := 43) hdr dX6_addTrain_43 ?_
  exact J_return (pc := 46) dX6_addTrain_46 rfl ⟨rfl, rfl, ⟨by rw [sv_u2_off (by omega), sv_u2_off (by omega), sv_u2_off (by omega), hT, nI_succ], rfl, rfl⟩⟩
set_option maxRecDepth 20000 in
set_option maxHeartbeats 2000000 in
theorem t_X6_addGroup {l : Launch} {G : svG} {hi : svH} {hl : svL} {tw dr : Nat} {pm : Nat → Nat} (hdr : svSH[dr]? = some (0, 6)) {T : Nat} {h c0 l0 : Int32} (hT : hi dr 4 = nI T) (hT8 : T < 6) : svVh l G yX6_addGroup mX6_addGroup rX6_addGroup [sv_rf G.1 dr, .int h, .int c0, .int l0] hi hl (sv_hr tw dr pm) (sv_u2 (sv_u2 (sv_u2 (sv_u2 hi (dr + 4) T h) (dr + 5) T c0) (dr + 6) T l0) dr 4 (nI (T + 1))) := by
  refine sv_entry (by decide +kernel) rfl rfl (Nat.le_of_ble_eq_true rfl) (by simp [Value.category, sv_rf]) [some (sv_rf G.1 dr), some (.int h), some (.int c0), some (.int l0)] rfl ?_
  refine S_aload_0 (pc := 0) dX6_addGroup_0 ?_
  refine fgX6_37 (pc := 1) hdr (hv_T8 hdr) dX6_addGroup_1 ?_
  refine S_aload_0 (pc := 4) dX6_addGroup_4 ?_
  refine fgX6_24 (pc := 5) hdr dX6_addGroup_5 ?_
  refine S_iload_1 (pc := 8) dX6_addGroup_8 ?_
  refine caX6_46 (pc := 9) (t_X7_set_x (l := l) (G := G) T hT (ar_T8 hdr) hT8 (by decide)) (Nat.le_of_ble_eq_true rfl) ⟨rfl, rfl, ⟨by decide, by decide⟩, by decide, by decide⟩ dX6_addGroup_9 (fun a9 b9 c9 p9 => ?_)
  obtain ⟨rfl, rfl, rfl⟩ := p9
  refine S_aload_0 (pc := 12) dX6_addGroup_12 ?_
  refine fgX6_40 (pc := 13) hdr (hv_T9 hdr) dX6_addGroup_13 ?_
  refine S_aload_0 (pc := 16) dX6_addGroup_16 ?_
  refine fgX6_24 (pc := 17) hdr dX6_addGroup_17 ?_
  refine S_iload_2 (pc := 20) dX6_addGroup_20 ?_
  refine caX6_46 (pc := 21) (t_X7_set_x (l := l) (G := G) T (by rw [sv_u2_off (by omega)]; exact hT) (ar_T9 hdr) hT8 (by decide)) (Nat.le_of_ble_eq_true rfl) ⟨rfl, rfl, ⟨by decide, by decide⟩, by decide, by decide⟩ dX6_addGroup_21 (fun a21 b21 c21 p21 => ?_)
  obtain ⟨rfl, rfl, rfl⟩ := p21
  refine S_aload_0 (pc := 24) dX6_addGroup_24 ?_
  refine fgX6_43 (pc := 25) hdr (hv_T10 hdr) dX6_addGroup_25 ?_
  refine S_aload_0 (pc := 28) dX6_addGroup_28 ?_
  refine fgX6_24 (pc := 29) hdr dX6_addGroup_29 ?_
  refine S_iload_3 (pc := 32) dX6_addGroup_32 ?_
  refine caX6_46 (pc := 33) (t_X7_set_x (l := l) (G := G) T (by rw [sv_u2_off (by omega), sv_u2_off (by omega)]; exact hT) (ar_T10 hdr) hT8 (by decide)) (Nat.le_of_ble_eq_true rfl) ⟨rfl, rfl, ⟨by decide, by decide⟩, by decide, by decide⟩ dX6_addGroup_33 (fun a33 b33 c33 p33 => ?_)
  obtain ⟨rfl, rfl, rfl⟩ := p33
  refine S_aload_0 (pc := 36) dX6_addGroup_36 ?_
  refine J_dup (pc := 37) rfl dX6_addGroup_37 ?_
  refine fgX6_24 (pc := 38) hdr dX6_addGroup_38 ?_
  refine J_iconst (pc := 41) (1) rfl dX6_addGroup_41 ?_
  refine J_iadd (pc := 42) dX6_addGroup_42 ?_
  refine fpX6_24 (pc := 43) hdr dX6_addGroup_43 ?_
  exact J_return (pc := 46) dX6_addGroup_46 rfl ⟨rfl, rfl, ⟨by rw [sv_u2_off (by omega), sv_u2_off (by omega), sv_u2_off (by omega), hT, nI_succ], rfl, rfl⟩⟩
