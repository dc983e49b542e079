/-- what is written once the day is put by: n rows were there -/
def rem (g a : svH) (n : Nat) : Prop := (∀ q, q ≠ 169 → a q = g q) ∧ a 169 27 = nI (n + 1) ∧ (∀ k, k < 27 → a 169 k = g 169 k) ∧ (∀ k, k < 27 → a 169 (28 + 27 * n + k) = g 169 k) ∧ ∀ i, 28 ≤ i → i < 28 + 27 * n → a 169 i = g 169 i
/-- a deed: the day ahead of it is known, and the day is now d -/
def mDeed (hi a : svH) (K : Nat) (d : Nat → Int32) : Prop := ∃ n dd, K = n + dd ∧ (dd = 0 ∨ dd = 1 ∧ K = 10) ∧ n ≤ 9 ∧ a 169 27 = nI (n + 1) ∧ (∀ k, k < 27 → a 169 k = d k) ∧ (∀ k, k < 27 → a 169 (28 + 27 * n + k) = hi 169 k) ∧ (∀ j, j < n → ∀ k, k < 27 → a 169 (28 + 27 * j + k) = hi 169 (28 + 27 * (j + dd) + k)) ∧ ∀ q, q ≠ 169 → a q = hi q
theorem mDeed.d {hi a : svH} {K : Nat} {d : Nat → Int32} (h : mDeed hi a K d) {k : Nat} (hk : k < 27) : a 169 k = d k := by
  obtain ⟨n, dd, h1, h2, h3, h4, h5, _⟩ := h
  exact h5 k hk
theorem mDeed.q {hi a : svH} {K : Nat} {d : Nat → Int32} (h : mDeed hi a K d) {q : Nat} (hq : q ≠ 169) : a q = hi q := by
  obtain ⟨n, dd, h1, h2, h3, h4, h5, h6, h7, h8⟩ := h
  exact h8 q hq
theorem mDeed.set {hi a : svH} {K : Nat} {d : Nat → Int32} (h : mDeed hi a K d) {k : Nat} (hk : k < 27) {v : Int32} : mDeed hi (sv_u2 a 169 k v) K (upd d k v) := by
  obtain ⟨n, dd, h1, h2, h3, h4, h5, h6, h7, h8⟩ := h
  refine ⟨n, dd, h1, h2, h3, by rw [sv_u2_k (by omega)]; exact h4, fun i hi => ?_, fun i hi => by rw [sv_u2_k (by omega)]; exact h6 i hi, fun j hj i hi => by rw [sv_u2_k (by omega)]; exact h7 j hj i hi, fun q hq => by rw [sv_u2_off hq]; exact h8 q hq⟩
  rw [sv_u2_row]
  unfold upd
  by_cases e : i = k
  · rw [if_pos e, if_pos e]
  · rw [if_neg e, if_neg e]; exact h5 i hi
theorem mDeed.eq {hi a : svH} {K : Nat} {d e : Nat → Int32} (h : mDeed hi a K d) (he : ∀ k, k < 27 → d k = e k) : mDeed hi a K e := by
  obtain ⟨n, dd, h1, h2, h3, h4, h5, h6, h7, h8⟩ := h
  exact ⟨n, dd, h1, h2, h3, h4, fun k hk => (h5 k hk).trans (he k hk), h6, h7, h8⟩
set_option maxRecDepth 20000 in
set_option maxHeartbeats 2000000 in
theorem lo2_X8_remembers {l : Launch} {G : svG} {hl : svL} {tw dr : Nat} {pm : Nat → Nat} {g : svH} {n : Nat} {Q : svH → Prop} (hn : n ≤ 9) (hg : g 169 27 = nI n) (hQ : ∀ a, rem g a n → Q a) : ∀ t, t ≤ 27 → ∀ (h' : svH), (∀ q, q ≠ 169 → h' q = g q) → (∀ k, k < t → h' 169 (28 + 27 * n + k) = g 169 k) → (∀ i, i < 28 + 27 * n ∨ 28 + 27 * n + t ≤ i → h' 169 i = g 169 i) → svJ l G rX8_remembers mX8_remembers (sv_Fm G (fun v sh a b c => v = none ∧ sh = svSH ∧ ((fun a b c => Q a ∧ hl = b ∧ sv_hr tw dr pm = c)) a b c) 0 0) 0 0 70 [some (sv_rf G.1 164), some (.int (nI (28 + 27 * n))), some (.int (nI t))] [] svSH h' hl (sv_hr tw dr pm) := by
  refine sv_up (fun t ht ih h' i1 i2 i3 => ?_)
  refine S_iload_2 (pc := 70) dX8_remembers_70 ?_
  refine J_bipush (pc := 71) (27) rfl dX8_remembers_71 ?_
  refine J_icmp_ge (pc := 73) 96 dX8_remembers_73 (by decide) (fun h73 => ?_) (fun h73 => ?_)
  · rw [show (27 : Int32) = nI 27 from rfl, nI_leI (by omega) (by omega)] at h73
    obtain rfl : t = 27 := by omega
    refine S_aload_0 (pc := 96) dX8_remembers_96 ?_
    refine fgX8_29 (pc := 97) sh_164 hv_164_8 dX8_remembers_97 ?_
    refine J_bipush (pc := 100) (27) rfl dX8_remembers_100 ?_
    refine J_dup2 (pc := 102) rfl rfl dX8_remembers_102 ?_
    refine J_iald_n (pc := 103) 27 sh_169 rfl (by decide) (by decide) dX8_remembers_103 ?_
    refine J_iconst (pc := 104) (1) rfl dX8_remembers_104 ?_
    refine J_iadd (pc := 105) dX8_remembers_105 ?_
    refine J_iast_n (pc := 106) 27 sh_169 rfl (by decide) (by decide) dX8_remembers_106 ?_
    exact J_return (pc := 107) dX8_remembers_107 rfl ⟨rfl, rfl, ⟨hQ _ ⟨fun q hq => by rw [sv_u2_off hq]; exact i1 q hq, by rw [sv_u2_at, i3 27 (by omega), hg, nI_succ], fun k hk => by rw [sv_u2_k (by omega)]; exact i3 k (by omega), fun k hk => by rw [sv_u2_k (by omega)]; exact i2 k hk, fun i h1 h2 => by rw [sv_u2_k (by omega)]; exact i3 i (by omega)⟩, rfl, rfl⟩⟩
  · rw [show (27 : Int32) = nI 27 from rfl, nI_leI (by omega) (by omega)] at h73
    refine S_aload_0 (pc := 76) dX8_remembers_76 ?_
    refine fgX8_29 (pc := 77) sh_164 hv_164_8 dX8_remembers_77 ?_
    refine S_iload_1 (pc := 80) dX8_remembers_80 ?_
    refine S_iload_2 (pc := 81) dX8_remembers_81 ?_
    refine J_iadd (pc := 82) dX8_remembers_82 ?_
    refine S_aload_0 (pc := 83) dX8_remembers_83 ?_
    refine fgX8_29 (pc := 84) sh_164 hv_164_8 dX8_remembers_84 ?_
    refine S_iload_2 (pc := 87) dX8_remembers_87 ?_
    refine J_iald_n (pc := 88) t sh_169 rfl (by omega) (by decide) dX8_remembers_88 ?_
    refine J_iast_n (pc := 89) (28 + 27 * n + t) sh_169 (by rw [nI_add]) (by omega) (by decide) dX8_remembers_89 ?_
    refine S_inc_2 (pc := 90) (1) rfl dX8_remembers_90 (by decide) ?_
    refine J_goto (pc := 93) 70 dX8_remembers_93 (by decide) ?_
    refine svJ_ls (by rw [nI_succ]) (ih (t + 1) (by omega) (by omega) _ (fun q hq => by rw [sv_u2_off hq]; exact i1 q hq) (fun k hk => ?_) (fun i h1 => by rw [sv_u2_k (by omega)]; exact i3 i (by omega)))
    by_cases e : k = t
    · rw [e, sv_u2_at]; exact i3 t (by omega)
    · rw [sv_u2_k (by omega)]; exact i2 k (by omega)
set_option maxRecDepth 20000 in
set_option maxHeartbeats 2000000 in
theorem tl_X8_remembers {l : Launch} {G : svG} {hl : svL} {tw dr : Nat} {pm : Nat → Nat} {g : svH} {n : Nat} {Q : svH → Prop} (hn : n ≤ 9) (hg : g 169 27 = nI n) (hQ : ∀ a, rem g a n → Q a) {z : Option Value} : svJ l G rX8_remembers mX8_remembers (sv_Fm G (fun v sh a b c => v = none ∧ sh = svSH ∧ ((fun a b c => Q a ∧ hl = b ∧ sv_hr tw dr pm = c)) a b c) 0 0) 0 0 54 [some (sv_rf G.1 164), z, none] [] svSH g hl (sv_hr tw dr pm) := by
  refine J_bipush (pc := 54) (28) rfl dX8_remembers_54 ?_
  refine J_bipush (pc := 56) (27) rfl dX8_remembers_56 ?_
  refine S_aload_0 (pc := 58) dX8_remembers_58 ?_
  refine fgX8_29 (pc := 59) sh_164 hv_164_8 dX8_remembers_59 ?_
  refine J_bipush (pc := 62) (27) rfl dX8_remembers_62 ?_
  refine J_iald_n (pc := 64) 27 sh_169 rfl (by decide) (by decide) dX8_remembers_64 ?_
  refine J_imul (pc := 65) dX8_remembers_65 ?_
  refine J_iadd (pc := 66) dX8_remembers_66 ?_
  refine S_istore_1 (pc := 67) dX8_remembers_67 (by decide) ?_
  refine J_iconst (pc := 68) (0) rfl dX8_remembers_68 ?_
  refine S_istore_2 (pc := 69) dX8_remembers_69 (by decide) ?_
  exact svJ_ls (by rw [hg, show (28 : Int32) = nI 28 from rfl, show (27 : Int32) = nI 27 from rfl, pk_mul, nI_add]; rfl) (lo2_X8_remembers hn hg hQ 0 (Nat.zero_le _) g (fun _ _ => rfl) (fun k hk => by omega) (fun _ _ => rfl))
set_option maxRecDepth 20000 in
set_option maxHeartbeats 2000000 in
theorem lo1_X8_remembers {l : Launch} {G : svG} {hi : svH} {hl : svL} {tw dr : Nat} {pm : Nat → Nat} (hK : hi 169 27 = nI 10) : ∀ t, t ≤ 243 → ∀ (h' : svH), (∀ q, q ≠ 169 → h' q = hi q) → (∀ i, 28 ≤ i → i < 28 + t → h' 169 i = hi 169 (i + 27)) → (∀ i, i < 28 ∨ 28 + t ≤ i → h' 169 i = hi 169 i) → svJ l G rX8_remembers mX8_remembers (sv_Fm G (fun v sh a b c => v = none ∧ sh = svSH ∧ ((fun a b c => mDeed hi a 10 (hi 169) ∧ hl = b ∧ sv_hr tw dr pm = c)) a b c) 0 0) 0 0 15 [some (sv_rf G.1 164), some (.int (nI (28 + t))), none] [] svSH h' hl (sv_hr tw dr pm) := by
  refine sv_up (fun t ht ih h' i1 i2 i3 => ?_)
  refine S_iload_1 (pc := 15) dX8_remembers_15 ?_
  refine J_sipush (pc := 16) (271) rfl dX8_remembers_16 ?_
  refine J_icmp_ge (pc := 19) 43 dX8_remembers_19 (by decide) (fun h19 => ?_) (fun h19 => ?_)
  · rw [show (271 : Int32) = nI 271 from rfl, nI_leI (by omega) (by omega)] at h19
    obtain rfl : t = 243 := by omega
    refine S_aload_0 (pc := 43) dX8_remembers_43 ?_
    refine fgX8_29 (pc := 44) sh_164 hv_164_8 dX8_remembers_44 ?_
    refine J_bipush (pc := 47) (27) rfl dX8_remembers_47 ?_
    refine J_dup2 (pc := 49) rfl rfl dX8_remembers_49 ?_
    refine J_iald_n (pc := 50) 27 sh_169 rfl (by decide) (by decide) dX8_remembers_50 ?_
    refine J_iconst (pc := 51) (1) rfl dX8_remembers_51 ?_
    refine J_isub (pc := 52) dX8_remembers_52 ?_
    refine J_iast_n (pc := 53) 27 sh_169 rfl (by decide) (by decide) dX8_remembers_53 ?_
    refine tl_X8_remembers (n := 9) (g := sv_u2 h' 169 27 (h' 169 27 - 1)) (Q := fun a => mDeed hi a 10 (hi 169)) (by decide) (by rw [sv_u2_at, i3 27 (by omega), hK]; rfl) (fun a ha => ?_)
    obtain ⟨r1, r2, r3, r4, r5⟩ := ha
    refine ⟨9, 1, rfl, Or.inr ⟨rfl, rfl⟩, by decide, r2, fun k hk => by rw [r3 k hk, sv_u2_k (by omega)]; exact i3 k (by omega), fun k hk => by rw [r4 k hk, sv_u2_k (by omega)]; exact i3 k (by omega), fun j hj k hk => ?_, fun q hq => by rw [r1 q hq, sv_u2_off hq]; exact i1 q hq⟩
    rw [r5 _ (by omega) (by omega), sv_u2_k (by omega), i2 _ (by omega) (by omega)]
    congr 1
    omega
  · rw [show (271 : Int32) = nI 271 from rfl, nI_leI (by omega) (by omega)] at h19
    refine S_aload_0 (pc := 22) dX8_remembers_22 ?_
    refine fgX8_29 (pc := 23) sh_164 hv_164_8 dX8_remembers_23 ?_
    refine S_iload_1 (pc := 26) dX8_remembers_26 ?_
    refine S_aload_0 (pc := 27) dX8_remembers_27 ?_
    refine fgX8_29 (pc := 28) sh_164 hv_164_8 dX8_remembers_28 ?_
    refine S_iload_1 (pc := 31) dX8_remembers_31 ?_
    refine J_bipush (pc := 32) (27) rfl dX8_remembers_32 ?_
    refine J_iadd (pc := 34) dX8_remembers_34 ?_
    refine J_iald_n (pc := 35) (28 + t + 27) sh_169 (by rw [show (27 : Int32) = nI 27 from rfl, nI_add]) (by omega) (by decide) dX8_remembers_35 ?_
    refine J_iast_n (pc := 36) (28 + t) sh_169 rfl (by omega) (by decide) dX8_remembers_36 ?_
    refine S_inc_1 (pc := 37) (1) rfl dX8_remembers_37 (by decide) ?_
    refine J_goto (pc := 40) 15 dX8_remembers_40 (by decide) ?_
    refine svJ_ls (by rw [← nI_succ]; rfl) (ih (t + 1) (by omega) (by omega) _ (fun q hq => by rw [sv_u2_off hq]; exact i1 q hq) (fun i h1 h2 => ?_) (fun i h1 => by rw [sv_u2_k (by omega)]; exact i3 i (by omega)))
    by_cases e : i = 28 + t
    · rw [e, sv_u2_at]; exact i3 _ (by omega)
    · rw [sv_u2_k (by omega)]; exact i2 i h1 (by omega)
set_option maxRecDepth 20000 in
set_option maxHeartbeats 2000000 in
theorem t_X8_remembers {l : Launch} {G : svG} {hi : svH} {hl : svL} {tw dr : Nat} {pm : Nat → Nat} {K : Nat} (hK : hi 169 27 = nI K) (hK10 : K ≤ 10) : svV l G yX8_remembers mX8_remembers rX8_remembers [sv_rf G.1 164] hi hl (sv_hr tw dr pm) (fun a b c => mDeed hi a K (hi 169) ∧ hl = b ∧ sv_hr tw dr pm = c) := by
  refine sv_entry (by decide +kernel) rfl rfl (Nat.le_of_ble_eq_true rfl) (by simp [Value.category, sv_rf]) [some (sv_rf G.1 164), none, none] rfl ?_
  refine S_aload_0 (pc := 0) dX8_remembers_0 ?_
  refine fgX8_29 (pc := 1) sh_164 hv_164_8 dX8_remembers_1 ?_
  refine J_bipush (pc := 4) (27) rfl dX8_remembers_4 ?_
  refine J_iald_n (pc := 6) 27 sh_169 rfl (by decide) (by decide) dX8_remembers_6 ?_
  refine J_bipush (pc := 7) (10) rfl dX8_remembers_7 ?_
  refine J_icmp_ne (pc := 9) 54 dX8_remembers_9 (by decide) (fun h9 => ?_) (fun h9 => ?_)
  · have n10 : ¬ K = 10 := fun z => h9 (by rw [hK, z]; rfl)
    refine tl_X8_remembers (n := K) (g := hi) (Q := fun a => mDeed hi a K (hi 169)) (by omega) hK (fun a ha => ?_)
    obtain ⟨r1, r2, r3, r4, r5⟩ := ha
    exact ⟨K, 0, rfl, Or.inl rfl, by omega, r2, r3, r4, fun j hj k hk => r5 _ (by omega) (by omega), r1⟩
  · have e10 : K = 10 := by rw [hK, show (10 : Int32) = nI 10 from rfl] at h9; first | exact (nI_eq (by omega) (by omega)).mp h9 | exact (nI_eq (by omega) (by omega)).mp (Classical.not_not.mp h9)
    subst e10
    refine J_bipush (pc := 12) (28) rfl dX8_remembers_12 ?_
    refine S_istore_1 (pc := 14) dX8_remembers_14 (by decide) ?_
    exact lo1_X8_remembers hK 0 (Nat.zero_le _) hi (fun _ _ => rfl) (fun i h1 h2 => by omega) (fun _ _ => rfl)
def stW (f : Nat → Int32) (s : Int32) (v : Nat → Int32) : Nat → Int32 := fun i => if i = 25 then s else if 3 ≤ i ∧ i < 9 then v (i - 3) else f i
theorem stW_25 {f : Nat → Int32} {s x : Int32} {v : Nat → Int32} : upd (stW f s v) 25 x = stW f x v := by
  funext i
  by_cases e : i = 25
  · subst e; rw [us3]; simp [stW]
  · rw [un3 e]; simp [stW, e]
theorem stW_v {f : Nat → Int32} {s x : Int32} {v : Nat → Int32} {j : Nat} (hj : j < 6) : upd (stW f s v) (3 + j) x = stW f s (upd v j x) := by
  funext i
  by_cases e : i = 3 + j
  · subst e
    rw [us3]
    unfold stW
    rw [if_neg (by omega), if_pos (by omega), show 3 + j - 3 = j by omega, us3]
  · rw [un3 e]
    unfold stW
    by_cases h : i = 25
    · rw [if_pos h, if_pos h]
    · rw [if_neg h, if_neg h]
      by_cases h2 : 3 ≤ i ∧ i < 9
      · rw [if_pos h2, if_pos h2, un3 (by omega)]
      · rw [if_neg h2, if_neg h2]
theorem stW_off {f : Nat → Int32} {s : Int32} {v : Nat → Int32} {i : Nat} (h : i ≠ 25) (h2 : i < 3 ∨ 9 ≤ i) : stW f s v i = f i := by
  unfold stW; rw [if_neg h, if_neg (by omega)]
theorem stW_s {f : Nat → Int32} {s : Int32} {v : Nat → Int32} : stW f s v 25 = s := if_pos rfl
theorem stW_at {f : Nat → Int32} {s : Int32} {v : Nat → Int32} {j : Nat} (hj : j < 6) : stW f s v (3 + j) = v j := by
  unfold stW; rw [if_neg (by omega), if_pos (by omega), show 3 + j - 3 = j by omega]
theorem stW_same {f : Nat → Int32} : stW f (f 25) (fun k => f (3 + k)) = f := by
  funext i
  unfold stW
  by_cases h : i = 25
  · rw [if_pos h, h]
  · rw [if_neg h]
    by_cases h2 : 3 ≤ i ∧ i < 9
    · rw [if_pos h2]
      show f (3 + (i - 3)) = f i
      congr 1; omega
    · rw [if_neg h2]
def mHour (hi : svH) (t : Nat) : Int32 × (Nat → Int32) × Nat := if hi 169 2 = 0 then mStop (fun t => hi 169 (9 + t)) (fun t => hi 169 (17 + t)) (hi 165) (hi 169 0) (hi 169 25) (fun k => hi 169 (3 + k)) t else (hi 169 25, fun k => hi 169 (3 + k), 0)
theorem mHour_skip {hi : svH} {t : Nat} (h : ¬ (hi 169 2 = 0 ∧ ¬ bt (mHour hi t).1 t = true ∧ hi 169 (9 + t) = hi 169 0)) : mHour hi (t + 1) = mHour hi t := by
  unfold mHour at *
  by_cases h0 : hi 169 2 = 0
  · rw [if_pos h0] at h
    rw [if_pos h0, if_pos h0, mStop, if_pos]
    by_cases hb : bt (mStop (fun t => hi 169 (9 + t)) (fun t => hi 169 (17 + t)) (hi 165) (hi 169 0) (hi 169 25) (fun k => hi 169 (3 + k)) t).1 t = true
    · exact Or.inl hb
    · exact Or.inr (fun z => h ⟨h0, hb, z⟩)
  · rw [if_neg h0, if_neg h0]
theorem mHour_stop {hi : svH} {t j : Nat} (h : hi 169 2 = 0 ∧ ¬ bt (mHour hi t).1 t = true ∧ hi 169 (9 + t) = hi 169 0) (hj : hi 169 (17 + t) = nI j) (hj6 : j < 6) : mHour hi (t + 1) = ((mHour hi t).1 ||| (1 <<< (nI t &&& 31)), upd (mHour hi t).2.1 j ((mHour hi t).2.1 j + hi 165 t), (mHour hi t).2.2 + 1) := by
  obtain ⟨h0, h1, h2⟩ := h
  unfold mHour at *
  rw [if_pos h0] at h1
  rw [if_pos h0, if_pos h0, mStop, if_neg (by simp only [not_or, Classical.not_not]; exact ⟨h1, h2⟩), hj, nI_clamp (by omega)]
set_option maxRecDepth 20000 in
set_option maxHeartbeats 2000000 in
theorem lo_X8_hour {l : Launch} {G : svG} {hi : svH} {hl : svL} {tw dr : Nat} {pm : Nat → Nat} {C L T Gn : Nat} (hm : mT hi C L T Gn) {K : Nat} (h8 : ¬ hi 169 0 = 24) : ∀ t, t ≤ T → ∀ (h' : svH), mDeed hi h' K (stW (hi 169) (mHour hi t).1 (mHour hi t).2.1) → svJ l G rX8_hour mX8_hour (sv_Fm G (fun v sh a b c => ∃ r, v = some (.int r) ∧ sh = svSH ∧ ((fun r a b c => (¬ (¬ hi 169 0 = 24) ∧ r = -2 ∧ hi = a ∧ hl = b ∧ sv_hr tw dr pm = c) ∨ ((¬ hi 169 0 = 24) ∧ r = nI (mHour hi T).2.2 ∧ mDeed hi a K (upd (stW (hi 169) (mHour hi T).1 (mHour hi T).2.1) 0 (hi 169 0 + 1)) ∧ hl = b ∧ sv_hr tw dr pm = c))) r a b c) 0 0) 0 0 22 [some (sv_rf G.1 164), some (.int (nI (mHour hi t).2.2)), some (.int (nI t))] [] svSH h' hl (sv_hr tw dr pm) := by
  obtain ⟨hCc, hLc, hT, hGn, hC2, hC6, hL1, hLC, hT8, hG6, hf, hs, hk⟩ := id hm
  refine sv_up (fun t ht ih h' hd => ?_)
  have e2 : h' 169 2 = hi 169 2 := by rw [hd.d (by decide), stW_off (by decide) (by decide)]
  have e0 : h' 169 0 = hi 169 0 := by rw [hd.d (by decide), stW_off (by decide) (by decide)]
  have e25 : h' 169 25 = (mHour hi t).1 := by rw [hd.d (by decide), stW_s]
  refine S_iload_2 (pc := 22) dX8_hour_22 ?_
  refine S_aload_0 (pc := 23) dX8_hour_23 ?_
  refine fgX8_73 (pc := 24) sh_164 dX8_hour_24 ?_
  refine J_icmp_ge (pc := 27) 112 dX8_hour_27 (by decide) (fun h27 => ?_) (fun h27 => ?_)
  · rw [hd.q (by decide), hT, nI_leI (by omega) (by omega)] at h27
    obtain rfl : t = T := by omega
    refine S_aload_0 (pc := 112) dX8_hour_112 ?_
    refine fgX8_29 (pc := 113) sh_164 hv_164_8 dX8_hour_113 ?_
    refine J_iconst (pc := 116) (0) rfl dX8_hour_116 ?_
    refine J_dup2 (pc := 117) rfl rfl dX8_hour_117 ?_
    refine J_iald_n (pc := 118) 0 sh_169 rfl (by decide) (by decide) dX8_hour_118 ?_
    refine J_iconst (pc := 119) (1) rfl dX8_hour_119 ?_
    refine J_iadd (pc := 120) dX8_hour_120 ?_
    refine J_iast_n (pc := 121) 0 sh_169 rfl (by decide) (by decide) dX8_hour_121 ?_
    refine S_iload_1 (pc := 122) dX8_hour_122 ?_
    exact J_ireturn (pc := 123) dX8_hour_123 rfl rfl ⟨_, rfl, rfl, (Or.inr ⟨h8, rfl, by have h := hd.set (k := 0) (by decide) (v := h' 169 0 + 1); rw [e0] at h ⊢; exact h, rfl, rfl⟩)⟩
  · rw [hd.q (by decide), hT, nI_leI (by omega) (by omega)] at h27
    obtain ⟨j, hjC, ej⟩ := hk t (by omega)
    have hj6 : j < 6 := by omega
    have e9 : h' 169 (9 + t) = hi 169 (9 + t) := by rw [hd.d (by omega), stW_off (by omega) (by omega)]
    have e17 : h' 169 (17 + t) = nI j := by rw [hd.d (by omega), stW_off (by omega) (by omega)]; exact ej
    have e3 : h' 169 (3 + j) = (mHour hi t).2.1 j := by rw [hd.d (by omega), stW_at hj6]
    refine S_aload_0 (pc := 30) dX8_hour_30 ?_
    refine fgX8_29 (pc := 31) sh_164 hv_164_8 dX8_hour_31 ?_
    refine J_iconst (pc := 34) (2) rfl dX8_hour_34 ?_
    refine J_iald_n (pc := 35) 2 sh_169 rfl (by decide) (by decide) dX8_hour_35 ?_
    refine J_if_ne (pc := 36) 106 dX8_hour_36 (by decide) (fun h36 => ?_) (fun h36 => ?_)
    · rw [e2] at h36
      refine S_inc_2 (pc := 106) (1) rfl dX8_hour_106 (by decide) ?_
      refine J_goto (pc := 109) 22 dX8_hour_109 (by decide) ?_
      exact svJ_ls (by rw [mHour_skip (fun z => h36 z.1), nI_succ]) (ih (t + 1) (by omega) (by omega) _ (by rw [mHour_skip (fun z => h36 z.1)]; exact hd))
    · rw [e2] at h36
      refine S_aload_0 (pc := 39) dX8_hour_39 ?_
      refine S_iload_2 (pc := 40) dX8_hour_40 ?_
      refine caX8_163 (pc := 41) (t_X8_isStopped_x (l := l) (G := G) t rfl (by omega)) sh_164 (Nat.le_of_ble_eq_true rfl) ⟨rfl, rfl, ⟨by decide, by decide⟩, by decide, by decide⟩ dX8_hour_41 (fun r41 a41 b41 c41 p41 => ?_)
      obtain ⟨rfl, rfl, rfl, rfl⟩ := p41
      refine J_if_ne_b (pc := 44) 106 dX8_hour_44 (by decide) (fun h44 => ?_) (fun h44 => ?_)
      · rw [e25] at h44
        refine S_inc_2 (pc := 106) (1) rfl dX8_hour_106 (by decide) ?_
        refine J_goto (pc := 109) 22 dX8_hour_109 (by decide) ?_
        exact svJ_ls (by rw [mHour_skip (fun z => z.2.1 h44), nI_succ]) (ih (t + 1) (by omega) (by omega) _ (by rw [mHour_skip (fun z => z.2.1 h44)]; exact hd))
      · rw [e25] at h44
        refine S_aload_0 (pc := 47) dX8_hour_47 ?_
        refine fgX8_29 (pc := 48) sh_164 hv_164_8 dX8_hour_48 ?_
        refine J_bipush (pc := 51) (9) rfl dX8_hour_51 ?_
        refine S_iload_2 (pc := 53) dX8_hour_53 ?_
        refine J_iadd (pc := 54) dX8_hour_54 ?_
        refine J_iald_n (pc := 55) (9 + t) sh_169 (by rw [show (9 : Int32) = nI 9 from rfl, nI_add]) (by omega) (by decide) dX8_hour_55 ?_
        refine S_aload_0 (pc := 56) dX8_hour_56 ?_
        refine fgX8_29 (pc := 57) sh_164 hv_164_8 dX8_hour_57 ?_
        refine J_iconst (pc := 60) (0) rfl dX8_hour_60 ?_
        refine J_iald_n (pc := 61) 0 sh_169 rfl (by decide) (by decide) dX8_hour_61 ?_
        refine J_icmp_ne (pc := 62) 106 dX8_hour_62 (by decide) (fun h62 => ?_) (fun h62 => ?_)
        · rw [e9, e0] at h62
          refine S_inc_2 (pc := 106) (1) rfl dX8_hour_106 (by decide) ?_
          refine J_goto (pc := 109) 22 dX8_hour_109 (by decide) ?_
          first
          | (have hs : hi 169 2 = 0 ∧ ¬ bt (mHour hi t).1 t = true ∧ hi 169 (9 + t) = hi 169 0 := ⟨h36, h44, h62⟩
             exact svJ_ls (by rw [mHour_stop hs ej hj6, nI_succ, nI_succ]) (ih (t + 1) (by omega) (by omega) _ (by rw [mHour_stop hs ej hj6, ← stW_v hj6, ← stW_25]; exact hd3)))
          | exact svJ_ls (by rw [mHour_skip (fun z => h62 z.2.2), nI_succ]) (ih (t + 1) (by omega) (by omega) _ (by rw [mHour_skip (fun z => h62 z.2.2)]; exact hd))
        · rw [e9, e0] at h62
          have hd3 := (hd.set (k := 25) (by decide) (v := h' 169 25 ||| 1 <<< (nI t &&& 31))).set (k := 3 + j) (by omega) (v := h' 169 (3 + j) + h' 165 t)
          rw [e25, e3, hd.q (by decide)] at hd3
          refine S_aload_0 (pc := 65) dX8_hour_65 ?_
          refine fgX8_29 (pc := 66) sh_164 hv_164_8 dX8_hour_66 ?_
          refine J_bipush (pc := 69) (25) rfl dX8_hour_69 ?_
          refine J_dup2 (pc := 71) rfl rfl dX8_hour_71 ?_
          refine J_iald_n (pc := 72) 25 sh_169 rfl (by decide) (by decide) dX8_hour_72 ?_
          refine J_iconst (pc := 73) (1) rfl dX8_hour_73 ?_
          refine S_iload_2 (pc := 74) dX8_hour_74 ?_
          refine J_ishl (pc := 75) dX8_hour_75 ?_
          refine J_ior (pc := 76) dX8_hour_76 ?_
          refine J_iast_n (pc := 77) 25 sh_169 rfl (by decide) (by decide) dX8_hour_77 ?_
          refine S_aload_0 (pc := 78) dX8_hour_78 ?_
          refine fgX8_29 (pc := 79) sh_164 hv_164_8 dX8_hour_79 ?_
          refine J_iconst (pc := 82) (3) rfl dX8_hour_82 ?_
          refine S_aload_0 (pc := 83) dX8_hour_83 ?_
          refine fgX8_29 (pc := 84) sh_164 hv_164_8 dX8_hour_84 ?_
          refine J_bipush (pc := 87) (17) rfl dX8_hour_87 ?_
          refine S_iload_2 (pc := 89) dX8_hour_89 ?_
          refine J_iadd (pc := 90) dX8_hour_90 ?_
          refine J_iald_n (pc := 91) (17 + t) sh_169 (by rw [show (17 : Int32) = nI 17 from rfl, nI_add]) (by omega) (by decide) dX8_hour_91 ?_
          refine J_iadd (pc := 92) dX8_hour_92 ?_
          refine J_dup2 (pc := 93) rfl rfl dX8_hour_93 ?_
          refine J_iald_n (pc := 94) (3 + j) sh_169 (by rw [sv_u2_k (by omega), e17, show (3 : Int32) = nI 3 from rfl, nI_add]) (by omega) (by decide) dX8_hour_94 ?_
          refine S_aload_0 (pc := 95) dX8_hour_95 ?_
          refine fgX8_16 (pc := 96) sh_164 hv_164_3 dX8_hour_96 ?_
          refine S_iload_2 (pc := 99) dX8_hour_99 ?_
          refine J_iald_n (pc := 100) t sh_165 rfl (by omega) (by decide) dX8_hour_100 ?_
          refine J_iadd (pc := 101) dX8_hour_101 ?_
          refine J_iast_n (pc := 102) (3 + j) sh_169 (by rw [sv_u2_k (by omega), e17, show (3 : Int32) = nI 3 from rfl, nI_add]) (by omega) (by decide) dX8_hour_102 ?_
          rw [sv_u2_k (i := 169) (k := 25) (j := 3 + j) (by omega), sv_u2_off (i := 169) (j := 165) (by decide), e25, e3, hd.q (q := 165) (by decide)]
          refine S_inc_1 (pc := 103) (1) rfl dX8_hour_103 (by decide) ?_
          refine S_inc_2 (pc := 106) (1) rfl dX8_hour_106 (by decide) ?_
          refine J_goto (pc := 109) 22 dX8_hour_109 (by decide) ?_
          first
          | (have hs : hi 169 2 = 0 ∧ ¬ bt (mHour hi t).1 t = true ∧ hi 169 (9 + t) = hi 169 0 := ⟨h36, h44, h62⟩
             exact svJ_ls (by rw [mHour_stop hs ej hj6, nI_succ, nI_succ]) (ih (t + 1) (by omega) (by omega) _ (by rw [mHour_stop hs ej hj6, ← stW_v hj6, ← stW_25]; exact hd3)))
          | exact svJ_ls (by rw [mHour_skip (fun z => h62 z.2.2), nI_succ]) (ih (t + 1) (by omega) (by omega) _ (by rw [mHour_skip (fun z => h62 z.2.2)]; exact hd))
theorem mHour_0 {hi : svH} : mHour hi 0 = (hi 169 25, fun k => hi 169 (3 + k), 0) := by
  unfold mHour
  split <;> rfl
set_option maxRecDepth 20000 in
set_option maxHeartbeats 2000000 in
theorem t_X8_hour {l : Launch} {G : svG} {hi : svH} {hl : svL} {tw dr : Nat} {pm : Nat → Nat} {C L T Gn : Nat} (hm : mT hi C L T Gn) {K : Nat} (hK : hi 169 27 = nI K) (hK10 : K ≤ 10)  : svI l G yX8_hour mX8_hour rX8_hour [sv_rf G.1 164] hi hl (sv_hr tw dr pm) (fun r a b c => (¬ (¬ hi 169 0 = 24) ∧ r = -2 ∧ hi = a ∧ hl = b ∧ sv_hr tw dr pm = c) ∨ ((¬ hi 169 0 = 24) ∧ r = nI (mHour hi T).2.2 ∧ mDeed hi a K (upd (stW (hi 169) (mHour hi T).1 (mHour hi T).2.1) 0 (hi 169 0 + 1)) ∧ hl = b ∧ sv_hr tw dr pm = c)) := by
  obtain ⟨hCc, hLc, hT, hGn, hC2, hC6, hL1, hLC, hT8, hG6, hf, hs, hk⟩ := id hm
  refine sv_entry (by decide +kernel) rfl rfl (Nat.le_of_ble_eq_true rfl) (by simp [Value.category, sv_rf]) [some (sv_rf G.1 164), none, none] rfl ?_
  refine S_aload_0 (pc := 0) dX8_hour_0 ?_
  refine fgX8_29 (pc := 1) sh_164 hv_164_8 dX8_hour_1 ?_
  refine J_iconst (pc := 4) (0) rfl dX8_hour_4 ?_
  refine J_iald_n (pc := 5) 0 sh_169 rfl (by decide) (by decide) dX8_hour_5 ?_
  refine J_bipush (pc := 6) (24) rfl dX8_hour_6 ?_
  refine J_icmp_ne (pc := 8) 14 dX8_hour_8 (by decide) (fun h8 => ?_) (fun h8 => ?_)
  · refine S_aload_0 (pc := 14) dX8_hour_14 ?_
    refine caX8_192 (pc := 15) (t_X8_remembers (l := l) (G := G) hK hK10) sh_164 (Nat.le_of_ble_eq_true rfl) ⟨rfl, rfl, ⟨by decide, by decide⟩, by decide, by decide⟩ dX8_hour_15 (fun a15 b15 c15 p15 => ?_)
    obtain ⟨hd, rfl, rfl⟩ := p15
    refine J_iconst (pc := 18) (0) rfl dX8_hour_18 ?_
    refine S_istore_1 (pc := 19) dX8_hour_19 (by decide) ?_
    refine J_iconst (pc := 20) (0) rfl dX8_hour_20 ?_
    refine S_istore_2 (pc := 21) dX8_hour_21 (by decide) ?_
    exact svJ_ls (by rw [mHour_0]; rfl) (lo_X8_hour hm (by exact h8) 0 (Nat.zero_le _) _ (by rw [mHour_0]; exact hd.eq (fun k _ => by rw [stW_same])))
  · refine J_bipush (pc := 11) (-2) rfl dX8_hour_11 ?_
    exact J_ireturn (pc := 13) dX8_hour_13 rfl rfl ⟨_, rfl, rfl, (Or.inl ⟨fun z => z (by first | exact h8 | exact Classical.not_not.mp h8), rfl, rfl, rfl, rfl⟩)⟩
set_option maxRecDepth 20000 in
set_option maxHeartbeats 2000000 in
theorem t_X8_holds {l : Launch} {G : svG} {hi : svH} {hl : svL} {tw dr : Nat} {pm : Nat → Nat} {C L T Gn : Nat} (hm : mT hi C L T Gn) {K : Nat} (hK : hi 169 27 = nI K) (hK10 : K ≤ 10) {x : Int32} : svI l G yX8_holds mX8_holds rX8_holds [sv_rf G.1 164, .int x] hi hl (sv_hr tw dr pm) (fun r a b c => (¬ (0 ≤ x ∧ x < nI T) ∧ r = -1 ∧ hi = a ∧ hl = b ∧ sv_hr tw dr pm = c) ∨ ((0 ≤ x ∧ x < nI T) ∧ ¬ (¬ bt (hi 169 25) x.toNatClampNeg = true ∧ ¬ hi 169 (9 + x.toNatClampNeg) = 23 ∧ hi 169 0 ≤ hi 169 (9 + x.toNatClampNeg)) ∧ r = -2 ∧ hi = a ∧ hl = b ∧ sv_hr tw dr pm = c) ∨ ((0 ≤ x ∧ x < nI T) ∧ (¬ bt (hi 169 25) x.toNatClampNeg = true ∧ ¬ hi 169 (9 + x.toNatClampNeg) = 23 ∧ hi 169 0 ≤ hi 169 (9 + x.toNatClampNeg)) ∧ r = hi 169 (9 + x.toNatClampNeg) + 1 ∧ mDeed hi a K (upd (hi 169) (9 + x.toNatClampNeg) (hi 169 (9 + x.toNatClampNeg) + 1)) ∧ hl = b ∧ sv_hr tw dr pm = c)) := by
  obtain ⟨hCc, hLc, hT, hGn, hC2, hC6, hL1, hLC, hT8, hG6, hf, hs, hk⟩ := id hm
  refine sv_entry (by decide +kernel) rfl rfl (Nat.le_of_ble_eq_true rfl) (by simp [Value.category, sv_rf]) [some (sv_rf G.1 164), some (.int x)] rfl ?_
  refine S_aload_0 (pc := 0) dX8_holds_0 ?_
  refine S_iload_1 (pc := 1) dX8_holds_1 ?_
  refine caX8_179 (pc := 2) (t_X8_isTrain_n (l := l) (G := G) hm) sh_164 (Nat.le_of_ble_eq_true rfl) ⟨rfl, rfl, ⟨by decide, by decide⟩, by decide, by decide⟩ dX8_holds_2 (fun r2 a2 b2 c2 p2 => ?_)
  obtain ⟨rfl, rfl, rfl, rfl⟩ := p2
  refine J_if_ne_b (pc := 5) 10 dX8_holds_5 (by decide) (fun h5 => ?_) (fun h5 => ?_)
  · obtain ⟨j, hj, rfl⟩ := sv_ix h5 (by omega)
    have hcl : (nI j).toNatClampNeg = j := nI_clamp (by omega)
    refine S_aload_0 (pc := 10) dX8_holds_10 ?_
    refine S_iload_1 (pc := 11) dX8_holds_11 ?_
    refine caX8_163 (pc := 12) (t_X8_isStopped_x (l := l) (G := G) j rfl (by omega)) sh_164 (Nat.le_of_ble_eq_true rfl) ⟨rfl, rfl, ⟨by decide, by decide⟩, by decide, by decide⟩ dX8_holds_12 (fun r12 a12 b12 c12 p12 => ?_)
    obtain ⟨rfl, rfl, rfl, rfl⟩ := p12
    refine J_if_ne_b (pc := 15) 50 dX8_holds_15 (by decide) (fun h15 => ?_) (fun h15 => ?_)
    · refine J_bipush (pc := 50) (-2) rfl dX8_holds_50 ?_
      exact J_ireturn (pc := 52) dX8_holds_52 rfl rfl ⟨_, rfl, rfl, (by rw [hcl]; exact Or.inr (Or.inl ⟨h5, fun z => z.1 h15, rfl, rfl, rfl, rfl⟩))⟩
    · refine S_aload_0 (pc := 18) dX8_holds_18 ?_
      refine fgX8_29 (pc := 19) sh_164 hv_164_8 dX8_holds_19 ?_
      refine J_bipush (pc := 22) (9) rfl dX8_holds_22 ?_
      refine S_iload_1 (pc := 24) dX8_holds_24 ?_
      refine J_iadd (pc := 25) dX8_holds_25 ?_
      refine J_iald_n (pc := 26) (9 + j) sh_169 (by rw [show (9 : Int32) = nI 9 from rfl, nI_add]) (by omega) (by decide) dX8_holds_26 ?_
      refine J_bipush (pc := 27) (23) rfl dX8_holds_27 ?_
      refine J_icmp_eq (pc := 29) 50 dX8_holds_29 (by decide) (fun h29 => ?_) (fun h29 => ?_)
      · refine J_bipush (pc := 50) (-2) rfl dX8_holds_50 ?_
        exact J_ireturn (pc := 52) dX8_holds_52 rfl rfl ⟨_, rfl, rfl, (by rw [hcl]; exact Or.inr (Or.inl ⟨h5, fun z => z.2.1 h29, rfl, rfl, rfl, rfl⟩))⟩
      · refine S_aload_0 (pc := 32) dX8_holds_32 ?_
        refine fgX8_29 (pc := 33) sh_164 hv_164_8 dX8_holds_33 ?_
        refine J_bipush (pc := 36) (9) rfl dX8_holds_36 ?_
        refine S_iload_1 (pc := 38) dX8_holds_38 ?_
        refine J_iadd (pc := 39) dX8_holds_39 ?_
        refine J_iald_n (pc := 40) (9 + j) sh_169 (by rw [show (9 : Int32) = nI 9 from rfl, nI_add]) (by omega) (by decide) dX8_holds_40 ?_
        refine S_aload_0 (pc := 41) dX8_holds_41 ?_
        refine fgX8_29 (pc := 42) sh_164 hv_164_8 dX8_holds_42 ?_
        refine J_iconst (pc := 45) (0) rfl dX8_holds_45 ?_
        refine J_iald_n (pc := 46) 0 sh_169 rfl (by decide) (by decide) dX8_holds_46 ?_
        refine J_icmp_ge (pc := 47) 53 dX8_holds_47 (by decide) (fun h47 => ?_) (fun h47 => ?_)
        · refine S_aload_0 (pc := 53) dX8_holds_53 ?_
          refine caX8_192 (pc := 54) (t_X8_remembers (l := l) (G := G) hK hK10) sh_164 (Nat.le_of_ble_eq_true rfl) ⟨rfl, rfl, ⟨by decide, by decide⟩, by decide, by decide⟩ dX8_holds_54 (fun a54 b54 c54 p54 => ?_)
          obtain ⟨hd, rfl, rfl⟩ := p54
          refine S_aload_0 (pc := 57) dX8_holds_57 ?_
          refine fgX8_29 (pc := 58) sh_164 hv_164_8 dX8_holds_58 ?_
          refine J_bipush (pc := 61) (9) rfl dX8_holds_61 ?_
          refine S_iload_1 (pc := 63) dX8_holds_63 ?_
          refine J_iadd (pc := 64) dX8_holds_64 ?_
          refine J_dup2 (pc := 65) rfl rfl dX8_holds_65 ?_
          refine J_iald_n (pc := 66) (9 + j) sh_169 (by rw [show (9 : Int32) = nI 9 from rfl, nI_add]) (by omega) (by decide) dX8_holds_66 ?_
          refine J_iconst (pc := 67) (1) rfl dX8_holds_67 ?_
          refine J_iadd (pc := 68) dX8_holds_68 ?_
          refine J_iast_n (pc := 69) (9 + j) sh_169 (by rw [show (9 : Int32) = nI 9 from rfl, nI_add]) (by omega) (by decide) dX8_holds_69 ?_
          refine S_aload_0 (pc := 70) dX8_holds_70 ?_
          refine fgX8_29 (pc := 71) sh_164 hv_164_8 dX8_holds_71 ?_
          refine J_bipush (pc := 74) (9) rfl dX8_holds_74 ?_
          refine S_iload_1 (pc := 76) dX8_holds_76 ?_
          refine J_iadd (pc := 77) dX8_holds_77 ?_
          refine J_iald_n (pc := 78) (9 + j) sh_169 (by rw [show (9 : Int32) = nI 9 from rfl, nI_add]) (by omega) (by decide) dX8_holds_78 ?_
          exact J_ireturn (pc := 79) dX8_holds_79 rfl rfl ⟨_, rfl, rfl, (by
                rw [hcl]
                first
                | exact Or.inr (Or.inl ⟨h5, fun z => h47 z.2.2, rfl, rfl, rfl, rfl⟩)
                | exact Or.inr (Or.inr ⟨h5, ⟨h15, h29, h47⟩, by rw [sv_u2_at, hd.d (by omega)], by have h := hd.set (k := 9 + j) (by omega) (v := a54 169 (9 + j) + 1); rw [hd.d (k := 9 + j) (by omega)] at h ⊢; exact h, rfl, rfl⟩))⟩
        · refine J_bipush (pc := 50) (-2) rfl dX8_holds_50 ?_
          exact J_ireturn (pc := 52) dX8_holds_52 rfl rfl ⟨_, rfl, rfl, (by
                rw [hcl]
                first
                | exact Or.inr (Or.inl ⟨h5, fun z => h47 z.2.2, rfl, rfl, rfl, rfl⟩)
                | exact Or.inr (Or.inr ⟨h5, ⟨h15, h29, h47⟩, by rw [sv_u2_at, hd.d (by omega)], by have h := hd.set (k := 9 + j) (by omega) (v := a54 169 (9 + j) + 1); rw [hd.d (k := 9 + j) (by omega)] at h ⊢; exact h, rfl, rfl⟩))⟩
  · refine J_iconst (pc := 8) (-1) rfl dX8_holds_8 ?_
    exact J_ireturn (pc := 9) dX8_holds_9 rfl rfl ⟨_, rfl, rfl, (Or.inl ⟨h5, rfl, rfl, rfl, rfl⟩)⟩
set_option maxRecDepth 20000 in
set_option maxHeartbeats 2000000 in
theorem t_X8_canvasses {l : Launch} {G : svG} {hi : svH} {hl : svL} {tw dr : Nat} {pm : Nat → Nat} {C L T Gn : Nat} (hm : mT hi C L T Gn) {K : Nat} (hK : hi 169 27 = nI K) (hK10 : K ≤ 10) {x z : Int32} : svI l G yX8_canvasses mX8_canvasses rX8_canvasses [sv_rf G.1 164, .int x, .int z] hi hl (sv_hr tw dr pm) (fun r a b c => (¬ ((0 ≤ x ∧ x < nI T) ∧ 0 ≤ z ∧ z < nI C) ∧ r = -1 ∧ hi = a ∧ hl = b ∧ sv_hr tw dr pm = c) ∨ (((0 ≤ x ∧ x < nI T) ∧ 0 ≤ z ∧ z < nI C) ∧ ¬ (¬ bt (hi 169 25) x.toNatClampNeg = true ∧ ¬ hi 169 (17 + x.toNatClampNeg) = z ∧ ¬ hi 169 1 = 0) ∧ r = -2 ∧ hi = a ∧ hl = b ∧ sv_hr tw dr pm = c) ∨ (((0 ≤ x ∧ x < nI T) ∧ 0 ≤ z ∧ z < nI C) ∧ (¬ bt (hi 169 25) x.toNatClampNeg = true ∧ ¬ hi 169 (17 + x.toNatClampNeg) = z ∧ ¬ hi 169 1 = 0) ∧ r = hi 169 1 - 1 ∧ mDeed hi a K (upd (upd (hi 169) (17 + x.toNatClampNeg) z) 1 (hi 169 1 - 1)) ∧ hl = b ∧ sv_hr tw dr pm = c)) := by
  obtain ⟨hCc, hLc, hT, hGn, hC2, hC6, hL1, hLC, hT8, hG6, hf, hs, hk⟩ := id hm
  refine sv_entry (by decide +kernel) rfl rfl (Nat.le_of_ble_eq_true rfl) (by simp [Value.category, sv_rf]) [some (sv_rf G.1 164), some (.int x), some (.int z)] rfl ?_
  refine S_aload_0 (pc := 0) dX8_canvasses_0 ?_
  refine S_iload_1 (pc := 1) dX8_canvasses_1 ?_
  refine caX8_179 (pc := 2) (t_X8_isTrain_n (l := l) (G := G) hm) sh_164 (Nat.le_of_ble_eq_true rfl) ⟨rfl, rfl, ⟨by decide, by decide⟩, by decide, by decide⟩ dX8_canvasses_2 (fun r2 a2 b2 c2 p2 => ?_)
  obtain ⟨rfl, rfl, rfl, rfl⟩ := p2
  refine J_if_eq_b (pc := 5) 16 dX8_canvasses_5 (by decide) (fun h5 => ?_) (fun h5 => ?_)
  · refine J_iconst (pc := 16) (-1) rfl dX8_canvasses_16 ?_
    exact J_ireturn (pc := 17) dX8_canvasses_17 rfl rfl ⟨_, rfl, rfl, (Or.inl ⟨fun q => h5 q.1, rfl, rfl, rfl, rfl⟩)⟩
  · obtain ⟨j, hj, rfl⟩ := sv_ix h5 (by omega)
    have hcl : (nI j).toNatClampNeg = j := nI_clamp (by omega)
    refine S_aload_0 (pc := 8) dX8_canvasses_8 ?_
    refine S_iload_2 (pc := 9) dX8_canvasses_9 ?_
    refine caX8_185 (pc := 10) (t_X8_isOne_n (l := l) (G := G) hm) sh_164 (Nat.le_of_ble_eq_true rfl) ⟨rfl, rfl, ⟨by decide, by decide⟩, by decide, by decide⟩ dX8_canvasses_10 (fun r10 a10 b10 c10 p10 => ?_)
    obtain ⟨rfl, rfl, rfl, rfl⟩ := p10
    refine J_if_ne_b (pc := 13) 18 dX8_canvasses_13 (by decide) (fun h13 => ?_) (fun h13 => ?_)
    · refine S_aload_0 (pc := 18) dX8_canvasses_18 ?_
      refine S_iload_1 (pc := 19) dX8_canvasses_19 ?_
      refine caX8_163 (pc := 20) (t_X8_isStopped_x (l := l) (G := G) j rfl (by omega)) sh_164 (Nat.le_of_ble_eq_true rfl) ⟨rfl, rfl, ⟨by decide, by decide⟩, by decide, by decide⟩ dX8_canvasses_20 (fun r20 a20 b20 c20 p20 => ?_)
      obtain ⟨rfl, rfl, rfl, rfl⟩ := p20
      refine J_if_ne_b (pc := 23) 48 dX8_canvasses_23 (by decide) (fun h23 => ?_) (fun h23 => ?_)
      · refine J_bipush (pc := 48) (-2) rfl dX8_canvasses_48 ?_
        exact J_ireturn (pc := 50) dX8_canvasses_50 rfl rfl ⟨_, rfl, rfl, (by rw [hcl]; exact Or.inr (Or.inl ⟨⟨h5, h13⟩, fun z => z.1 h23, rfl, rfl, rfl, rfl⟩))⟩
      · refine S_aload_0 (pc := 26) dX8_canvasses_26 ?_
        refine fgX8_29 (pc := 27) sh_164 hv_164_8 dX8_canvasses_27 ?_
        refine J_bipush (pc := 30) (17) rfl dX8_canvasses_30 ?_
        refine S_iload_1 (pc := 32) dX8_canvasses_32 ?_
        refine J_iadd (pc := 33) dX8_canvasses_33 ?_
        refine J_iald_n (pc := 34) (17 + j) sh_169 (by rw [show (17 : Int32) = nI 17 from rfl, nI_add]) (by omega) (by decide) dX8_canvasses_34 ?_
        refine S_iload_2 (pc := 35) dX8_canvasses_35 ?_
        refine J_icmp_eq (pc := 36) 48 dX8_canvasses_36 (by decide) (fun h36 => ?_) (fun h36 => ?_)
        · refine J_bipush (pc := 48) (-2) rfl dX8_canvasses_48 ?_
          exact J_ireturn (pc := 50) dX8_canvasses_50 rfl rfl ⟨_, rfl, rfl, (by rw [hcl]; exact Or.inr (Or.inl ⟨⟨h5, h13⟩, fun z => z.2.1 h36, rfl, rfl, rfl, rfl⟩))⟩
        · refine S_aload_0 (pc := 39) dX8_canvasses_39 ?_
          refine fgX8_29 (pc := 40) sh_164 hv_164_8 dX8_canvasses_40 ?_
          refine J_iconst (pc := 43) (1) rfl dX8_canvasses_43 ?_
          refine J_iald_n (pc := 44) 1 sh_169 rfl (by decide) (by decide) dX8_canvasses_44 ?_
          refine J_if_ne (pc := 45) 51 dX8_canvasses_45 (by decide) (fun h45 => ?_) (fun h45 => ?_)
          · refine S_aload_0 (pc := 51) dX8_canvasses_51 ?_
            refine caX8_192 (pc := 52) (t_X8_remembers (l := l) (G := G) hK hK10) sh_164 (Nat.le_of_ble_eq_true rfl) ⟨rfl, rfl, ⟨by decide, by decide⟩, by decide, by decide⟩ dX8_canvasses_52 (fun a52 b52 c52 p52 => ?_)
            obtain ⟨hd, rfl, rfl⟩ := p52
            refine S_aload_0 (pc := 55) dX8_canvasses_55 ?_
            refine fgX8_29 (pc := 56) sh_164 hv_164_8 dX8_canvasses_56 ?_
            refine J_bipush (pc := 59) (17) rfl dX8_canvasses_59 ?_
            refine S_iload_1 (pc := 61) dX8_canvasses_61 ?_
            refine J_iadd (pc := 62) dX8_canvasses_62 ?_
            refine S_iload_2 (pc := 63) dX8_canvasses_63 ?_
            refine J_iast_n (pc := 64) (17 + j) sh_169 (by rw [show (17 : Int32) = nI 17 from rfl, nI_add]) (by omega) (by decide) dX8_canvasses_64 ?_
            refine S_aload_0 (pc := 65) dX8_canvasses_65 ?_
            refine fgX8_29 (pc := 66) sh_164 hv_164_8 dX8_canvasses_66 ?_
            refine J_iconst (pc := 69) (1) rfl dX8_canvasses_69 ?_
            refine J_dup2 (pc := 70) rfl rfl dX8_canvasses_70 ?_
            refine J_iald_n (pc := 71) 1 sh_169 rfl (by decide) (by decide) dX8_canvasses_71 ?_
            refine J_iconst (pc := 72) (1) rfl dX8_canvasses_72 ?_
            refine J_isub (pc := 73) dX8_canvasses_73 ?_
            refine J_iast_n (pc := 74) 1 sh_169 rfl (by decide) (by decide) dX8_canvasses_74 ?_
            refine S_aload_0 (pc := 75) dX8_canvasses_75 ?_
            refine fgX8_29 (pc := 76) sh_164 hv_164_8 dX8_canvasses_76 ?_
            refine J_iconst (pc := 79) (1) rfl dX8_canvasses_79 ?_
            refine J_iald_n (pc := 80) 1 sh_169 rfl (by decide) (by decide) dX8_canvasses_80 ?_
            exact J_ireturn (pc := 81) dX8_canvasses_81 rfl rfl ⟨_, rfl, rfl, (by
                  rw [hcl]
                  first
                  | exact Or.inr (Or.inl ⟨⟨h5, h13⟩, fun z => z.2.2 h45, rfl, rfl, rfl, rfl⟩)
                  | exact Or.inr (Or.inl ⟨⟨h5, h13⟩, fun z => h45 z.2.2, rfl, rfl, rfl, rfl⟩)
                  | exact Or.inr (Or.inr ⟨⟨h5, h13⟩, ⟨h23, h36, h45⟩, by rw [sv_u2_at, sv_u2_k (by omega), hd.d (by decide)], by have h := (hd.set (k := 17 + j) (by omega) (v := z)).set (k := 1) (by decide) (v := sv_u2 a52 169 (17 + j) z 169 1 - 1); rw [sv_u2_k (i := 169) (k := 17 + j) (j := 1) (by omega), hd.d (k := 1) (by decide)] at h ⊢; exact h, rfl, rfl⟩))⟩
          · refine J_bipush (pc := 48) (-2) rfl dX8_canvasses_48 ?_
            exact J_ireturn (pc := 50) dX8_canvasses_50 rfl rfl ⟨_, rfl, rfl, (by
                  rw [hcl]
                  first
                  | exact Or.inr (Or.inl ⟨⟨h5, h13⟩, fun z => z.2.2 h45, rfl, rfl, rfl, rfl⟩)
                  | exact Or.inr (Or.inl ⟨⟨h5, h13⟩, fun z => h45 z.2.2, rfl, rfl, rfl, rfl⟩)
                  | exact Or.inr (Or.inr ⟨⟨h5, h13⟩, ⟨h23, h36, h45⟩, by rw [sv_u2_at, sv_u2_k (by omega), hd.d (by decide)], by have h := (hd.set (k := 17 + j) (by omega) (v := z)).set (k := 1) (by decide) (v := sv_u2 a52 169 (17 + j) z 169 1 - 1); rw [sv_u2_k (i := 169) (k := 17 + j) (j := 1) (by omega), hd.d (k := 1) (by decide)] at h ⊢; exact h, rfl, rfl⟩))⟩
    · refine J_iconst (pc := 16) (-1) rfl dX8_canvasses_16 ?_
      exact J_ireturn (pc := 17) dX8_canvasses_17 rfl rfl ⟨_, rfl, rfl, (Or.inl ⟨fun q => h13 q.2, rfl, rfl, rfl, rfl⟩)⟩
set_option maxRecDepth 20000 in
set_option maxHeartbeats 2000000 in
theorem t_X8_fog {l : Launch} {G : svG} {hi : svH} {hl : svL} {tw dr : Nat} {pm : Nat → Nat} {C L T Gn : Nat} (hm : mT hi C L T Gn) {K : Nat} (hK : hi 169 27 = nI K) (hK10 : K ≤ 10) {x : Int32} : svI l G yX8_fog mX8_fog rX8_fog [sv_rf G.1 164, .int x] hi hl (sv_hr tw dr pm) (fun r a b c => (¬ (0 ≤ x ∧ x < 2) ∧ r = -1 ∧ hi = a ∧ hl = b ∧ sv_hr tw dr pm = c) ∨ ((0 ≤ x ∧ x < 2) ∧ ¬ (¬ hi 169 2 = x) ∧ r = -2 ∧ hi = a ∧ hl = b ∧ sv_hr tw dr pm = c) ∨ ((0 ≤ x ∧ x < 2) ∧ (¬ hi 169 2 = x) ∧ r = nI T - nI (mCnt (bt (hi 169 25)) 8) ∧ mDeed hi a K (upd (hi 169) 2 x) ∧ hl = b ∧ sv_hr tw dr pm = c)) := by
  obtain ⟨hCc, hLc, hT, hGn, hC2, hC6, hL1, hLC, hT8, hG6, hf, hs, hk⟩ := id hm
  refine sv_entry (by decide +kernel) rfl rfl (Nat.le_of_ble_eq_true rfl) (by simp [Value.category, sv_rf]) [some (sv_rf G.1 164), some (.int x)] rfl ?_
  refine S_iload_1 (pc := 0) dX8_fog_0 ?_
  refine J_iconst (pc := 1) (0) rfl dX8_fog_1 ?_
  refine J_iconst (pc := 2) (1) rfl dX8_fog_2 ?_
  refine caX8_69 (pc := 3) (t_X8_in_n (l := l) (G := G) (b := 2) 2 (by decide) rfl rfl) (Nat.le_of_ble_eq_true rfl) ⟨rfl, rfl, ⟨by decide, by decide⟩, by decide, by decide⟩ dX8_fog_3 (fun r3 a3 b3 c3 p3 => ?_)
  obtain ⟨rfl, rfl, rfl, rfl⟩ := p3
  refine J_if_ne_b (pc := 6) 11 dX8_fog_6 (by decide) (fun h6 => ?_) (fun h6 => ?_)
  · refine S_aload_0 (pc := 11) dX8_fog_11 ?_
    refine fgX8_29 (pc := 12) sh_164 hv_164_8 dX8_fog_12 ?_
    refine J_iconst (pc := 15) (2) rfl dX8_fog_15 ?_
    refine J_iald_n (pc := 16) 2 sh_169 rfl (by decide) (by decide) dX8_fog_16 ?_
    refine S_iload_1 (pc := 17) dX8_fog_17 ?_
    refine J_icmp_ne (pc := 18) 24 dX8_fog_18 (by decide) (fun h18 => ?_) (fun h18 => ?_)
    · refine S_aload_0 (pc := 24) dX8_fog_24 ?_
      refine caX8_192 (pc := 25) (t_X8_remembers (l := l) (G := G) hK hK10) sh_164 (Nat.le_of_ble_eq_true rfl) ⟨rfl, rfl, ⟨by decide, by decide⟩, by decide, by decide⟩ dX8_fog_25 (fun a25 b25 c25 p25 => ?_)
      obtain ⟨hd, rfl, rfl⟩ := p25
      refine S_aload_0 (pc := 28) dX8_fog_28 ?_
      refine fgX8_29 (pc := 29) sh_164 hv_164_8 dX8_fog_29 ?_
      refine J_iconst (pc := 32) (2) rfl dX8_fog_32 ?_
      refine S_iload_1 (pc := 33) dX8_fog_33 ?_
      refine J_iast_n (pc := 34) 2 sh_169 rfl (by decide) (by decide) dX8_fog_34 ?_
      refine S_aload_0 (pc := 35) dX8_fog_35 ?_
      refine fgX8_73 (pc := 36) sh_164 dX8_fog_36 ?_
      refine S_aload_0 (pc := 39) dX8_fog_39 ?_
      refine fgX8_29 (pc := 40) sh_164 hv_164_8 dX8_fog_40 ?_
      refine J_bipush (pc := 43) (25) rfl dX8_fog_43 ?_
      refine J_iald_n (pc := 45) 25 sh_169 rfl (by decide) (by decide) dX8_fog_45 ?_
      refine caX8_195 (pc := 46) (t_X8_bits (l := l) (G := G)) (Nat.le_of_ble_eq_true rfl) ⟨rfl, rfl, ⟨by decide, by decide⟩, by decide, by decide⟩ dX8_fog_46 (fun r46 a46 b46 c46 p46 => ?_)
      obtain ⟨rfl, rfl, rfl, rfl⟩ := p46
      refine J_isub (pc := 49) dX8_fog_49 ?_
      exact J_ireturn (pc := 50) dX8_fog_50 rfl rfl ⟨_, rfl, rfl, (by
            first
            | exact Or.inr (Or.inl ⟨h6, fun q => q h18, rfl, rfl, rfl, rfl⟩)
            | exact Or.inr (Or.inl ⟨h6, fun q => h18 q, rfl, rfl, rfl, rfl⟩)
            | exact Or.inr (Or.inr ⟨h6, h18, by rw [sv_u2_off (by decide), sv_u2_k (by decide), hd.q (by decide), hT, hd.d (by decide)], hd.set (by decide), rfl, rfl⟩))⟩
    · refine J_bipush (pc := 21) (-2) rfl dX8_fog_21 ?_
      exact J_ireturn (pc := 23) dX8_fog_23 rfl rfl ⟨_, rfl, rfl, (by
            first
            | exact Or.inr (Or.inl ⟨h6, fun q => q h18, rfl, rfl, rfl, rfl⟩)
            | exact Or.inr (Or.inl ⟨h6, fun q => h18 q, rfl, rfl, rfl, rfl⟩)
            | exact Or.inr (Or.inr ⟨h6, h18, by rw [sv_u2_off (by decide), sv_u2_k (by decide), hd.q (by decide), hT, hd.d (by decide)], hd.set (by decide), rfl, rfl⟩))⟩
  · refine J_iconst (pc := 9) (-1) rfl dX8_fog_9 ?_
    exact J_ireturn (pc := 10) dX8_fog_10 rfl rfl ⟨_, rfl, rfl, (Or.inl ⟨h6, rfl, rfl, rfl, rfl⟩)⟩
set_option maxRecDepth 20000 in
set_option maxHeartbeats 2000000 in
theorem t_X8_rugs {l : Launch} {G : svG} {hi : svH} {hl : svL} {tw dr : Nat} {pm : Nat → Nat} {C L T Gn : Nat} (hm : mT hi C L T Gn) {K : Nat} (hK : hi 169 27 = nI K) (hK10 : K ≤ 10) {x : Int32} : svI l G yX8_rugs mX8_rugs rX8_rugs [sv_rf G.1 164, .int x] hi hl (sv_hr tw dr pm) (fun r a b c => (¬ (0 ≤ x ∧ x < nI Gn) ∧ r = -1 ∧ hi = a ∧ hl = b ∧ sv_hr tw dr pm = c) ∨ ((0 ≤ x ∧ x < nI Gn) ∧ ¬ (¬ bt (hi 169 26) x.toNatClampNeg = true) ∧ r = -2 ∧ hi = a ∧ hl = b ∧ sv_hr tw dr pm = c) ∨ ((0 ≤ x ∧ x < nI Gn) ∧ (¬ bt (hi 169 26) x.toNatClampNeg = true) ∧ r = hi 169 (3 + (hi 167 x.toNatClampNeg).toNatClampNeg) + hi 166 x.toNatClampNeg ∧ mDeed hi a K (upd (upd (hi 169) 26 (hi 169 26 ||| (1 <<< (x &&& 31)))) (3 + (hi 167 x.toNatClampNeg).toNatClampNeg) (hi 169 (3 + (hi 167 x.toNatClampNeg).toNatClampNeg) + hi 166 x.toNatClampNeg)) ∧ hl = b ∧ sv_hr tw dr pm = c)) := by
  obtain ⟨hCc, hLc, hT, hGn, hC2, hC6, hL1, hLC, hT8, hG6, hf, hs, hk⟩ := id hm
  refine sv_entry (by decide +kernel) rfl rfl (Nat.le_of_ble_eq_true rfl) (by simp [Value.category, sv_rf]) [some (sv_rf G.1 164), some (.int x)] rfl ?_
  refine S_aload_0 (pc := 0) dX8_rugs_0 ?_
  refine S_iload_1 (pc := 1) dX8_rugs_1 ?_
  refine caX8_182 (pc := 2) (t_X8_isGroup_n (l := l) (G := G) hm) sh_164 (Nat.le_of_ble_eq_true rfl) ⟨rfl, rfl, ⟨by decide, by decide⟩, by decide, by decide⟩ dX8_rugs_2 (fun r2 a2 b2 c2 p2 => ?_)
  obtain ⟨rfl, rfl, rfl, rfl⟩ := p2
  refine J_if_ne_b (pc := 5) 10 dX8_rugs_5 (by decide) (fun h5 => ?_) (fun h5 => ?_)
  · obtain ⟨j, hj, rfl⟩ := sv_ix h5 (by omega)
    have hcl : (nI j).toNatClampNeg = j := nI_clamp (by omega)
    obtain ⟨f, hfC, e5⟩ := hf j hj
    have hcf : (hi 167 j).toNatClampNeg = f := by rw [e5]; exact nI_clamp (by omega)
    refine S_aload_0 (pc := 10) dX8_rugs_10 ?_
    refine fgX8_29 (pc := 11) sh_164 hv_164_8 dX8_rugs_11 ?_
    refine J_bipush (pc := 14) (26) rfl dX8_rugs_14 ?_
    refine J_iald_n (pc := 16) 26 sh_169 rfl (by decide) (by decide) dX8_rugs_16 ?_
    refine S_iload_1 (pc := 17) dX8_rugs_17 ?_
    refine caX8_159 (pc := 18) (t_X8_has_x (l := l) (G := G) j rfl (by omega)) (Nat.le_of_ble_eq_true rfl) ⟨rfl, rfl, ⟨by decide, by decide⟩, by decide, by decide⟩ dX8_rugs_18 (fun r18 a18 b18 c18 p18 => ?_)
    obtain ⟨rfl, rfl, rfl, rfl⟩ := p18
    refine J_if_eq_b (pc := 21) 27 dX8_rugs_21 (by decide) (fun h21 => ?_) (fun h21 => ?_)
    · refine S_aload_0 (pc := 27) dX8_rugs_27 ?_
      refine caX8_192 (pc := 28) (t_X8_remembers (l := l) (G := G) hK hK10) sh_164 (Nat.le_of_ble_eq_true rfl) ⟨rfl, rfl, ⟨by decide, by decide⟩, by decide, by decide⟩ dX8_rugs_28 (fun a28 b28 c28 p28 => ?_)
      obtain ⟨hd, rfl, rfl⟩ := p28
      refine S_aload_0 (pc := 31) dX8_rugs_31 ?_
      refine fgX8_29 (pc := 32) sh_164 hv_164_8 dX8_rugs_32 ?_
      refine J_bipush (pc := 35) (26) rfl dX8_rugs_35 ?_
      refine J_dup2 (pc := 37) rfl rfl dX8_rugs_37 ?_
      refine J_iald_n (pc := 38) 26 sh_169 rfl (by decide) (by decide) dX8_rugs_38 ?_
      refine J_iconst (pc := 39) (1) rfl dX8_rugs_39 ?_
      refine S_iload_1 (pc := 40) dX8_rugs_40 ?_
      refine J_ishl (pc := 41) dX8_rugs_41 ?_
      refine J_ior (pc := 42) dX8_rugs_42 ?_
      refine J_iast_n (pc := 43) 26 sh_169 rfl (by decide) (by decide) dX8_rugs_43 ?_
      refine S_aload_0 (pc := 44) dX8_rugs_44 ?_
      refine fgX8_29 (pc := 45) sh_164 hv_164_8 dX8_rugs_45 ?_
      refine J_iconst (pc := 48) (3) rfl dX8_rugs_48 ?_
      refine S_aload_0 (pc := 49) dX8_rugs_49 ?_
      refine fgX8_23 (pc := 50) sh_164 hv_164_6 dX8_rugs_50 ?_
      refine S_iload_1 (pc := 53) dX8_rugs_53 ?_
      refine J_iald_n (pc := 54) j sh_167 rfl (by omega) (by decide) dX8_rugs_54 ?_
      refine J_iadd (pc := 55) dX8_rugs_55 ?_
      refine J_dup2 (pc := 56) rfl rfl dX8_rugs_56 ?_
      refine J_iald_n (pc := 57) (3 + f) sh_169 (by first | rw [sv_u2_off (i := 169) (j := 167) (by decide), hd.q (by decide), e5, show (3 : Int32) = nI 3 from rfl, nI_add] | rw [sv_u2_off (i := 169) (j := 167) (by decide), sv_u2_off (i := 169) (j := 167) (by decide), hd.q (by decide), e5, show (3 : Int32) = nI 3 from rfl, nI_add]) (by omega) (by decide) dX8_rugs_57 ?_
      refine S_aload_0 (pc := 58) dX8_rugs_58 ?_
      refine fgX8_20 (pc := 59) sh_164 hv_164_5 dX8_rugs_59 ?_
      refine S_iload_1 (pc := 62) dX8_rugs_62 ?_
      refine J_iald_n (pc := 63) j sh_166 rfl (by omega) (by decide) dX8_rugs_63 ?_
      refine J_iadd (pc := 64) dX8_rugs_64 ?_
      refine J_iast_n (pc := 65) (3 + f) sh_169 (by first | rw [sv_u2_off (i := 169) (j := 167) (by decide), hd.q (by decide), e5, show (3 : Int32) = nI 3 from rfl, nI_add] | rw [sv_u2_off (i := 169) (j := 167) (by decide), sv_u2_off (i := 169) (j := 167) (by decide), hd.q (by decide), e5, show (3 : Int32) = nI 3 from rfl, nI_add]) (by omega) (by decide) dX8_rugs_65 ?_
      refine S_aload_0 (pc := 66) dX8_rugs_66 ?_
      refine fgX8_29 (pc := 67) sh_164 hv_164_8 dX8_rugs_67 ?_
      refine J_iconst (pc := 70) (3) rfl dX8_rugs_70 ?_
      refine S_aload_0 (pc := 71) dX8_rugs_71 ?_
      refine fgX8_23 (pc := 72) sh_164 hv_164_6 dX8_rugs_72 ?_
      refine S_iload_1 (pc := 75) dX8_rugs_75 ?_
      refine J_iald_n (pc := 76) j sh_167 rfl (by omega) (by decide) dX8_rugs_76 ?_
      refine J_iadd (pc := 77) dX8_rugs_77 ?_
      refine J_iald_n (pc := 78) (3 + f) sh_169 (by first | rw [sv_u2_off (i := 169) (j := 167) (by decide), hd.q (by decide), e5, show (3 : Int32) = nI 3 from rfl, nI_add] | rw [sv_u2_off (i := 169) (j := 167) (by decide), sv_u2_off (i := 169) (j := 167) (by decide), hd.q (by decide), e5, show (3 : Int32) = nI 3 from rfl, nI_add]) (by omega) (by decide) dX8_rugs_78 ?_
      exact J_ireturn (pc := 79) dX8_rugs_79 rfl rfl ⟨_, rfl, rfl, (by
            rw [hcl, hcf]
            first
            | exact Or.inr (Or.inl ⟨h5, fun q => q h21, rfl, rfl, rfl, rfl⟩)
            | exact Or.inr (Or.inr ⟨h5, h21, by rw [sv_u2_at, sv_u2_k (by omega), hd.d (by omega), sv_u2_off (by decide), hd.q (by decide)], by have h := (hd.set (k := 26) (by decide) (v := a28 169 26 ||| 1 <<< (nI j &&& 31))).set (k := 3 + f) (by omega) (v := sv_u2 a28 169 26 (a28 169 26 ||| 1 <<< (nI j &&& 31)) 169 (3 + f) + sv_u2 a28 169 26 (a28 169 26 ||| 1 <<< (nI j &&& 31)) 166 j); rw [sv_u2_k (i := 169) (k := 26) (j := 3 + f) (by omega), sv_u2_off (i := 169) (j := 166) (by decide), hd.d (k := 26) (by decide), hd.d (k := 3 + f) (by omega), hd.q (q := 166) (by decide)] at h ⊢; exact h, rfl, rfl⟩))⟩
    · refine J_bipush (pc := 24) (-2) rfl dX8_rugs_24 ?_
      exact J_ireturn (pc := 26) dX8_rugs_26 rfl rfl ⟨_, rfl, rfl, (by
            rw [hcl, hcf]
            first
            | exact Or.inr (Or.inl ⟨h5, fun q => q h21, rfl, rfl, rfl, rfl⟩)
            | exact Or.inr (Or.inr ⟨h5, h21, by rw [sv_u2_at, sv_u2_k (by omega), hd.d (by omega), sv_u2_off (by decide), hd.q (by decide)], by have h := (hd.set (k := 26) (by decide) (v := a28 169 26 ||| 1 <<< (nI j &&& 31))).set (k := 3 + f) (by omega) (v := sv_u2 a28 169 26 (a28 169 26 ||| 1 <<< (nI j &&& 31)) 169 (3 + f) + sv_u2 a28 169 26 (a28 169 26 ||| 1 <<< (nI j &&& 31)) 166 j); rw [sv_u2_k (i := 169) (k := 26) (j := 3 + f) (by omega), sv_u2_off (i := 169) (j := 166) (by decide), hd.d (k := 26) (by decide), hd.d (k := 3 + f) (by omega), hd.q (q := 166) (by decide)] at h ⊢; exact h, rfl, rfl⟩))⟩
  · refine J_iconst (pc := 8) (-1) rfl dX8_rugs_8 ?_
    exact J_ireturn (pc := 9) dX8_rugs_9 rfl rfl ⟨_, rfl, rfl, (Or.inl ⟨h5, rfl, rfl, rfl, rfl⟩)⟩
set_option maxRecDepth 20000 in
set_option maxHeartbeats 2000000 in
theorem lo_X8_undo {l : Launch} {G : svG} {hi : svH} {hl : svL} {tw dr : Nat} {pm : Nat → Nat} {n : Nat} (hn : n ≤ 9) : ∀ t, t ≤ 27 → ∀ (h' : svH), (∀ q, q ≠ 169 → h' q = hi q) → h' 169 27 = nI n → (∀ k, k < t → h' 169 k = hi 169 (28 + 27 * n + k)) → (∀ i, 28 ≤ i → h' 169 i = hi 169 i) → svJ l G rX8_undo mX8_undo (sv_Fm G (fun v sh a b c => ∃ r, v = some (.int r) ∧ sh = svSH ∧ ((fun r a b c => ((n + 1) = 0 ∧ r = -2 ∧ hi = a ∧ hl = b ∧ sv_hr tw dr pm = c) ∨ (∃ w, (n + 1) = w + 1 ∧ r = nI w ∧ a 169 27 = nI w ∧ (∀ k, k < 27 → a 169 k = hi 169 (28 + 27 * w + k)) ∧ (∀ i, 28 ≤ i → a 169 i = hi 169 i) ∧ (∀ q, q ≠ 169 → a q = hi q) ∧ hl = b ∧ sv_hr tw dr pm = c))) r a b c) 0 0) 0 0 40 [some (sv_rf G.1 164), some (.int (nI (28 + 27 * n))), some (.int (nI t))] [] svSH h' hl (sv_hr tw dr pm) := by
  refine sv_up (fun t ht ih h' i1 i2 i3 i4 => ?_)
  refine S_iload_2 (pc := 40) dX8_undo_40 ?_
  refine J_bipush (pc := 41) (27) rfl dX8_undo_41 ?_
  refine J_icmp_ge (pc := 43) 66 dX8_undo_43 (by decide) (fun h43 => ?_) (fun h43 => ?_)
  · rw [show (27 : Int32) = nI 27 from rfl, nI_leI (by omega) (by omega)] at h43
    obtain rfl : t = 27 := by omega
    refine S_aload_0 (pc := 66) dX8_undo_66 ?_
    refine fgX8_29 (pc := 67) sh_164 hv_164_8 dX8_undo_67 ?_
    refine J_bipush (pc := 70) (27) rfl dX8_undo_70 ?_
    refine J_iald_n (pc := 72) 27 sh_169 rfl (by decide) (by decide) dX8_undo_72 ?_
    exact J_ireturn (pc := 73) dX8_undo_73 rfl rfl ⟨_, rfl, rfl, (Or.inr ⟨n, rfl, i2, i2, i3, i4, i1, rfl, rfl⟩)⟩
  · rw [show (27 : Int32) = nI 27 from rfl, nI_leI (by omega) (by omega)] at h43
    refine S_aload_0 (pc := 46) dX8_undo_46 ?_
    refine fgX8_29 (pc := 47) sh_164 hv_164_8 dX8_undo_47 ?_
    refine S_iload_2 (pc := 50) dX8_undo_50 ?_
    refine S_aload_0 (pc := 51) dX8_undo_51 ?_
    refine fgX8_29 (pc := 52) sh_164 hv_164_8 dX8_undo_52 ?_
    refine S_iload_1 (pc := 55) dX8_undo_55 ?_
    refine S_iload_2 (pc := 56) dX8_undo_56 ?_
    refine J_iadd (pc := 57) dX8_undo_57 ?_
    refine J_iald_n (pc := 58) (28 + 27 * n + t) sh_169 (by rw [nI_add]) (by omega) (by decide) dX8_undo_58 ?_
    refine J_iast_n (pc := 59) t sh_169 rfl (by omega) (by decide) dX8_undo_59 ?_
    refine S_inc_2 (pc := 60) (1) rfl dX8_undo_60 (by decide) ?_
    refine J_goto (pc := 63) 40 dX8_undo_63 (by decide) ?_
    refine svJ_ls (by rw [nI_succ]) (ih (t + 1) (by omega) (by omega) _ (fun q hq => by rw [sv_u2_off hq]; exact i1 q hq) (by rw [sv_u2_k (by omega)]; exact i2) (fun k hk => ?_) (fun i h1 => by rw [sv_u2_k (by omega)]; exact i4 i h1))
    by_cases e : k = t
    · rw [e, sv_u2_at]; exact i4 _ (by omega)
    · rw [sv_u2_k (by omega)]; exact i3 k (by omega)
set_option maxRecDepth 20000 in
set_option maxHeartbeats 2000000 in
theorem t_X8_undo {l : Launch} {G : svG} {hi : svH} {hl : svL} {tw dr : Nat} {pm : Nat → Nat} {K : Nat} (hK : hi 169 27 = nI K) (hK10 : K ≤ 10) : svI l G yX8_undo mX8_undo rX8_undo [sv_rf G.1 164] hi hl (sv_hr tw dr pm) (fun r a b c => (K = 0 ∧ r = -2 ∧ hi = a ∧ hl = b ∧ sv_hr tw dr pm = c) ∨ (∃ w, K = w + 1 ∧ r = nI w ∧ a 169 27 = nI w ∧ (∀ k, k < 27 → a 169 k = hi 169 (28 + 27 * w + k)) ∧ (∀ i, 28 ≤ i → a 169 i = hi 169 i) ∧ (∀ q, q ≠ 169 → a q = hi q) ∧ hl = b ∧ sv_hr tw dr pm = c)) := by
  refine sv_entry (by decide +kernel) rfl rfl (Nat.le_of_ble_eq_true rfl) (by simp [Value.category, sv_rf]) [some (sv_rf G.1 164), none, none] rfl ?_
  refine S_aload_0 (pc := 0) dX8_undo_0 ?_
  refine fgX8_29 (pc := 1) sh_164 hv_164_8 dX8_undo_1 ?_
  refine J_bipush (pc := 4) (27) rfl dX8_undo_4 ?_
  refine J_iald_n (pc := 6) 27 sh_169 rfl (by decide) (by decide) dX8_undo_6 ?_
  refine J_if_ne (pc := 7) 13 dX8_undo_7 (by decide) (fun h7 => ?_) (fun h7 => ?_)
  · have hn0 : ¬ K = 0 := fun z => h7 (by rw [hK, z]; rfl)
    obtain ⟨n, rfl⟩ : ∃ n, K = n + 1 := ⟨K - 1, by omega⟩
    have e27 : hi 169 27 - 1 = nI n := by rw [hK, nI_pred]
    refine S_aload_0 (pc := 13) dX8_undo_13 ?_
    refine fgX8_29 (pc := 14) sh_164 hv_164_8 dX8_undo_14 ?_
    refine J_bipush (pc := 17) (27) rfl dX8_undo_17 ?_
    refine J_dup2 (pc := 19) rfl rfl dX8_undo_19 ?_
    refine J_iald_n (pc := 20) 27 sh_169 rfl (by decide) (by decide) dX8_undo_20 ?_
    refine J_iconst (pc := 21) (1) rfl dX8_undo_21 ?_
    refine J_isub (pc := 22) dX8_undo_22 ?_
    refine J_iast_n (pc := 23) 27 sh_169 rfl (by decide) (by decide) dX8_undo_23 ?_
    refine J_bipush (pc := 24) (28) rfl dX8_undo_24 ?_
    refine J_bipush (pc := 26) (27) rfl dX8_undo_26 ?_
    refine S_aload_0 (pc := 28) dX8_undo_28 ?_
    refine fgX8_29 (pc := 29) sh_164 hv_164_8 dX8_undo_29 ?_
    refine J_bipush (pc := 32) (27) rfl dX8_undo_32 ?_
    refine J_iald_n (pc := 34) 27 sh_169 rfl (by decide) (by decide) dX8_undo_34 ?_
    refine J_imul (pc := 35) dX8_undo_35 ?_
    refine J_iadd (pc := 36) dX8_undo_36 ?_
    refine S_istore_1 (pc := 37) dX8_undo_37 (by decide) ?_
    refine J_iconst (pc := 38) (0) rfl dX8_undo_38 ?_
    refine S_istore_2 (pc := 39) dX8_undo_39 (by decide) ?_
    exact svJ_ls (by rw [sv_u2_at, e27, show (28 : Int32) = nI 28 from rfl, show (27 : Int32) = nI 27 from rfl, pk_mul, nI_add]; rfl) (lo_X8_undo (n := n) (by omega) 0 (Nat.zero_le _) (sv_u2 hi 169 27 (hi 169 27 - 1)) (fun q hq => sv_u2_off hq) (by rw [sv_u2_at, e27]) (fun k hk => by omega) (fun i h1 => sv_u2_k (by omega)))
  · have e0 : K = 0 := by rw [hK, show (0 : Int32) = nI 0 from rfl] at h7; first | exact (nI_eq (by omega) (by omega)).mp h7 | exact (nI_eq (by omega) (by omega)).mp (Classical.not_not.mp h7)
    refine J_bipush (pc := 10) (-2) rfl dX8_undo_10 ?_
    exact J_ireturn (pc := 12) dX8_undo_12 rfl rfl ⟨_, rfl, rfl, (Or.inl ⟨e0, rfl, rfl, rfl, rfl⟩)⟩
