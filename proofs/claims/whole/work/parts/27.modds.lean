def mTen (o : Int32) : Nat → Nat
  | 0 => 1
  | t + 1 => mTen o t * (if bt o t = true then 10 else 1)
def mWt (o : Int32) (xn s : Nat) : Nat → Nat
  | 0 => 1
  | t + 1 => mWt o xn s t * (if bt o t = true then (if bt (nI s) t = true then 10 - xn else xn) else 1)
theorem mTen_pos {o : Int32} : ∀ t, 0 < mTen o t
  | 0 => Nat.one_pos
  | t + 1 => by rw [mTen]; exact Nat.mul_pos (mTen_pos t) (by split <;> decide)
theorem mTen_le {o : Int32} : ∀ t, mTen o t ≤ 10 ^ t
  | 0 => Nat.le_refl _
  | t + 1 => by rw [mTen, Nat.pow_succ]; exact Nat.mul_le_mul (mTen_le t) (by split <;> decide)
theorem mTen_lt {o : Int32} {T : Nat} (h : T ≤ 8) : mTen o T < 2 ^ 31 := Nat.lt_of_le_of_lt (Nat.le_trans (mTen_le T) (Nat.pow_le_pow_right (n := 10) (by decide) h)) (by decide)
set_option maxRecDepth 20000 in
set_option maxHeartbeats 2000000 in
theorem lo3_X8_odds {l : Launch} {G : svG} {hi : svH} {hl : svL} {tw dr : Nat} {pm : Nat → Nat} {C L T Gn : Nat} (hm : mT hi C L T Gn) {xn : Nat} {z what : Int32} (hxn : xn ≤ 10) (hsum : mSum (fun s => xOk (mOpen (hi 169 25) (hi 169 0) (fun t => hi 169 (9 + t)) T) s && decide (nI (mWinM hi C T Gn (nI s) 0 0 L) = z)) (fun s => mWt (mOpen (hi 169 25) (hi 169 0) (fun t => hi 169 (9 + t)) T) xn s T) (2 ^ T) < 2 ^ 31) {s : Nat} {h' : svH} (i1 : ∀ q, q ≠ 180 → q ≠ 181 → h' q = hi q) (hs2 : s < 2 ^ T) (hp : (fun s => xOk (mOpen (hi 169 25) (hi 169 0) (fun t => hi 169 (9 + t)) T) s && decide (nI (mWinM hi C T Gn (nI s) 0 0 L) = z)) s = true) (hout : (∀ z8 z9, svJ l G rX8_odds mX8_odds (sv_Fm G (fun v sh a b c => ∃ r, v = some (.int r) ∧ sh = svSH ∧ ((fun r a b c => ((if what = 0 then nI (mSum (fun s => xOk (mOpen (hi 169 25) (hi 169 0) (fun t => hi 169 (9 + t)) T) s && decide (nI (mWinM hi C T Gn (nI s) 0 0 L) = z)) (fun s => mWt (mOpen (hi 169 25) (hi 169 0) (fun t => hi 169 (9 + t)) T) xn s T) (2 ^ T)) else nI (mTen (mOpen (hi 169 25) (hi 169 0) (fun t => hi 169 (9 + t)) T) T)) / nI (max (Nat.gcd (mSum (fun s => xOk (mOpen (hi 169 25) (hi 169 0) (fun t => hi 169 (9 + t)) T) s && decide (nI (mWinM hi C T Gn (nI s) 0 0 L) = z)) (fun s => mWt (mOpen (hi 169 25) (hi 169 0) (fun t => hi 169 (9 + t)) T) xn s T) (2 ^ T)) (mTen (mOpen (hi 169 25) (hi 169 0) (fun t => hi 169 (9 + t)) T) T)) 1)) = r ∧ (∀ q, q ≠ 180 → q ≠ 181 → a q = hi q) ∧ hl = b ∧ sv_hr tw dr pm = c)) r a b c) 0 0) 0 0 83 [some (sv_rf G.1 164), some (.int (nI xn)), some (.int z), some (.int what), some (.int (mOpen (hi 169 25) (hi 169 0) (fun t => hi 169 (9 + t)) T)), some (.int (nI (mSum (fun s => xOk (mOpen (hi 169 25) (hi 169 0) (fun t => hi 169 (9 + t)) T) s && decide (nI (mWinM hi C T Gn (nI s) 0 0 L) = z)) (fun s => mWt (mOpen (hi 169 25) (hi 169 0) (fun t => hi 169 (9 + t)) T) xn s T) (s + 1)))), some (.int (nI (mTen (mOpen (hi 169 25) (hi 169 0) (fun t => hi 169 (9 + t)) T) T))), some (.int (nI (s + 1))), z8, z9] [] svSH h' hl (sv_hr tw dr pm))) : ∀ t, t ≤ T → svJ l G rX8_odds mX8_odds (sv_Fm G (fun v sh a b c => ∃ r, v = some (.int r) ∧ sh = svSH ∧ ((fun r a b c => ((if what = 0 then nI (mSum (fun s => xOk (mOpen (hi 169 25) (hi 169 0) (fun t => hi 169 (9 + t)) T) s && decide (nI (mWinM hi C T Gn (nI s) 0 0 L) = z)) (fun s => mWt (mOpen (hi 169 25) (hi 169 0) (fun t => hi 169 (9 + t)) T) xn s T) (2 ^ T)) else nI (mTen (mOpen (hi 169 25) (hi 169 0) (fun t => hi 169 (9 + t)) T) T)) / nI (max (Nat.gcd (mSum (fun s => xOk (mOpen (hi 169 25) (hi 169 0) (fun t => hi 169 (9 + t)) T) s && decide (nI (mWinM hi C T Gn (nI s) 0 0 L) = z)) (fun s => mWt (mOpen (hi 169 25) (hi 169 0) (fun t => hi 169 (9 + t)) T) xn s T) (2 ^ T)) (mTen (mOpen (hi 169 25) (hi 169 0) (fun t => hi 169 (9 + t)) T) T)) 1)) = r ∧ (∀ q, q ≠ 180 → q ≠ 181 → a q = hi q) ∧ hl = b ∧ sv_hr tw dr pm = c)) r a b c) 0 0) 0 0 120 [some (sv_rf G.1 164), some (.int (nI xn)), some (.int z), some (.int what), some (.int (mOpen (hi 169 25) (hi 169 0) (fun t => hi 169 (9 + t)) T)), some (.int (nI (mSum (fun s => xOk (mOpen (hi 169 25) (hi 169 0) (fun t => hi 169 (9 + t)) T) s && decide (nI (mWinM hi C T Gn (nI s) 0 0 L) = z)) (fun s => mWt (mOpen (hi 169 25) (hi 169 0) (fun t => hi 169 (9 + t)) T) xn s T) s))), some (.int (nI (mTen (mOpen (hi 169 25) (hi 169 0) (fun t => hi 169 (9 + t)) T) T))), some (.int (nI s)), some (.int (nI (mWt (mOpen (hi 169 25) (hi 169 0) (fun t => hi 169 (9 + t)) T) xn s t))), some (.int (nI t))] [] svSH h' hl (sv_hr tw dr pm) := by
  obtain ⟨hCc, hLc, hT, hGn, hC2, hC6, hL1, hLC, hT8, hG6, hf, hs, hk⟩ := id hm
  have ht2 := two_le hT8
  refine sv_up (fun t ht ih => ?_)
  refine S_iload_9 (pc := 120) dX8_odds_120 ?_
  refine S_aload_0 (pc := 122) dX8_odds_122 ?_
  refine fgX8_73 (pc := 123) sh_164 dX8_odds_123 ?_
  refine J_icmp_ge (pc := 126) 172 dX8_odds_126 (by decide) (fun h126 => ?_) (fun h126 => ?_)
  · rw [i1 164 (by decide) (by decide), hT, nI_leI (by omega) (by omega)] at h126
    obtain rfl : t = T := by omega
    refine S_iload_5 (pc := 172) dX8_odds_172 ?_
    refine S_iload_8 (pc := 174) dX8_odds_174 ?_
    refine J_iadd (pc := 176) dX8_odds_176 ?_
    refine S_istore_5 (pc := 177) dX8_odds_177 (by decide) ?_
    refine S_inc_7 (pc := 179) (1) rfl dX8_odds_179 (by decide) ?_
    refine J_goto (pc := 182) 83 dX8_odds_182 (by decide) ?_
    exact svJ_ls (by rw [mSum_t hp, nI_succ, ← nI_add]) (hout _ _)
  · rw [i1 164 (by decide) (by decide), hT, nI_leI (by omega) (by omega)] at h126
    refine S_iload_8 (pc := 129) dX8_odds_129 ?_
    refine S_iload_4 (pc := 131) dX8_odds_131 ?_
    refine S_iload_9 (pc := 133) dX8_odds_133 ?_
    refine caX8_159 (pc := 135) (t_X8_has_x (l := l) (G := G) t rfl (by omega)) (Nat.le_of_ble_eq_true rfl) ⟨rfl, rfl, ⟨by decide, by decide⟩, by decide, by decide⟩ dX8_odds_135 (fun r135 a135 b135 c135 p135 => ?_)
    obtain ⟨rfl, rfl, rfl, rfl⟩ := p135
    refine J_if_ne_b (pc := 138) 145 dX8_odds_138 (by decide) (fun h138 => ?_) (fun h138 => ?_)
    · refine S_iload_7 (pc := 145) dX8_odds_145 ?_
      refine S_iload_9 (pc := 147) dX8_odds_147 ?_
      refine caX8_159 (pc := 149) (t_X8_has_x (l := l) (G := G) t rfl (by omega)) (Nat.le_of_ble_eq_true rfl) ⟨rfl, rfl, ⟨by decide, by decide⟩, by decide, by decide⟩ dX8_odds_149 (fun r149 a149 b149 c149 p149 => ?_)
      obtain ⟨rfl, rfl, rfl, rfl⟩ := p149
      refine J_if_eq_b (pc := 152) 162 dX8_odds_152 (by decide) (fun h152 => ?_) (fun h152 => ?_)
      · refine S_iload_1 (pc := 162) dX8_odds_162 ?_
        refine J_imul (pc := 163) dX8_odds_163 ?_
        refine S_istore_8 (pc := 164) dX8_odds_164 (by decide) ?_
        refine S_inc_9 (pc := 166) (1) rfl dX8_odds_166 (by decide) ?_
        refine J_goto (pc := 169) 120 dX8_odds_169 (by decide) ?_
        first
        | exact svJ_ls (by rw [mWt, if_pos h138, if_neg h152, ← pk_mul, nI_succ t]) (ih (t + 1) (by omega) (by omega))
        | exact svJ_ls (by rw [mWt, if_pos h138, if_pos h152, ← pk_mul, ← pk_sub hxn, nI_succ t]; rfl) (ih (t + 1) (by omega) (by omega))
      · refine J_bipush (pc := 155) (10) rfl dX8_odds_155 ?_
        refine S_iload_1 (pc := 157) dX8_odds_157 ?_
        refine J_isub (pc := 158) dX8_odds_158 ?_
        refine J_goto (pc := 159) 163 dX8_odds_159 (by decide) ?_
        refine J_imul (pc := 163) dX8_odds_163 ?_
        refine S_istore_8 (pc := 164) dX8_odds_164 (by decide) ?_
        refine S_inc_9 (pc := 166) (1) rfl dX8_odds_166 (by decide) ?_
        refine J_goto (pc := 169) 120 dX8_odds_169 (by decide) ?_
        first
        | exact svJ_ls (by rw [mWt, if_pos h138, if_neg h152, ← pk_mul, nI_succ t]) (ih (t + 1) (by omega) (by omega))
        | exact svJ_ls (by rw [mWt, if_pos h138, if_pos h152, ← pk_mul, ← pk_sub hxn, nI_succ t]; rfl) (ih (t + 1) (by omega) (by omega))
    · refine J_iconst (pc := 141) (1) rfl dX8_odds_141 ?_
      refine J_goto (pc := 142) 163 dX8_odds_142 (by decide) ?_
      refine J_imul (pc := 163) dX8_odds_163 ?_
      refine S_istore_8 (pc := 164) dX8_odds_164 (by decide) ?_
      refine S_inc_9 (pc := 166) (1) rfl dX8_odds_166 (by decide) ?_
      refine J_goto (pc := 169) 120 dX8_odds_169 (by decide) ?_
      exact svJ_ls (by rw [mWt, if_neg h138, ← pk_mul, nI_succ t]; rfl) (ih (t + 1) (by omega) (by omega))
set_option maxRecDepth 20000 in
set_option maxHeartbeats 2000000 in
theorem lo2_X8_odds {l : Launch} {G : svG} {hi : svH} {hl : svL} {tw dr : Nat} {pm : Nat → Nat} {C L T Gn : Nat} (hm : mT hi C L T Gn) {xn : Nat} {z what : Int32} (hxn : xn ≤ 10) (hsum : mSum (fun s => xOk (mOpen (hi 169 25) (hi 169 0) (fun t => hi 169 (9 + t)) T) s && decide (nI (mWinM hi C T Gn (nI s) 0 0 L) = z)) (fun s => mWt (mOpen (hi 169 25) (hi 169 0) (fun t => hi 169 (9 + t)) T) xn s T) (2 ^ T) < 2 ^ 31) : ∀ s, s ≤ 2 ^ T → ∀ h', (∀ q, q ≠ 180 → q ≠ 181 → h' q = hi q) → ∀ z8 z9, svJ l G rX8_odds mX8_odds (sv_Fm G (fun v sh a b c => ∃ r, v = some (.int r) ∧ sh = svSH ∧ ((fun r a b c => ((if what = 0 then nI (mSum (fun s => xOk (mOpen (hi 169 25) (hi 169 0) (fun t => hi 169 (9 + t)) T) s && decide (nI (mWinM hi C T Gn (nI s) 0 0 L) = z)) (fun s => mWt (mOpen (hi 169 25) (hi 169 0) (fun t => hi 169 (9 + t)) T) xn s T) (2 ^ T)) else nI (mTen (mOpen (hi 169 25) (hi 169 0) (fun t => hi 169 (9 + t)) T) T)) / nI (max (Nat.gcd (mSum (fun s => xOk (mOpen (hi 169 25) (hi 169 0) (fun t => hi 169 (9 + t)) T) s && decide (nI (mWinM hi C T Gn (nI s) 0 0 L) = z)) (fun s => mWt (mOpen (hi 169 25) (hi 169 0) (fun t => hi 169 (9 + t)) T) xn s T) (2 ^ T)) (mTen (mOpen (hi 169 25) (hi 169 0) (fun t => hi 169 (9 + t)) T) T)) 1)) = r ∧ (∀ q, q ≠ 180 → q ≠ 181 → a q = hi q) ∧ hl = b ∧ sv_hr tw dr pm = c)) r a b c) 0 0) 0 0 83 [some (sv_rf G.1 164), some (.int (nI xn)), some (.int z), some (.int what), some (.int (mOpen (hi 169 25) (hi 169 0) (fun t => hi 169 (9 + t)) T)), some (.int (nI (mSum (fun s => xOk (mOpen (hi 169 25) (hi 169 0) (fun t => hi 169 (9 + t)) T) s && decide (nI (mWinM hi C T Gn (nI s) 0 0 L) = z)) (fun s => mWt (mOpen (hi 169 25) (hi 169 0) (fun t => hi 169 (9 + t)) T) xn s T) s))), some (.int (nI (mTen (mOpen (hi 169 25) (hi 169 0) (fun t => hi 169 (9 + t)) T) T))), some (.int (nI s)), z8, z9] [] svSH h' hl (sv_hr tw dr pm) := by
  obtain ⟨hCc, hLc, hT, hGn, hC2, hC6, hL1, hLC, hT8, hG6, hf, hs, hk⟩ := id hm
  have ht2 := two_le hT8
  refine sv_up (fun s hs2 ih h' i1 z8 z9 => ?_)
  refine S_iload_7 (pc := 83) dX8_odds_83 ?_
  refine J_iconst (pc := 85) (1) rfl dX8_odds_85 ?_
  refine S_aload_0 (pc := 86) dX8_odds_86 ?_
  refine fgX8_73 (pc := 87) sh_164 dX8_odds_87 ?_
  refine J_ishl (pc := 90) dX8_odds_90 ?_
  refine J_icmp_ge (pc := 91) 185 dX8_odds_91 (by decide) (fun h91 => ?_) (fun h91 => ?_)
  · rw [i1 164 (by decide) (by decide), hT, nI_shl T hT8, nI_leI (by omega) (by omega)] at h91
    obtain rfl : s = 2 ^ T := by omega
    refine S_iload_5 (pc := 185) dX8_odds_185 ?_
    refine S_iload_6 (pc := 187) dX8_odds_187 ?_
    refine S_iload_3 (pc := 189) dX8_odds_189 ?_
    refine caX8_207 (pc := 190) (t_X8_lowest (l := l) (G := G) hsum (mTen_lt hT8) (Nat.gcd_pos_of_pos_right _ (mTen_pos T))) (Nat.le_of_ble_eq_true rfl) ⟨rfl, rfl, ⟨by decide, by decide⟩, by decide, by decide⟩ dX8_odds_190 (fun r190 a190 b190 c190 p190 => ?_)
    obtain ⟨rfl, rfl, rfl, rfl⟩ := p190
    exact J_ireturn (pc := 193) dX8_odds_193 rfl rfl ⟨_, rfl, rfl, ⟨by rw [Nat.max_eq_left (Nat.gcd_pos_of_pos_right _ (mTen_pos T))], i1, rfl, rfl⟩⟩
  · rw [i1 164 (by decide) (by decide), hT, nI_shl T hT8, nI_leI (by omega) (by omega)] at h91
    refine S_iload_7 (pc := 94) dX8_odds_94 ?_
    refine S_iload_4 (pc := 96) dX8_odds_96 ?_
    refine J_iconst (pc := 98) (-1) rfl dX8_odds_98 ?_
    refine J_ixor (pc := 99) dX8_odds_99 ?_
    refine J_iand (pc := 100) dX8_odds_100 ?_
    refine J_if_ne (pc := 101) 179 dX8_odds_101 (by decide) (fun h101 => ?_) (fun h101 => ?_)
    · refine S_inc_7 (pc := 179) (1) rfl dX8_odds_179 (by decide) ?_
      refine J_goto (pc := 182) 83 dX8_odds_182 (by decide) ?_
      exact svJ_ls (by rw [mSum_f (p := (fun s => xOk (mOpen (hi 169 25) (hi 169 0) (fun t => hi 169 (9 + t)) T) s && decide (nI (mWinM hi C T Gn (nI s) 0 0 L) = z))) (by rw [Bool.and_eq_true]; exact fun q => h101 (of_decide_eq_true q.1)), nI_succ]) (ih (s + 1) (by omega) (by omega) _ i1 _ _)
    · refine S_aload_0 (pc := 104) dX8_odds_104 ?_
      refine S_iload_7 (pc := 105) dX8_odds_105 ?_
      refine caX8_201 (pc := 107) (t_X8_winnerBy (l := l) (G := G) (hm.keep i1)) sh_164 (Nat.le_of_ble_eq_true rfl) ⟨rfl, rfl, ⟨by decide, by decide⟩, by decide, by decide⟩ dX8_odds_107 (fun r107 a107 b107 c107 p107 => ?_)
      obtain ⟨rfl, j1, rfl, rfl⟩ := p107
      have k1 : ∀ q, q ≠ 180 → q ≠ 181 → a107 q = hi q := fun q g1 g2 => (j1 q g1 g2).trans (i1 q g1 g2)
      refine S_iload_2 (pc := 110) dX8_odds_110 ?_
      refine J_icmp_ne (pc := 111) 179 dX8_odds_111 (by decide) (fun h111 => ?_) (fun h111 => ?_)
      · rw [mWinM_keep i1] at h111
        refine S_inc_7 (pc := 179) (1) rfl dX8_odds_179 (by decide) ?_
        refine J_goto (pc := 182) 83 dX8_odds_182 (by decide) ?_
        exact svJ_ls (by rw [mSum_f (p := (fun s => xOk (mOpen (hi 169 25) (hi 169 0) (fun t => hi 169 (9 + t)) T) s && decide (nI (mWinM hi C T Gn (nI s) 0 0 L) = z))) (by rw [Bool.and_eq_true]; exact fun q => h111 (of_decide_eq_true q.2)), nI_succ]) (ih (s + 1) (by omega) (by omega) _ k1 _ _)
      · rw [mWinM_keep i1] at h111
        refine J_iconst (pc := 114) (1) rfl dX8_odds_114 ?_
        refine S_istore_8 (pc := 115) dX8_odds_115 (by decide) ?_
        refine J_iconst (pc := 117) (0) rfl dX8_odds_117 ?_
        refine S_istore_9 (pc := 118) dX8_odds_118 (by decide) ?_
        have hp : (fun s => xOk (mOpen (hi 169 25) (hi 169 0) (fun t => hi 169 (9 + t)) T) s && decide (nI (mWinM hi C T Gn (nI s) 0 0 L) = z)) s = true := by rw [Bool.and_eq_true]; exact ⟨decide_eq_true h101, decide_eq_true h111⟩
        exact svJ_ls (by rfl) (lo3_X8_odds hm hxn hsum k1 (by omega) hp (ih (s + 1) (by omega) (by omega) _ k1) 0 (Nat.zero_le _))
set_option maxRecDepth 20000 in
set_option maxHeartbeats 2000000 in
theorem lo1_X8_odds {l : Launch} {G : svG} {hi : svH} {hl : svL} {tw dr : Nat} {pm : Nat → Nat} {C L T Gn : Nat} (hm : mT hi C L T Gn) {xn : Nat} {z what : Int32} (hxn : xn ≤ 10) (hsum : mSum (fun s => xOk (mOpen (hi 169 25) (hi 169 0) (fun t => hi 169 (9 + t)) T) s && decide (nI (mWinM hi C T Gn (nI s) 0 0 L) = z)) (fun s => mWt (mOpen (hi 169 25) (hi 169 0) (fun t => hi 169 (9 + t)) T) xn s T) (2 ^ T) < 2 ^ 31) : ∀ t, t ≤ T → svJ l G rX8_odds mX8_odds (sv_Fm G (fun v sh a b c => ∃ r, v = some (.int r) ∧ sh = svSH ∧ ((fun r a b c => ((if what = 0 then nI (mSum (fun s => xOk (mOpen (hi 169 25) (hi 169 0) (fun t => hi 169 (9 + t)) T) s && decide (nI (mWinM hi C T Gn (nI s) 0 0 L) = z)) (fun s => mWt (mOpen (hi 169 25) (hi 169 0) (fun t => hi 169 (9 + t)) T) xn s T) (2 ^ T)) else nI (mTen (mOpen (hi 169 25) (hi 169 0) (fun t => hi 169 (9 + t)) T) T)) / nI (max (Nat.gcd (mSum (fun s => xOk (mOpen (hi 169 25) (hi 169 0) (fun t => hi 169 (9 + t)) T) s && decide (nI (mWinM hi C T Gn (nI s) 0 0 L) = z)) (fun s => mWt (mOpen (hi 169 25) (hi 169 0) (fun t => hi 169 (9 + t)) T) xn s T) (2 ^ T)) (mTen (mOpen (hi 169 25) (hi 169 0) (fun t => hi 169 (9 + t)) T) T)) 1)) = r ∧ (∀ q, q ≠ 180 → q ≠ 181 → a q = hi q) ∧ hl = b ∧ sv_hr tw dr pm = c)) r a b c) 0 0) 0 0 44 [some (sv_rf G.1 164), some (.int (nI xn)), some (.int z), some (.int what), some (.int (mOpen (hi 169 25) (hi 169 0) (fun t => hi 169 (9 + t)) T)), some (.int 0), some (.int (nI (mTen (mOpen (hi 169 25) (hi 169 0) (fun t => hi 169 (9 + t)) T) t))), some (.int (nI t)), none, none] [] svSH hi hl (sv_hr tw dr pm) := by
  obtain ⟨hCc, hLc, hT, hGn, hC2, hC6, hL1, hLC, hT8, hG6, hf, hs, hk⟩ := id hm
  refine sv_up (fun t ht ih => ?_)
  refine S_iload_7 (pc := 44) dX8_odds_44 ?_
  refine S_aload_0 (pc := 46) dX8_odds_46 ?_
  refine fgX8_73 (pc := 47) sh_164 dX8_odds_47 ?_
  refine J_icmp_ge (pc := 50) 80 dX8_odds_50 (by decide) (fun h50 => ?_) (fun h50 => ?_)
  · rw [hT, nI_leI (by omega) (by omega)] at h50
    obtain rfl : t = T := by omega
    refine J_iconst (pc := 80) (0) rfl dX8_odds_80 ?_
    refine S_istore_7 (pc := 81) dX8_odds_81 (by decide) ?_
    exact svJ_ls (by rfl) (lo2_X8_odds hm hxn hsum 0 (Nat.zero_le _) hi (fun _ _ _ => rfl) none none)
  · rw [hT, nI_leI (by omega) (by omega)] at h50
    refine S_iload_6 (pc := 53) dX8_odds_53 ?_
    refine S_iload_4 (pc := 55) dX8_odds_55 ?_
    refine S_iload_7 (pc := 57) dX8_odds_57 ?_
    refine caX8_159 (pc := 59) (t_X8_has_x (l := l) (G := G) t rfl (by omega)) (Nat.le_of_ble_eq_true rfl) ⟨rfl, rfl, ⟨by decide, by decide⟩, by decide, by decide⟩ dX8_odds_59 (fun r59 a59 b59 c59 p59 => ?_)
    obtain ⟨rfl, rfl, rfl, rfl⟩ := p59
    refine J_if_eq_b (pc := 62) 70 dX8_odds_62 (by decide) (fun h62 => ?_) (fun h62 => ?_)
    · refine J_iconst (pc := 70) (1) rfl dX8_odds_70 ?_
      refine J_imul (pc := 71) dX8_odds_71 ?_
      refine S_istore_6 (pc := 72) dX8_odds_72 (by decide) ?_
      refine S_inc_7 (pc := 74) (1) rfl dX8_odds_74 (by decide) ?_
      refine J_goto (pc := 77) 44 dX8_odds_77 (by decide) ?_
      first
      | (refine svJ_ls ?_ (ih (t + 1) (by omega) (by omega)); rw [mTen, if_pos h62, ← pk_mul, nI_succ t]; rfl)
      | (refine svJ_ls ?_ (ih (t + 1) (by omega) (by omega)); rw [mTen, if_neg h62, ← pk_mul, nI_succ t]; rfl)
    · refine J_bipush (pc := 65) (10) rfl dX8_odds_65 ?_
      refine J_goto (pc := 67) 71 dX8_odds_67 (by decide) ?_
      refine J_imul (pc := 71) dX8_odds_71 ?_
      refine S_istore_6 (pc := 72) dX8_odds_72 (by decide) ?_
      refine S_inc_7 (pc := 74) (1) rfl dX8_odds_74 (by decide) ?_
      refine J_goto (pc := 77) 44 dX8_odds_77 (by decide) ?_
      first
      | (refine svJ_ls ?_ (ih (t + 1) (by omega) (by omega)); rw [mTen, if_pos h62, ← pk_mul, nI_succ t]; rfl)
      | (refine svJ_ls ?_ (ih (t + 1) (by omega) (by omega)); rw [mTen, if_neg h62, ← pk_mul, nI_succ t]; rfl)
set_option maxRecDepth 20000 in
set_option maxHeartbeats 2000000 in
theorem t_X8_odds {l : Launch} {G : svG} {hi : svH} {hl : svL} {tw dr : Nat} {pm : Nat → Nat} {C L T Gn : Nat} (hm : mT hi C L T Gn) {x z what : Int32} (hsum : ∀ xm, xm ≤ 10 → mSum (fun s => xOk (mOpen (hi 169 25) (hi 169 0) (fun t => hi 169 (9 + t)) T) s && decide (nI (mWinM hi C T Gn (nI s) 0 0 L) = z)) (fun s => mWt (mOpen (hi 169 25) (hi 169 0) (fun t => hi 169 (9 + t)) T) xm s T) (2 ^ T) < 2 ^ 31) : svI l G yX8_odds mX8_odds rX8_odds [sv_rf G.1 164, .int x, .int z, .int what] hi hl (sv_hr tw dr pm) (fun r a b c => fOdds C (fun xm => mSum (fun s => xOk (mOpen (hi 169 25) (hi 169 0) (fun t => hi 169 (9 + t)) T) s && decide (nI (mWinM hi C T Gn (nI s) 0 0 L) = z)) (fun s => mWt (mOpen (hi 169 25) (hi 169 0) (fun t => hi 169 (9 + t)) T) xm s T) (2 ^ T)) (mTen (mOpen (hi 169 25) (hi 169 0) (fun t => hi 169 (9 + t)) T) T) x z what = r ∧ (∀ q, q ≠ 180 → q ≠ 181 → a q = hi q) ∧ hl = b ∧ sv_hr tw dr pm = c) := by
  obtain ⟨hCc, hLc, hT, hGn, hC2, hC6, hL1, hLC, hT8, hG6, hf, hs, hk⟩ := id hm
  refine sv_entry (by decide +kernel) rfl rfl (Nat.le_of_ble_eq_true rfl) (by simp [Value.category, sv_rf]) [some (sv_rf G.1 164), some (.int x), some (.int z), some (.int what), none, none, none, none, none, none] rfl ?_
  refine S_iload_1 (pc := 0) dX8_odds_0 ?_
  refine J_iconst (pc := 1) (0) rfl dX8_odds_1 ?_
  refine J_bipush (pc := 2) (10) rfl dX8_odds_2 ?_
  refine caX8_69 (pc := 4) (t_X8_in_n (l := l) (G := G) (b := 11) 11 (by decide) rfl rfl) (Nat.le_of_ble_eq_true rfl) ⟨rfl, rfl, ⟨by decide, by decide⟩, by decide, by decide⟩ dX8_odds_4 (fun r4 a4 b4 c4 p4 => ?_)
  obtain ⟨rfl, rfl, rfl, rfl⟩ := p4
  refine J_if_eq_b (pc := 7) 27 dX8_odds_7 (by decide) (fun h7 => ?_) (fun h7 => ?_)
  · refine J_iconst (pc := 27) (-1) rfl dX8_odds_27 ?_
    exact J_ireturn (pc := 28) dX8_odds_28 rfl rfl ⟨_, rfl, rfl, ⟨by unfold fOdds; rw [if_neg]; intro q; first | exact h7 q.1 | exact h15 q.2.1 | exact h24 q.2.2, fun _ _ _ => rfl, rfl, rfl⟩⟩
  · refine S_aload_0 (pc := 10) dX8_odds_10 ?_
    refine S_iload_2 (pc := 11) dX8_odds_11 ?_
    refine caX8_185 (pc := 12) (t_X8_isOne_n (l := l) (G := G) hm) sh_164 (Nat.le_of_ble_eq_true rfl) ⟨rfl, rfl, ⟨by decide, by decide⟩, by decide, by decide⟩ dX8_odds_12 (fun r12 a12 b12 c12 p12 => ?_)
    obtain ⟨rfl, rfl, rfl, rfl⟩ := p12
    refine J_if_eq_b (pc := 15) 27 dX8_odds_15 (by decide) (fun h15 => ?_) (fun h15 => ?_)
    · refine J_iconst (pc := 27) (-1) rfl dX8_odds_27 ?_
      exact J_ireturn (pc := 28) dX8_odds_28 rfl rfl ⟨_, rfl, rfl, ⟨by unfold fOdds; rw [if_neg]; intro q; first | exact h7 q.1 | exact h15 q.2.1 | exact h24 q.2.2, fun _ _ _ => rfl, rfl, rfl⟩⟩
    · refine S_iload_3 (pc := 18) dX8_odds_18 ?_
      refine J_iconst (pc := 19) (0) rfl dX8_odds_19 ?_
      refine J_iconst (pc := 20) (1) rfl dX8_odds_20 ?_
      refine caX8_69 (pc := 21) (t_X8_in_n (l := l) (G := G) (b := 2) 2 (by decide) rfl rfl) (Nat.le_of_ble_eq_true rfl) ⟨rfl, rfl, ⟨by decide, by decide⟩, by decide, by decide⟩ dX8_odds_21 (fun r21 a21 b21 c21 p21 => ?_)
      obtain ⟨rfl, rfl, rfl, rfl⟩ := p21
      refine J_if_ne_b (pc := 24) 29 dX8_odds_24 (by decide) (fun h24 => ?_) (fun h24 => ?_)
      · refine S_aload_0 (pc := 29) dX8_odds_29 ?_
        refine caX8_188 (pc := 30) (t_X8_toCome (l := l) (G := G) hm) sh_164 (Nat.le_of_ble_eq_true rfl) ⟨rfl, rfl, ⟨by decide, by decide⟩, by decide, by decide⟩ dX8_odds_30 (fun r30 a30 b30 c30 p30 => ?_)
        obtain ⟨rfl, rfl, rfl, rfl⟩ := p30
        refine S_istore_4 (pc := 33) dX8_odds_33 (by decide) ?_
        refine J_iconst (pc := 35) (0) rfl dX8_odds_35 ?_
        refine S_istore_5 (pc := 36) dX8_odds_36 (by decide) ?_
        refine J_iconst (pc := 38) (1) rfl dX8_odds_38 ?_
        refine S_istore_6 (pc := 39) dX8_odds_39 (by decide) ?_
        refine J_iconst (pc := 41) (0) rfl dX8_odds_41 ?_
        refine S_istore_7 (pc := 42) dX8_odds_42 (by decide) ?_
        obtain ⟨xn, hxn, rfl⟩ := sv_ix (n := 11) h7 (by decide)
        have e : fOdds C (fun xm => mSum (fun s => xOk (mOpen (hi 169 25) (hi 169 0) (fun t => hi 169 (9 + t)) T) s && decide (nI (mWinM hi C T Gn (nI s) 0 0 L) = z)) (fun s => mWt (mOpen (hi 169 25) (hi 169 0) (fun t => hi 169 (9 + t)) T) xm s T) (2 ^ T)) (mTen (mOpen (hi 169 25) (hi 169 0) (fun t => hi 169 (9 + t)) T) T) (nI xn) z what = ((if what = 0 then nI (mSum (fun s => xOk (mOpen (hi 169 25) (hi 169 0) (fun t => hi 169 (9 + t)) T) s && decide (nI (mWinM hi C T Gn (nI s) 0 0 L) = z)) (fun s => mWt (mOpen (hi 169 25) (hi 169 0) (fun t => hi 169 (9 + t)) T) xn s T) (2 ^ T)) else nI (mTen (mOpen (hi 169 25) (hi 169 0) (fun t => hi 169 (9 + t)) T) T)) / nI (max (Nat.gcd (mSum (fun s => xOk (mOpen (hi 169 25) (hi 169 0) (fun t => hi 169 (9 + t)) T) s && decide (nI (mWinM hi C T Gn (nI s) 0 0 L) = z)) (fun s => mWt (mOpen (hi 169 25) (hi 169 0) (fun t => hi 169 (9 + t)) T) xn s T) (2 ^ T)) (mTen (mOpen (hi 169 25) (hi 169 0) (fun t => hi 169 (9 + t)) T) T)) 1)) := by unfold fOdds; rw [if_pos ⟨h7, h15, h24⟩, nI_clamp (by omega)]
        rw [e]
        exact lo1_X8_odds hm (by omega) (hsum xn (by omega)) 0 (Nat.zero_le _)
      · refine J_iconst (pc := 27) (-1) rfl dX8_odds_27 ?_
        exact J_ireturn (pc := 28) dX8_odds_28 rfl rfl ⟨_, rfl, rfl, ⟨by unfold fOdds; rw [if_neg]; intro q; first | exact h7 q.1 | exact h15 q.2.1 | exact h24 q.2.2, fun _ _ _ => rfl, rfl, rfl⟩⟩
