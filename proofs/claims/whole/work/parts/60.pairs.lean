/-! each call of the law: the class, then the reference, answer alike, and what holds of both holds again -/
def IN (hi : svH) (hl : svL) (hr : svR) : Prop := ∃ (tw dr : Nat) (pm : Nat → Nat) (C L T Gn K N X : Nat), hr = sv_hr tw dr pm ∧ Inv hi hl tw dr pm C L T Gn K N X
def pairI (l : Launch) (G : svG) (yx : MethodName) (mx : svM) (rx : Room) (ym : MethodName) (mm : svM) (rm : Room) (As : List Value) (hi : svH) (hl : svL) (hr : svR) : Prop := ∃ P1 : Int32 → svH → svL → svR → Prop, svI l G yx mx rx (sv_rf G.1 0 :: As) hi hl hr P1 ∧ ∀ r a b c, P1 r a b c → ∃ P2 : Int32 → svH → svL → svR → Prop, svI l G ym mm rm (sv_rf G.1 164 :: As) a b c P2 ∧ ∀ r2 a2 b2 c2, P2 r2 a2 b2 c2 → r = r2 ∧ IN a2 b2 c2
def pairW (l : Launch) (G : svG) (yx : MethodName) (mx : svM) (rx : Room) (ym : MethodName) (mm : svM) (rm : Room) (As : List Value) (hi : svH) (hl : svL) (hr : svR) : Prop := ∃ P1 : Int64 → svH → svL → svR → Prop, svW l G yx mx rx (sv_rf G.1 0 :: As) hi hl hr P1 ∧ ∀ r a b c, P1 r a b c → ∃ P2 : Int64 → svH → svL → svR → Prop, svW l G ym mm rm (sv_rf G.1 164 :: As) a b c P2 ∧ ∀ r2 a2 b2 c2, P2 r2 a2 b2 c2 → r = r2 ∧ IN a2 b2 c2
theorem Inv.IN {hi : svH} {hl : svL} {tw dr : Nat} {pm : Nat → Nat} {C L T Gn K N X : Nat} (I : Inv hi hl tw dr pm C L T Gn K N X) : IN hi hl (sv_hr tw dr pm) := ⟨tw, dr, pm, C, L, T, Gn, K, N, X, rfl, I⟩
theorem Inv.mF {hi : svH} {hl : svL} {tw dr : Nat} {pm : Nat → Nat} {C L T Gn K N X : Nat} (I : Inv hi hl tw dr pm C L T Gn K N X) {a : svH} (F : ∀ q, 164 ≤ q → a q = hi q) : mT a C L T Gn := I.m.frame (fun k _ => by rw [F 164 (by decide)]) (F 167 (by decide)) (F 168 (by decide)) (by rw [F 169 (by decide)]; exact I.mlik)
theorem imgOf_cases {x : Int32} {im : Nat} (h : imgOf x = some im) : im = 70 ∨ im = 117 := by
  unfold imgOf at h
  split at h
  · cases h; exact Or.inl rfl
  · split at h
    · cases h; exact Or.inr rfl
    · cases h
set_option maxRecDepth 20000 in
set_option maxHeartbeats 2000000 in
theorem pr_type {l : Launch} {G : svG} {hi : svH} {hl : svL} {hr : svR} (I0 : IN hi hl hr) (x : Int32) : pairI l G yX7_type mX7_type rX7_type yX8_type mX8_type rX8_type [.int x] hi hl hr := by
  obtain ⟨tw, dr, pm, C, L, T, Gn, K, N, X, rfl, I⟩ := I0
  refine ⟨_, t_X7_type I.xX I.X120, fun r a b c p => ?_⟩
  obtain ⟨rfl, rfl, rfl, rfl⟩ := p
  have F : ∀ q, 164 ≤ q → hType hi 16 15 X 0 x q = hi q := fun q hq => by
    unfold hType
    split
    · rw [sv_u2_off (by omega), sv_u2_off (by omega)]
    · rfl
  refine ⟨_, t_X8_type (n := X) (by rw [F 164 (by decide)]; exact I.mX) I.X120, fun r2 a2 b2 c2 p2 => ?_⟩
  obtain ⟨rfl, rfl, rfl, rfl⟩ := p2
  obtain ⟨X', h⟩ := same_type I x
  exact ⟨rfl, h.IN⟩
set_option maxRecDepth 20000 in
set_option maxHeartbeats 2000000 in
theorem pr_clear {l : Launch} {G : svG} {hi : svH} {hl : svL} {hr : svR} (I0 : IN hi hl hr) : pairI l G yX7_clear mX7_clear rX7_clear yX8_clear mX8_clear rX8_clear [] hi hl hr := by
  obtain ⟨tw, dr, pm, C, L, T, Gn, K, N, X, rfl, I⟩ := I0
  refine ⟨_, t_X7_clear, fun r a b c p => ?_⟩
  obtain ⟨rfl, rfl, rfl, rfl⟩ := p
  refine ⟨_, t_X8_clear, fun r2 a2 b2 c2 p2 => ?_⟩
  obtain ⟨rfl, rfl, rfl, rfl⟩ := p2
  exact ⟨(same_clear I).1, (same_clear I).2.IN⟩
set_option maxRecDepth 20000 in
set_option maxHeartbeats 2000000 in
theorem pr_train {l : Launch} {G : svG} {hi : svH} {hl : svL} {hr : svR} (I0 : IN hi hl hr) (x what : Int32) : pairI l G yX7_train mX7_train rX7_train yX8_train mX8_train rX8_train [.int x, .int what] hi hl hr := by
  obtain ⟨tw, dr, pm, C, L, T, Gn, K, N, X, rfl, I⟩ := I0
  refine ⟨_, t_X7_train I.x, fun r a b c p => ?_⟩
  obtain ⟨rfl, rfl, rfl, rfl⟩ := p
  refine ⟨_, t_X8_train I.m, fun r2 a2 b2 c2 p2 => ?_⟩
  obtain ⟨rfl, rfl, rfl, rfl⟩ := p2
  exact ⟨e_train I x what, I.IN⟩
set_option maxRecDepth 20000 in
set_option maxHeartbeats 2000000 in
theorem pr_group {l : Launch} {G : svG} {hi : svH} {hl : svL} {hr : svR} (I0 : IN hi hl hr) (x what : Int32) : pairI l G yX7_group mX7_group rX7_group yX8_group mX8_group rX8_group [.int x, .int what] hi hl hr := by
  obtain ⟨tw, dr, pm, C, L, T, Gn, K, N, X, rfl, I⟩ := I0
  refine ⟨_, t_X7_group I.x, fun r a b c p => ?_⟩
  obtain ⟨rfl, rfl, rfl, rfl⟩ := p
  refine ⟨_, t_X8_group I.m, fun r2 a2 b2 c2 p2 => ?_⟩
  obtain ⟨rfl, rfl, rfl, rfl⟩ := p2
  exact ⟨e_group I x what, I.IN⟩
set_option maxRecDepth 20000 in
set_option maxHeartbeats 2000000 in
theorem pr_count {l : Launch} {G : svG} {hi : svH} {hl : svL} {hr : svR} (I0 : IN hi hl hr) (what : Int32) : pairI l G yX7_count mX7_count rX7_count yX8_count mX8_count rX8_count [.int what] hi hl hr := by
  obtain ⟨tw, dr, pm, C, L, T, Gn, K, N, X, rfl, I⟩ := I0
  refine ⟨_, t_X7_count I.x, fun r a b c p => ?_⟩
  obtain ⟨rfl, rfl, rfl, rfl⟩ := p
  refine ⟨_, t_X8_count I.m, fun r2 a2 b2 c2 p2 => ?_⟩
  obtain ⟨rfl, rfl, rfl, rfl⟩ := p2
  exact ⟨e_count I what, I.IN⟩
set_option maxRecDepth 20000 in
set_option maxHeartbeats 2000000 in
theorem pr_votes {l : Launch} {G : svG} {hi : svH} {hl : svL} {hr : svR} (I0 : IN hi hl hr) (x en : Int32) : pairI l G yX7_votes mX7_votes rX7_votes yX8_votes mX8_votes rX8_votes [.int x, .int en] hi hl hr := by
  obtain ⟨tw, dr, pm, C, L, T, Gn, K, N, X, rfl, I⟩ := I0
  refine ⟨_, t_X7_votes I.x, fun r a b c p => ?_⟩
  obtain ⟨rfl, i1, rfl, rfl⟩ := p
  have F : ∀ q, 164 ≤ q → a q = hi q := fun q hq => i1 q (by omega) (by omega)
  have J := I.rx i1
  refine ⟨_, t_X8_votes J.m, fun r2 a2 b2 c2 p2 => ?_⟩
  obtain ⟨rfl, i2, rfl, rfl⟩ := p2
  exact ⟨res_votes I F x en, (J.rm i2).IN⟩
set_option maxRecDepth 20000 in
set_option maxHeartbeats 2000000 in
theorem pr_now {l : Launch} {G : svG} {hi : svH} {hl : svL} {hr : svR} (I0 : IN hi hl hr) (what : Int32) : pairI l G yX7_now mX7_now rX7_now yX8_now mX8_now rX8_now [.int what] hi hl hr := by
  obtain ⟨tw, dr, pm, C, L, T, Gn, K, N, X, rfl, I⟩ := I0
  refine ⟨_, t_X7_now I.x, fun r a b c p => ?_⟩
  obtain ⟨rfl, i1, rfl, rfl⟩ := p
  have F : ∀ q, 164 ≤ q → a q = hi q := fun q hq => i1 q (by omega) (by omega)
  have J := I.rx i1
  refine ⟨_, t_X8_now J.m, fun r2 a2 b2 c2 p2 => ?_⟩
  obtain ⟨rfl, i2, rfl, rfl⟩ := p2
  exact ⟨res_now I F what, (J.rm i2).IN⟩
set_option maxRecDepth 20000 in
set_option maxHeartbeats 2000000 in
theorem pr_plan {l : Launch} {G : svG} {hi : svH} {hl : svL} {hr : svR} (I0 : IN hi hl hr) (x z : Int32) : pairI l G yX7_plan mX7_plan rX7_plan yX8_plan mX8_plan rX8_plan [.int x, .int z] hi hl hr := by
  obtain ⟨tw, dr, pm, C, L, T, Gn, K, N, X, rfl, I⟩ := I0
  refine ⟨_, t_X7_plan I.x, fun r a b c p => ?_⟩
  obtain ⟨rfl, i1, rfl, rfl⟩ := p
  have F : ∀ q, 164 ≤ q → a q = hi q := fun q hq => i1 q (by omega) (by omega)
  have J := I.rx i1
  refine ⟨_, t_X8_plan J.m, fun r2 a2 b2 c2 p2 => ?_⟩
  obtain ⟨rfl, i2, rfl, rfl⟩ := p2
  exact ⟨res_plan I F x z, (J.rm i2).IN⟩
set_option maxRecDepth 20000 in
set_option maxHeartbeats 2000000 in
theorem pr_power {l : Launch} {G : svG} {hi : svH} {hl : svL} {hr : svR} (I0 : IN hi hl hr) (x : Int32) : pairI l G yX7_power mX7_power rX7_power yX8_power mX8_power rX8_power [.int x] hi hl hr := by
  obtain ⟨tw, dr, pm, C, L, T, Gn, K, N, X, rfl, I⟩ := I0
  refine ⟨_, t_X7_power I.x, fun r a b c p => ?_⟩
  obtain ⟨rfl, i1, rfl, rfl⟩ := p
  have F : ∀ q, 164 ≤ q → a q = hi q := fun q hq => i1 q (by omega) (by omega)
  have J := I.rx i1
  refine ⟨_, t_X8_power J.m, fun r2 a2 b2 c2 p2 => ?_⟩
  obtain ⟨rfl, i2, rfl, rfl⟩ := p2
  exact ⟨res_power I F x, (J.rm i2).IN⟩
set_option maxRecDepth 20000 in
set_option maxHeartbeats 2000000 in
theorem pr_laws {l : Launch} {G : svG} {hi : svH} {hl : svL} {hr : svR} (I0 : IN hi hl hr) (x : Int32) : pairI l G yX7_laws mX7_laws rX7_laws yX8_laws mX8_laws rX8_laws [.int x] hi hl hr := by
  obtain ⟨tw, dr, pm, C, L, T, Gn, K, N, X, rfl, I⟩ := I0
  refine ⟨_, t_X7_laws I.x, fun r a b c p => ?_⟩
  obtain ⟨rfl, i1, rfl, rfl⟩ := p
  have F : ∀ q, 164 ≤ q → a q = hi q := fun q hq => i1 q (by omega) (by omega)
  have J := I.rx i1
  refine ⟨_, t_X8_laws J.m, fun r2 a2 b2 c2 p2 => ?_⟩
  obtain ⟨rfl, i2, rfl, rfl⟩ := p2
  exact ⟨res_laws I F x, (J.rm i2).IN⟩
set_option maxRecDepth 20000 in
set_option maxHeartbeats 2000000 in
theorem pr_odds {l : Launch} {G : svG} {hi : svH} {hl : svL} {hr : svR} (I0 : IN hi hl hr) (x z what : Int32) : pairI l G yX7_odds mX7_odds rX7_odds yX8_odds mX8_odds rX8_odds [.int x, .int z, .int what] hi hl hr := by
  obtain ⟨tw, dr, pm, C, L, T, Gn, K, N, X, rfl, I⟩ := I0
  refine ⟨_, t_X7_odds I.x (fun xm hxm => by rw [e_oddsS I xm z]; exact wt_sum hxm I.hT _), fun r a b c p => ?_⟩
  obtain ⟨rfl, i1, rfl, rfl⟩ := p
  have F : ∀ q, 164 ≤ q → a q = hi q := fun q hq => i1 q (by omega) (by omega)
  have J := I.rx i1
  refine ⟨_, t_X8_odds J.m (fun xm hxm => wt_sum hxm I.hT _), fun r2 a2 b2 c2 p2 => ?_⟩
  obtain ⟨rfl, i2, rfl, rfl⟩ := p2
  exact ⟨res_odds I F x z what, (J.rm i2).IN⟩
set_option maxRecDepth 20000 in
set_option maxHeartbeats 2000000 in
theorem pr_likings {l : Launch} {G : svG} {hi : svH} {hl : svL} {hr : svR} (I0 : IN hi hl hr) (what : Int32) : pairI l G yX7_likings mX7_likings rX7_likings yX8_likings mX8_likings rX8_likings [.int what] hi hl hr := by
  obtain ⟨tw, dr, pm, C, L, T, Gn, K, N, X, rfl, I⟩ := I0
  refine ⟨_, t_X7_likings I.x I.xN I.N4, fun r a b c p => ?_⟩
  obtain ⟨rfl, i1, i2, rfl, rfl⟩ := p
  have F : ∀ q, 164 ≤ q → a q = hi q := fun q hq => i1 q (by omega) (by omega)
  have J := I.rf i1 i2
  refine ⟨_, t_X8_likings J.m J.mN J.N4, fun r2 a2 b2 c2 p2 => ?_⟩
  obtain ⟨rfl, rfl, rfl, rfl⟩ := p2
  exact ⟨by rw [res_ok I F], J.IN⟩
set_option maxRecDepth 20000 in
set_option maxHeartbeats 2000000 in
theorem pr_ask {l : Launch} {G : svG} {hi : svH} {hl : svL} {hr : svR} (I0 : IN hi hl hr) : pairI l G yX7_ask mX7_ask rX7_ask yX8_ask mX8_ask rX8_ask [] hi hl hr := by
  obtain ⟨tw, dr, pm, C, L, T, Gn, K, N, X, rfl, I⟩ := I0
  refine ⟨_, t_X7_ask I.x I.xN I.N4, fun r a b c p => ?_⟩
  obtain ⟨rfl, i1, i2, rfl, rfl⟩ := p
  have F : ∀ q, 164 ≤ q → a q = hi q := fun q hq => i1 q (by omega) (by omega)
  have J := I.rf i1 i2
  refine ⟨_, t_X8_ask J.m J.mN J.N4, fun r2 a2 b2 c2 p2 => ?_⟩
  obtain ⟨rfl, rfl, rfl, rfl⟩ := p2
  exact ⟨by rw [res_ok I F], J.IN⟩
set_option maxRecDepth 20000 in
set_option maxHeartbeats 2000000 in
theorem pr_mark {l : Launch} {G : svG} {hi : svH} {hl : svL} {hr : svR} (I0 : IN hi hl hr) (what x : Int32) : pairI l G yX7_mark mX7_mark rX7_mark yX8_mark mX8_mark rX8_mark [.int what, .int x] hi hl hr := by
  obtain ⟨tw, dr, pm, C, L, T, Gn, K, N, X, rfl, I⟩ := I0
  refine ⟨_, t_X7_mark I.x, fun r a b c p => ?_⟩
  obtain ⟨rfl, rfl, rfl, rfl⟩ := p
  refine ⟨_, t_X8_mark I.m, fun r2 a2 b2 c2 p2 => ?_⟩
  obtain ⟨rfl, rfl, rfl, rfl⟩ := p2
  refine ⟨congrArg Prod.fst (e_mark I what x), (I.rl ?_).IN⟩
  rw [u2x (by decide), sv_u2_at, sv_u2_at, u2x (by decide), I.trace, e_mark I what x]
set_option maxRecDepth 20000 in
set_option maxHeartbeats 2000000 in
theorem pr_hears {l : Launch} {G : svG} {hi : svH} {hl : svL} {hr : svR} (I0 : IN hi hl hr) (x z : Int32) : pairI l G yX7_hears mX7_hears rX7_hears yX8_hears mX8_hears rX8_hears [.int x, .int z] hi hl hr := by
  obtain ⟨tw, dr, pm, C, L, T, Gn, K, N, X, rfl, I⟩ := I0
  refine ⟨_, t_X7_hears I.x I.xN I.N4, fun r a b c p => ?_⟩
  obtain ⟨rfl, rfl, rfl, rfl⟩ := p
  have F : ∀ q, 164 ≤ q → xHears hi C N x z q = hi q := fun q hq => by
    unfold xHears
    split
    · rw [sv_u2_off (by omega), sv_u2_off (by omega), sv_u2_off (by omega)]
    · rfl
  refine ⟨_, t_X8_hears (I.mF F) (n := N) (by rw [F 164 (by decide)]; exact I.mN) I.N4, fun r2 a2 b2 c2 p2 => ?_⟩
  obtain ⟨rfl, rfl, rfl, rfl⟩ := p2
  obtain ⟨N', h⟩ := same_hears I x z
  exact ⟨rfl, h.IN⟩
set_option maxRecDepth 20000 in
set_option maxHeartbeats 2000000 in
theorem pr_forget {l : Launch} {G : svG} {hi : svH} {hl : svL} {hr : svR} (I0 : IN hi hl hr) : pairI l G yX7_forget mX7_forget rX7_forget yX8_forget mX8_forget rX8_forget [] hi hl hr := by
  obtain ⟨tw, dr, pm, C, L, T, Gn, K, N, X, rfl, I⟩ := I0
  refine ⟨_, t_X7_forget, fun r a b c p => ?_⟩
  obtain ⟨rfl, rfl, rfl, rfl⟩ := p
  refine ⟨_, t_X8_forget, fun r2 a2 b2 c2 p2 => ?_⟩
  obtain ⟨rfl, rfl, rfl, rfl⟩ := p2
  exact ⟨(same_forget I).1, (same_forget I).2.IN⟩
set_option maxRecDepth 20000 in
set_option maxHeartbeats 2000000 in
theorem pr_town {l : Launch} {G : svG} {hi : svH} {hl : svL} {hr : svR} (I0 : IN hi hl hr) : pairI l G yX7_town mX7_town rX7_town yX8_town mX8_town rX8_town [] hi hl hr := by
  obtain ⟨tw, dr, pm, C, L, T, Gn, K, N, X, rfl, I⟩ := I0
  refine ⟨_, t_X7_town I.x.1 I.ed I.X120 I.xX, fun r a b c p => ?_⟩
  obtain ⟨h1, rfl⟩ := p
  have F := told_hi I h1
  obtain ⟨tw', dr', rfl⟩ : ∃ tw' dr', c = sv_hr tw' dr' pm := by
    rcases h1 with ⟨f, _, _, _, _, h⟩ | ⟨D', k, _, _, _, h⟩
    · exact ⟨tw, dr, h.symm⟩
    · exact ⟨dr, tw, h.symm⟩
  refine ⟨_, t_X8_town (n := X) I.X120 (by rw [F 164 (by decide)]; exact I.mX) (fun i hi2 => by rw [F 173 (by decide)]; exact (I.bytes i hi2).2), fun r2 a2 b2 c2 p2 => ?_⟩
  obtain ⟨hm, rfl, rfl⟩ := p2
  obtain ⟨h2, tw2, dr2, C', L', T', Gn', K', N', X', h3, h4⟩ := same_town I h1 hm
  rw [h3]
  exact ⟨h2, h4.IN⟩
set_option maxRecDepth 20000 in
set_option maxHeartbeats 2000000 in
theorem pr_hour {l : Launch} {G : svG} {hi : svH} {hl : svL} {hr : svR} (I0 : IN hi hl hr) : pairI l G yX7_hour mX7_hour rX7_hour yX8_hour mX8_hour rX8_hour [] hi hl hr := by
  obtain ⟨tw, dr, pm, C, L, T, Gn, K, N, X, rfl, I⟩ := I0
  refine ⟨_, t_X7_hour I.x I.xK I.K10 I.pm, fun r a b c p => ?_⟩
  obtain ⟨F, rfl, pm', rfl⟩ : (∀ q, 164 ≤ q → a q = hi q) ∧ hl = b ∧ ∃ pm', c = sv_hr tw dr pm' := by
    rcases p with ⟨_, _, rfl, rfl, rfl⟩ | ⟨_, _, h, e⟩
    · exact ⟨fun _ _ => rfl, rfl, pm, rfl⟩
    · exact ⟨fun q hq => h.off (Or.inr (by omega)), e, by
        obtain ⟨pm', n, _, _, _, _, _, _, _, _, _, _, _, _, _, h⟩ := h
        exact ⟨pm', h.symm⟩⟩
  refine ⟨_, t_X8_hour (I.mF F) (K := K) (by rw [F 169 (by decide)]; exact I.mK) I.K10, fun r2 a2 b2 c2 p2 => ?_⟩
  obtain ⟨h1, pm2, K', h2, h3⟩ := same_hour I p p2
  rw [h2]
  exact ⟨h1, h3.IN⟩
set_option maxRecDepth 20000 in
set_option maxHeartbeats 2000000 in
theorem pr_holds {l : Launch} {G : svG} {hi : svH} {hl : svL} {hr : svR} (I0 : IN hi hl hr) (x : Int32) : pairI l G yX7_holds mX7_holds rX7_holds yX8_holds mX8_holds rX8_holds [.int x] hi hl hr := by
  obtain ⟨tw, dr, pm, C, L, T, Gn, K, N, X, rfl, I⟩ := I0
  refine ⟨_, t_X7_holds I.x I.xK I.K10 I.pm, fun r a b c p => ?_⟩
  obtain ⟨F, rfl, pm', rfl⟩ : (∀ q, 164 ≤ q → a q = hi q) ∧ hl = b ∧ ∃ pm', c = sv_hr tw dr pm' := by
    rcases p with ⟨_, _, rfl, rfl, rfl⟩ | ⟨_, _, _, rfl, rfl, rfl⟩ | ⟨_, _, _, h, e⟩
    · exact ⟨fun _ _ => rfl, rfl, pm, rfl⟩
    · exact ⟨fun _ _ => rfl, rfl, pm, rfl⟩
    · exact ⟨fun q hq => h.off (Or.inr (by omega)), e, by
        obtain ⟨pm', n, _, _, _, _, _, _, _, _, _, _, _, _, _, h⟩ := h
        exact ⟨pm', h.symm⟩⟩
  refine ⟨_, t_X8_holds (I.mF F) (K := K) (by rw [F 169 (by decide)]; exact I.mK) I.K10, fun r2 a2 b2 c2 p2 => ?_⟩
  obtain ⟨h1, pm2, K', h2, h3⟩ := same_holds I p p2
  rw [h2]
  exact ⟨h1, h3.IN⟩
set_option maxRecDepth 20000 in
set_option maxHeartbeats 2000000 in
theorem pr_canvasses {l : Launch} {G : svG} {hi : svH} {hl : svL} {hr : svR} (I0 : IN hi hl hr) (x z : Int32) : pairI l G yX7_canvasses mX7_canvasses rX7_canvasses yX8_canvasses mX8_canvasses rX8_canvasses [.int x, .int z] hi hl hr := by
  obtain ⟨tw, dr, pm, C, L, T, Gn, K, N, X, rfl, I⟩ := I0
  refine ⟨_, t_X7_canvasses I.x I.xK I.K10 I.pm, fun r a b c p => ?_⟩
  obtain ⟨F, rfl, pm', rfl⟩ : (∀ q, 164 ≤ q → a q = hi q) ∧ hl = b ∧ ∃ pm', c = sv_hr tw dr pm' := by
    rcases p with ⟨_, _, rfl, rfl, rfl⟩ | ⟨_, _, _, rfl, rfl, rfl⟩ | ⟨_, _, _, h, e⟩
    · exact ⟨fun _ _ => rfl, rfl, pm, rfl⟩
    · exact ⟨fun _ _ => rfl, rfl, pm, rfl⟩
    · exact ⟨fun q hq => h.off (Or.inr (by omega)), e, by
        obtain ⟨pm', n, _, _, _, _, _, _, _, _, _, _, _, _, _, h⟩ := h
        exact ⟨pm', h.symm⟩⟩
  refine ⟨_, t_X8_canvasses (I.mF F) (K := K) (by rw [F 169 (by decide)]; exact I.mK) I.K10, fun r2 a2 b2 c2 p2 => ?_⟩
  obtain ⟨h1, pm2, K', h2, h3⟩ := same_canvasses I p p2
  rw [h2]
  exact ⟨h1, h3.IN⟩
set_option maxRecDepth 20000 in
set_option maxHeartbeats 2000000 in
theorem pr_fog {l : Launch} {G : svG} {hi : svH} {hl : svL} {hr : svR} (I0 : IN hi hl hr) (x : Int32) : pairI l G yX7_fog mX7_fog rX7_fog yX8_fog mX8_fog rX8_fog [.int x] hi hl hr := by
  obtain ⟨tw, dr, pm, C, L, T, Gn, K, N, X, rfl, I⟩ := I0
  refine ⟨_, t_X7_fog I.x I.xK I.K10 I.pm, fun r a b c p => ?_⟩
  obtain ⟨F, rfl, pm', rfl⟩ : (∀ q, 164 ≤ q → a q = hi q) ∧ hl = b ∧ ∃ pm', c = sv_hr tw dr pm' := by
    rcases p with ⟨_, _, rfl, rfl, rfl⟩ | ⟨_, _, _, rfl, rfl, rfl⟩ | ⟨_, _, _, h, e⟩
    · exact ⟨fun _ _ => rfl, rfl, pm, rfl⟩
    · exact ⟨fun _ _ => rfl, rfl, pm, rfl⟩
    · exact ⟨fun q hq => h.off (Or.inr (by omega)), e, by
        obtain ⟨pm', n, _, _, _, _, _, _, _, _, _, _, _, _, _, h⟩ := h
        exact ⟨pm', h.symm⟩⟩
  refine ⟨_, t_X8_fog (I.mF F) (K := K) (by rw [F 169 (by decide)]; exact I.mK) I.K10, fun r2 a2 b2 c2 p2 => ?_⟩
  obtain ⟨h1, pm2, K', h2, h3⟩ := same_fog I p p2
  rw [h2]
  exact ⟨h1, h3.IN⟩
set_option maxRecDepth 20000 in
set_option maxHeartbeats 2000000 in
theorem pr_rugs {l : Launch} {G : svG} {hi : svH} {hl : svL} {hr : svR} (I0 : IN hi hl hr) (x : Int32) : pairI l G yX7_rugs mX7_rugs rX7_rugs yX8_rugs mX8_rugs rX8_rugs [.int x] hi hl hr := by
  obtain ⟨tw, dr, pm, C, L, T, Gn, K, N, X, rfl, I⟩ := I0
  refine ⟨_, t_X7_rugs I.x I.xK I.K10 I.pm, fun r a b c p => ?_⟩
  obtain ⟨F, rfl, pm', rfl⟩ : (∀ q, 164 ≤ q → a q = hi q) ∧ hl = b ∧ ∃ pm', c = sv_hr tw dr pm' := by
    rcases p with ⟨_, _, rfl, rfl, rfl⟩ | ⟨_, _, _, rfl, rfl, rfl⟩ | ⟨_, _, _, h, e⟩
    · exact ⟨fun _ _ => rfl, rfl, pm, rfl⟩
    · exact ⟨fun _ _ => rfl, rfl, pm, rfl⟩
    · exact ⟨fun q hq => h.off (Or.inr (by omega)), e, by
        obtain ⟨pm', n, _, _, _, _, _, _, _, _, _, _, _, _, _, h⟩ := h
        exact ⟨pm', h.symm⟩⟩
  refine ⟨_, t_X8_rugs (I.mF F) (K := K) (by rw [F 169 (by decide)]; exact I.mK) I.K10, fun r2 a2 b2 c2 p2 => ?_⟩
  obtain ⟨h1, pm2, K', h2, h3⟩ := same_rugs I p p2
  rw [h2]
  exact ⟨h1, h3.IN⟩
set_option maxRecDepth 20000 in
set_option maxHeartbeats 2000000 in
theorem pr_undo {l : Launch} {G : svG} {hi : svH} {hl : svL} {hr : svR} (I0 : IN hi hl hr) : pairI l G yX7_undo mX7_undo rX7_undo yX8_undo mX8_undo rX8_undo [] hi hl hr := by
  obtain ⟨tw, dr, pm, C, L, T, Gn, K, N, X, rfl, I⟩ := I0
  refine ⟨_, t_X7_undo I.xK I.K10 I.pm, fun r a b c p => ?_⟩
  obtain ⟨F, rfl, pm', rfl⟩ : (∀ q, 164 ≤ q → a q = hi q) ∧ hl = b ∧ ∃ pm', c = sv_hr tw dr pm' := by
    rcases p with ⟨_, _, rfl, rfl, rfl⟩ | ⟨n, _, _, _, h, _, _, _, _, e, h2⟩
    · exact ⟨fun _ _ => rfl, rfl, pm, rfl⟩
    · exact ⟨fun q hq => h q (by omega) (by omega), e, pm, h2.symm⟩
  refine ⟨_, t_X8_undo (K := K) (by rw [F 169 (by decide)]; exact I.mK) I.K10, fun r2 a2 b2 c2 p2 => ?_⟩
  obtain ⟨h1, pm2, K', h2, h3⟩ := same_undo I p p2
  rw [h2]
  exact ⟨h1, h3.IN⟩
set_option maxRecDepth 20000 in
set_option maxHeartbeats 2000000 in
theorem pr_keep {l : Launch} {G : svG} {hi : svH} {hl : svL} {hr : svR} (I0 : IN hi hl hr) (x : Int32) : pairI l G yX7_keep mX7_keep rX7_keep yX8_keep mX8_keep rX8_keep [.int x] hi hl hr := by
  obtain ⟨tw, dr, pm, C, L, T, Gn, K, N, X, rfl, I⟩ := I0
  refine ⟨_, t_X7_keep I.xK I.K10 I.pm, fun r a b c p => ?_⟩
  obtain ⟨F, rfl, pm', rfl⟩ : (∀ q, 164 ≤ q → a q = hi q) ∧ hl = b ∧ ∃ pm', c = sv_hr tw dr pm' := by
    rcases p with ⟨_, _, rfl, rfl, rfl⟩ | ⟨im, hm, _, _, _, _, _, h, e, h2⟩
    · exact ⟨fun _ _ => rfl, rfl, pm, rfl⟩
    · have := imgOf_cases hm
      exact ⟨fun q hq => h q (by omega), e, pm, h2.symm⟩
  refine ⟨_, t_X8_keep, fun r2 a2 b2 c2 p2 => ?_⟩
  obtain ⟨h1, pm2, K', h2, h3⟩ := same_keep I p p2
  rw [h2]
  exact ⟨h1, h3.IN⟩
set_option maxRecDepth 20000 in
set_option maxHeartbeats 2000000 in
theorem pr_back {l : Launch} {G : svG} {hi : svH} {hl : svL} {hr : svR} (I0 : IN hi hl hr) (x : Int32) : pairI l G yX7_back mX7_back rX7_back yX8_back mX8_back rX8_back [.int x] hi hl hr := by
  obtain ⟨tw, dr, pm, C, L, T, Gn, K, N, X, rfl, I⟩ := I0
  refine ⟨_, t_X7_back I.pm (fun im hm => by
    rcases imgOf_cases hm with rfl | rfl
    · exact I.im0.1
    · exact I.im1.1), fun r a b c p => ?_⟩
  obtain ⟨F, rfl, pm', rfl⟩ : (∀ q, 164 ≤ q → a q = hi q) ∧ hl = b ∧ ∃ pm', c = sv_hr tw dr pm' := by
    rcases p with ⟨_, _, rfl, rfl, rfl⟩ | ⟨im, _, _, _, rfl, rfl, rfl⟩ | ⟨im, hm, _, _, _, _, h, e, h2⟩
    · exact ⟨fun _ _ => rfl, rfl, pm, rfl⟩
    · exact ⟨fun _ _ => rfl, rfl, pm, rfl⟩
    · exact ⟨fun q hq => h q (by omega), e, pm, h2.symm⟩
  refine ⟨_, t_X8_back, fun r2 a2 b2 c2 p2 => ?_⟩
  obtain ⟨h1, pm2, K', h2, h3⟩ := same_back I p p2
  rw [h2]
  exact ⟨h1, h3.IN⟩
set_option maxRecDepth 20000 in
set_option maxHeartbeats 2000000 in
theorem pr_trace {l : Launch} {G : svG} {hi : svH} {hl : svL} {hr : svR} (I0 : IN hi hl hr) : pairW l G yX7_trace mX7_trace rX7_trace yX8_trace mX8_trace rX8_trace [] hi hl hr := by
  obtain ⟨tw, dr, pm, C, L, T, Gn, K, N, X, rfl, I⟩ := I0
  refine ⟨_, t_X7_trace, fun r a b c p => ?_⟩
  obtain ⟨rfl, rfl, rfl, rfl⟩ := p
  refine ⟨_, t_X8_trace, fun r2 a2 b2 c2 p2 => ?_⟩
  obtain ⟨rfl, rfl, rfl, rfl⟩ := p2
  exact ⟨I.trace, I.IN⟩
