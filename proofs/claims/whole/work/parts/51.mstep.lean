theorem svI_w {l : Launch} {G : svG} {y : MethodName} {M : svM} {rm : Room} {args : List Value} {hi : svH} {hl : svL} {hr : svR} {P P' : Int32 → svH → svL → svR → Prop} (h : svI l G y M rm args hi hl hr P) (hp : ∀ r a b c, P r a b c → P' r a b c) : svI l G y M rm args hi hl hr P' := svT.weaken h (fun v sh a b c z => z.elim fun r q => ⟨r, q.1, q.2.1, hp r a b c q.2.2⟩)
theorem svV_w {l : Launch} {G : svG} {y : MethodName} {M : svM} {rm : Room} {args : List Value} {hi : svH} {hl : svL} {hr : svR} {P P' : svH → svL → svR → Prop} (h : svV l G y M rm args hi hl hr P) (hp : ∀ a b c, P a b c → P' a b c) : svV l G y M rm args hi hl hr P' := svT.weaken h (fun v sh a b c z => ⟨z.1, z.2.1, hp a b c z.2.2⟩)
/-- what a number leaves: whether it went wrong, the place of the token; the number -/
def mStep (s : Nat → Int32) (n : Nat) (lo hh : Int32) (x : Bool × Nat) : Bool × Nat := if x.1 = false ∧ num s n x.2 lo hh = true then (false, tkN s n x.2) else (true, x.2)
def mNum (s : Nat → Int32) (n : Nat) (lo hh : Int32) (x : Bool × Nat) : Int32 := if x.1 = false ∧ num s n x.2 lo hh = true then tkV s n x.2 else 0
def mSt (a : svH) (s : Nat → Int32) (n : Nat) (x : Bool × Nat) : Prop := a 173 = s ∧ a 164 15 = nI n ∧ x.2 ≤ n ∧ mLA a s n x.2 ∧ a 164 20 = (if x.1 = true then 1 else 0)
theorem mStep_t {s : Nat → Int32} {n p : Nat} {lo hh : Int32} : mStep s n lo hh (true, p) = (true, p) := if_neg (fun z => absurd (show true = false from z.1) (by decide))
theorem mStep_n {s : Nat → Int32} {n p : Nat} {lo hh : Int32} {b : Bool} (h : ¬ num s n p lo hh = true) : mStep s n lo hh (b, p) = (true, p) := if_neg (fun z => h z.2)
theorem mStep_y {s : Nat → Int32} {n p : Nat} {lo hh : Int32} (h : num s n p lo hh = true) : mStep s n lo hh (false, p) = (false, tkN s n p) := if_pos ⟨rfl, h⟩
theorem mNum_y {s : Nat → Int32} {n p : Nat} {lo hh : Int32} (h : num s n p lo hh = true) : mNum s n lo hh (false, p) = tkV s n p := if_pos ⟨rfl, h⟩
theorem u2x {α : Type} {f : Nat → Nat → α} {i k q j : Nat} {v : α} (h : ¬ (q = i ∧ j = k)) : sv_u2 f i k v q j = f q j := if_neg h
theorem mSt.off {a : svH} {s : Nat → Int32} {n : Nat} {x : Bool × Nat} (h : mSt a s n x) {q k : Nat} {v : Int32} (hq : q ≠ 173) (hk : q = 164 → 20 < k) : mSt (sv_u2 a q k v) s n x := by
  obtain ⟨h1, h2, h3, ⟨g1, g2, g3, g4⟩, h5⟩ := h
  have e : ∀ j, j ≤ 20 → sv_u2 a q k v 164 j = a 164 j := fun j hj => u2x (fun z => by have := hk z.1.symm; omega)
  refine ⟨by rw [sv_u2_off (Ne.symm hq)]; exact h1, by rw [e 15 (by decide)]; exact h2, h3, ⟨by rw [e 16 (by decide)]; exact g1, by rw [e 17 (by decide)]; exact g2, by rw [e 18 (by decide)]; exact g3, fun z => by rw [e 19 (by decide)]; exact g4 z⟩, by rw [e 20 (by decide)]; exact h5⟩
theorem mSt.flag {a : svH} {s : Nat → Int32} {n : Nat} {x : Bool × Nat} (h : mSt a s n x) (b : Bool) : mSt (sv_u2 a 164 20 (if b = true then 1 else 0)) s n (b, x.2) := by
  obtain ⟨h1, h2, h3, ⟨g1, g2, g3, g4⟩, h5⟩ := h
  have e : ∀ j, j < 20 → sv_u2 a 164 20 (if b = true then 1 else 0) 164 j = a 164 j := fun j hj => u2x (fun z => by omega)
  refine ⟨by rw [sv_u2_off (by decide)]; exact h1, by rw [e 15 (by decide)]; exact h2, h3, ⟨by rw [e 16 (by decide)]; exact g1, by rw [e 17 (by decide)]; exact g2, by rw [e 18 (by decide)]; exact g3, fun z => by rw [e 19 (by decide)]; exact g4 z⟩, sv_u2_at⟩
theorem t_tk {l : Launch} {G : svG} {hi : svH} {hl : svL} {tw dr : Nat} {pm : Nat → Nat} {s : Nat → Int32} {n : Nat} (hn2 : n ≤ 120) (hb : ∀ i, i < n → ∃ k, k < 256 ∧ s i = nI k) {x : Bool × Nat} (hS : mSt hi s n x) {lo hh : Int32} : svI l G yX8_takesNumber mX8_takesNumber rX8_takesNumber [sv_rf G.1 164, .int lo, .int hh] hi hl (sv_hr tw dr pm) (fun r a b c => mFr hi a ∧ mSt a s n (mStep s n lo hh x) ∧ mNum s n lo hh x = r ∧ hl = b ∧ sv_hr tw dr pm = c) := by
  obtain ⟨rfl, h2, h3, h4, h5⟩ := hS
  refine svI_w (t_X8_takesNumber hn2 h2 hb h3 h4) (fun r a b c z => ?_)
  obtain ⟨z1, z2, z3, z4⟩ := z
  have f : a 173 = hi 173 := z1.1 173 (by decide)
  have f2 : a 164 15 = nI n := by rw [z1.2 15 (by decide)]; exact h2
  refine ⟨z1, ?_, ?_, z3, z4⟩
  · obtain ⟨x1, x2⟩ := x
    rcases z2 with ⟨k1, k2, k3, k4, k5⟩ | ⟨k1, k2, k3, k4⟩
    · have ex : x1 = false := by
        cases x1
        · rfl
        · exact absurd (show (1 : Int32) = 0 from h5.symm.trans k1) (by decide)
      subst ex
      rw [mStep_y k2]
      exact ⟨f, f2, (tk_le h3).2.2, k5, k4⟩
    · have ex : mStep (hi 173) n lo hh (x1, x2) = (true, x2) := by
        refine if_neg (fun q => k1 ⟨?_, q.2⟩)
        rw [h5, q.1]; rfl
      rw [ex]
      exact ⟨f, f2, h3, k4, k3⟩
  · obtain ⟨x1, x2⟩ := x
    rcases z2 with ⟨k1, k2, k3, k4, k5⟩ | ⟨k1, k2, k3, k4⟩
    · have ex : x1 = false := by
        cases x1
        · rfl
        · exact absurd (show (1 : Int32) = 0 from h5.symm.trans k1) (by decide)
      subst ex
      rw [mNum_y k2, k3]
    · rw [k2]
      refine if_neg (fun q => k1 ⟨?_, q.2⟩)
      rw [h5, q.1]; rfl
/-- the parts of a text apart from the stop at their end -/
def bdChoice (s : Nat → Int32) (n : Nat) (D : svH) (p : Nat) : Nat ⊕ (svH × Nat) :=
  if num s n p 2 6 = true then
    (if num s n (tkN s n p) 1 (tkV s n p) = true then
      (if num s n (tkN s n (tkN s n p)) 0 20 = true then
        .inr (sv_u2 (sv_u2 (sv_u2 D 0 0 (tkV s n p)) 0 1 (tkV s n (tkN s n p))) 0 2 (tkV s n (tkN s n (tkN s n p))), tkN s n (tkN s n (tkN s n p)))
      else .inl (tkS s n (tkN s n (tkN s n p))))
    else .inl (tkS s n (tkN s n p)))
  else .inl (tkS s n p)
def bdTrain (s : Nat → Int32) (n : Nat) (D : svH) (p : Nat) : Nat ⊕ (svH × Nat) :=
  if num s n p 0 23 = true then
    (if num s n (tkN s n p) 1 30 = true then
      (if num s n (tkN s n (tkN s n p)) 0 (D 0 0 - 1) = true then
        .inr (addT D (D 0 3).toNatClampNeg (tkV s n p) (tkV s n (tkN s n p)) (tkV s n (tkN s n (tkN s n p))), tkN s n (tkN s n (tkN s n p)))
      else .inl (tkS s n (tkN s n (tkN s n p))))
    else .inl (tkS s n (tkN s n p)))
  else .inl (tkS s n p)
def bdGroup (s : Nat → Int32) (n : Nat) (D : svH) (p : Nat) : Nat ⊕ (svH × Nat) :=
  if num s n p 1 30 = true then
    (if num s n (tkN s n p) 0 (D 0 0 - 1) = true then
      (if num s n (tkN s n (tkN s n p)) 0 (D 0 0 - 1) = true ∧ ¬ tkV s n (tkN s n (tkN s n p)) = tkV s n (tkN s n p) then
        .inr (addG D (D 0 4).toNatClampNeg (tkV s n p) (tkV s n (tkN s n p)) (tkV s n (tkN s n (tkN s n p))), tkN s n (tkN s n (tkN s n p)))
      else .inl (tkS s n (tkN s n (tkN s n p))))
    else .inl (tkS s n (tkN s n p)))
  else .inl (tkS s n p)
def thn (s : Nat → Int32) (n : Nat) (R : Nat ⊕ (svH × Nat)) : Nat ⊕ (svH × Nat) := match R with
  | .inl f => .inl f
  | .inr (D, p) => rdStop s n D p
theorem rdChoice_bd (s : Nat → Int32) (n : Nat) (D : svH) (p : Nat) : rdChoice s n D p = thn s n (bdChoice s n D p) := by
  unfold rdChoice bdChoice
  split
  · split
    · split <;> rfl
    · rfl
  · rfl
theorem rdTrain_bd (s : Nat → Int32) (n : Nat) (D : svH) (p : Nat) : rdTrain s n D p = thn s n (bdTrain s n D p) := by
  unfold rdTrain bdTrain
  split
  · split
    · split <;> rfl
    · rfl
  · rfl
theorem rdGroup_bd (s : Nat → Int32) (n : Nat) (D : svH) (p : Nat) : rdGroup s n D p = thn s n (bdGroup s n D p) := by
  unfold rdGroup bdGroup
  split
  · split
    · split <;> rfl
    · rfl
  · rfl
def mBody (a : svH) (s : Nat → Int32) (n : Nat) (R : Nat ⊕ (svH × Nat)) : Prop := match R with
  | .inl f => a 164 20 = 1 ∧ a 164 17 = nI f
  | .inr (D', p') => mSt a s n (false, p') ∧ dRel D' (mCells a)
theorem mBody_w {a : svH} {s : Nat → Int32} {n p : Nat} (h : mSt a s n (true, p)) : mBody a s n (.inl (tkS s n p)) := ⟨h.2.2.2.2, h.2.2.2.1.2.1⟩
/-- what reading changes of the model -/
def mFrT (hi a : svH) : Prop := (∀ q, q ≠ 164 → q < 174 ∨ 179 < q → a q = hi q) ∧ ∀ k, k < 16 ∨ k = 21 ∨ 29 < k → a 164 k = hi 164 k
theorem mFrT.trans {a b c : svH} (h1 : mFrT a b) (h2 : mFrT b c) : mFrT a c := ⟨fun q g1 g2 => (h2.1 q g1 g2).trans (h1.1 q g1 g2), fun k g => (h2.2 k g).trans (h1.2 k g)⟩
theorem mFrT.rf (a : svH) : mFrT a a := ⟨fun _ _ _ => rfl, fun _ _ => rfl⟩
theorem mFr.T {a b : svH} (h : mFr a b) : mFrT a b := ⟨fun q g _ => h.1 q g, fun k g => h.2 k (by omega)⟩
theorem mFrT.u2 {a b : svH} (h : mFrT a b) {q k : Nat} {v : Int32} (hq : (q = 164 ∧ 16 ≤ k ∧ k ≠ 21 ∧ k ≤ 29) ∨ (174 ≤ q ∧ q ≤ 179)) : mFrT a (sv_u2 b q k v) := ⟨fun z g1 g2 => by rw [sv_u2_off (by omega)]; exact h.1 z g1 g2, fun j g => by rw [u2x (by omega)]; exact h.2 j g⟩
theorem mCells_e {a b : svH} (h : ∀ k, k = 22 ∨ k = 23 ∨ k = 24 ∨ k = 25 ∨ k = 29 → a 164 k = b 164 k) (h2 : ∀ q, 174 ≤ q → q ≤ 179 → a q = b q) : mCells a = mCells b := by
  funext i k
  rcases (show i = 0 ∨ i = 1 ∨ i = 2 ∨ i = 3 ∨ i = 4 ∨ i = 5 ∨ i = 6 ∨ 7 ≤ i by omega) with rfl | rfl | rfl | rfl | rfl | rfl | rfl | hi7
  · rcases (show k = 0 ∨ k = 1 ∨ k = 2 ∨ k = 3 ∨ k = 4 ∨ 5 ≤ k by omega) with rfl | rfl | rfl | rfl | rfl | hk
    · exact h 22 (by omega)
    · exact h 23 (by omega)
    · exact h 24 (by omega)
    · exact h 25 (by omega)
    · exact h 29 (by omega)
    · obtain ⟨j, rfl⟩ : ∃ j, k = j + 5 := ⟨k - 5, by omega⟩
      rfl
  · exact congrFun (h2 174 (by decide) (by decide)) k
  · exact congrFun (h2 175 (by decide) (by decide)) k
  · exact congrFun (h2 176 (by decide) (by decide)) k
  · exact congrFun (h2 177 (by decide) (by decide)) k
  · exact congrFun (h2 178 (by decide) (by decide)) k
  · exact congrFun (h2 179 (by decide) (by decide)) k
  · obtain ⟨j, rfl⟩ : ∃ j, i = j + 7 := ⟨i - 7, by omega⟩
    rfl
/-- a number put into a cell of a town being told -/
def mAt (i k : Nat) : Nat × Nat := match i with
  | 0 => (164, match k with
    | 0 => 22
    | 1 => 23
    | 2 => 24
    | 3 => 25
    | _ => 29)
  | _ => (173 + i, k)
theorem mCells_u2 {a : svH} {i k : Nat} {v : Int32} (hi : i < 7) (hk : i = 0 → k < 5) : mCells (sv_u2 a (mAt i k).1 (mAt i k).2 v) = sv_u2 (mCells a) i k v := by
  funext j m
  by_cases hj : 7 ≤ j
  · obtain ⟨j, rfl⟩ : ∃ z, j = z + 7 := ⟨j - 7, by omega⟩
    rw [u2x (by omega)]; rfl
  by_cases hm : j = 0 ∧ 5 ≤ m
  · obtain ⟨rfl, hm⟩ := hm
    obtain ⟨m, rfl⟩ : ∃ z, m = z + 5 := ⟨m - 5, by omega⟩
    rw [u2x (by omega)]; rfl
  have key : ∀ b : svH, mCells b j m = b (mAt j m).1 (mAt j m).2 := fun b => by
    rcases (show j = 0 ∨ j = 1 ∨ j = 2 ∨ j = 3 ∨ j = 4 ∨ j = 5 ∨ j = 6 by omega) with rfl | rfl | rfl | rfl | rfl | rfl | rfl
    · rcases (show m = 0 ∨ m = 1 ∨ m = 2 ∨ m = 3 ∨ m = 4 by omega) with rfl | rfl | rfl | rfl | rfl <;> rfl
    all_goals rfl
  have inj : ((mAt j m).1 = (mAt i k).1 ∧ (mAt j m).2 = (mAt i k).2) ↔ (j = i ∧ m = k) := by
    constructor
    · intro z
      have a1 : ∀ j m, (mAt j m).1 = if j = 0 then 164 else 173 + j := fun j m => by
        cases j with
        | zero => rfl
        | succ j => rw [if_neg (by omega)]; rfl
      have a2 : ∀ j m, j ≠ 0 → (mAt j m).2 = m := fun j m h => by
        cases j with
        | zero => exact absurd rfl h
        | succ j => rfl
      have hji : j = i := by
        have h1 := z.1
        rw [a1, a1] at h1
        split at h1 <;> split at h1 <;> omega
      subst hji
      refine ⟨rfl, ?_⟩
      by_cases h0 : j = 0
      · subst h0
        have hk5 := hk rfl
        have h2 := z.2
        rcases (show m = 0 ∨ m = 1 ∨ m = 2 ∨ m = 3 ∨ m = 4 by omega) with rfl | rfl | rfl | rfl | rfl <;> rcases (show k = 0 ∨ k = 1 ∨ k = 2 ∨ k = 3 ∨ k = 4 by omega) with rfl | rfl | rfl | rfl | rfl <;> first | rfl | exact absurd h2 (by decide)
      · have h2 := z.2
        rw [a2 _ _ h0, a2 _ _ h0] at h2
        exact h2
    · rintro ⟨rfl, rfl⟩
      exact ⟨rfl, rfl⟩
  rw [key]
  show (if _ then v else _) = (if _ then v else _)
  by_cases h : j = i ∧ m = k
  · rw [if_pos (inj.mpr h), if_pos h]
  · rw [if_neg (fun z => h (inj.mp z)), if_neg h, key]
