/-- the model's cells of a town being told, as the class's: fields, hours, crowds, likes, people, firsts, seconds -/
def mCells (a : svH) : svH := fun i k => match i with
  | 0 => (match k with
    | 0 => a 164 22
    | 1 => a 164 23
    | 2 => a 164 24
    | 3 => a 164 25
    | 4 => a 164 29
    | _ => 0)
  | 1 => a 174 k
  | 2 => a 175 k
  | 3 => a 176 k
  | 4 => a 177 k
  | 5 => a 178 k
  | 6 => a 179 k
  | _ => 0
/-- once wrong, a number is not taken, and nothing moves -/
theorem mTook_wrong {hi a : svH} {s : Nat → Int32} {n p : Nat} {lo hh r : Int32} (h : mTook hi a s n p lo hh r) (hw : hi 164 20 = 1) : r = 0 ∧ a 164 20 = 1 ∧ mLA a s n p := by
  rcases h with h | h
  · rw [hw] at h; exact absurd h.1 (by decide)
  · exact h.2
theorem mTook_ok {hi a : svH} {s : Nat → Int32} {n p : Nat} {lo hh r : Int32} (h : mTook hi a s n p lo hh r) (hw : hi 164 20 = 0) (hn : num s n p lo hh = true) : r = tkV s n p ∧ a 164 20 = 0 ∧ mLA a s n (tkN s n p) := by
  rcases h with h | h
  · exact h.2.2
  · exact absurd ⟨hw, hn⟩ h.1
theorem mTook_no {hi a : svH} {s : Nat → Int32} {n p : Nat} {lo hh r : Int32} (h : mTook hi a s n p lo hh r) (hn : ¬ num s n p lo hh = true) : r = 0 ∧ a 164 20 = 1 ∧ mLA a s n p := by
  rcases h with h | h
  · exact absurd h.2.1 hn
  · exact h.2
