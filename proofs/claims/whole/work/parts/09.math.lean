def bt (x : Int32) (i : Nat) : Bool := x.toBitVec.getLsbD i
theorem b_ext {x y : Int32} (h : ∀ i, i < 32 → bt x i = bt y i) : x = y := Int32.toBitVec_inj.mp (BitVec.eq_of_getLsbD_eq (fun i hi => h i hi))
theorem b_or (x y : Int32) (i : Nat) : bt (x ||| y) i = (bt x i || bt y i) := by unfold bt; rw [Int32.toBitVec_or, BitVec.getLsbD_or]
theorem b_and (x y : Int32) (i : Nat) : bt (x &&& y) i = (bt x i && bt y i) := by unfold bt; rw [Int32.toBitVec_and, BitVec.getLsbD_and]
theorem b_xor (x y : Int32) (i : Nat) : bt (x ^^^ y) i = (bt x i ^^ bt y i) := by unfold bt; rw [Int32.toBitVec_xor, BitVec.getLsbD_xor]
theorem b_big {x : Int32} {i : Nat} (h : 32 ≤ i) : bt x i = false := BitVec.getLsbD_of_ge _ _ h
theorem b_255 (i : Nat) : bt 255 i = decide (i < 8) := by
  rcases Nat.lt_or_ge i 32 with h | h
  · exact (by decide +kernel : ∀ i, i < 32 → bt 255 i = decide (i < 8)) i h
  · rw [b_big h, decide_eq_false (by omega)]
theorem b_65535 (i : Nat) : bt 65535 i = decide (i < 16) := by
  rcases Nat.lt_or_ge i 32 with h | h
  · exact (by decide +kernel : ∀ i, i < 32 → bt 65535 i = decide (i < 16)) i h
  · rw [b_big h, decide_eq_false (by omega)]
theorem b_m1 : ∀ i, i < 32 → bt (-1) i = true := by decide +kernel
theorem b_0 (i : Nat) : bt 0 i = false := BitVec.getLsbD_zero
theorem s_l : ∀ n, n < 32 → ((nI n &&& 31).toBitVec.smod 32).toNat = n := by decide +kernel
theorem s_u : ∀ n, n < 32 → (((nI n).toUInt32 &&& Int32.toUInt32 31).toBitVec % 32).toNat = n := by decide +kernel
theorem b_shl (n : Nat) (hn : n < 32) (x : Int32) {i : Nat} (hi : i < 32) : bt (x <<< (nI n &&& 31)) i = (decide (n ≤ i) && bt x (i - n)) := by
  unfold bt
  rw [Int32.toBitVec_shiftLeft]
  show (x.toBitVec <<< ((nI n &&& 31).toBitVec.smod 32).toNat).getLsbD i = _
  rw [s_l n hn, BitVec.getLsbD_shiftLeft]
  rcases Nat.lt_or_ge i n with h | h
  · simp [h, Nat.not_le.mpr h]
  · simp [hi, h, Nat.not_lt.mpr h]
theorem b_ushr (n : Nat) (hn : n < 32) (x : Int32) (i : Nat) : bt ((x.toUInt32 >>> ((nI n).toUInt32 &&& Int32.toUInt32 31)).toInt32) i = bt x (n + i) := by
  show (x.toUInt32 >>> ((nI n).toUInt32 &&& Int32.toUInt32 31)).toBitVec.getLsbD i = x.toUInt32.toBitVec.getLsbD (n + i)
  rw [UInt32.toBitVec_shiftRight]
  show (x.toUInt32.toBitVec >>> (((nI n).toUInt32 &&& Int32.toUInt32 31).toBitVec % 32).toNat).getLsbD i = _
  rw [s_u n hn, BitVec.getLsbD_ushiftRight]
theorem b_sshr (n : Nat) (hn : n < 32) (x : Int32) {i : Nat} (hi : i < 32) : bt (x >>> (nI n &&& 31)) i = if n + i < 32 then bt x (n + i) else bt x 31 := by
  unfold bt
  rw [Int32.toBitVec_shiftRight]
  show (x.toBitVec.sshiftRight ((nI n &&& 31).toBitVec.smod 32).toNat).getLsbD i = _
  rw [s_l n hn, BitVec.getLsbD_sshiftRight, BitVec.msb_eq_getLsbD_last]
  simp [hi]
theorem b_1 (i : Nat) : bt 1 i = decide (i = 0) := by
  unfold bt
  show (1#32).getLsbD i = _
  rw [BitVec.getLsbD_one]
  by_cases h : i = 0 <;> simp [h]
theorem hb_shr (x : Int32) {k : Nat} (hk : k < 32) : x >>> (nI k &&& 31) &&& 1 = sv_b (bt x k = true) := by
  apply b_ext
  intro i hi
  rw [b_and, b_sshr k hk x hi, b_1]
  by_cases h0 : i = 0
  · subst h0
    rw [if_pos (by omega)]
    by_cases hx : bt x k = true
    · rw [sv_b_t hx, b_1]; simp [hx]
    · rw [sv_b_f hx, b_0]; simp [hx]
  · by_cases hx : bt x k = true
    · rw [sv_b_t hx, b_1]; simp [h0]
    · rw [sv_b_f hx, b_0]; simp [h0]
theorem hb_set (x : Int32) {t : Nat} (ht : t < 32) {i : Nat} (hi : i < 32) : bt (x ||| (1 <<< (nI t &&& 31))) i = (bt x i || decide (i = t)) := by
  rw [b_or, b_shl t ht 1 hi, b_1]
  by_cases h : i = t
  · subst h; simp
  · by_cases h2 : t ≤ i
    · have : ¬ i - t = 0 := by omega
      simp [h, this]
    · simp [h, h2]
theorem hb_not (x : Int32) {i : Nat} (hi : i < 32) : bt (x ^^^ (-1)) i = !(bt x i) := by
  rw [b_xor, b_m1 i hi]
  simp
theorem sv_bit_n (x : Int32) {k : Nat} (hk : k < 32) : sv_bit x (nI k) = sv_b (bt x k = true) := by
  unfold sv_bit
  rw [if_pos ⟨nI_pos' (by omega), by rw [show (32 : Int32) = nI 32 from rfl]; exact nI_lt hk (by decide)⟩, hb_shr x hk]
theorem sv_b_1 {c : Prop} [Decidable c] : sv_b c = 1 ↔ c := by
  by_cases h : c
  · rw [sv_b_t h]; exact ⟨fun _ => h, fun _ => rfl⟩
  · rw [sv_b_f h]; exact ⟨fun z => absurd z (by decide), fun z => absurd z h⟩
theorem hb_nat {s k : Nat} (hs : s < 2 ^ 32) : bt (nI s) k = s.testBit k := by
  show (BitVec.ofNat 32 s).getLsbD k = _
  rw [BitVec.getLsbD_ofNat]
  by_cases h : k < 32
  · simp [h]
  · have : s.testBit k = false := Nat.testBit_lt_two_pow (Nat.lt_of_lt_of_le hs (Nat.pow_le_pow_right (by decide) (by omega)))
    simp [h, this]
/-- upward induction within a bound -/
theorem sv_up {T : Nat} {P : Nat → Prop} (h : ∀ t, t ≤ T → (∀ t', t < t' → t' ≤ T → P t') → P t) : ∀ t, t ≤ T → P t := by
  have key : ∀ n t, T - t ≤ n → t ≤ T → P t := by
    intro n
    induction n with
    | zero => exact fun t h1 h2 => h t h2 (fun t' h3 h4 => by omega)
    | succ n ih => exact fun t h1 h2 => h t h2 (fun t' h3 h4 => ih t' (by omega) h4)
  exact fun t ht => key (T - t) t (Nat.le_refl _) ht
/-! what the town counts, as both programs count it -/
def mOpen (stopped hour : Int32) (hours : Nat → Int32) : Nat → Int32
  | 0 => 0
  | t + 1 => if bt stopped t = true ∨ hours t < hour then mOpen stopped hour hours t else mOpen stopped hour hours t ||| (1 <<< (nI t &&& 31))
def mFor (likes : Nat → Int32) (c : Int32) : Nat → Int32
  | 0 => 0
  | t + 1 => if ¬ likes t = c then mFor likes c t else mFor likes c t ||| (1 <<< (nI t &&& 31))
def mTo (canv by' : Int32) (likes : Nat → Int32) (t : Nat) : Nat := (if bt canv t = true then by' else likes t).toNatClampNeg
def mCast (votes crowds likes : Nat → Int32) (stops canv by' : Int32) : Nat → Nat → Int32
  | 0 => votes
  | t + 1 => if bt stops t = true then upd (mCast votes crowds likes stops canv by' t) (mTo canv by' likes t) (mCast votes crowds likes stops canv by' t (mTo canv by' likes t) + crowds t) else mCast votes crowds likes stops canv by' t
/-- of those of whom p holds, below n, the one with most, of like ones the first -/
def mBest (p : Nat → Bool) (f : Nat → Int32) : Nat → Option Nat
  | 0 => none
  | n + 1 => match mBest p f n with
    | none => if p n = true then some n else none
    | some b => if p n = true ∧ ¬ f n ≤ f b then some n else some b
def mLeft (C : Nat) (f : Nat → Int32) : Nat → Int32
  | 0 => 0
  | k + 1 => mLeft C f k ||| (1 <<< (nI ((mBest (fun c => !(bt (mLeft C f k) c)) f C).getD 0) &&& 31))
def mLow (m : Int32) : Nat := if bt m 0 = true then 0 else if bt m 1 = true then 1 else if bt m 2 = true then 2 else if bt m 3 = true then 3 else if bt m 4 = true then 4 else 5
def mChoice (left first second : Int32) : Nat := if bt left first.toNatClampNeg = true then first.toNatClampNeg else if bt left second.toNatClampNeg = true then second.toNatClampNeg else mLow left
def mBack (people firsts seconds : Nat → Int32) (rugs left : Int32) : Nat → Nat → Int32
  | 0 => fun _ => 0
  | r + 1 => if bt rugs r = true then mBack people firsts seconds rugs left r else upd (mBack people firsts seconds rugs left r) (mChoice left (firsts r) (seconds r)) (mBack people firsts seconds rugs left r (mChoice left (firsts r) (seconds r)) + people r)
def mWin (C G : Nat) (people firsts seconds : Nat → Int32) (rugs : Int32) (f : Nat → Int32) (many : Nat) : Nat :=
  (mBest (fun c => bt (mLeft C f many) c) (mBack people firsts seconds rugs (mLeft C f many) G) C).getD 0
theorem mBest_lt {p : Nat → Bool} {f : Nat → Int32} : ∀ {n b : Nat}, mBest p f n = some b → b < n ∧ p b = true := by
  intro n
  induction n with
  | zero => intro b h; cases h
  | succ n ih =>
    intro b h
    unfold mBest at h
    cases hb : mBest p f n with
    | none =>
      rw [hb] at h
      simp only at h
      by_cases hp : p n = true
      · rw [if_pos hp] at h; cases h; exact ⟨by omega, hp⟩
      · rw [if_neg hp] at h; cases h
    | some c =>
      rw [hb] at h
      simp only at h
      by_cases hp : p n = true ∧ ¬ f n ≤ f c
      · rw [if_pos hp] at h; cases h; exact ⟨by omega, hp.1⟩
      · rw [if_neg hp] at h; cases h
        have := ih hb
        exact ⟨by omega, this.2⟩
theorem mBest_none {p : Nat → Bool} {f : Nat → Int32} : ∀ {n : Nat}, mBest p f n = none → ∀ c, c < n → p c = false := by
  intro n
  induction n with
  | zero => intro _ c h; omega
  | succ n ih =>
    intro h c hc
    unfold mBest at h
    cases hb : mBest p f n with
    | none =>
      rw [hb] at h
      simp only at h
      by_cases hp : p n = true
      · rw [if_pos hp] at h; cases h
      · by_cases e : c = n
        · subst e; simpa using hp
        · exact ih hb c (by omega)
    | some b =>
      rw [hb] at h
      simp only at h
      split at h <;> cases h
theorem mBest_congr {p q : Nat → Bool} {f g : Nat → Int32} : ∀ {n : Nat}, (∀ c, c < n → p c = q c) → (∀ c, c < n → f c = g c) → mBest p f n = mBest q g n := by
  intro n
  induction n with
  | zero => intro _ _; rfl
  | succ n ih =>
    intro h1 h2
    have e := ih (fun c hc => h1 c (by omega)) (fun c hc => h2 c (by omega))
    unfold mBest
    rw [e]
    cases hb : mBest q g n with
    | none => simp only [h1 n (by omega)]
    | some b =>
      have := (mBest_lt hb).1
      simp only [h1 n (by omega), h2 n (by omega), h2 b (by omega)]
theorem mBest_more {p : Nat → Bool} {f : Nat → Int32} {n : Nat} : ∀ {m : Nat}, n ≤ m → (∀ c, n ≤ c → c < m → p c = false) → mBest p f m = mBest p f n := by
  intro m
  induction m with
  | zero => intro h _; rw [show n = 0 by omega]
  | succ m ih =>
    intro h hp
    by_cases e : n = m + 1
    · rw [e]
    · have h1 := ih (by omega) (fun c h1 h2 => hp c h1 (by omega))
      have h2 := hp m (by omega) (by omega)
      have : mBest p f (m + 1) = mBest p f m := by
        rw [mBest]
        cases mBest p f m <;> simp [h2]
      rw [this, h1]

