abbrev svH : Type := Nat → Nat → Int32
abbrev svL : Type := Nat → Nat → Int64
abbrev svR : Type := Nat → Nat → Option Nat
abbrev svS : Type := List (Nat × Nat)
abbrev svG : Type := Nat × va_G × (Nat → ClassId)
abbrev svM : Type := String × ByteArray × Nat × Option FieldType × String
abbrev svF : Type := Program → Env → State → MethodId → Array Value → List Frame → Method → Code → State → Prop
abbrev svQ : Type := Option Value → svS → svH → svL → svR → Prop
/-- a cell's address as a value -/
def sv_rf (b j : Nat) : Value := .ref (b + j)
def sv_rv (b : Nat) (r : Option Nat) : Value := va_rf (r.map (fun j => b + j))
theorem sv_rv_some {b j : Nat} {r : Option Nat} (h : r = some j) : sv_rv b r = sv_rf b j := by subst h; rfl
theorem sv_rv_none {b : Nat} {r : Option Nat} (h : r = none) : sv_rv b r = .null := by subst h; rfl
/-- kinds of a class's fields: 0 an int, 1 a long, 2 a reference -/
def sv_fk (ci : Nat) : List Nat := match ci with
  | 0 => [2, 2]
  | 1 => [0, 0, 2, 2, 2]
  | 2 => [0, 2, 2]
  | 3 => [0, 0, 0, 0, 0, 2, 2, 2]
  | 4 => [0, 2]
  | 5 => [0, 2, 0, 0, 0, 0]
  | 6 => [0, 0, 0, 0, 0, 2, 2, 2, 2, 2, 2]
  | 7 => [2, 2, 2, 2, 2, 2, 2, 2, 2, 1]
  | _ => [0, 0, 0, 2, 0, 2, 2, 2, 2, 2, 2, 0, 2, 1, 2, 0, 0, 0, 0, 0, 0, 0, 0, 0, 0, 0, 2, 2, 2, 0, 2, 2, 2, 2, 2]
def sv_fv (b t i k : Nat) (hi : svH) (hl : svL) (hr : svR) : Value := match t with
  | 0 => .int (hi i k)
  | 1 => .long (hl i k)
  | _ => sv_rv b (hr i k)
def sv_fs (b ci i : Nat) (hi : svH) (hl : svL) (hr : svR) : List Value := (List.range (sv_fk ci).length).map (fun k => sv_fv b ((sv_fk ci).getD k 0) i k hi hl hr)
/-- what a cell is: kind 0 an object of the class q.2; 1 ints, 2 chars, 3 booleans, 4 references: a row of q.2 of them -/
def sv_ce (G : svG) (q : Nat × Nat) (i : Nat) (hi : svH) (hl : svL) (hr : svR) : va_E := match q.1 with
  | 0 => .inr (q.2, sv_fs G.1 q.2 i hi hl hr)
  | 1 => .inl (G.2.2 0, q.2, .inl (hi i))
  | 2 => .inl (G.2.2 1, q.2, .inl (hi i))
  | 3 => .inl (G.2.2 2, q.2, .inl (hi i))
  | _ => .inl (G.2.2 3, q.2, .inr (.inr (.inr (.inr (fun k => (hr i k).map (fun j => G.1 + j))))))
def sv_ws (G : svG) (sh : svS) (hi : svH) (hl : svL) (hr : svR) : va_W := (List.range sh.length).map (fun i => (G.1 + i, sv_ce G (sh.getD i (0, 0)) i hi hl hr))
def sv_tys (G : svG) : List (ClassId × FieldType) := [(G.2.2 0, .int), (G.2.2 1, .char), (G.2.2 2, .boolean), (G.2.2 3, .object RX3)]
def sv_A (G : svG) : Nat → Prop := fun q => G.1 ≤ q
def sv_u2 {α : Type} (f : Nat → Nat → α) (i k : Nat) (v : α) : Nat → Nat → α := fun a b => if a = i ∧ b = k then v else f a b
def sv_tbl : List Cond := lw_tbl.filter goodWord
theorem sv_in {w : Cond} (i : Nat) (h : lw_tbl[i]? = some w) (g : goodWord w = true) : w ∈ sv_tbl := List.mem_filter.mpr ⟨List.mem_of_getElem? h, g⟩
theorem sv_good : ∀ w ∈ sv_tbl, (w.onTables && w.keeps) = true ∨ ∃ ty, w = .arrayClass ty := fun w h => good_of_word (List.mem_filter.mp h).2
def sv_isNest : Cond → Bool
  | .methodLinkNest _ _ _ _ => true
  | _ => false
def sv_nest : List Cond := lw_tbl.filter sv_isNest
theorem sv_nest_in {w : Cond} (i : Nat) (h : lw_tbl[i]? = some w) (g : sv_isNest w = true) : w ∈ sv_nest := List.mem_filter.mpr ⟨List.mem_of_getElem? h, g⟩
/-- the tables: what stays known of them at every state that is warmer -/
def sv_KN (G : svG) (U : State) : Prop := va_K G.2.1 vwCl (sv_tys G) U ∧ (∀ w ∈ sv_nest, va_Nw w U) ∧ va_AO RX3 U
theorem sv_KN.warm {G : svG} {s U : State} (hW : s.WarmedH U.vm) (h : sv_KN G s) : sv_KN G U := by
  refine ⟨va_K.moved hW.alike h.1, fun w hw => ?_, va_AO.moved hW.alike h.2.2⟩
  have h1 := h.2.1 w hw
  have h2 := (List.mem_filter.mp hw).2
  cases w <;> first | exact va_Nw.warmM hW h1 | exact Bool.noConfusion h2
theorem sv_KN.same {G : svG} {u U : State} (hvm : u.vm = U.vm) (h : sv_KN G u) : sv_KN G U := by
  refine ⟨va_K.moved (by rw [hvm]; exact Vm.Alike.refl _) h.1, fun w hw => ?_, va_AO.moved (by rw [hvm]; exact Vm.Alike.refl _) h.2.2⟩
  have h1 := h.2.1 w hw
  have h2 := (List.mem_filter.mp hw).2
  cases w <;> first | exact va_Nw.same rfl hvm h1 | exact Bool.noConfusion h2
def sv_FX (G : svG) (M : svM) (p : Program) (s : State) (m : MethodId) (args : Array Value) (meth : Method) (c : Code) : Prop :=
  p.tables.exec = Jvm.exec ∧ c.code = M.2.1 ∧ c.maxLocals = M.2.2.1 ∧ s.vm.findClass M.1 = some m.cls ∧ (∀ w ∈ sv_tbl, w.before args s = true) ∧ meth.sig.returnType = M.2.2.2.1 ∧ meth.locks = false ∧ meth.name = M.2.2.2.2 ∧ sv_KN G s ∧ G.1 ≤ s.heap.size
def sv_Sm (G : svG) (sh : svS) (hi : svH) (hl : svL) (hr : svR) (H : Heap) : Prop := va_P G.2.1 vwCl (sv_ws G sh hi hl hr) H
def sv_LsOk (nL : Nat) (ls : List (Option Value)) (a : Array Slot) : Prop := a.size = nL ∧ lv_wf a ∧ ∀ (i : Nat) (v : Value), ls[i]? = some (some v) → a[i]? = some (.val v) ∧ v.category = 1
/-- THE JUDGEMENT: from the instruction at pc, with these locals, stack and whole heap, the machine comes to a state with F -/
def svJ (l : Launch) (G : svG) (R : Room) (M : svM) (F : svF) (cs sl pc : Nat) (ls : List (Option Value)) (st : List Value) (sh : svS) (hi : svH) (hl : svL) (hr : svR) : Prop :=
  ∀ (p : Program) (e : Env) (s : State) (m : MethodId) (args : Array Value) (below : List Frame) (meth : Method) (c : Code), sv_FX G M p s m args meth c → s.heap.size + cs = G.1 + sh.length →
    ∀ (H : Heap) (locs : List Loc) (a : Array Slot), sv_Sm G sh hi hl hr H → va_S (sv_A G) s.heap H locs → sv_LsOk M.2.2.1 ls a →
      W p l e R s m args below meth c H locs cs sl (F p e s m args below meth c) (F0 m pc a st)
def sv_Qp (G : svG) (post : svQ) (mc : Nat) : Array Value → State → Outcome → State → Prop := fun _ st oc t =>
  (∃ (v : Option Value) (sh : svS) (hi : svH) (hl : svL) (hr : svR), oc = .returned v ∧ post v sh hi hl hr ∧ sv_Sm G sh hi hl hr t.heap ∧ t.heap.size = G.1 + sh.length ∧ st.heap.size + mc = t.heap.size) ∧ va_F (sv_A G) st t
def sv_Fm (G : svG) (post : svQ) (cs sl : Nat) : svF := fun _ _ s _ args below _ _ => MQ below (sv_Qp G post cs) args s cs sl (sv_A G)
/-- a method's contract -/
def svT (l : Launch) (G : svG) (y : MethodName) (M : svM) (rm : Room) (mc ms : Nat) (args : List Value) (sh : svS) (hi : svH) (hl : svL) (hr : svR) (post : svQ) : Prop :=
  Met l y (.code y M.2.1 M.2.2.1 M.2.2.2.1 :: sv_tbl) rm (va_Pc args (fun U => sv_Sm G sh hi hl hr U.heap ∧ U.heap.size = G.1 + sh.length ∧ sv_KN G U)) (sv_Qp G post mc) mc ms (sv_A G)
section SvHeap
variable {G : svG} {sh : svS} {hi hi' : svH} {hl hl' : svL} {hr hr' : svR}
theorem sv_ws_get {i : Nat} {q : Nat × Nat} (h : sh[i]? = some q) : (sv_ws G sh hi hl hr)[i]? = some (G.1 + i, sv_ce G q i hi hl hr) := by
  have hlt : i < sh.length := (List.getElem?_eq_some_iff.mp h).1
  unfold sv_ws
  rw [List.getElem?_map, List.getElem?_range hlt]
  simp [List.getD_eq_getElem?_getD, h]
theorem sv_ws_inv {i : Nat} {x : Nat × va_E} (h : (sv_ws G sh hi hl hr)[i]? = some x) : i < sh.length ∧ x = (G.1 + i, sv_ce G (sh.getD i (0, 0)) i hi hl hr) := by
  have hlt : i < (sv_ws G sh hi hl hr).length := (List.getElem?_eq_some_iff.mp h).1
  have hlt' : i < sh.length := by simpa [sv_ws] using hlt
  refine ⟨hlt', ?_⟩
  unfold sv_ws at h
  rw [List.getElem?_map, List.getElem?_range hlt'] at h
  exact (Option.some.inj h).symm
theorem sv_ws_D : va_D (sv_A G) (sv_ws G sh hi hl hr) := by
  refine ⟨fun i j p q h1 h2 h3 => ?_, fun k q h => ?_⟩
  · obtain ⟨-, rfl⟩ := sv_ws_inv h1
    obtain ⟨-, rfl⟩ := sv_ws_inv h2
    exact Nat.add_left_cancel h3
  · obtain ⟨-, rfl⟩ := sv_ws_inv h
    exact Nat.le_add_right _ _
theorem sv_fs_congr {b ci j : Nat} (h1 : hi' j = hi j) (h2 : hl' j = hl j) (h3 : hr' j = hr j) : sv_fs b ci j hi' hl' hr' = sv_fs b ci j hi hl hr := by
  have e : ∀ t k, sv_fv b t j k hi' hl' hr' = sv_fv b t j k hi hl hr := fun t k => by
    unfold sv_fv
    rw [h1, h2, h3]
  unfold sv_fs
  simp only [e]
theorem sv_ce_congr {q : Nat × Nat} {j : Nat} (h1 : hi' j = hi j) (h2 : hl' j = hl j) (h3 : hr' j = hr j) : sv_ce G q j hi' hl' hr' = sv_ce G q j hi hl hr := by
  unfold sv_ce
  rw [sv_fs_congr h1 h2 h3, h1, h3]
theorem sv_ws_set {i : Nat} {q : Nat × Nat} {e : va_E} (h : sh[i]? = some q) (he : sv_ce G q i hi' hl' hr' = e) (ho : ∀ j, j ≠ i → hi' j = hi j ∧ hl' j = hl j ∧ hr' j = hr j) : (sv_ws G sh hi hl hr).set i (G.1 + i, e) = sv_ws G sh hi' hl' hr' := by
  have hlt : i < sh.length := (List.getElem?_eq_some_iff.mp h).1
  apply List.ext_getElem?
  intro k
  by_cases hk : k = i
  · subst hk
    rw [List.getElem?_set_self (by simpa [sv_ws] using hlt), sv_ws_get h, he]
  · rw [List.getElem?_set_ne (Ne.symm hk)]
    unfold sv_ws
    rw [List.getElem?_map, List.getElem?_map]
    by_cases hkl : k < sh.length
    · rw [List.getElem?_range hkl]
      obtain ⟨a, b, c⟩ := ho k hk
      exact congrArg (fun z => some (G.1 + k, z)) (sv_ce_congr (G := G) (q := sh.getD k (0, 0)) a b c).symm
    · rw [List.getElem?_eq_none (by simp; omega)]
      rfl
theorem sv_ws_push {q : Nat × Nat} (ho : ∀ j, j < sh.length → hi' j = hi j ∧ hl' j = hl j ∧ hr' j = hr j) : sv_ws G (sh ++ [q]) hi' hl' hr' = sv_ws G sh hi hl hr ++ [(G.1 + sh.length, sv_ce G q sh.length hi' hl' hr')] := by
  unfold sv_ws
  rw [List.length_append, List.length_singleton, List.range_succ, List.map_append]
  congr 1
  · apply List.map_congr_left
    intro k hk
    have hk' := List.mem_range.mp hk
    obtain ⟨a, b, c⟩ := ho k hk'
    rw [sv_ce_congr (G := G) (q := (sh ++ [q]).getD k (0, 0)) a b c]
    simp [List.getD_eq_getElem?_getD, List.getElem?_append_left hk']
  · simp [List.getD_eq_getElem?_getD]
theorem sv_fs_get {b ci i k : Nat} (hk : k < (sv_fk ci).length) : (sv_fs b ci i hi hl hr)[k]? = some (sv_fv b ((sv_fk ci).getD k 0) i k hi hl hr) := by
  unfold sv_fs
  rw [List.getElem?_map, List.getElem?_range hk]
  rfl
theorem sv_fs_len {b ci i : Nat} : (sv_fs b ci i hi hl hr).length = (sv_fk ci).length := by simp [sv_fs]
theorem sv_fs_set {b₀ ci i k : Nat} {v : Value} (hk : k < (sv_fk ci).length) (hv : sv_fv b₀ ((sv_fk ci).getD k 0) i k hi' hl' hr' = v) (ho : ∀ j, j ≠ k → hi' i j = hi i j ∧ hl' i j = hl i j ∧ hr' i j = hr i j) : (sv_fs b₀ ci i hi hl hr).set k v = sv_fs b₀ ci i hi' hl' hr' := by
  apply List.ext_getElem?
  intro j
  by_cases hj : j = k
  · subst hj
    rw [List.getElem?_set_self (by rw [sv_fs_len]; exact hk), sv_fs_get hk, hv]
  · rw [List.getElem?_set_ne (Ne.symm hj)]
    unfold sv_fs
    rw [List.getElem?_map, List.getElem?_map]
    by_cases hjl : j < (sv_fk ci).length
    · rw [List.getElem?_range hjl]
      obtain ⟨a, b, c⟩ := ho j hj
      have e : sv_fv b₀ ((sv_fk ci).getD j 0) i j hi hl hr = sv_fv b₀ ((sv_fk ci).getD j 0) i j hi' hl' hr' := by
        unfold sv_fv
        rw [a, b, c]
      exact congrArg some e
    · rw [List.getElem?_eq_none (by simp; omega)]
      rfl
theorem sv_u2_off {α : Type} {f : Nat → Nat → α} {i k : Nat} {v : α} {j : Nat} (h : j ≠ i) : sv_u2 f i k v j = f j := by
  funext b
  simp [sv_u2, h]
theorem sv_u2_row {f : svH} {i k : Nat} {v : Int32} : sv_u2 f i k v i = upd (f i) k v := by
  funext b
  simp [sv_u2, upd]
theorem sv_u2_rowR {f : svR} {b i k : Nat} {v : Nat} : (fun j => (sv_u2 f i k (some v) i j).map (fun z => b + z)) = va_up (fun j => (f i j).map (fun z => b + z)) k (some (b + v)) := by
  funext j
  by_cases h : j = k <;> simp [sv_u2, va_up, h]
theorem sv_u2_at {α : Type} {f : Nat → Nat → α} {i k : Nat} {v : α} : sv_u2 f i k v i k = v := by simp [sv_u2]
theorem sv_u2_k {α : Type} {f : Nat → Nat → α} {i k j : Nat} {v : α} (h : j ≠ k) : sv_u2 f i k v i j = f i j := by simp [sv_u2, h]
end SvHeap
theorem sv_LsOk.set {nL i : Nat} {ls : List (Option Value)} {a : Array Slot} {v : Value} (h : sv_LsOk nL ls a) (hi : i < nL) (hc : v.category = 1) : ∃ a', storeLocals a i v = some a' ∧ sv_LsOk nL (ls.set i (some v)) a' := by
  obtain ⟨h1, h2, h3⟩ := h
  obtain ⟨a', e, h4⟩ := lv_store1 (ls := a) (nL := nL) (l := []) (i := i) (v := v) ⟨h1, h2, fun q h => by cases h⟩ hi hc
  refine ⟨a', e, h4.1, h4.2.1, fun j w hw => ?_⟩
  by_cases hj : j = i
  · subst hj
    have hlt : j < ls.length := by
      have := (List.getElem?_eq_some_iff.mp hw).1
      simpa using this
    rw [List.getElem?_set_self hlt] at hw
    cases hw
    exact ⟨h4.2.2 (j, v) List.mem_cons_self, hc⟩
  · rw [List.getElem?_set_ne (Ne.symm hj)] at hw
    obtain ⟨g1, g2⟩ := h3 j w hw
    obtain ⟨a2, e2, h5⟩ := lv_store1 (ls := a) (nL := nL) (l := [(j, w)]) (i := i) (v := v) ⟨h1, h2, fun q h => by rw [List.mem_singleton.mp h]; exact g1⟩ hi hc
    cases e.symm.trans e2
    refine ⟨h5.2.2 (j, w) (List.mem_cons_of_mem _ (List.mem_filter.mpr ⟨List.mem_singleton.mpr rfl, ?_⟩)), g2⟩
    simp [hj, g2]
theorem sv_LsOk.entry {nL : Nat} (vs : List Value) (hn : vs.length ≤ nL) (hc : ∀ v ∈ vs, v.category = 1) : sv_LsOk nL (vs.map some ++ List.replicate (nL - vs.length) none) ((lg_sl vs ++ List.replicate (nL - (lg_sl vs).length) Slot.unset).toArray) := by
  have e1 : ∀ (ws : List Value), (∀ v ∈ ws, v.category = 1) → (lg_sl ws).length = ws.length := by
    intro ws hw
    induction ws with
    | nil => rfl
    | cons v t ih =>
      have hv := hw v List.mem_cons_self
      have := ih (fun u hu => hw u (List.mem_cons_of_mem _ hu))
      rw [show lg_sl (v :: t) = (if v.category = 2 then [Slot.val v, Slot.second] else [Slot.val v]) ++ lg_sl t from rfl, hv]
      simp [this]
  have e2 : ∀ (ws : List Value) (n : Nat), (∀ v ∈ ws, v.category = 1) → ∀ (i : Nat) (v : Value), ws[i]? = some v → (n + i, v) ∈ lv_args n ws := by
    intro ws
    induction ws with
    | nil => intro n _ i v h; cases h
    | cons u t ih =>
      intro n hw i v h
      have hu := hw u List.mem_cons_self
      have hne : ¬ u.category = 2 := by omega
      cases i with
      | zero =>
        cases h
        simp [lv_args]
      | succ i =>
        have := ih (n + 1) (fun z hz => hw z (List.mem_cons_of_mem _ hz)) i v h
        simp only [lv_args, hne, if_false]
        rw [show n + (i + 1) = n + 1 + i by omega]
        exact List.mem_cons_of_mem _ this
  have hh := lv_entry vs (n := nL) (by rw [e1 vs hc]; exact hn)
  refine ⟨hh.1, hh.2.1, fun i v h => ?_⟩
  have hi : vs[i]? = some v := by
    by_cases hil : i < vs.length
    · rw [List.getElem?_append_left (by simpa using hil), List.getElem?_map] at h
      cases hx : vs[i]? with
      | none => rw [hx] at h; cases h
      | some y => rw [hx] at h; exact Option.some.inj h
    · rw [List.getElem?_append_right (by simp; omega)] at h
      have := List.getElem?_replicate (n := nL - vs.length) (a := (none : Option Value)) (i := i - (vs.map some).length)
      rw [this] at h
      split at h <;> cases h
  refine ⟨hh.2.2 (i, v) ?_, hc v (List.mem_of_getElem? hi)⟩
  have := e2 vs 0 hc i v hi
  simpa using this

section SvRows
variable {l : Launch} {G : svG} {R : Room} {M : svM} {F : svF} {cs sl pc : Nat} {ls : List (Option Value)} {st : List Value} {sh : svS} {hi : svH} {hl : svL} {hr : svR}
theorem J_iconst {n : Int} (v : Int32) (hv : Int32.ofInt n = v) (d : decode M.2.1 pc = .ok (.iconst n, 1)) (k : svJ l G R M F cs sl (pc + 1) ls (.int v :: st) sh hi hl hr) : svJ l G R M F cs sl pc ls st sh hi hl hr := by
  intro p e s m args below meth c fx hz H locs a hs hS hL
  exact lv_iconst fx.1 fx.2.1 d hv (k p e s m args below meth c fx hz H locs a hs hS hL)
theorem J_bipush {n : Int} (v : Int32) (hv : (Int8.ofInt n).toInt32 = v) (d : decode M.2.1 pc = .ok (.bipush n, 2)) (k : svJ l G R M F cs sl (pc + 2) ls (.int v :: st) sh hi hl hr) : svJ l G R M F cs sl pc ls st sh hi hl hr := by
  intro p e s m args below meth c fx hz H locs a hs hS hL
  exact lv_bipush fx.1 fx.2.1 d hv (k p e s m args below meth c fx hz H locs a hs hS hL)
theorem J_sipush {n : Int} (v : Int32) (hv : (Int16.ofInt n).toInt32 = v) (d : decode M.2.1 pc = .ok (.sipush n, 3)) (k : svJ l G R M F cs sl (pc + 3) ls (.int v :: st) sh hi hl hr) : svJ l G R M F cs sl pc ls st sh hi hl hr := by
  intro p e s m args below meth c fx hz H locs a hs hS hL
  exact lv_sipush fx.1 fx.2.1 d hv (k p e s m args below meth c fx hz H locs a hs hS hL)
theorem J_lconst {n : Fin 2} (v : Int64) (hv : Int64.ofNat (n : Nat) = v) (d : decode M.2.1 pc = .ok (.lconst n, 1)) (k : svJ l G R M F cs sl (pc + 1) ls (.long v :: st) sh hi hl hr) : svJ l G R M F cs sl pc ls st sh hi hl hr := by
  intro p e s m args below meth c fx hz H locs a hs hS hL
  exact lv_lconst fx.1 fx.2.1 d hv (k p e s m args below meth c fx hz H locs a hs hS hL)
theorem J_iadd {x y : Int32} (d : decode M.2.1 pc = .ok (.iadd, 1)) (k : svJ l G R M F cs sl (pc + 1) ls (.int (x + y) :: st) sh hi hl hr) : svJ l G R M F cs sl pc ls (.int y :: .int x :: st) sh hi hl hr := by
  intro p e s m args below meth c fx hz H locs a hs hS hL
  exact lv_iadd fx.1 fx.2.1 d (k p e s m args below meth c fx hz H locs a hs hS hL)
theorem J_isub {x y : Int32} (d : decode M.2.1 pc = .ok (.isub, 1)) (k : svJ l G R M F cs sl (pc + 1) ls (.int (x - y) :: st) sh hi hl hr) : svJ l G R M F cs sl pc ls (.int y :: .int x :: st) sh hi hl hr := by
  intro p e s m args below meth c fx hz H locs a hs hS hL
  exact lv_isub fx.1 fx.2.1 d (k p e s m args below meth c fx hz H locs a hs hS hL)
theorem J_imul {x y : Int32} (d : decode M.2.1 pc = .ok (.imul, 1)) (k : svJ l G R M F cs sl (pc + 1) ls (.int (x * y) :: st) sh hi hl hr) : svJ l G R M F cs sl pc ls (.int y :: .int x :: st) sh hi hl hr := by
  intro p e s m args below meth c fx hz H locs a hs hS hL
  exact lv_imul fx.1 fx.2.1 d (k p e s m args below meth c fx hz H locs a hs hS hL)
theorem J_iand {x y : Int32} (d : decode M.2.1 pc = .ok (.iand, 1)) (k : svJ l G R M F cs sl (pc + 1) ls (.int (x &&& y) :: st) sh hi hl hr) : svJ l G R M F cs sl pc ls (.int y :: .int x :: st) sh hi hl hr := by
  intro p e s m args below meth c fx hz H locs a hs hS hL
  exact lv_iand fx.1 fx.2.1 d (k p e s m args below meth c fx hz H locs a hs hS hL)
theorem J_ior {x y : Int32} (d : decode M.2.1 pc = .ok (.ior, 1)) (k : svJ l G R M F cs sl (pc + 1) ls (.int (x ||| y) :: st) sh hi hl hr) : svJ l G R M F cs sl pc ls (.int y :: .int x :: st) sh hi hl hr := by
  intro p e s m args below meth c fx hz H locs a hs hS hL
  exact lv_ior fx.1 fx.2.1 d (k p e s m args below meth c fx hz H locs a hs hS hL)
theorem J_ixor {x y : Int32} (d : decode M.2.1 pc = .ok (.ixor, 1)) (k : svJ l G R M F cs sl (pc + 1) ls (.int (x ^^^ y) :: st) sh hi hl hr) : svJ l G R M F cs sl pc ls (.int y :: .int x :: st) sh hi hl hr := by
  intro p e s m args below meth c fx hz H locs a hs hS hL
  exact lv_ixor fx.1 fx.2.1 d (k p e s m args below meth c fx hz H locs a hs hS hL)
theorem J_ishl {x y : Int32} (d : decode M.2.1 pc = .ok (.ishl, 1)) (k : svJ l G R M F cs sl (pc + 1) ls (.int (x <<< (y &&& 31)) :: st) sh hi hl hr) : svJ l G R M F cs sl pc ls (.int y :: .int x :: st) sh hi hl hr := by
  intro p e s m args below meth c fx hz H locs a hs hS hL
  exact lv_ishl fx.1 fx.2.1 d (k p e s m args below meth c fx hz H locs a hs hS hL)
theorem J_ishr {x y : Int32} (d : decode M.2.1 pc = .ok (.ishr, 1)) (k : svJ l G R M F cs sl (pc + 1) ls (.int (x >>> (y &&& 31)) :: st) sh hi hl hr) : svJ l G R M F cs sl pc ls (.int y :: .int x :: st) sh hi hl hr := by
  intro p e s m args below meth c fx hz H locs a hs hS hL
  exact lv_ishr fx.1 fx.2.1 d (k p e s m args below meth c fx hz H locs a hs hS hL)
theorem J_ineg {x : Int32} (d : decode M.2.1 pc = .ok (.ineg, 1)) (k : svJ l G R M F cs sl (pc + 1) ls (.int (-x) :: st) sh hi hl hr) : svJ l G R M F cs sl pc ls (.int x :: st) sh hi hl hr := by
  intro p e s m args below meth c fx hz H locs a hs hS hL
  exact lv_ineg fx.1 fx.2.1 d (k p e s m args below meth c fx hz H locs a hs hS hL)
theorem J_idiv {x y : Int32} (hne : ¬ y = 0) (d : decode M.2.1 pc = .ok (.idiv, 1)) (k : svJ l G R M F cs sl (pc + 1) ls (.int (x / y) :: st) sh hi hl hr) : svJ l G R M F cs sl pc ls (.int y :: .int x :: st) sh hi hl hr := by
  intro p e s m args below meth c fx hz H locs a hs hS hL
  exact lv_idiv fx.1 fx.2.1 d hne (k p e s m args below meth c fx hz H locs a hs hS hL)
theorem J_irem {x y : Int32} (hne : ¬ y = 0) (d : decode M.2.1 pc = .ok (.irem, 1)) (k : svJ l G R M F cs sl (pc + 1) ls (.int (x - x / y * y) :: st) sh hi hl hr) : svJ l G R M F cs sl pc ls (.int y :: .int x :: st) sh hi hl hr := by
  intro p e s m args below meth c fx hz H locs a hs hS hL
  exact lv_irem fx.1 fx.2.1 d hne (k p e s m args below meth c fx hz H locs a hs hS hL)
theorem J_iushr {x y v : Int32} (hv : (x.toUInt32 >>> (y.toUInt32 &&& Int32.toUInt32 31)).toInt32 = v) (d : decode M.2.1 pc = .ok (.iushr, 1)) (k : svJ l G R M F cs sl (pc + 1) ls (.int v :: st) sh hi hl hr) : svJ l G R M F cs sl pc ls (.int y :: .int x :: st) sh hi hl hr := by
  intro p e s m args below meth c fx hz H locs a hs hS hL
  exact lv_iushr fx.1 fx.2.1 d hv (k p e s m args below meth c fx hz H locs a hs hS hL)
theorem J_i2c {x v : Int32} (hv : (x.toUInt32 % 65536).toInt32 = v) (d : decode M.2.1 pc = .ok (.i2c, 1)) (k : svJ l G R M F cs sl (pc + 1) ls (.int v :: st) sh hi hl hr) : svJ l G R M F cs sl pc ls (.int x :: st) sh hi hl hr := by
  intro p e s m args below meth c fx hz H locs a hs hS hL
  exact lv_i2c fx.1 fx.2.1 d hv (k p e s m args below meth c fx hz H locs a hs hS hL)
theorem J_ladd {x y : Int64} (d : decode M.2.1 pc = .ok (.ladd, 1)) (k : svJ l G R M F cs sl (pc + 1) ls (.long (x + y) :: st) sh hi hl hr) : svJ l G R M F cs sl pc ls (.long y :: .long x :: st) sh hi hl hr := by
  intro p e s m args below meth c fx hz H locs a hs hS hL
  exact lv_ladd fx.1 fx.2.1 d (k p e s m args below meth c fx hz H locs a hs hS hL)
theorem J_lcmp {x y : Int64} (d : decode M.2.1 pc = .ok (.lcmp, 1)) (k : svJ l G R M F cs sl (pc + 1) ls (.int (lg_cmp x y) :: st) sh hi hl hr) : svJ l G R M F cs sl pc ls (.long y :: .long x :: st) sh hi hl hr := by
  intro p e s m args below meth c fx hz H locs a hs hS hL
  exact W.lcmp fx.1 fx.2.1 d (k p e s m args below meth c fx hz H locs a hs hS hL)
theorem J_dup {v : Value} (hv : v.category = 1) (d : decode M.2.1 pc = .ok (.dup, 1)) (k : svJ l G R M F cs sl (pc + 1) ls (v :: v :: st) sh hi hl hr) : svJ l G R M F cs sl pc ls (v :: st) sh hi hl hr := by
  intro p e s m args below meth c fx hz H locs a hs hS hL
  exact lv_dup fx.1 fx.2.1 d hv (k p e s m args below meth c fx hz H locs a hs hS hL)
theorem J_dup2 {v u : Value} (hv : v.category = 1) (hu : u.category = 1) (d : decode M.2.1 pc = .ok (.dup2, 1)) (k : svJ l G R M F cs sl (pc + 1) ls (v :: u :: v :: u :: st) sh hi hl hr) : svJ l G R M F cs sl pc ls (v :: u :: st) sh hi hl hr := by
  intro p e s m args below meth c fx hz H locs a hs hS hL
  exact lv_dup2_11 fx.1 fx.2.1 d hv hu (k p e s m args below meth c fx hz H locs a hs hS hL)
theorem J_pop {v : Value} (hv : v.category = 1) (d : decode M.2.1 pc = .ok (.pop, 1)) (k : svJ l G R M F cs sl (pc + 1) ls st sh hi hl hr) : svJ l G R M F cs sl pc ls (v :: st) sh hi hl hr := by
  intro p e s m args below meth c fx hz H locs a hs hS hL
  exact lv_pop fx.1 fx.2.1 d hv (k p e s m args below meth c fx hz H locs a hs hS hL)
theorem J_null  (d : decode M.2.1 pc = .ok (.aconst_null, 1)) (k : svJ l G R M F cs sl (pc + 1) ls (.null :: st) sh hi hl hr) : svJ l G R M F cs sl pc ls st sh hi hl hr := by
  intro p e s m args below meth c fx hz H locs a hs hS hL
  exact lv_null fx.1 fx.2.1 d (k p e s m args below meth c fx hz H locs a hs hS hL)
theorem J_if_eq {x : Int32} {off : Int} (tgt : Nat) (d : decode M.2.1 pc = .ok (.ifCond .eq off, 3)) (ht : (pc : Int) + off = (tgt : Int)) (kt : x = 0 → svJ l G R M F cs sl tgt ls st sh hi hl hr) (kf : ¬ x = 0 → svJ l G R M F cs sl (pc + 3) ls st sh hi hl hr) : svJ l G R M F cs sl pc ls (.int x :: st) sh hi hl hr := by
  intro p e s m args below meth c fx hz H locs a hs hS hL
  exact lv_if_eq fx.1 fx.2.1 d ht (fun z => kt z p e s m args below meth c fx hz H locs a hs hS hL) (fun z => kf z p e s m args below meth c fx hz H locs a hs hS hL)
theorem J_icmp_eq {x y : Int32} {off : Int} (tgt : Nat) (d : decode M.2.1 pc = .ok (.if_icmp .eq off, 3)) (ht : (pc : Int) + off = (tgt : Int)) (kt : x = y → svJ l G R M F cs sl tgt ls st sh hi hl hr) (kf : ¬ x = y → svJ l G R M F cs sl (pc + 3) ls st sh hi hl hr) : svJ l G R M F cs sl pc ls (.int y :: .int x :: st) sh hi hl hr := by
  intro p e s m args below meth c fx hz H locs a hs hS hL
  exact lv_icmp_eq fx.1 fx.2.1 d ht (fun z => kt z p e s m args below meth c fx hz H locs a hs hS hL) (fun z => kf z p e s m args below meth c fx hz H locs a hs hS hL)
theorem J_if_ne {x : Int32} {off : Int} (tgt : Nat) (d : decode M.2.1 pc = .ok (.ifCond .ne off, 3)) (ht : (pc : Int) + off = (tgt : Int)) (kt : ¬ x = 0 → svJ l G R M F cs sl tgt ls st sh hi hl hr) (kf : x = 0 → svJ l G R M F cs sl (pc + 3) ls st sh hi hl hr) : svJ l G R M F cs sl pc ls (.int x :: st) sh hi hl hr := by
  intro p e s m args below meth c fx hz H locs a hs hS hL
  exact lv_if_ne fx.1 fx.2.1 d ht (fun z => kt z p e s m args below meth c fx hz H locs a hs hS hL) (fun z => kf z p e s m args below meth c fx hz H locs a hs hS hL)
theorem J_icmp_ne {x y : Int32} {off : Int} (tgt : Nat) (d : decode M.2.1 pc = .ok (.if_icmp .ne off, 3)) (ht : (pc : Int) + off = (tgt : Int)) (kt : ¬ x = y → svJ l G R M F cs sl tgt ls st sh hi hl hr) (kf : x = y → svJ l G R M F cs sl (pc + 3) ls st sh hi hl hr) : svJ l G R M F cs sl pc ls (.int y :: .int x :: st) sh hi hl hr := by
  intro p e s m args below meth c fx hz H locs a hs hS hL
  exact lv_icmp_ne fx.1 fx.2.1 d ht (fun z => kt z p e s m args below meth c fx hz H locs a hs hS hL) (fun z => kf z p e s m args below meth c fx hz H locs a hs hS hL)
theorem J_if_lt {x : Int32} {off : Int} (tgt : Nat) (d : decode M.2.1 pc = .ok (.ifCond .lt off, 3)) (ht : (pc : Int) + off = (tgt : Int)) (kt : x < 0 → svJ l G R M F cs sl tgt ls st sh hi hl hr) (kf : ¬ x < 0 → svJ l G R M F cs sl (pc + 3) ls st sh hi hl hr) : svJ l G R M F cs sl pc ls (.int x :: st) sh hi hl hr := by
  intro p e s m args below meth c fx hz H locs a hs hS hL
  exact lv_if_lt fx.1 fx.2.1 d ht (fun z => kt z p e s m args below meth c fx hz H locs a hs hS hL) (fun z => kf z p e s m args below meth c fx hz H locs a hs hS hL)
theorem J_icmp_lt {x y : Int32} {off : Int} (tgt : Nat) (d : decode M.2.1 pc = .ok (.if_icmp .lt off, 3)) (ht : (pc : Int) + off = (tgt : Int)) (kt : x < y → svJ l G R M F cs sl tgt ls st sh hi hl hr) (kf : ¬ x < y → svJ l G R M F cs sl (pc + 3) ls st sh hi hl hr) : svJ l G R M F cs sl pc ls (.int y :: .int x :: st) sh hi hl hr := by
  intro p e s m args below meth c fx hz H locs a hs hS hL
  exact lv_icmp_lt fx.1 fx.2.1 d ht (fun z => kt z p e s m args below meth c fx hz H locs a hs hS hL) (fun z => kf z p e s m args below meth c fx hz H locs a hs hS hL)
theorem J_if_ge {x : Int32} {off : Int} (tgt : Nat) (d : decode M.2.1 pc = .ok (.ifCond .ge off, 3)) (ht : (pc : Int) + off = (tgt : Int)) (kt : 0 ≤ x → svJ l G R M F cs sl tgt ls st sh hi hl hr) (kf : ¬ 0 ≤ x → svJ l G R M F cs sl (pc + 3) ls st sh hi hl hr) : svJ l G R M F cs sl pc ls (.int x :: st) sh hi hl hr := by
  intro p e s m args below meth c fx hz H locs a hs hS hL
  exact lv_if_ge fx.1 fx.2.1 d ht (fun z => kt z p e s m args below meth c fx hz H locs a hs hS hL) (fun z => kf z p e s m args below meth c fx hz H locs a hs hS hL)
theorem J_icmp_ge {x y : Int32} {off : Int} (tgt : Nat) (d : decode M.2.1 pc = .ok (.if_icmp .ge off, 3)) (ht : (pc : Int) + off = (tgt : Int)) (kt : y ≤ x → svJ l G R M F cs sl tgt ls st sh hi hl hr) (kf : ¬ y ≤ x → svJ l G R M F cs sl (pc + 3) ls st sh hi hl hr) : svJ l G R M F cs sl pc ls (.int y :: .int x :: st) sh hi hl hr := by
  intro p e s m args below meth c fx hz H locs a hs hS hL
  exact lv_icmp_ge fx.1 fx.2.1 d ht (fun z => kt z p e s m args below meth c fx hz H locs a hs hS hL) (fun z => kf z p e s m args below meth c fx hz H locs a hs hS hL)
theorem J_if_gt {x : Int32} {off : Int} (tgt : Nat) (d : decode M.2.1 pc = .ok (.ifCond .gt off, 3)) (ht : (pc : Int) + off = (tgt : Int)) (kt : 0 < x → svJ l G R M F cs sl tgt ls st sh hi hl hr) (kf : ¬ 0 < x → svJ l G R M F cs sl (pc + 3) ls st sh hi hl hr) : svJ l G R M F cs sl pc ls (.int x :: st) sh hi hl hr := by
  intro p e s m args below meth c fx hz H locs a hs hS hL
  exact lv_if_gt fx.1 fx.2.1 d ht (fun z => kt z p e s m args below meth c fx hz H locs a hs hS hL) (fun z => kf z p e s m args below meth c fx hz H locs a hs hS hL)
theorem J_icmp_gt {x y : Int32} {off : Int} (tgt : Nat) (d : decode M.2.1 pc = .ok (.if_icmp .gt off, 3)) (ht : (pc : Int) + off = (tgt : Int)) (kt : y < x → svJ l G R M F cs sl tgt ls st sh hi hl hr) (kf : ¬ y < x → svJ l G R M F cs sl (pc + 3) ls st sh hi hl hr) : svJ l G R M F cs sl pc ls (.int y :: .int x :: st) sh hi hl hr := by
  intro p e s m args below meth c fx hz H locs a hs hS hL
  exact lv_icmp_gt fx.1 fx.2.1 d ht (fun z => kt z p e s m args below meth c fx hz H locs a hs hS hL) (fun z => kf z p e s m args below meth c fx hz H locs a hs hS hL)
theorem J_if_le {x : Int32} {off : Int} (tgt : Nat) (d : decode M.2.1 pc = .ok (.ifCond .le off, 3)) (ht : (pc : Int) + off = (tgt : Int)) (kt : x ≤ 0 → svJ l G R M F cs sl tgt ls st sh hi hl hr) (kf : ¬ x ≤ 0 → svJ l G R M F cs sl (pc + 3) ls st sh hi hl hr) : svJ l G R M F cs sl pc ls (.int x :: st) sh hi hl hr := by
  intro p e s m args below meth c fx hz H locs a hs hS hL
  exact lv_if_le fx.1 fx.2.1 d ht (fun z => kt z p e s m args below meth c fx hz H locs a hs hS hL) (fun z => kf z p e s m args below meth c fx hz H locs a hs hS hL)
theorem J_icmp_le {x y : Int32} {off : Int} (tgt : Nat) (d : decode M.2.1 pc = .ok (.if_icmp .le off, 3)) (ht : (pc : Int) + off = (tgt : Int)) (kt : x ≤ y → svJ l G R M F cs sl tgt ls st sh hi hl hr) (kf : ¬ x ≤ y → svJ l G R M F cs sl (pc + 3) ls st sh hi hl hr) : svJ l G R M F cs sl pc ls (.int y :: .int x :: st) sh hi hl hr := by
  intro p e s m args below meth c fx hz H locs a hs hS hL
  exact lv_icmp_le fx.1 fx.2.1 d ht (fun z => kt z p e s m args below meth c fx hz H locs a hs hS hL) (fun z => kf z p e s m args below meth c fx hz H locs a hs hS hL)
theorem J_goto {off : Int} (tgt : Nat) (d : decode M.2.1 pc = .ok (.goto off, 3)) (ht : (pc : Int) + off = (tgt : Int)) (k : svJ l G R M F cs sl tgt ls st sh hi hl hr) : svJ l G R M F cs sl pc ls st sh hi hl hr := by
  intro p e s m args below meth c fx hz H locs a hs hS hL
  exact lv_goto fx.1 fx.2.1 d ht (k p e s m args below meth c fx hz H locs a hs hS hL)
theorem J_ifnonnull {i : Nat} {off : Int} (tgt : Nat) (d : decode M.2.1 pc = .ok (.ifnonnull off, 3)) (ht : (pc : Int) + off = (tgt : Int)) (k : svJ l G R M F cs sl tgt ls st sh hi hl hr) : svJ l G R M F cs sl pc ls (sv_rf G.1 i :: st) sh hi hl hr := by
  intro p e s m args below meth c fx hz H locs a hs hS hL
  exact lv_ifnonnull fx.1 fx.2.1 d ht (k p e s m args below meth c fx hz H locs a hs hS hL)
theorem J_ifnonnullN {off : Int} (d : decode M.2.1 pc = .ok (.ifnonnull off, 3)) (k : svJ l G R M F cs sl (pc + 3) ls st sh hi hl hr) : svJ l G R M F cs sl pc ls (.null :: st) sh hi hl hr := by
  intro p e s m args below meth c fx hz H locs a hs hS hL
  exact lv_ifnonnullN fx.1 fx.2.1 d (k p e s m args below meth c fx hz H locs a hs hS hL)
theorem J_ifnull {i : Nat} {off : Int} (d : decode M.2.1 pc = .ok (.ifnull off, 3)) (k : svJ l G R M F cs sl (pc + 3) ls st sh hi hl hr) : svJ l G R M F cs sl pc ls (sv_rf G.1 i :: st) sh hi hl hr := by
  intro p e s m args below meth c fx hz H locs a hs hS hL
  exact lv_ifnull fx.1 fx.2.1 d (k p e s m args below meth c fx hz H locs a hs hS hL)
theorem J_ifnullN {off : Int} (tgt : Nat) (d : decode M.2.1 pc = .ok (.ifnull off, 3)) (ht : (pc : Int) + off = (tgt : Int)) (k : svJ l G R M F cs sl tgt ls st sh hi hl hr) : svJ l G R M F cs sl pc ls (.null :: st) sh hi hl hr := by
  intro p e s m args below meth c fx hz H locs a hs hS hL
  exact lv_ifnullN fx.1 fx.2.1 d ht (k p e s m args below meth c fx hz H locs a hs hS hL)
theorem J_tableOut {dflt lo hii : Int} {offs : Array Int} {len : Nat} {x : Int32} (tgt : Nat) (d : decode M.2.1 pc = .ok (.tableswitch dflt lo hii offs, len)) (h : x.toInt < lo ∨ hii < x.toInt) (ht : (pc : Int) + dflt = (tgt : Int)) (k : svJ l G R M F cs sl tgt ls st sh hi hl hr) : svJ l G R M F cs sl pc ls (.int x :: st) sh hi hl hr := by
  intro p e s m args below meth c fx hz H locs a hs hS hL
  exact lv_tableOut fx.1 fx.2.1 d h ht (k p e s m args below meth c fx hz H locs a hs hS hL)
theorem J_tableIn {dflt lo hii : Int} {offs : Array Int} {len : Nat} {x : Int32} {off : Int} (tgt : Nat) (d : decode M.2.1 pc = .ok (.tableswitch dflt lo hii offs, len)) (h1 : ¬ x.toInt < lo) (h2 : ¬ hii < x.toInt) (ho : offs[(x.toInt - lo).toNat]? = some off) (ht : (pc : Int) + off = (tgt : Int)) (k : svJ l G R M F cs sl tgt ls st sh hi hl hr) : svJ l G R M F cs sl pc ls (.int x :: st) sh hi hl hr := by
  intro p e s m args below meth c fx hz H locs a hs hS hL
  exact lv_tableIn fx.1 fx.2.1 d h1 h2 ho ht (k p e s m args below meth c fx hz H locs a hs hS hL)
theorem J_lookup {dflt : Int} {ps : Array (Int × Int)} {len : Nat} {x : Int32} {off : Int} (tgt : Nat) (d : decode M.2.1 pc = .ok (.lookupswitch dflt ps, len)) (hp : (ps.toList.zip (ps.toList.drop 1)).all (fun (a, next) => a.1 < next.1) = true) (ho : Op.lookupswitch.offset ps.toList dflt x.toInt = off) (ht : (pc : Int) + off = (tgt : Int)) (k : svJ l G R M F cs sl tgt ls st sh hi hl hr) : svJ l G R M F cs sl pc ls (.int x :: st) sh hi hl hr := by
  intro p e s m args below meth c fx hz H locs a hs hS hL
  exact lv_lookup fx.1 fx.2.1 d hp ho ht (k p e s m args below meth c fx hz H locs a hs hS hL)
theorem J_iload_n {x : Int32} {k : Fin 4} (d : decode M.2.1 pc = .ok (.iload_n k, 1)) (h : ls[(k : Nat)]? = some (some (.int x))) (kk : svJ l G R M F cs sl (pc + 1) ls (.int x :: st) sh hi hl hr) : svJ l G R M F cs sl pc ls st sh hi hl hr := by
  intro p e s m args below meth c fx hz H locs a hs hS hL
  exact lv_iload_n fx.1 fx.2.1 d rfl (hL.2.2 _ _ h).1 (kk p e s m args below meth c fx hz H locs a hs hS hL)
theorem J_iload {x : Int32} {k : Nat} (d : decode M.2.1 pc = .ok (.iload k, 2)) (h : ls[k]? = some (some (.int x))) (kk : svJ l G R M F cs sl (pc + 2) ls (.int x :: st) sh hi hl hr) : svJ l G R M F cs sl pc ls st sh hi hl hr := by
  intro p e s m args below meth c fx hz H locs a hs hS hL
  exact lv_iload fx.1 fx.2.1 d (hL.2.2 _ _ h).1 (kk p e s m args below meth c fx hz H locs a hs hS hL)
theorem J_aload_n {i : Nat} {k : Fin 4} (d : decode M.2.1 pc = .ok (.aload_n k, 1)) (h : ls[(k : Nat)]? = some (some (sv_rf G.1 i))) (kk : svJ l G R M F cs sl (pc + 1) ls (sv_rf G.1 i :: st) sh hi hl hr) : svJ l G R M F cs sl pc ls st sh hi hl hr := by
  intro p e s m args below meth c fx hz H locs a hs hS hL
  exact lv_aload_n fx.1 fx.2.1 d rfl (hL.2.2 _ _ h).1 (kk p e s m args below meth c fx hz H locs a hs hS hL)
theorem J_aload {i : Nat} {k : Nat} (d : decode M.2.1 pc = .ok (.aload k, 2)) (h : ls[k]? = some (some (sv_rf G.1 i))) (kk : svJ l G R M F cs sl (pc + 2) ls (sv_rf G.1 i :: st) sh hi hl hr) : svJ l G R M F cs sl pc ls st sh hi hl hr := by
  intro p e s m args below meth c fx hz H locs a hs hS hL
  exact lv_aload fx.1 fx.2.1 d (hL.2.2 _ _ h).1 (kk p e s m args below meth c fx hz H locs a hs hS hL)
theorem J_aloadN_n  {k : Fin 4} (d : decode M.2.1 pc = .ok (.aload_n k, 1)) (h : ls[(k : Nat)]? = some (some (.null))) (kk : svJ l G R M F cs sl (pc + 1) ls (.null :: st) sh hi hl hr) : svJ l G R M F cs sl pc ls st sh hi hl hr := by
  intro p e s m args below meth c fx hz H locs a hs hS hL
  exact lv_aload_nN fx.1 fx.2.1 d rfl (hL.2.2 _ _ h).1 (kk p e s m args below meth c fx hz H locs a hs hS hL)
theorem J_aloadN  {k : Nat} (d : decode M.2.1 pc = .ok (.aload k, 2)) (h : ls[k]? = some (some (.null))) (kk : svJ l G R M F cs sl (pc + 2) ls (.null :: st) sh hi hl hr) : svJ l G R M F cs sl pc ls st sh hi hl hr := by
  intro p e s m args below meth c fx hz H locs a hs hS hL
  exact lv_aloadN fx.1 fx.2.1 d (hL.2.2 _ _ h).1 (kk p e s m args below meth c fx hz H locs a hs hS hL)
theorem J_istore_n {x : Int32} {k : Fin 4} (d : decode M.2.1 pc = .ok (.istore_n k, 1)) (hn : (k : Nat) < M.2.2.1) (kk : svJ l G R M F cs sl (pc + 1) (ls.set (k : Nat) (some (.int x))) st sh hi hl hr) : svJ l G R M F cs sl pc ls (.int x :: st) sh hi hl hr := by
  intro p e s m args below meth c fx hz H locs a hs hS hL
  obtain ⟨a', e', h'⟩ := hL.set (v := .int x) hn rfl
  have hexec := fx.1
  have hb := fx.2.1
  intro T hT X
  obtain ⟨t, x1, x2⟩ := kk p e s m args below meth c fx hz H locs a' hs hS h' T hT X
  refine ⟨t, ?_, x2⟩
  try unfold sv_rf at e' ⊢
  jvm_step X.here [X.here.top, ↓top_set X.here.top, hexec, hb, d, e']
  exact x1
theorem J_istore {x : Int32} {k : Nat} (d : decode M.2.1 pc = .ok (.istore k, 2)) (hn : k < M.2.2.1) (kk : svJ l G R M F cs sl (pc + 2) (ls.set k (some (.int x))) st sh hi hl hr) : svJ l G R M F cs sl pc ls (.int x :: st) sh hi hl hr := by
  intro p e s m args below meth c fx hz H locs a hs hS hL
  obtain ⟨a', e', h'⟩ := hL.set (v := .int x) hn rfl
  have hexec := fx.1
  have hb := fx.2.1
  intro T hT X
  obtain ⟨t, x1, x2⟩ := kk p e s m args below meth c fx hz H locs a' hs hS h' T hT X
  refine ⟨t, ?_, x2⟩
  try unfold sv_rf at e' ⊢
  jvm_step X.here [X.here.top, ↓top_set X.here.top, hexec, hb, d, e']
  exact x1
theorem J_astore_n {i : Nat} {k : Fin 4} (d : decode M.2.1 pc = .ok (.astore_n k, 1)) (hn : (k : Nat) < M.2.2.1) (kk : svJ l G R M F cs sl (pc + 1) (ls.set (k : Nat) (some (sv_rf G.1 i))) st sh hi hl hr) : svJ l G R M F cs sl pc ls (sv_rf G.1 i :: st) sh hi hl hr := by
  intro p e s m args below meth c fx hz H locs a hs hS hL
  obtain ⟨a', e', h'⟩ := hL.set (v := sv_rf G.1 i) hn rfl
  have hexec := fx.1
  have hb := fx.2.1
  intro T hT X
  obtain ⟨t, x1, x2⟩ := kk p e s m args below meth c fx hz H locs a' hs hS h' T hT X
  refine ⟨t, ?_, x2⟩
  try unfold sv_rf at e' ⊢
  jvm_step X.here [X.here.top, ↓top_set X.here.top, hexec, hb, d, e', Value.isRef, sv_rf]
  exact x1
theorem J_astore {i : Nat} {k : Nat} (d : decode M.2.1 pc = .ok (.astore k, 2)) (hn : k < M.2.2.1) (kk : svJ l G R M F cs sl (pc + 2) (ls.set k (some (sv_rf G.1 i))) st sh hi hl hr) : svJ l G R M F cs sl pc ls (sv_rf G.1 i :: st) sh hi hl hr := by
  intro p e s m args below meth c fx hz H locs a hs hS hL
  obtain ⟨a', e', h'⟩ := hL.set (v := sv_rf G.1 i) hn rfl
  have hexec := fx.1
  have hb := fx.2.1
  intro T hT X
  obtain ⟨t, x1, x2⟩ := kk p e s m args below meth c fx hz H locs a' hs hS h' T hT X
  refine ⟨t, ?_, x2⟩
  try unfold sv_rf at e' ⊢
  jvm_step X.here [X.here.top, ↓top_set X.here.top, hexec, hb, d, e', Value.isRef, sv_rf]
  exact x1
theorem J_astoreN_n  {k : Fin 4} (d : decode M.2.1 pc = .ok (.astore_n k, 1)) (hn : (k : Nat) < M.2.2.1) (kk : svJ l G R M F cs sl (pc + 1) (ls.set (k : Nat) (some (.null))) st sh hi hl hr) : svJ l G R M F cs sl pc ls (.null :: st) sh hi hl hr := by
  intro p e s m args below meth c fx hz H locs a hs hS hL
  obtain ⟨a', e', h'⟩ := hL.set (v := .null) hn rfl
  have hexec := fx.1
  have hb := fx.2.1
  intro T hT X
  obtain ⟨t, x1, x2⟩ := kk p e s m args below meth c fx hz H locs a' hs hS h' T hT X
  refine ⟨t, ?_, x2⟩
  try unfold sv_rf at e' ⊢
  jvm_step X.here [X.here.top, ↓top_set X.here.top, hexec, hb, d, e', Value.isRef]
  exact x1
theorem J_astoreN  {k : Nat} (d : decode M.2.1 pc = .ok (.astore k, 2)) (hn : k < M.2.2.1) (kk : svJ l G R M F cs sl (pc + 2) (ls.set k (some (.null))) st sh hi hl hr) : svJ l G R M F cs sl pc ls (.null :: st) sh hi hl hr := by
  intro p e s m args below meth c fx hz H locs a hs hS hL
  obtain ⟨a', e', h'⟩ := hL.set (v := .null) hn rfl
  have hexec := fx.1
  have hb := fx.2.1
  intro T hT X
  obtain ⟨t, x1, x2⟩ := kk p e s m args below meth c fx hz H locs a' hs hS h' T hT X
  refine ⟨t, ?_, x2⟩
  try unfold sv_rf at e' ⊢
  jvm_step X.here [X.here.top, ↓top_set X.here.top, hexec, hb, d, e', Value.isRef]
  exact x1
theorem J_iinc {x v : Int32} {n : Int} {k : Nat} (d : decode M.2.1 pc = .ok (.iinc k n, 3)) (h : ls[k]? = some (some (.int x))) (hv : x + Int32.ofInt n = v) (hn : k < M.2.2.1) (kk : svJ l G R M F cs sl (pc + 3) (ls.set k (some (.int v))) st sh hi hl hr) : svJ l G R M F cs sl pc ls st sh hi hl hr := by
  intro p e s m args below meth c fx hz H locs a hs hS hL
  subst hv
  obtain ⟨a', e', h'⟩ := hL.set (v := .int (x + Int32.ofInt n)) hn rfl
  have hg := (hL.2.2 _ _ h).1
  have hexec := fx.1
  have hb := fx.2.1
  intro T hT X
  obtain ⟨t, x1, x2⟩ := kk p e s m args below meth c fx hz H locs a' hs hS h' T hT X
  refine ⟨t, ?_, x2⟩
  jvm_step X.here [X.here.top, ↓top_set X.here.top, hexec, hb, d, hg, e']
  exact x1
theorem J_ldc {idx : Nat} (v : Int32) (w : Jvm.Cond.constant M.1 idx v ∈ lw_tbl) (hc : goodWord (Jvm.Cond.constant M.1 idx v) = true) (d : decode M.2.1 pc = .ok (.ldc idx, 2)) (k : svJ l G R M F cs sl (pc + 2) ls (.int v :: st) sh hi hl hr) : svJ l G R M F cs sl pc ls st sh hi hl hr := by
  intro p e s m args below meth c fx hz H locs a hs hS hL
  exact lv_ldc fx.1 fx.2.1 fx.2.2.2.1 (fx.2.2.2.2.1 _ (List.mem_filter.mpr ⟨w, hc⟩)) d (k p e s m args below meth c fx hz H locs a hs hS hL)
theorem J_ldcw {idx : Nat} (v : Int32) (w : Jvm.Cond.constant M.1 idx v ∈ lw_tbl) (hc : goodWord (Jvm.Cond.constant M.1 idx v) = true) (d : decode M.2.1 pc = .ok (.ldc_w idx, 3)) (k : svJ l G R M F cs sl (pc + 3) ls (.int v :: st) sh hi hl hr) : svJ l G R M F cs sl pc ls st sh hi hl hr := by
  intro p e s m args below meth c fx hz H locs a hs hS hL
  exact lv_ldcw fx.1 fx.2.1 fx.2.2.2.1 (fx.2.2.2.2.1 _ (List.mem_filter.mpr ⟨w, hc⟩)) d (k p e s m args below meth c fx hz H locs a hs hS hL)
theorem J_ldc2 {idx : Nat} (v : Int64) (w : Jvm.Cond.constantLong M.1 idx v ∈ sv_tbl) (d : decode M.2.1 pc = .ok (.ldc2_w idx, 3)) (k : svJ l G R M F cs sl (pc + 3) ls (.long v :: st) sh hi hl hr) : svJ l G R M F cs sl pc ls st sh hi hl hr := by
  intro p e s m args below meth c fx hz H locs a hs hS hL
  exact lv_ldc2 fx.1 fx.2.1 fx.2.2.2.1 (fx.2.2.2.2.1 _ w) d (k p e s m args below meth c fx hz H locs a hs hS hL)
theorem J_get {C : String} {T : u_T} {N ci k i idx : Nat} (hin : ∀ w ∈ u_ws C T N, w ∈ sv_tbl) (hc : vwCl[ci]? = some (C, T, N)) (hk : k < N) (hN : (sv_fk ci).length = N) (w : Cond.fieldLink M.1 idx (T k).1 (T k).2.1 (T k).2.2.1 ∈ sv_tbl) (hsh : sh[i]? = some (0, ci)) (d : decode M.2.1 pc = .ok (.getfield idx, 3)) (kk : svJ l G R M F cs sl (pc + 3) ls (sv_fv G.1 ((sv_fk ci).getD k 0) i k hi hl hr :: st) sh hi hl hr) : svJ l G R M F cs sl pc ls (sv_rf G.1 i :: st) sh hi hl hr := by
  intro p e s m args below meth c fx hz H locs a hs hS hL
  exact va_get fx.1 fx.2.1 fx.2.2.2.2.1 hin fx.2.2.2.1 fx.2.2.2.2.2.2.2.2.1.1 hs i (fs := sv_fs G.1 ci i hi hl hr) (sv_ws_get hsh) hc k hk (fx.2.2.2.2.1 _ w) (fun _ h => h) (sv_fs_get (by rw [hN]; exact hk)) d (kk p e s m args below meth c fx hz H locs a hs hS hL)
theorem J_putI {x : Int32} {C : String} {T : u_T} {N ci k i idx : Nat} {ty0 : Nat → FieldType} (hin : ∀ w ∈ u_ws C T N, w ∈ sv_tbl) (hty : ∀ k, k < N → parseFieldDescriptor (T k).2.2.1 = some (ty0 k)) (hnm : ∀ a, a < N → ∀ b, b < N → a ≠ b → (T a).2.1 ≠ (T b).2.1) (hc : vwCl[ci]? = some (C, T, N)) (hk : k < N) (hN : (sv_fk ci).length = N) (hkd : (sv_fk ci).getD k 0 = 0) (w : Cond.fieldLink M.1 idx (T k).1 (T k).2.1 (T k).2.2.1 ∈ sv_tbl) (hfin : (T k).2.2.2 = false) (hn : narrow (ty0 k) (.int x) = .int x) (hfit : fits (ty0 k) (.int x) = true) (hsh : sh[i]? = some (0, ci)) (d : decode M.2.1 pc = .ok (.putfield idx, 3)) (kk : svJ l G R M F cs sl (pc + 3) ls st sh (sv_u2 hi i k x) hl hr) : svJ l G R M F cs sl pc ls (.int x :: sv_rf G.1 i :: st) sh hi hl hr := by
  intro p e s m args below meth c fx hz H locs a hs hS hL
  refine va_put fx.1 fx.2.1 fx.2.2.2.2.1 hin ty0 hty hnm fx.2.2.2.1 fx.2.2.2.2.2.2.2.2.1.1 hs sv_ws_D hS i (fs := sv_fs G.1 ci i hi hl hr) (sv_ws_get hsh) hc k hk (fx.2.2.2.2.1 _ w) (fun _ h => h) hfin (hty k hk) hn hfit (by rw [sv_fs_len, hN]; exact hk) d fun H1 locs1 hP _ hS1 => ?_
  rw [sv_fs_set (by rw [hN]; exact hk) (hi' := (sv_u2 hi i k x)) (hl' := hl) (hr' := hr) (by rw [hkd]; simp only [sv_fv, sv_u2_at]; try rfl) (fun j hj => by refine ⟨?_, ?_, ?_⟩ <;> first | rfl | exact sv_u2_k hj)] at hP
  have e2 := sv_ws_set (G := G) (hi := hi) (hl := hl) (hr := hr) hsh (hi' := (sv_u2 hi i k x)) (hl' := hl) (hr' := hr) rfl (fun j hj => by refine ⟨?_, ?_, ?_⟩ <;> first | rfl | exact sv_u2_off hj)
  have hP2 := hP
  rw [show (sv_ws G sh hi hl hr).set i (G.1 + i, Sum.inr (ci, sv_fs G.1 ci i (sv_u2 hi i k x) hl hr)) = _ from e2] at hP2
  exact kk p e s m args below meth c fx hz H1 locs1 a hP2 hS1 hL
theorem J_putL {x : Int64} {C : String} {T : u_T} {N ci k i idx : Nat} {ty0 : Nat → FieldType} (hin : ∀ w ∈ u_ws C T N, w ∈ sv_tbl) (hty : ∀ k, k < N → parseFieldDescriptor (T k).2.2.1 = some (ty0 k)) (hnm : ∀ a, a < N → ∀ b, b < N → a ≠ b → (T a).2.1 ≠ (T b).2.1) (hc : vwCl[ci]? = some (C, T, N)) (hk : k < N) (hN : (sv_fk ci).length = N) (hkd : (sv_fk ci).getD k 0 = 1) (w : Cond.fieldLink M.1 idx (T k).1 (T k).2.1 (T k).2.2.1 ∈ sv_tbl) (hfin : (T k).2.2.2 = false) (hn : narrow (ty0 k) (.long x) = .long x) (hfit : fits (ty0 k) (.long x) = true) (hsh : sh[i]? = some (0, ci)) (d : decode M.2.1 pc = .ok (.putfield idx, 3)) (kk : svJ l G R M F cs sl (pc + 3) ls st sh hi (sv_u2 hl i k x) hr) : svJ l G R M F cs sl pc ls (.long x :: sv_rf G.1 i :: st) sh hi hl hr := by
  intro p e s m args below meth c fx hz H locs a hs hS hL
  refine va_put fx.1 fx.2.1 fx.2.2.2.2.1 hin ty0 hty hnm fx.2.2.2.1 fx.2.2.2.2.2.2.2.2.1.1 hs sv_ws_D hS i (fs := sv_fs G.1 ci i hi hl hr) (sv_ws_get hsh) hc k hk (fx.2.2.2.2.1 _ w) (fun _ h => h) hfin (hty k hk) hn hfit (by rw [sv_fs_len, hN]; exact hk) d fun H1 locs1 hP _ hS1 => ?_
  rw [sv_fs_set (by rw [hN]; exact hk) (hi' := hi) (hl' := (sv_u2 hl i k x)) (hr' := hr) (by rw [hkd]; simp only [sv_fv, sv_u2_at]; try rfl) (fun j hj => by refine ⟨?_, ?_, ?_⟩ <;> first | rfl | exact sv_u2_k hj)] at hP
  have e2 := sv_ws_set (G := G) (hi := hi) (hl := hl) (hr := hr) hsh (hi' := hi) (hl' := (sv_u2 hl i k x)) (hr' := hr) rfl (fun j hj => by refine ⟨?_, ?_, ?_⟩ <;> first | rfl | exact sv_u2_off hj)
  have hP2 := hP
  rw [show (sv_ws G sh hi hl hr).set i (G.1 + i, Sum.inr (ci, sv_fs G.1 ci i hi (sv_u2 hl i k x) hr)) = _ from e2] at hP2
  exact kk p e s m args below meth c fx hz H1 locs1 a hP2 hS1 hL
theorem J_putR {x : Nat} {C : String} {T : u_T} {N ci k i idx : Nat} {ty0 : Nat → FieldType} (hin : ∀ w ∈ u_ws C T N, w ∈ sv_tbl) (hty : ∀ k, k < N → parseFieldDescriptor (T k).2.2.1 = some (ty0 k)) (hnm : ∀ a, a < N → ∀ b, b < N → a ≠ b → (T a).2.1 ≠ (T b).2.1) (hc : vwCl[ci]? = some (C, T, N)) (hk : k < N) (hN : (sv_fk ci).length = N) (hkd : (sv_fk ci).getD k 0 = 2) (w : Cond.fieldLink M.1 idx (T k).1 (T k).2.1 (T k).2.2.1 ∈ sv_tbl) (hfin : (T k).2.2.2 = false) (hn : narrow (ty0 k) (sv_rf G.1 x) = sv_rf G.1 x) (hfit : fits (ty0 k) (sv_rf G.1 x) = true) (hsh : sh[i]? = some (0, ci)) (d : decode M.2.1 pc = .ok (.putfield idx, 3)) (kk : svJ l G R M F cs sl (pc + 3) ls st sh hi hl (sv_u2 hr i k (some x))) : svJ l G R M F cs sl pc ls (sv_rf G.1 x :: sv_rf G.1 i :: st) sh hi hl hr := by
  intro p e s m args below meth c fx hz H locs a hs hS hL
  refine va_put fx.1 fx.2.1 fx.2.2.2.2.1 hin ty0 hty hnm fx.2.2.2.1 fx.2.2.2.2.2.2.2.2.1.1 hs sv_ws_D hS i (fs := sv_fs G.1 ci i hi hl hr) (sv_ws_get hsh) hc k hk (fx.2.2.2.2.1 _ w) (fun _ h => h) hfin (hty k hk) hn hfit (by rw [sv_fs_len, hN]; exact hk) d fun H1 locs1 hP _ hS1 => ?_
  rw [sv_fs_set (by rw [hN]; exact hk) (hi' := hi) (hl' := hl) (hr' := (sv_u2 hr i k (some x))) (by rw [hkd]; simp only [sv_fv, sv_u2_at]; try rfl) (fun j hj => by refine ⟨?_, ?_, ?_⟩ <;> first | rfl | exact sv_u2_k hj)] at hP
  have e2 := sv_ws_set (G := G) (hi := hi) (hl := hl) (hr := hr) hsh (hi' := hi) (hl' := hl) (hr' := (sv_u2 hr i k (some x))) rfl (fun j hj => by refine ⟨?_, ?_, ?_⟩ <;> first | rfl | exact sv_u2_off hj)
  have hP2 := hP
  rw [show (sv_ws G sh hi hl hr).set i (G.1 + i, Sum.inr (ci, sv_fs G.1 ci i hi hl (sv_u2 hr i k (some x)))) = _ from e2] at hP2
  exact kk p e s m args below meth c fx hz H1 locs1 a hP2 hS1 hL
theorem J_putRF {x : Nat} {C : String} {T : u_T} {N ci k i idx : Nat} {ty0 : Nat → FieldType} (hin : ∀ w ∈ u_ws C T N, w ∈ sv_tbl) (hty : ∀ k, k < N → parseFieldDescriptor (T k).2.2.1 = some (ty0 k)) (hnm : ∀ a, a < N → ∀ b, b < N → a ≠ b → (T a).2.1 ≠ (T b).2.1) (hc : vwCl[ci]? = some (C, T, N)) (hk : k < N) (hN : (sv_fk ci).length = N) (hkd : (sv_fk ci).getD k 0 = 2) (w : Cond.fieldLink M.1 idx (T k).1 (T k).2.1 (T k).2.2.1 ∈ sv_tbl) (hfin : (T k).2.2.2 = true) (hin2 : M.2.2.2.2 = "<init>") (hdecl : (T k).1 = M.1) (hn : narrow (ty0 k) (sv_rf G.1 x) = sv_rf G.1 x) (hfit : fits (ty0 k) (sv_rf G.1 x) = true) (hsh : sh[i]? = some (0, ci)) (d : decode M.2.1 pc = .ok (.putfield idx, 3)) (kk : svJ l G R M F cs sl (pc + 3) ls st sh hi hl (sv_u2 hr i k (some x))) : svJ l G R M F cs sl pc ls (sv_rf G.1 x :: sv_rf G.1 i :: st) sh hi hl hr := by
  intro p e s m args below meth c fx hz H locs a hs hS hL
  refine va_putF fx.1 fx.2.1 fx.2.2.2.2.1 hin ty0 hty hnm fx.2.2.2.1 fx.2.2.2.2.2.2.2.2.1.1 hs sv_ws_D hS i (fs := sv_fs G.1 ci i hi hl hr) (sv_ws_get hsh) hc k hk (fx.2.2.2.2.1 _ w) (fun _ h => h) hfin (fx.2.2.2.2.2.2.2.1.trans hin2) hdecl (hty k hk) hn hfit (by rw [sv_fs_len, hN]; exact hk) d fun H1 locs1 hP _ hS1 => ?_
  rw [sv_fs_set (by rw [hN]; exact hk) (hi' := hi) (hl' := hl) (hr' := (sv_u2 hr i k (some x))) (by rw [hkd]; simp only [sv_fv, sv_u2_at]; try rfl) (fun j hj => by refine ⟨?_, ?_, ?_⟩ <;> first | rfl | exact sv_u2_k hj)] at hP
  have e2 := sv_ws_set (G := G) (hi := hi) (hl := hl) (hr := hr) hsh (hi' := hi) (hl' := hl) (hr' := (sv_u2 hr i k (some x))) rfl (fun j hj => by refine ⟨?_, ?_, ?_⟩ <;> first | rfl | exact sv_u2_off hj)
  have hP2 := hP
  rw [show (sv_ws G sh hi hl hr).set i (G.1 + i, Sum.inr (ci, sv_fs G.1 ci i hi hl (sv_u2 hr i k (some x)))) = _ from e2] at hP2
  exact kk p e s m args below meth c fx hz H1 locs1 a hP2 hS1 hL
theorem J_iald {x : Int32} {i n : Nat}  (hsh : sh[i]? = some (1, n)) (hx : vp_in x n) (d : decode M.2.1 pc = .ok (.iaload, 1)) (kk : svJ l G R M F cs sl (pc + 1) ls (.int (hi i x.toNatClampNeg) :: st) sh hi hl hr) : svJ l G R M F cs sl pc ls (.int x :: sv_rf G.1 i :: st) sh hi hl hr := by
  intro p e s m args below meth c fx hz H locs a hs hS hL
  exact va_iald fx.1 fx.2.1 fx.2.2.2.2.2.2.2.2.1.1 hs i 0 (n := n) (f := hi i) (sv_ws_get hsh) rfl hx d (kk p e s m args below meth c fx hz H locs a hs hS hL)
theorem J_iald_n {x : Int32} {i n : Nat} (j : Nat) (hsh : sh[i]? = some (1, n)) (hx : x = nI j) (hj : j < n) (hn : n < 2 ^ 31) (d : decode M.2.1 pc = .ok (.iaload, 1)) (kk : svJ l G R M F cs sl (pc + 1) ls (.int (hi i j) :: st) sh hi hl hr) : svJ l G R M F cs sl pc ls (.int x :: sv_rf G.1 i :: st) sh hi hl hr := by
  subst hx
  refine J_iald hsh (vp_in_nI hj hn) d ?_
  rw [nI_clamp (by omega)]
  exact kk
theorem J_cald {x : Int32} {i n : Nat}  (hsh : sh[i]? = some (2, n)) (hx : vp_in x n) (d : decode M.2.1 pc = .ok (.caload, 1)) (kk : svJ l G R M F cs sl (pc + 1) ls (.int (hi i x.toNatClampNeg) :: st) sh hi hl hr) : svJ l G R M F cs sl pc ls (.int x :: sv_rf G.1 i :: st) sh hi hl hr := by
  intro p e s m args below meth c fx hz H locs a hs hS hL
  exact va_cald fx.1 fx.2.1 fx.2.2.2.2.2.2.2.2.1.1 hs i 1 (n := n) (f := hi i) (sv_ws_get hsh) rfl hx d (kk p e s m args below meth c fx hz H locs a hs hS hL)
theorem J_cald_n {x : Int32} {i n : Nat} (j : Nat) (hsh : sh[i]? = some (2, n)) (hx : x = nI j) (hj : j < n) (hn : n < 2 ^ 31) (d : decode M.2.1 pc = .ok (.caload, 1)) (kk : svJ l G R M F cs sl (pc + 1) ls (.int (hi i j) :: st) sh hi hl hr) : svJ l G R M F cs sl pc ls (.int x :: sv_rf G.1 i :: st) sh hi hl hr := by
  subst hx
  refine J_cald hsh (vp_in_nI hj hn) d ?_
  rw [nI_clamp (by omega)]
  exact kk
theorem J_zald {x : Int32} {i n : Nat}  (hsh : sh[i]? = some (3, n)) (hx : vp_in x n) (d : decode M.2.1 pc = .ok (.baload, 1)) (kk : svJ l G R M F cs sl (pc + 1) ls (.int (hi i x.toNatClampNeg) :: st) sh hi hl hr) : svJ l G R M F cs sl pc ls (.int x :: sv_rf G.1 i :: st) sh hi hl hr := by
  intro p e s m args below meth c fx hz H locs a hs hS hL
  exact va_zald fx.1 fx.2.1 fx.2.2.2.2.2.2.2.2.1.1 hs i 2 (n := n) (f := hi i) (sv_ws_get hsh) rfl hx d (kk p e s m args below meth c fx hz H locs a hs hS hL)
theorem J_zald_n {x : Int32} {i n : Nat} (j : Nat) (hsh : sh[i]? = some (3, n)) (hx : x = nI j) (hj : j < n) (hn : n < 2 ^ 31) (d : decode M.2.1 pc = .ok (.baload, 1)) (kk : svJ l G R M F cs sl (pc + 1) ls (.int (hi i j) :: st) sh hi hl hr) : svJ l G R M F cs sl pc ls (.int x :: sv_rf G.1 i :: st) sh hi hl hr := by
  subst hx
  refine J_zald hsh (vp_in_nI hj hn) d ?_
  rw [nI_clamp (by omega)]
  exact kk
theorem J_aald {x : Int32} {i n q : Nat} (hsh : sh[i]? = some (4, n)) (hx : vp_in x n) (hv : hr i x.toNatClampNeg = some q) (d : decode M.2.1 pc = .ok (.aaload, 1)) (kk : svJ l G R M F cs sl (pc + 1) ls (sv_rf G.1 q :: st) sh hi hl hr) : svJ l G R M F cs sl pc ls (.int x :: sv_rf G.1 i :: st) sh hi hl hr := by
  intro p e s m args below meth c fx hz H locs a hs hS hL
  refine va_aldq (C := RX3) fx.1 fx.2.1 fx.2.2.2.2.2.2.2.2.1.1 hs i 3 (n := n) (f := fun k => (hr i k).map (fun j => G.1 + j)) (sv_ws_get hsh) rfl hx d ?_
  show W _ _ _ _ _ _ _ _ _ _ _ _ _ _ _ (F0 _ _ _ (va_rf ((hr i x.toNatClampNeg).map (fun j => G.1 + j)) :: st))
  rw [hv]
  exact kk p e s m args below meth c fx hz H locs a hs hS hL
theorem J_aald_n {x : Int32} {i n q : Nat} (j : Nat) (hsh : sh[i]? = some (4, n)) (hx : x = nI j) (hj : j < n) (hn : n < 2 ^ 31) (hv : hr i j = some q) (d : decode M.2.1 pc = .ok (.aaload, 1)) (kk : svJ l G R M F cs sl (pc + 1) ls (sv_rf G.1 q :: st) sh hi hl hr) : svJ l G R M F cs sl pc ls (.int x :: sv_rf G.1 i :: st) sh hi hl hr := by
  subst hx
  exact J_aald hsh (vp_in_nI hj hn) (by rw [nI_clamp (by omega)]; exact hv) d kk
theorem J_iast {x y : Int32} {i n : Nat} (hsh : sh[i]? = some (1, n)) (hx : vp_in x n)  (d : decode M.2.1 pc = .ok (.iastore, 1)) (kk : svJ l G R M F cs sl (pc + 1) ls st sh (sv_u2 hi i x.toNatClampNeg y) hl hr) : svJ l G R M F cs sl pc ls (.int y :: .int x :: sv_rf G.1 i :: st) sh hi hl hr := by
  intro p e s m args below meth c fx hz H locs a hs hS hL
  refine va_iast fx.1 fx.2.1 fx.2.2.2.2.2.2.2.2.1.1 hs sv_ws_D hS i 0 (n := n) (f := hi i) (sv_ws_get hsh) rfl hx d fun H1 locs1 hP _ hS1 => ?_
  rw [sv_ws_set hsh (hi' := sv_u2 hi i x.toNatClampNeg y) (hl' := hl) (hr' := hr) (by show Sum.inl _ = Sum.inl _; rw [sv_u2_row]) (fun j hj => ⟨sv_u2_off hj, rfl, rfl⟩)] at hP
  exact kk p e s m args below meth c fx hz H1 locs1 a hP hS1 hL
theorem J_iast_n {x y : Int32} {i n : Nat} (j : Nat) (hsh : sh[i]? = some (1, n)) (hx : x = nI j) (hj : j < n) (hn : n < 2 ^ 31)  (d : decode M.2.1 pc = .ok (.iastore, 1)) (kk : svJ l G R M F cs sl (pc + 1) ls st sh (sv_u2 hi i j y) hl hr) : svJ l G R M F cs sl pc ls (.int y :: .int x :: sv_rf G.1 i :: st) sh hi hl hr := by
  subst hx
  refine J_iast hsh (vp_in_nI hj hn) d ?_
  rw [nI_clamp (by omega)]
  exact kk
theorem J_cast {x y : Int32} {i n : Nat} (hsh : sh[i]? = some (2, n)) (hx : vp_in x n) (hy : vp_nar .char y = y) (d : decode M.2.1 pc = .ok (.castore, 1)) (kk : svJ l G R M F cs sl (pc + 1) ls st sh (sv_u2 hi i x.toNatClampNeg y) hl hr) : svJ l G R M F cs sl pc ls (.int y :: .int x :: sv_rf G.1 i :: st) sh hi hl hr := by
  intro p e s m args below meth c fx hz H locs a hs hS hL
  refine va_cast fx.1 fx.2.1 fx.2.2.2.2.2.2.2.2.1.1 hs sv_ws_D hS i 1 (n := n) (f := hi i) (sv_ws_get hsh) rfl hx d fun H1 locs1 hP _ hS1 => ?_
  rw [hy] at hP
  rw [sv_ws_set hsh (hi' := sv_u2 hi i x.toNatClampNeg y) (hl' := hl) (hr' := hr) (by show Sum.inl _ = Sum.inl _; rw [sv_u2_row]) (fun j hj => ⟨sv_u2_off hj, rfl, rfl⟩)] at hP
  exact kk p e s m args below meth c fx hz H1 locs1 a hP hS1 hL
theorem J_cast_n {x y : Int32} {i n : Nat} (j : Nat) (hsh : sh[i]? = some (2, n)) (hx : x = nI j) (hj : j < n) (hn : n < 2 ^ 31) (hy : vp_nar .char y = y) (d : decode M.2.1 pc = .ok (.castore, 1)) (kk : svJ l G R M F cs sl (pc + 1) ls st sh (sv_u2 hi i j y) hl hr) : svJ l G R M F cs sl pc ls (.int y :: .int x :: sv_rf G.1 i :: st) sh hi hl hr := by
  subst hx
  refine J_cast hsh (vp_in_nI hj hn) hy d ?_
  rw [nI_clamp (by omega)]
  exact kk
theorem J_zast {x y : Int32} {i n : Nat} (hsh : sh[i]? = some (3, n)) (hx : vp_in x n) (hy : vp_nar .boolean y = y) (d : decode M.2.1 pc = .ok (.bastore, 1)) (kk : svJ l G R M F cs sl (pc + 1) ls st sh (sv_u2 hi i x.toNatClampNeg y) hl hr) : svJ l G R M F cs sl pc ls (.int y :: .int x :: sv_rf G.1 i :: st) sh hi hl hr := by
  intro p e s m args below meth c fx hz H locs a hs hS hL
  refine va_zast fx.1 fx.2.1 fx.2.2.2.2.2.2.2.2.1.1 hs sv_ws_D hS i 2 (n := n) (f := hi i) (sv_ws_get hsh) rfl hx d fun H1 locs1 hP _ hS1 => ?_
  rw [hy] at hP
  rw [sv_ws_set hsh (hi' := sv_u2 hi i x.toNatClampNeg y) (hl' := hl) (hr' := hr) (by show Sum.inl _ = Sum.inl _; rw [sv_u2_row]) (fun j hj => ⟨sv_u2_off hj, rfl, rfl⟩)] at hP
  exact kk p e s m args below meth c fx hz H1 locs1 a hP hS1 hL
theorem J_zast_n {x y : Int32} {i n : Nat} (j : Nat) (hsh : sh[i]? = some (3, n)) (hx : x = nI j) (hj : j < n) (hn : n < 2 ^ 31) (hy : vp_nar .boolean y = y) (d : decode M.2.1 pc = .ok (.bastore, 1)) (kk : svJ l G R M F cs sl (pc + 1) ls st sh (sv_u2 hi i j y) hl hr) : svJ l G R M F cs sl pc ls (.int y :: .int x :: sv_rf G.1 i :: st) sh hi hl hr := by
  subst hx
  refine J_zast hsh (vp_in_nI hj hn) hy d ?_
  rw [nI_clamp (by omega)]
  exact kk
theorem J_aast {x : Int32} {i n q : Nat} (hsh : sh[i]? = some (4, n)) (hx : vp_in x n) (hq : sh[q]? = some (0, 3)) (d : decode M.2.1 pc = .ok (.aastore, 1)) (kk : svJ l G R M F cs sl (pc + 1) ls st sh hi hl (sv_u2 hr i x.toNatClampNeg (some q))) : svJ l G R M F cs sl pc ls (sv_rf G.1 q :: .int x :: sv_rf G.1 i :: st) sh hi hl hr := by
  intro p e s m args below meth c fx hz H locs a hs hS hL
  refine va_astq (r := (RX3, TX3, 8)) fx.1 fx.2.1 fx.2.2.2.2.2.2.2.2.1.1 hs sv_ws_D hS i 3 q 3 (n := n) (f := fun k => (hr i k).map (fun j => G.1 + j)) (sv_ws_get hsh) rfl (sv_ws_get hq) rfl hx d fun H1 locs1 hP _ hS1 => ?_
  rw [sv_ws_set hsh (hi' := hi) (hl' := hl) (hr' := sv_u2 hr i x.toNatClampNeg (some q)) (by show Sum.inl _ = Sum.inl _; rw [sv_u2_rowR]) (fun j hj => ⟨rfl, rfl, sv_u2_off hj⟩)] at hP
  exact kk p e s m args below meth c fx hz H1 locs1 a hP hS1 hL
theorem J_aast_n {x : Int32} {i n q : Nat} (j : Nat) (hsh : sh[i]? = some (4, n)) (hx : x = nI j) (hj : j < n) (hn : n < 2 ^ 31) (hq : sh[q]? = some (0, 3)) (d : decode M.2.1 pc = .ok (.aastore, 1)) (kk : svJ l G R M F cs sl (pc + 1) ls st sh hi hl (sv_u2 hr i j (some q))) : svJ l G R M F cs sl pc ls (sv_rf G.1 q :: .int x :: sv_rf G.1 i :: st) sh hi hl hr := by
  subst hx
  refine J_aast hsh (vp_in_nI hj hn) hq d ?_
  rw [nI_clamp (by omega)]
  exact kk
theorem J_alen1 {i n : Nat} (v : Int32) (hsh : sh[i]? = some (1, n)) (hv : Int32.ofNat n = v) (d : decode M.2.1 pc = .ok (.arraylength, 1)) (kk : svJ l G R M F cs sl (pc + 1) ls (.int v :: st) sh hi hl hr) : svJ l G R M F cs sl pc ls (sv_rf G.1 i :: st) sh hi hl hr := by
  intro p e s m args below meth c fx hz H locs a hs hS hL
  exact va_alen fx.1 fx.2.1 fx.2.2.2.2.2.2.2.2.1.1 hs i 0 (sv_ws_get hsh) rfl hv d (kk p e s m args below meth c fx hz H locs a hs hS hL)
theorem J_alen2 {i n : Nat} (v : Int32) (hsh : sh[i]? = some (2, n)) (hv : Int32.ofNat n = v) (d : decode M.2.1 pc = .ok (.arraylength, 1)) (kk : svJ l G R M F cs sl (pc + 1) ls (.int v :: st) sh hi hl hr) : svJ l G R M F cs sl pc ls (sv_rf G.1 i :: st) sh hi hl hr := by
  intro p e s m args below meth c fx hz H locs a hs hS hL
  exact va_alen fx.1 fx.2.1 fx.2.2.2.2.2.2.2.2.1.1 hs i 1 (sv_ws_get hsh) rfl hv d (kk p e s m args below meth c fx hz H locs a hs hS hL)
theorem J_alen3 {i n : Nat} (v : Int32) (hsh : sh[i]? = some (3, n)) (hv : Int32.ofNat n = v) (d : decode M.2.1 pc = .ok (.arraylength, 1)) (kk : svJ l G R M F cs sl (pc + 1) ls (.int v :: st) sh hi hl hr) : svJ l G R M F cs sl pc ls (sv_rf G.1 i :: st) sh hi hl hr := by
  intro p e s m args below meth c fx hz H locs a hs hS hL
  exact va_alen fx.1 fx.2.1 fx.2.2.2.2.2.2.2.2.1.1 hs i 2 (sv_ws_get hsh) rfl hv d (kk p e s m args below meth c fx hz H locs a hs hS hL)
theorem J_alen4 {i n : Nat} (v : Int32) (hsh : sh[i]? = some (4, n)) (hv : Int32.ofNat n = v) (d : decode M.2.1 pc = .ok (.arraylength, 1)) (kk : svJ l G R M F cs sl (pc + 1) ls (.int v :: st) sh hi hl hr) : svJ l G R M F cs sl pc ls (sv_rf G.1 i :: st) sh hi hl hr := by
  intro p e s m args below meth c fx hz H locs a hs hS hL
  exact va_alen fx.1 fx.2.1 fx.2.2.2.2.2.2.2.2.1.1 hs i 3 (sv_ws_get hsh) rfl hv d (kk p e s m args below meth c fx hz H locs a hs hS hL)
theorem J_copyi {i j n0 n1 idx : Nat} {sp dp n : Int32} (w1 : Cond.methodLink M.1 idx arraycopyName ∈ sv_tbl) (w2 : Cond.native arraycopyName ∈ lw_tbl) (w2g : goodWord (Cond.native arraycopyName) = true) (w3 : Cond.static arraycopyName ∈ sv_tbl) (w4 : Cond.initialized "java/lang/System" ∈ sv_tbl) (h0 : sh[i]? = some (1, n0)) (h1 : sh[j]? = some (1, n1)) (g1 : ¬ sp < 0) (g2 : ¬ dp < 0) (g3 : ¬ n < 0) (g4 : sp.toNatClampNeg + n.toNatClampNeg ≤ n0) (g5 : dp.toNatClampNeg + n.toNatClampNeg ≤ n1) (hR : 1 ≤ R.frames) (hR2 : (st.map fun v => v.category).sum + (nativeFrameWords "java/lang/System" "arraycopy" 5 + 11) ≤ R.locals) (d : decode M.2.1 pc = .ok (.invokestatic idx, 3)) (kk : svJ l G R M F cs sl (pc + 3) ls st sh (fun b => if b = j then va_cpy (hi i) (hi j) sp.toNatClampNeg dp.toNatClampNeg n.toNatClampNeg else hi b) hl hr) : svJ l G R M F cs sl pc ls (.int n :: .int dp :: sv_rf G.1 j :: .int sp :: sv_rf G.1 i :: st) sh hi hl hr := by
  intro p e s m args below meth c fx hz H locs a hs hS hL
  refine va_copyi fx.1 fx.2.1 (fx.2.2.1.trans hL.1.symm) fx.2.2.2.1 (fx.2.2.2.2.1 _ w1) (fx.2.2.2.2.1 _ (List.mem_filter.mpr ⟨w2, w2g⟩)) (fx.2.2.2.2.1 _ w3) (fx.2.2.2.2.1 _ w4) fx.2.2.2.2.2.2.2.2.1.1 hs sv_ws_D hS i j 0 0 (n0 := n0) (n1 := n1) (f := hi i) (g := hi j) (sv_ws_get h0) (sv_ws_get h1) rfl rfl rfl g1 g2 g3 g4 g5 (fun _ _ => rfl) hR hR2 d fun H1 locs1 hP _ hS1 => ?_
  rw [sv_ws_set h1 (hi' := fun b => if b = j then va_cpy (hi i) (hi j) sp.toNatClampNeg dp.toNatClampNeg n.toNatClampNeg else hi b) (hl' := hl) (hr' := hr) (by show Sum.inl _ = Sum.inl _; simp) (fun z hz => ⟨by simp [hz], rfl, rfl⟩)] at hP
  exact kk p e s m args below meth c fx hz H1 locs1 a hP hS1 hL
theorem J_mmax {idx : Nat} {x y : Int32} (w1 : Cond.methodLink M.1 idx Lib.Math.max.name ∈ sv_tbl) (w2 : Cond.static Lib.Math.max.name ∈ sv_tbl) (w3 : Cond.initialized "java/lang/Math" ∈ sv_tbl) (w4 : Cond.code Lib.Math.max.name Lib.Math.max.code 2 (some .int) ∈ sv_tbl) (hR : 1 ≤ R.frames) (hR2 : (st.map fun v => v.category).sum + 13 ≤ R.locals) (hc : cs ≤ R.cells) (hs1 : sl ≤ R.slots) (d : decode M.2.1 pc = .ok (.invokestatic idx, 3)) (kk : svJ l G R M F cs sl (pc + 3) ls (.int (if x < y then y else x) :: st) sh hi hl hr) : svJ l G R M F cs sl pc ls (.int y :: .int x :: st) sh hi hl hr := by
  intro p e s m args below meth c fx hz H locs a hs hS hL
  exact va_mmax fx.1 fx.2.1 (fx.2.2.1.trans hL.1.symm) fx.2.2.2.1 (fx.2.2.2.2.1 _ w1) (fx.2.2.2.2.1 _ w2) (fx.2.2.2.2.1 _ w3) (fx.2.2.2.2.1 _ w4) hR hR2 hc hs1 d (kk p e s m args below meth c fx hz H locs a hs hS hL)
theorem J_mmin {idx : Nat} {x y : Int32} (w1 : Cond.methodLink M.1 idx Lib.Math.min.name ∈ sv_tbl) (w2 : Cond.static Lib.Math.min.name ∈ sv_tbl) (w3 : Cond.initialized "java/lang/Math" ∈ sv_tbl) (w4 : Cond.code Lib.Math.min.name Lib.Math.min.code 2 (some .int) ∈ sv_tbl) (hR : 1 ≤ R.frames) (hR2 : (st.map fun v => v.category).sum + 13 ≤ R.locals) (hc : cs ≤ R.cells) (hs1 : sl ≤ R.slots) (d : decode M.2.1 pc = .ok (.invokestatic idx, 3)) (kk : svJ l G R M F cs sl (pc + 3) ls (.int (if y < x then y else x) :: st) sh hi hl hr) : svJ l G R M F cs sl pc ls (.int y :: .int x :: st) sh hi hl hr := by
  intro p e s m args below meth c fx hz H locs a hs hS hL
  exact va_mmin fx.1 fx.2.1 (fx.2.2.1.trans hL.1.symm) fx.2.2.2.1 (fx.2.2.2.2.1 _ w1) (fx.2.2.2.2.1 _ w2) (fx.2.2.2.2.1 _ w3) (fx.2.2.2.2.1 _ w4) hR hR2 hc hs1 d (kk p e s m args below meth c fx hz H locs a hs hS hL)
end SvRows
