def sv_z {α : Type} (f : Nat → Nat → α) (n : Nat) (v : α) : Nat → Nat → α := fun a b => if a = n then v else f a b
theorem sv_z_off {α : Type} {f : Nat → Nat → α} {n j : Nat} {v : α} (h : j ≠ n) : sv_z f n v j = f j := by
  funext b
  simp [sv_z, h]
theorem sv_z_at {α : Type} {f : Nat → Nat → α} {n : Nat} {v : α} : sv_z f n v n = fun _ => v := by
  funext b
  simp [sv_z]
theorem sv_size {p : Program} {l : Launch} {e : Env} {R : Room} {s : State} {m : MethodId} {args : Array Value} {below : List Frame} {meth : Method} {c : Code} {H : Heap} {locs : List Loc} {cs sl : Nat} {Q : State → Prop} {g : JFrame} {G : svG} {sh : svS} {hi : svH} {hl : svL} {hr : svR}
    (hP : sv_Sm G sh hi hl hr H) (hb : G.1 ≤ s.heap.size) (hz : s.heap.size + cs = G.1 + sh.length) (h0 : s.heap.size ≤ H.size) (k : H.size = G.1 + sh.length → W p l e R s m args below meth c H locs cs sl Q g) : W p l e R s m args below meth c H locs cs sl Q g := by
  intro T hT X
  refine k ?_ T hT X
  have h1 := X.heapSize
  rw [hT] at h1
  have h2 : G.1 + sh.length ≤ H.size := by
    cases hsh : sh.length with
    | zero => omega
    | succ n =>
      have hlt : n < sh.length := by omega
      have := (hP n _ (sv_ws_get (G := G) (hi := hi) (hl := hl) (hr := hr) (List.getElem?_eq_getElem hlt))).lt
      have h3 : G.1 + n < H.size := this
      omega
  omega
section SvNew
variable {l : Launch} {G : svG} {R : Room} {M : svM} {F : svF} {cs sl pc : Nat} {ls : List (Option Value)} {st : List Value} {sh : svS} {hi : svH} {hl : svL} {hr : svR}
theorem J_newo {C : String} {T : u_T} {N ci idx : Nat} {ty0 : Nat → FieldType} (hin : ∀ w ∈ u_ws C T N, w ∈ sv_tbl) (hty : ∀ k, k < N → parseFieldDescriptor (T k).2.2.1 = some (ty0 k)) (hc : vwCl[ci]? = some (C, T, N)) (hN : (sv_fk ci).length = N) (hdf : ∀ j, j < N → ∀ b, defaultValue (ty0 j) = vp_V (sv_fs b ci sh.length (sv_z hi sh.length 0) (sv_z hl sh.length 0) (sv_z hr sh.length none)) j) (w1 : Cond.classLink M.1 idx C ∈ sv_tbl) (w2 : Cond.instantiable C N ∈ sv_tbl) (w3 : Cond.initialized C ∈ sv_tbl) (hR1 : cs + 1 ≤ R.cells) (hR2 : sl + N ≤ R.slots) (d : decode M.2.1 pc = .ok (.new idx, 3)) (kk : svJ l G R M F (cs + 1) (sl + N) (pc + 3) ls (sv_rf G.1 sh.length :: st) (sh ++ [(0, ci)]) (sv_z hi sh.length 0) (sv_z hl sh.length 0) (sv_z hr sh.length none)) : svJ l G R M F cs sl pc ls st sh hi hl hr := by
  intro p e s m args below meth c fx hz H locs a hs hS hL
  have hts := fx.2.2.2.2.1
  have hKn := fx.2.2.2.2.2.2.2.2.1.1.1 ci _ hc
  refine sv_size hs fx.2.2.2.2.2.2.2.2.2 hz hS.1 fun hsz => ?_
  refine W.newcK (h := H.size) fx.1 fx.2.1 fx.2.2.2.1 (hts _ w1) (hts _ w2) (hts _ w3) rfl d hR1 hR2 hKn.2.1 rfl fun H1 kC hkC e1 z1 o1 => ?_
  rw [hsz] at e1 o1
  have hk : ∀ (k : Nat) (x : Nat × va_E), (sv_ws G sh hi hl hr)[k]? = some x → H1[x.1]? = H[x.1]? := fun k x hx => o1 x.1 (by rw [← hsz]; exact (hs k x hx).lt)
  have hP : sv_Sm G (sh ++ [(0, ci)]) (sv_z hi sh.length 0) (sv_z hl sh.length 0) (sv_z hr sh.length none) H1 := by
    unfold sv_Sm
    rw [sv_ws_push (hi := hi) (hl := hl) (hr := hr) (fun j hj => ⟨sv_z_off (by omega), sv_z_off (by omega), sv_z_off (by omega)⟩)]
    refine (va_P.kept hs hk).app (fun k x hx => ?_)
    have hz : k < 1 := (List.getElem?_eq_some_iff.mp hx).1
    rw [show k = 0 by omega] at hx
    cases hx
    exact ⟨_, hc, (u_born ty0 hts hin hKn hkC e1 hty).to (fun j hj => hdf j hj G.1)⟩
  have hrf : Value.ref H.size = sv_rf G.1 sh.length := by rw [hsz]; rfl
  rw [hrf]
  exact kk p e s m args below meth c fx (by rw [List.length_append, List.length_singleton]; omega) H1 locs a hP ⟨Nat.le_trans hS.1 (by omega), fun x h1 h2 => (o1 x (by rw [← hsz]; exact Nat.lt_of_lt_of_le h1 hS.1)).trans (hS.2.1 x h1 h2), hS.2.2⟩ hL
theorem J_newa_int {n : Int32} (N : Nat) (hn : n = nI N) (hN : N < 100000) (w1 : Cond.arrayClass (newarray.typeOf .int) ∈ sv_tbl) (hR1 : cs + 1 ≤ R.cells) (hR2 : sl + N ≤ R.slots) (d : decode M.2.1 pc = .ok (.newarray .int, 2)) (kk : svJ l G R M F (cs + 1) (sl + N) (pc + 2) ls (sv_rf G.1 sh.length :: st) (sh ++ [(1, N)]) (sv_z hi sh.length 0) hl hr) : svJ l G R M F cs sl pc ls (.int n :: st) sh hi hl hr := by
  intro p e s m args below meth c fx hz H locs a hs hS hL
  subst hn
  have hts := fx.2.2.2.2.1
  refine sv_size hs fx.2.2.2.2.2.2.2.2.2 hz hS.1 fun hsz => ?_
  refine va_newaK (atype := .int) (h := H.size) (N := N) fx.1 fx.2.1 (hts _ w1) rfl d rfl (nI_pos (by omega)) (nI_clamp (by omega)) (Nat.le_trans (Nat.mul_le_mul_left _ (show componentBytes (newarray.typeOf .int) ≤ 8 from by decide)) (by omega)) hR1 hR2 rfl fun H1 cA e1 z1 o1 hAr hNm => ?_
  rw [hsz] at e1 o1
  have hcA : cA = G.2.2 0 := by
    have h1 := (fx.2.2.2.2.2.2.2.2.1.1.2 0 (G.2.2 0, .int) rfl).2
    exact Option.some.inj (hNm.symm.trans h1)
  subst hcA
  have hk : ∀ (k : Nat) (x : Nat × va_E), (sv_ws G sh hi hl hr)[k]? = some x → H1[x.1]? = H[x.1]? := fun k x hx => o1 x.1 (by rw [← hsz]; exact (hs k x hx).lt)
  have hP : sv_Sm G (sh ++ [(1, N)]) (sv_z hi sh.length 0) hl hr H1 := by
    unfold sv_Sm
    rw [sv_ws_push (hi := hi) (hl := hl) (hr := hr) (fun j hj => ⟨sv_z_off (by omega), rfl, rfl⟩)]
    refine (va_P.kept hs hk).app (fun k x hx => ?_)
    have hz : k < 1 := (List.getElem?_eq_some_iff.mp hx).1
    rw [show k = 0 by omega] at hx
    cases hx
    show H1[G.1 + sh.length]? = some (vp_cell _ (N, .inl (sv_z hi sh.length 0 sh.length)))
    rw [e1, sv_z_at, vp_cell_i]
    rfl
  have hrf : Value.ref H.size = sv_rf G.1 sh.length := by rw [hsz]; rfl
  rw [hrf]
  exact kk p e s m args below meth c fx (by rw [List.length_append, List.length_singleton]; omega) H1 locs a hP ⟨Nat.le_trans hS.1 (by omega), fun x h1 h2 => (o1 x (by rw [← hsz]; exact Nat.lt_of_lt_of_le h1 hS.1)).trans (hS.2.1 x h1 h2), hS.2.2⟩ hL
theorem J_newa_char {n : Int32} (N : Nat) (hn : n = nI N) (hN : N < 100000) (w1 : Cond.arrayClass (newarray.typeOf .char) ∈ sv_tbl) (hR1 : cs + 1 ≤ R.cells) (hR2 : sl + N ≤ R.slots) (d : decode M.2.1 pc = .ok (.newarray .char, 2)) (kk : svJ l G R M F (cs + 1) (sl + N) (pc + 2) ls (sv_rf G.1 sh.length :: st) (sh ++ [(2, N)]) (sv_z hi sh.length 0) hl hr) : svJ l G R M F cs sl pc ls (.int n :: st) sh hi hl hr := by
  intro p e s m args below meth c fx hz H locs a hs hS hL
  subst hn
  have hts := fx.2.2.2.2.1
  refine sv_size hs fx.2.2.2.2.2.2.2.2.2 hz hS.1 fun hsz => ?_
  refine va_newaK (atype := .char) (h := H.size) (N := N) fx.1 fx.2.1 (hts _ w1) rfl d rfl (nI_pos (by omega)) (nI_clamp (by omega)) (Nat.le_trans (Nat.mul_le_mul_left _ (show componentBytes (newarray.typeOf .char) ≤ 8 from by decide)) (by omega)) hR1 hR2 rfl fun H1 cA e1 z1 o1 hAr hNm => ?_
  rw [hsz] at e1 o1
  have hcA : cA = G.2.2 1 := by
    have h1 := (fx.2.2.2.2.2.2.2.2.1.1.2 1 (G.2.2 1, .char) rfl).2
    exact Option.some.inj (hNm.symm.trans h1)
  subst hcA
  have hk : ∀ (k : Nat) (x : Nat × va_E), (sv_ws G sh hi hl hr)[k]? = some x → H1[x.1]? = H[x.1]? := fun k x hx => o1 x.1 (by rw [← hsz]; exact (hs k x hx).lt)
  have hP : sv_Sm G (sh ++ [(2, N)]) (sv_z hi sh.length 0) hl hr H1 := by
    unfold sv_Sm
    rw [sv_ws_push (hi := hi) (hl := hl) (hr := hr) (fun j hj => ⟨sv_z_off (by omega), rfl, rfl⟩)]
    refine (va_P.kept hs hk).app (fun k x hx => ?_)
    have hz : k < 1 := (List.getElem?_eq_some_iff.mp hx).1
    rw [show k = 0 by omega] at hx
    cases hx
    show H1[G.1 + sh.length]? = some (vp_cell _ (N, .inl (sv_z hi sh.length 0 sh.length)))
    rw [e1, sv_z_at, vp_cell_i]
    rfl
  have hrf : Value.ref H.size = sv_rf G.1 sh.length := by rw [hsz]; rfl
  rw [hrf]
  exact kk p e s m args below meth c fx (by rw [List.length_append, List.length_singleton]; omega) H1 locs a hP ⟨Nat.le_trans hS.1 (by omega), fun x h1 h2 => (o1 x (by rw [← hsz]; exact Nat.lt_of_lt_of_le h1 hS.1)).trans (hS.2.1 x h1 h2), hS.2.2⟩ hL
theorem J_newa_bool {n : Int32} (N : Nat) (hn : n = nI N) (hN : N < 100000) (w1 : Cond.arrayClass (newarray.typeOf .boolean) ∈ sv_tbl) (hR1 : cs + 1 ≤ R.cells) (hR2 : sl + N ≤ R.slots) (d : decode M.2.1 pc = .ok (.newarray .boolean, 2)) (kk : svJ l G R M F (cs + 1) (sl + N) (pc + 2) ls (sv_rf G.1 sh.length :: st) (sh ++ [(3, N)]) (sv_z hi sh.length 0) hl hr) : svJ l G R M F cs sl pc ls (.int n :: st) sh hi hl hr := by
  intro p e s m args below meth c fx hz H locs a hs hS hL
  subst hn
  have hts := fx.2.2.2.2.1
  refine sv_size hs fx.2.2.2.2.2.2.2.2.2 hz hS.1 fun hsz => ?_
  refine va_newaK (atype := .boolean) (h := H.size) (N := N) fx.1 fx.2.1 (hts _ w1) rfl d rfl (nI_pos (by omega)) (nI_clamp (by omega)) (Nat.le_trans (Nat.mul_le_mul_left _ (show componentBytes (newarray.typeOf .boolean) ≤ 8 from by decide)) (by omega)) hR1 hR2 rfl fun H1 cA e1 z1 o1 hAr hNm => ?_
  rw [hsz] at e1 o1
  have hcA : cA = G.2.2 2 := by
    have h1 := (fx.2.2.2.2.2.2.2.2.1.1.2 2 (G.2.2 2, .boolean) rfl).2
    exact Option.some.inj (hNm.symm.trans h1)
  subst hcA
  have hk : ∀ (k : Nat) (x : Nat × va_E), (sv_ws G sh hi hl hr)[k]? = some x → H1[x.1]? = H[x.1]? := fun k x hx => o1 x.1 (by rw [← hsz]; exact (hs k x hx).lt)
  have hP : sv_Sm G (sh ++ [(3, N)]) (sv_z hi sh.length 0) hl hr H1 := by
    unfold sv_Sm
    rw [sv_ws_push (hi := hi) (hl := hl) (hr := hr) (fun j hj => ⟨sv_z_off (by omega), rfl, rfl⟩)]
    refine (va_P.kept hs hk).app (fun k x hx => ?_)
    have hz : k < 1 := (List.getElem?_eq_some_iff.mp hx).1
    rw [show k = 0 by omega] at hx
    cases hx
    show H1[G.1 + sh.length]? = some (vp_cell _ (N, .inl (sv_z hi sh.length 0 sh.length)))
    rw [e1, sv_z_at, vp_cell_i]
    rfl
  have hrf : Value.ref H.size = sv_rf G.1 sh.length := by rw [hsz]; rfl
  rw [hrf]
  exact kk p e s m args below meth c fx (by rw [List.length_append, List.length_singleton]; omega) H1 locs a hP ⟨Nat.le_trans hS.1 (by omega), fun x h1 h2 => (o1 x (by rw [← hsz]; exact Nat.lt_of_lt_of_le h1 hS.1)).trans (hS.2.1 x h1 h2), hS.2.2⟩ hL
theorem J_newq {n : Int32} {idx : Nat} (N : Nat) (hn : n = nI N) (hN : N < 100000) (w1 : Cond.classLink M.1 idx RX3 ∈ sv_tbl) (hR1 : cs + 1 ≤ R.cells) (hR2 : sl + N ≤ R.slots) (d : decode M.2.1 pc = .ok (.anewarray idx, 3)) (kk : svJ l G R M F (cs + 1) (sl + N) (pc + 3) ls (sv_rf G.1 sh.length :: st) (sh ++ [(4, N)]) hi hl (sv_z hr sh.length none)) : svJ l G R M F cs sl pc ls (.int n :: st) sh hi hl hr := by
  intro p e s m args below meth c fx hz H locs a hs hS hL
  subst hn
  have hts := fx.2.2.2.2.1
  have hcl : (nI N).toNatClampNeg = N := nI_clamp (by omega)
  refine sv_size hs fx.2.2.2.2.2.2.2.2.2 hz hS.1 fun hsz => ?_
  refine W.anew (C := RX3) fx.1 fx.2.1 fx.2.2.2.1 (hts _ w1) (va_AO.use fx.2.2.2.2.2.2.2.2.1.2.2) rfl d rfl (nI_pos (by omega)) (by rw [hcl]; omega) hR1 (by rw [hcl]; exact hR2) fun cA kA comp f1 f2 f3 f4 => ?_
  rw [hcl]
  generalize hH1 : H.push ({ cls := cA, slots := Array.replicate N .null, vm := .none } : Cell) = H1
  have z1 : H1.size = H.size + 1 := by rw [← hH1, Array.size_push]
  have e1 : H1[G.1 + sh.length]? = some (arrV cA N (fun _ => .null)) := by rw [← hsz, ← hH1, Array.getElem?_push_size, ← arrV_new]
  have o1 : ∀ q : Nat, q < G.1 + sh.length → H1[q]? = H[q]? := fun q hq => by rw [← hH1, Array.getElem?_push, if_neg (Nat.ne_of_lt (by rw [hsz]; exact hq))]
  have hcA : cA = G.2.2 3 := by
    obtain ⟨_, _, _, _, _, h1⟩ := (fx.2.2.2.2.2.2.2.2.1.1.2 3 (G.2.2 3, .object RX3) rfl).2
    exact Option.some.inj (f1.symm.trans h1)
  subst hcA
  have hk : ∀ (k : Nat) (x : Nat × va_E), (sv_ws G sh hi hl hr)[k]? = some x → H1[x.1]? = H[x.1]? := fun k x hx => o1 x.1 (by rw [← hsz]; exact (hs k x hx).lt)
  have hP : sv_Sm G (sh ++ [(4, N)]) hi hl (sv_z hr sh.length none) H1 := by
    unfold sv_Sm
    rw [sv_ws_push (hi := hi) (hl := hl) (hr := hr) (fun j hj => ⟨rfl, rfl, sv_z_off (by omega)⟩)]
    refine (va_P.kept hs hk).app (fun k x hx => ?_)
    have hz : k < 1 := (List.getElem?_eq_some_iff.mp hx).1
    rw [show k = 0 by omega] at hx
    cases hx
    show H1[G.1 + sh.length]? = some (vp_cell _ (N, .inr (.inr (.inr (.inr (fun k => (sv_z hr sh.length none sh.length k).map (fun j => G.1 + j)))))))
    rw [e1, sv_z_at, vp_cell_q]
    rfl
  have hrf : Value.ref H.size = sv_rf G.1 sh.length := by rw [hsz]; rfl
  rw [hrf]
  exact kk p e s m args below meth c fx (by rw [List.length_append, List.length_singleton]; omega) H1 locs a hP ⟨Nat.le_trans hS.1 (by omega), fun x h1 h2 => (o1 x (by rw [← hsz]; exact Nat.lt_of_lt_of_le h1 hS.1)).trans (hS.2.1 x h1 h2), hS.2.2⟩ hL
theorem J_objInit {i idx : Nat} (w1 : Cond.methodLink M.1 idx Lib.objectInit ∈ sv_tbl) (w2 : Cond.instanceMethod Lib.objectInit ∈ sv_tbl) (w3 : Cond.code Lib.objectInit ⟨#[0xb1]⟩ 1 none ∈ sv_tbl) (d : decode M.2.1 pc = .ok (.invokespecial idx, 3)) (hR : 1 ≤ R.frames) (hR2 : (st.map fun v => v.category).sum + 12 ≤ R.locals) (kk : svJ l G R M F cs sl (pc + 3) ls st sh hi hl hr) : svJ l G R M F cs sl pc ls (sv_rf G.1 i :: st) sh hi hl hr := by
  intro p e s m args below meth c fx hz H locs a hs hS hL
  have hts := fx.2.2.2.2.1
  exact W.objInit fx.1 fx.2.1 fx.2.2.2.1 (hts _ w1) (hts _ w2) (hts _ w3) rfl (hL.1.trans fx.2.2.1.symm) rfl d hR (by show 2 * 0 + _ + 12 ≤ _; omega) (kk p e s m args below meth c fx hz H locs a hs hS hL)
theorem sv_after {p : Program} {e : Env} {s : State} {m : MethodId} {args : Array Value} {below : List Frame} {meth : Method} {c : Code} {H : Heap} {locs : List Loc} {mc ms : Nat} {a : Array Slot} {st0 rest : List Value} {post : svQ} {aa : Array Value} {Q : State → Prop}
    (hr0 : va_Run p l e R s m args below meth c H locs cs sl mc ms (F0 m pc a st0) rest (sv_Qp G post mc aa) (sv_A G)) (hS : va_S (sv_A G) s.heap H locs) (hz : s.heap.size + cs = G.1 + sh.length) (hsz : H.size = G.1 + sh.length)
    (kk : ∀ (v : Option Value) (sh' : svS) (hi' : svH) (hl' : svL) (hr' : svR) (H1 : Heap) (locs1 : List Loc), post v sh' hi' hl' hr' → sv_Sm G sh' hi' hl' hr' H1 → va_S (sv_A G) s.heap H1 locs1 → s.heap.size + (cs + mc) = G.1 + sh'.length → W p l e R s m args below meth c H1 locs1 (cs + mc) (sl + ms) Q (F0 m (pc + 3) a (v.toList ++ rest))) : W p l e R s m args below meth c H locs cs sl Q (F0 m pc a st0) := by
  intro T hT X
  obtain ⟨v, st₀, t, T', L, h0, X', hL, e1, e2, ⟨⟨v', sh', hi', hl', hr', hv, hp, hP, hz1, hz2⟩, hze, hk⟩, stp⟩ := hr0 T hT X
  cases hv
  rw [h0] at hze hk hz2
  obtain ⟨t2, a1, b1⟩ := kk v sh' hi' hl' hr' T'.heap (locs ++ L) hp (by rw [e1]; exact hP)
    ⟨Nat.le_trans hS.1 (by rw [e1]; exact hze), fun q h1 h2 => by rw [e1, hk q (Nat.lt_of_lt_of_le h1 hS.1) h2]; exact hS.2.1 q h1 h2, fun q hq => by
      rcases List.mem_append.mp hq with h | h
      · exact hS.2.2 q h
      · exact hL q h⟩ (by omega) T' rfl X'
  exact ⟨t2, stp t2 a1, b1⟩
theorem sv_blind {args : List Value} : FrameBlind (va_Pc args (fun U => sv_Sm G sh hi hl hr U.heap ∧ U.heap.size = G.1 + sh.length ∧ sv_KN G U)) := fun a U g mk q => ⟨q.1, q.2.1, q.2.2.1, sv_KN.same (u := U) rfl q.2.2.2⟩
theorem sv_goods {c : Cond} (h : c ∈ sv_tbl) : GoodIn sv_tbl (c :: sv_tbl) := fun w hw => by
  rcases List.mem_cons.mp hw with rfl | hw
  · exact ⟨h, sv_good _ h⟩
  · exact ⟨hw, sv_good _ hw⟩
/-- what the tables say of a callee: its code, that its class is ready, how many it takes -/
def sv_cal (y : MethodName) (M' : svM) (n : Nat) : Prop := Cond.initialized y.cls ∈ sv_tbl ∧ Cond.code y M'.2.1 M'.2.2.1 M'.2.2.2.1 ∈ sv_tbl ∧ y.cls ≠ "java/lang/invoke/MethodHandle" ∧ y.cls ≠ "java/lang/invoke/VarHandle" ∧ (parseMethodDescriptor y.desc).map (fun d => d.parameters.length) = some n
def sv_rooms (R rm : Room) (M' : svM) (cs sl mc ms : Nat) : Prop := rm.cells = mc ∧ rm.slots = ms ∧ (rm.frames + 1 ≤ R.frames ∧ 8 + (M'.2.2.1 + 11) + rm.locals ≤ R.locals) ∧ cs + mc ≤ R.cells ∧ sl + ms ≤ R.slots
theorem J_callV {y : MethodName} {M' : svM} {rm : Room} {mc ms n idx : Nat} {As rest st0 : List Value} {post : svQ} {i ci NN : Nat} {TT : u_T} (hsh : sh[i]? = some (0, ci)) (hC : vwCl[ci]? = some (y.cls, TT, NN)) (T : svT l G y M' rm mc ms (sv_rf G.1 i :: As) sh hi hl hr post) (hcal : sv_cal y M' n)  (wl : Cond.methodLink M.1 idx y ∈ sv_tbl) (wi : Cond.instanceMethod y ∈ sv_tbl) (wsl : Cond.selects y.cls y y ∈ sv_tbl) (hn : As.length = n) (hst : st0 = As.reverse ++ sv_rf G.1 i :: rest) (hrest : (rest.map fun v => v.category).sum ≤ 8) (hR : sv_rooms R rm M' cs sl mc ms) (d : decode M.2.1 pc = .ok (.invokevirtual idx, 3)) (kk : ∀ (v : Option Value) (sh' : svS) (hi' : svH) (hl' : svL) (hr' : svR), post v sh' hi' hl' hr' → svJ l G R M F (cs + mc) (sl + ms) (pc + 3) ls (v.toList ++ rest) sh' hi' hl' hr') : svJ l G R M F cs sl pc ls st0 sh hi hl hr := by
  intro p e s m args below meth c fx hz H locs a hs hS hL
  refine sv_size hs fx.2.2.2.2.2.2.2.2.2 hz hS.1 fun hsz => ?_
  have hts := fx.2.2.2.2.1
  obtain ⟨c1, c2, c3⟩ := hcal
  obtain ⟨r1, r2, r3, r4⟩ := hR
  have hG := sv_goods c2
  exact sv_after (sh := sh) (va_runV (C := y.cls) (As := As) (rest := rest) ⟨fx.1, fx.2.1, fx.2.2.1, fx.2.2.2.1, hts⟩ T ⟨callB_of n hts hG rfl r1 r2 (hts _ c1) (hts _ wl) c3 r3, hts _ wi, hts _ wsl⟩ ⟨sv_blind, va_recv fx.2.2.2.2.2.2.2.2.1.1 hs hC (sv_ws_get hsh), (fun U hU hW => ⟨rfl, by rw [hU]; exact hs, by rw [hU]; exact hsz, sv_KN.warm hW fx.2.2.2.2.2.2.2.2.1⟩)⟩ rfl hn hL.1 hst (lv_room hrest) d r4) hS hz hsz fun v sh' hi' hl' hr' H1 locs1 hp hP hS1 hz1 => kk v sh' hi' hl' hr' hp p e s m args below meth c fx hz1 H1 locs1 a hP hS1 hL
theorem J_callVN {y : MethodName} {M' : svM} {rm : Room} {mc ms n idx : Nat} {As rest st0 : List Value} {post : svQ} {i ci NN : Nat} {TT : u_T} (hsh : sh[i]? = some (0, ci)) (hC : vwCl[ci]? = some (y.cls, TT, NN)) (T : svT l G y M' rm mc ms (sv_rf G.1 i :: As) sh hi hl hr post) (hcal : sv_cal y M' n)  (host : String) (wl : Cond.methodLinkNest M.1 idx y host ∈ sv_nest) (wi : Cond.instanceMethod y ∈ sv_tbl) (wsl : Cond.selects y.cls y y ∈ sv_tbl) (hn : As.length = n) (hst : st0 = As.reverse ++ sv_rf G.1 i :: rest) (hrest : (rest.map fun v => v.category).sum ≤ 8) (hR : sv_rooms R rm M' cs sl mc ms) (d : decode M.2.1 pc = .ok (.invokevirtual idx, 3)) (kk : ∀ (v : Option Value) (sh' : svS) (hi' : svH) (hl' : svL) (hr' : svR), post v sh' hi' hl' hr' → svJ l G R M F (cs + mc) (sl + ms) (pc + 3) ls (v.toList ++ rest) sh' hi' hl' hr') : svJ l G R M F cs sl pc ls st0 sh hi hl hr := by
  intro p e s m args below meth c fx hz H locs a hs hS hL
  refine sv_size hs fx.2.2.2.2.2.2.2.2.2 hz hS.1 fun hsz => ?_
  have hts := fx.2.2.2.2.1
  obtain ⟨c1, c2, c3⟩ := hcal
  obtain ⟨r1, r2, r3, r4⟩ := hR
  have hG := sv_goods c2
  exact sv_after (sh := sh) (va_runVN (C := y.cls) (host := host) (As := As) (rest := rest) ⟨fx.1, fx.2.1, fx.2.2.1, fx.2.2.2.1, hts⟩ T ⟨va_cnB n hts hG rfl r1 r2 (fx.2.2.2.2.2.2.2.2.1.2.1 _ wl) (hts _ c1) c3 r3, hts _ wi, hts _ wsl⟩ ⟨sv_blind, va_recv fx.2.2.2.2.2.2.2.2.1.1 hs hC (sv_ws_get hsh), (fun U hU hW => ⟨rfl, by rw [hU]; exact hs, by rw [hU]; exact hsz, sv_KN.warm hW fx.2.2.2.2.2.2.2.2.1⟩)⟩ rfl hn hL.1 hst (lv_room hrest) d r4) hS hz hsz fun v sh' hi' hl' hr' H1 locs1 hp hP hS1 hz1 => kk v sh' hi' hl' hr' hp p e s m args below meth c fx hz1 H1 locs1 a hP hS1 hL
theorem J_callS {y : MethodName} {M' : svM} {rm : Room} {mc ms n idx : Nat} {As rest st0 : List Value} {post : svQ}  (T : svT l G y M' rm mc ms As sh hi hl hr post) (hcal : sv_cal y M' n)  (wl : Cond.methodLink M.1 idx y ∈ sv_tbl) (wst : Cond.static y ∈ sv_tbl) (hn : As.length = n) (hst : st0 = As.reverse ++ rest) (hrest : (rest.map fun v => v.category).sum ≤ 8) (hR : sv_rooms R rm M' cs sl mc ms) (d : decode M.2.1 pc = .ok (.invokestatic idx, 3)) (kk : ∀ (v : Option Value) (sh' : svS) (hi' : svH) (hl' : svL) (hr' : svR), post v sh' hi' hl' hr' → svJ l G R M F (cs + mc) (sl + ms) (pc + 3) ls (v.toList ++ rest) sh' hi' hl' hr') : svJ l G R M F cs sl pc ls st0 sh hi hl hr := by
  intro p e s m args below meth c fx hz H locs a hs hS hL
  refine sv_size hs fx.2.2.2.2.2.2.2.2.2 hz hS.1 fun hsz => ?_
  have hts := fx.2.2.2.2.1
  obtain ⟨c1, c2, c3⟩ := hcal
  obtain ⟨r1, r2, r3, r4⟩ := hR
  have hG := sv_goods c2
  exact sv_after (sh := sh) (va_runS (As := As) (rest := rest) ⟨fx.1, fx.2.1, fx.2.2.1, fx.2.2.2.1, hts⟩ T ⟨callB_of n hts hG rfl r1 r2 (hts _ c1) (hts _ wl) c3 r3, hts _ wst⟩ ⟨sv_blind, (fun U hU hW => ⟨rfl, by rw [hU]; exact hs, by rw [hU]; exact hsz, sv_KN.warm hW fx.2.2.2.2.2.2.2.2.1⟩)⟩ rfl hn hL.1 hst (lv_room hrest) d r4) hS hz hsz fun v sh' hi' hl' hr' H1 locs1 hp hP hS1 hz1 => kk v sh' hi' hl' hr' hp p e s m args below meth c fx hz1 H1 locs1 a hP hS1 hL
theorem J_callSN {y : MethodName} {M' : svM} {rm : Room} {mc ms n idx : Nat} {As rest st0 : List Value} {post : svQ}  (T : svT l G y M' rm mc ms As sh hi hl hr post) (hcal : sv_cal y M' n)  (host : String) (wl : Cond.methodLinkNest M.1 idx y host ∈ sv_nest) (wst : Cond.static y ∈ sv_tbl) (hn : As.length = n) (hst : st0 = As.reverse ++ rest) (hrest : (rest.map fun v => v.category).sum ≤ 8) (hR : sv_rooms R rm M' cs sl mc ms) (d : decode M.2.1 pc = .ok (.invokestatic idx, 3)) (kk : ∀ (v : Option Value) (sh' : svS) (hi' : svH) (hl' : svL) (hr' : svR), post v sh' hi' hl' hr' → svJ l G R M F (cs + mc) (sl + ms) (pc + 3) ls (v.toList ++ rest) sh' hi' hl' hr') : svJ l G R M F cs sl pc ls st0 sh hi hl hr := by
  intro p e s m args below meth c fx hz H locs a hs hS hL
  refine sv_size hs fx.2.2.2.2.2.2.2.2.2 hz hS.1 fun hsz => ?_
  have hts := fx.2.2.2.2.1
  obtain ⟨c1, c2, c3⟩ := hcal
  obtain ⟨r1, r2, r3, r4⟩ := hR
  have hG := sv_goods c2
  exact sv_after (sh := sh) (va_runSN (host := host) (As := As) (rest := rest) ⟨fx.1, fx.2.1, fx.2.2.1, fx.2.2.2.1, hts⟩ T ⟨va_cnB n hts hG rfl r1 r2 (fx.2.2.2.2.2.2.2.2.1.2.1 _ wl) (hts _ c1) c3 r3, hts _ wst, trivial⟩ ⟨sv_blind, (fun U hU hW => ⟨rfl, by rw [hU]; exact hs, by rw [hU]; exact hsz, sv_KN.warm hW fx.2.2.2.2.2.2.2.2.1⟩)⟩ rfl hn hL.1 hst (lv_room hrest) d r4) hS hz hsz fun v sh' hi' hl' hr' H1 locs1 hp hP hS1 hz1 => kk v sh' hi' hl' hr' hp p e s m args below meth c fx hz1 H1 locs1 a hP hS1 hL
theorem J_callI {y : MethodName} {M' : svM} {rm : Room} {mc ms n idx : Nat} {As rest st0 : List Value} {post : svQ} {i : Nat} (T : svT l G y M' rm mc ms (sv_rf G.1 i :: As) sh hi hl hr post) (hcal : sv_cal y M' n) (hret : M'.2.2.2.1 = none) (wl : Cond.methodLink M.1 idx y ∈ sv_tbl) (wi : Cond.instanceMethod y ∈ sv_tbl) (hnm : y.name = "<init>") (hn : As.length = n) (hst : st0 = As.reverse ++ sv_rf G.1 i :: rest) (hrest : (rest.map fun v => v.category).sum ≤ 8) (hR : sv_rooms R rm M' cs sl mc ms) (d : decode M.2.1 pc = .ok (.invokespecial idx, 3)) (kk : ∀ (v : Option Value) (sh' : svS) (hi' : svH) (hl' : svL) (hr' : svR), post v sh' hi' hl' hr' → svJ l G R M F (cs + mc) (sl + ms) (pc + 3) ls (v.toList ++ rest) sh' hi' hl' hr') : svJ l G R M F cs sl pc ls st0 sh hi hl hr := by
  intro p e s m args below meth c fx hz H locs a hs hS hL
  refine sv_size hs fx.2.2.2.2.2.2.2.2.2 hz hS.1 fun hsz => ?_
  have hts := fx.2.2.2.2.1
  obtain ⟨c1, c2, c3⟩ := hcal
  obtain ⟨r1, r2, r3, r4⟩ := hR
  have hG := sv_goods c2
  obtain ⟨n1, n2, n3, n4, n5⟩ := M'
  cases hret
  exact sv_after (sh := sh) (va_runI (As := As) (rest := rest) ⟨fx.1, fx.2.1, fx.2.2.1, fx.2.2.2.1, hts⟩ T ⟨callB_of n hts hG rfl r1 r2 (hts _ c1) (hts _ wl) c3 r3, hnm, hts _ wi⟩ ⟨sv_blind, (fun U hU hW => ⟨rfl, by rw [hU]; exact hs, by rw [hU]; exact hsz, sv_KN.warm hW fx.2.2.2.2.2.2.2.2.1⟩)⟩ rfl hn hL.1 hst (lv_room hrest) d r4) hS hz hsz fun v sh' hi' hl' hr' H1 locs1 hp hP hS1 hz1 => kk v sh' hi' hl' hr' hp p e s m args below meth c fx hz1 H1 locs1 a hP hS1 hL
theorem J_callIN {y : MethodName} {M' : svM} {rm : Room} {mc ms n idx : Nat} {As rest st0 : List Value} {post : svQ} {i : Nat} (T : svT l G y M' rm mc ms (sv_rf G.1 i :: As) sh hi hl hr post) (hcal : sv_cal y M' n) (hret : M'.2.2.2.1 = none) (host : String) (wl : Cond.methodLinkNest M.1 idx y host ∈ sv_nest) (wi : Cond.instanceMethod y ∈ sv_tbl) (hnm : y.name = "<init>") (hn : As.length = n) (hst : st0 = As.reverse ++ sv_rf G.1 i :: rest) (hrest : (rest.map fun v => v.category).sum ≤ 8) (hR : sv_rooms R rm M' cs sl mc ms) (d : decode M.2.1 pc = .ok (.invokespecial idx, 3)) (kk : ∀ (v : Option Value) (sh' : svS) (hi' : svH) (hl' : svL) (hr' : svR), post v sh' hi' hl' hr' → svJ l G R M F (cs + mc) (sl + ms) (pc + 3) ls (v.toList ++ rest) sh' hi' hl' hr') : svJ l G R M F cs sl pc ls st0 sh hi hl hr := by
  intro p e s m args below meth c fx hz H locs a hs hS hL
  refine sv_size hs fx.2.2.2.2.2.2.2.2.2 hz hS.1 fun hsz => ?_
  have hts := fx.2.2.2.2.1
  obtain ⟨c1, c2, c3⟩ := hcal
  obtain ⟨r1, r2, r3, r4⟩ := hR
  have hG := sv_goods c2
  obtain ⟨n1, n2, n3, n4, n5⟩ := M'
  cases hret
  exact sv_after (sh := sh) (va_runIN (host := host) (As := As) (rest := rest) ⟨fx.1, fx.2.1, fx.2.2.1, fx.2.2.2.1, hts⟩ T ⟨va_cnB n hts hG rfl r1 r2 (fx.2.2.2.2.2.2.2.2.1.2.1 _ wl) (hts _ c1) c3 r3, hnm, hts _ wi⟩ ⟨sv_blind, (fun U hU hW => ⟨rfl, by rw [hU]; exact hs, by rw [hU]; exact hsz, sv_KN.warm hW fx.2.2.2.2.2.2.2.2.1⟩)⟩ rfl hn hL.1 hst (lv_room hrest) d r4) hS hz hsz fun v sh' hi' hl' hr' H1 locs1 hp hP hS1 hz1 => kk v sh' hi' hl' hr' hp p e s m args below meth c fx hz1 H1 locs1 a hP hS1 hL
variable {post : svQ}
theorem J_ireturn {v : Int32} {ty : FieldType} (d : decode M.2.1 pc = .ok (.ireturn, 1)) (hret : M.2.2.2.1 = some ty) (hn : narrow ty (.int v) = .int v) (hp : post (some (.int v)) sh hi hl hr) : svJ l G R M (sv_Fm G post cs sl) cs sl pc ls [.int v] sh hi hl hr := by
  intro p e s m args below meth c fx hz H locs a hs hS hL
  refine sv_size hs fx.2.2.2.2.2.2.2.2.2 hz hS.1 fun hsz => ?_
  exact W.zret (free := sv_A G) fx.1 fx.2.1 (fx.2.2.2.2.2.1.trans hret) hn (fun t ht hW => ⟨⟨some (.int v), sh, hi, hl, hr, rfl, hp, by rw [ht]; exact hs, by rw [ht]; exact hsz, by rw [ht]; omega⟩, hS.F ht⟩) hS.2.2 d fx.2.2.2.2.2.2.1
theorem J_lreturn {v : Int64} (d : decode M.2.1 pc = .ok (.lreturn, 1)) (hret : M.2.2.2.1 = some .long) (hp : post (some (.long v)) sh hi hl hr) : svJ l G R M (sv_Fm G post cs sl) cs sl pc ls [.long v] sh hi hl hr := by
  intro p e s m args below meth c fx hz H locs a hs hS hL
  refine sv_size hs fx.2.2.2.2.2.2.2.2.2 hz hS.1 fun hsz => ?_
  exact W.lret (free := sv_A G) fx.1 fx.2.1 (fx.2.2.2.2.2.1.trans hret) (fun t ht hW => ⟨⟨some (.long v), sh, hi, hl, hr, rfl, hp, by rw [ht]; exact hs, by rw [ht]; exact hsz, by rw [ht]; omega⟩, hS.F ht⟩) hS.2.2 d fx.2.2.2.2.2.2.1
theorem J_return (d : decode M.2.1 pc = .ok (.return_, 1)) (hret : M.2.2.2.1 = none) (hp : post none sh hi hl hr) : svJ l G R M (sv_Fm G post cs sl) cs sl pc ls [] sh hi hl hr := by
  intro p e s m args below meth c fx hz H locs a hs hS hL
  refine sv_size hs fx.2.2.2.2.2.2.2.2.2 hz hS.1 fun hsz => ?_
  exact W.vret (free := sv_A G) fx.1 fx.2.1 (fx.2.2.2.2.2.1.trans hret) (fun t ht hW => ⟨⟨none, sh, hi, hl, hr, rfl, hp, by rw [ht]; exact hs, by rw [ht]; exact hsz, by rw [ht]; omega⟩, hS.F ht⟩) hS.2.2 d fx.2.2.2.2.2.2.1
theorem J_areturn {i : Nat} {C : String} (d : decode M.2.1 pc = .ok (.areturn, 1)) (hret : M.2.2.2.1 = some (.object C)) (hp : post (some (sv_rf G.1 i)) sh hi hl hr) : svJ l G R M (sv_Fm G post cs sl) cs sl pc ls [sv_rf G.1 i] sh hi hl hr := by
  intro p e s m args below meth c fx hz H locs a hs hS hL
  refine sv_size hs fx.2.2.2.2.2.2.2.2.2 hz hS.1 fun hsz => ?_
  exact W.aret (free := sv_A G) fx.1 fx.2.1 (fx.2.2.2.2.2.1.trans hret) (Or.inl ⟨C, rfl⟩) (Or.inr ⟨_, rfl⟩) (fun t ht hW => ⟨⟨some (sv_rf G.1 i), sh, hi, hl, hr, rfl, hp, by rw [ht]; exact hs, by rw [ht]; exact hsz, by rw [ht]; omega⟩, hS.F ht⟩) hS.2.2 d fx.2.2.2.2.2.2.1
theorem J_areturnN {C : String} (d : decode M.2.1 pc = .ok (.areturn, 1)) (hret : M.2.2.2.1 = some (.object C)) (hp : post (some .null) sh hi hl hr) : svJ l G R M (sv_Fm G post cs sl) cs sl pc ls [.null] sh hi hl hr := by
  intro p e s m args below meth c fx hz H locs a hs hS hL
  refine sv_size hs fx.2.2.2.2.2.2.2.2.2 hz hS.1 fun hsz => ?_
  exact W.aret (free := sv_A G) fx.1 fx.2.1 (fx.2.2.2.2.2.1.trans hret) (Or.inl ⟨C, rfl⟩) (Or.inl rfl) (fun t ht hW => ⟨⟨some .null, sh, hi, hl, hr, rfl, hp, by rw [ht]; exact hs, by rw [ht]; exact hsz, by rw [ht]; omega⟩, hS.F ht⟩) hS.2.2 d fx.2.2.2.2.2.2.1
theorem sv_entry {y : MethodName} {rm : Room} {mc ms : Nat} {args : List Value} (hy : plainName y.cls = true) (hcls : y.cls = M.1) (hnm : y.name = M.2.2.2.2) (hn : args.length ≤ M.2.2.1) (hc : ∀ v ∈ args, v.category = 1) (ls0 : List (Option Value)) (hls : args.map some ++ List.replicate (M.2.2.1 - args.length) none = ls0)
    (hbody : svJ l G rm M (sv_Fm G post mc ms) 0 0 0 ls0 [] sh hi hl hr) : svT l G y M rm mc ms args sh hi hl hr post := by
  obtain ⟨own, cc, nL, ret, nm⟩ := M
  unfold svT
  refine Met.ofW (cc := cc) (maxL := nL) (ret := ret) hy rfl ?_
  intro p e s m args' below meth c s₁ B hml hv
  obtain ⟨rfl, hs, hsz, hKN⟩ := hv
  have hown : s.vm.findClass y.cls = some m.cls := findClass_of_methodNamed B.named
  rw [hcls] at hown
  have hts : ∀ w ∈ sv_tbl, w.before args.toArray s = true := fun w hw => atoms_spec (ws := .code y cc nL ret :: sv_tbl) B.pre w (List.mem_cons_of_mem _ hw)
  have hin : meth.name = y.name := (name_of_methodNamed B.named B.method).1
  have hL : sv_LsOk nL ls0 _ := hls ▸ sv_LsOk.entry (nL := nL) args hn hc
  rw [lg_entry_eq]
  refine hbody p e s m args.toArray below meth c ⟨B.exec, B.bytes, hml, hown, hts, B.returns, B.notSynchronized, hin.trans hnm, hKN, by omega⟩ (by omega) s.heap [] _ hs va_S.rf hL
/-- a weaker end -/
theorem svT.weaken {y : MethodName} {rm : Room} {mc ms : Nat} {args : List Value} {post' : svQ} (h : svT l G y M rm mc ms args sh hi hl hr post) (hp : ∀ v sh' hi' hl' hr', post v sh' hi' hl' hr' → post' v sh' hi' hl' hr') : svT l G y M rm mc ms args sh hi hl hr post' := by
  intro p e h1 h2 h3 s m args' below h4 h5 h6 h7
  obtain ⟨k, o, g1, g2, g3, ⟨⟨v, sh', hi', hl', hr', q1, q2, q3⟩, g5⟩, g6⟩ := h p e h1 h2 h3 s m args' below h4 h5 h6 h7
  exact ⟨k, o, g1, g2, g3, ⟨⟨v, sh', hi', hl', hr', q1, hp _ _ _ _ _ q2, q3⟩, g5⟩, g6⟩
end SvNew
