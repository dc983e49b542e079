/-! the constructors: where the cells come to lie -/
def svHt : svR := sv_hr 1 8 (fun j => 23 + 4 * j)
def noR : Nat → Option Nat := fun _ => none
theorem Ht_obj {i c : Nat} (h : svSH[i]? = some (0, c)) (h0 : i ≠ 0) : svHt i = fun k => (sv_off c k).map (fun d => i + d) := by
  funext k
  unfold svHt sv_hr
  rw [if_neg (fun z => h0 z.1), if_neg (fun z => h0 z.1), if_neg (sv_ne h sh_22 (by simp)), h]
  rfl
theorem Ht_arr {i m n : Nat} (h : svSH[i]? = some (m + 1, n)) (hm : m ≠ 3) : svHt i = noR := by
  have h0 : i ≠ 0 := sv_ne h sh_0 (by simp)
  have h22 : i ≠ 22 := sv_ne h sh_22 (by simp; omega)
  funext k
  unfold svHt sv_hr noR
  rw [if_neg (fun z => h0 z.1), if_neg (fun z => h0 z.1), if_neg h22, h]
  obtain rfl | rfl | rfl | ⟨j, rfl⟩ : m = 0 ∨ m = 1 ∨ m = 2 ∨ ∃ j, m = j + 4 := by
    rcases (show m = 0 ∨ m = 1 ∨ m = 2 ∨ 4 ≤ m by omega) with h | h | h | h
    · exact Or.inl h
    · exact Or.inr (Or.inl h)
    · exact Or.inr (Or.inr (Or.inl h))
    · exact Or.inr (Or.inr (Or.inr ⟨m - 4, by omega⟩))
  all_goals rfl
theorem Ht_big {i : Nat} (h : 182 ≤ i) : svHt i = noR := by
  have h1 : svSH[i]? = none := List.getElem?_eq_none (by rw [show svSH.length = 182 from by decide +kernel]; exact h)
  funext k
  unfold svHt sv_hr noR
  rw [if_neg (by omega), if_neg (by omega), if_neg (by omega), h1]
theorem shx {sh t : svS} {i : Nat} {q : Nat × Nat} (h : sh[i]? = some q) : (sh ++ t)[i]? = some q := by
  have hlt : i < sh.length := (List.getElem?_eq_some_iff.mp h).1
  rw [List.getElem?_append_left hlt]
  exact h
theorem off_none {c k m : Nat} (h : ∀ j, sv_off c (j + m) = none) (hk : m ≤ k) : sv_off c k = none := by
  have := h (k - m)
  rwa [Nat.sub_add_cancel hk] at this
set_option maxRecDepth 20000 in
set_option maxHeartbeats 2000000 in
theorem t_X6_init {l : Launch} {G : svG} {sh : svS} {hi : svH} {hl : svL} {hr : svR} {i : Nat} (hz : sh.length = i + 1) (hsh : sh[i]? = some (0, 6)) (hS : svSH[i]? = some (0, 6)) (hr0 : ∀ q, i ≤ q → hr q = noR) : svT l G yX6_init mX6_init (sv_rm 1 6 42) 6 42 [sv_rf G.1 i] sh hi hl hr (fun v sh' a b c => v = none ∧ sh' = sh ++ [(1, 8)] ++ [(1, 8)] ++ [(1, 8)] ++ [(1, 6)] ++ [(1, 6)] ++ [(1, 6)] ∧ hl = b ∧ (∀ q, q < i → a q = hi q) ∧ (∀ q, q < i ∨ i + 7 ≤ q → c q = hr q) ∧ (∀ q, i ≤ q → q < i + 7 → c q = svHt q) ∧ a i 0 = 3 ∧ a i 1 = 2 ∧ a i 3 = 0 ∧ a i 4 = 0) := by
  have hi0 : i ≠ 0 := sv_ne hS sh_0 (by simp)
  have hr0i : ∀ k, hr i k = none := fun k => by rw [hr0 i (Nat.le_refl _)]; rfl
  refine sv_entry (by decide +kernel) rfl rfl (Nat.le_of_ble_eq_true rfl) (by simp [Value.category, sv_rf]) [some (sv_rf G.1 i)] rfl ?_
  refine S_aload_0 (pc := 0) dX6_init_0 ?_
  refine obX6_3 (pc := 1) dX6_init_1 (by decide) (Nat.le_of_ble_eq_true rfl) ?_
  refine S_aload_0 (pc := 4) dX6_init_4 ?_
  refine J_iconst (pc := 5) (3) rfl dX6_init_5 ?_
  refine fpX6_9 (pc := 6) hsh dX6_init_6 ?_
  refine S_aload_0 (pc := 9) dX6_init_9 ?_
  refine J_iconst (pc := 10) (2) rfl dX6_init_10 ?_
  refine fpX6_15 (pc := 11) hsh dX6_init_11 ?_
  refine S_aload_0 (pc := 14) dX6_init_14 ?_
  refine J_iconst (pc := 15) (3) rfl dX6_init_15 ?_
  refine fpX6_18 (pc := 16) hsh dX6_init_16 ?_
  refine S_aload_0 (pc := 19) dX6_init_19 ?_
  refine J_iconst (pc := 20) (0) rfl dX6_init_20 ?_
  refine fpX6_21 (pc := 21) hsh dX6_init_21 ?_
  refine S_aload_0 (pc := 24) dX6_init_24 ?_
  refine J_iconst (pc := 25) (0) rfl dX6_init_25 ?_
  refine fpX6_24 (pc := 26) hsh dX6_init_26 ?_
  refine S_aload_0 (pc := 29) dX6_init_29 ?_
  refine J_bipush (pc := 30) (8) rfl dX6_init_30 ?_
  refine J_newa_int (pc := 32) 8 rfl (by decide) sv_wI (by decide) (by decide) dX6_init_32 ?_
  rw [show List.length (sh : svS) = i + 1 from hz]
  refine fpX6_27 (pc := 34) rfl (shx hsh) dX6_init_34 ?_
  refine S_aload_0 (pc := 37) dX6_init_37 ?_
  refine J_bipush (pc := 38) (8) rfl dX6_init_38 ?_
  refine J_newa_int (pc := 40) 8 rfl (by decide) sv_wI (by decide) (by decide) dX6_init_40 ?_
  rw [show List.length (sh ++ [(1, 8)] : svS) = i + 2 from (by simp only [List.length_append, List.length_cons, List.length_nil]; omega)]
  refine fpX6_31 (pc := 42) rfl (shx (shx hsh)) dX6_init_42 ?_
  refine S_aload_0 (pc := 45) dX6_init_45 ?_
  refine J_bipush (pc := 46) (8) rfl dX6_init_46 ?_
  refine J_newa_int (pc := 48) 8 rfl (by decide) sv_wI (by decide) (by decide) dX6_init_48 ?_
  rw [show List.length (sh ++ [(1, 8)] ++ [(1, 8)] : svS) = i + 3 from (by simp only [List.length_append, List.length_cons, List.length_nil]; omega)]
  refine fpX6_34 (pc := 50) rfl (shx (shx (shx hsh))) dX6_init_50 ?_
  refine S_aload_0 (pc := 53) dX6_init_53 ?_
  refine J_bipush (pc := 54) (6) rfl dX6_init_54 ?_
  refine J_newa_int (pc := 56) 6 rfl (by decide) sv_wI (by decide) (by decide) dX6_init_56 ?_
  rw [show List.length (sh ++ [(1, 8)] ++ [(1, 8)] ++ [(1, 8)] : svS) = i + 4 from (by simp only [List.length_append, List.length_cons, List.length_nil]; omega)]
  refine fpX6_37 (pc := 58) rfl (shx (shx (shx (shx hsh)))) dX6_init_58 ?_
  refine S_aload_0 (pc := 61) dX6_init_61 ?_
  refine J_bipush (pc := 62) (6) rfl dX6_init_62 ?_
  refine J_newa_int (pc := 64) 6 rfl (by decide) sv_wI (by decide) (by decide) dX6_init_64 ?_
  rw [show List.length (sh ++ [(1, 8)] ++ [(1, 8)] ++ [(1, 8)] ++ [(1, 6)] : svS) = i + 5 from (by simp only [List.length_append, List.length_cons, List.length_nil]; omega)]
  refine fpX6_40 (pc := 66) rfl (shx (shx (shx (shx (shx hsh))))) dX6_init_66 ?_
  refine S_aload_0 (pc := 69) dX6_init_69 ?_
  refine J_bipush (pc := 70) (6) rfl dX6_init_70 ?_
  refine J_newa_int (pc := 72) 6 rfl (by decide) sv_wI (by decide) (by decide) dX6_init_72 ?_
  rw [show List.length (sh ++ [(1, 8)] ++ [(1, 8)] ++ [(1, 8)] ++ [(1, 6)] ++ [(1, 6)] : svS) = i + 6 from (by simp only [List.length_append, List.length_cons, List.length_nil]; omega)]
  refine fpX6_43 (pc := 74) rfl (shx (shx (shx (shx (shx (shx hsh)))))) dX6_init_74 ?_
  refine J_return (pc := 77) dX6_init_77 rfl ⟨rfl, rfl, rfl, fun q hq => ?_, fun q hq => ?_, fun q h1 h2 => ?_, ?_, ?_, ?_, ?_⟩
  · rw [sv_z_off (by omega), sv_z_off (by omega), sv_z_off (by omega), sv_z_off (by omega), sv_z_off (by omega), sv_z_off (by omega), sv_u2_off (by omega), sv_u2_off (by omega), sv_u2_off (by omega), sv_u2_off (by omega), sv_u2_off (by omega)]
  · rw [sv_u2_off (by omega), sv_u2_off (by omega), sv_u2_off (by omega), sv_u2_off (by omega), sv_u2_off (by omega), sv_u2_off (by omega)]
  · rcases (show q = i ∨ q = i + 1 ∨ q = i + 2 ∨ q = i + 3 ∨ q = i + 4 ∨ q = i + 5 ∨ q = i + 6 by omega) with rfl | rfl | rfl | rfl | rfl | rfl | rfl
    · funext k
      rw [Ht_obj hS hi0]
      rcases (show k = 0 ∨ k = 1 ∨ k = 2 ∨ k = 3 ∨ k = 4 ∨ k = 5 ∨ k = 6 ∨ k = 7 ∨ k = 8 ∨ k = 9 ∨ k = 10 ∨ 11 ≤ k by omega) with rfl | rfl | rfl | rfl | rfl | rfl | rfl | rfl | rfl | rfl | rfl | hk
      · rw [u2x (by omega), u2x (by omega), u2x (by omega), u2x (by omega), u2x (by omega), u2x (by omega), hr0 _ (Nat.le_refl _)]; rfl
      · rw [u2x (by omega), u2x (by omega), u2x (by omega), u2x (by omega), u2x (by omega), u2x (by omega), hr0 _ (Nat.le_refl _)]; rfl
      · rw [u2x (by omega), u2x (by omega), u2x (by omega), u2x (by omega), u2x (by omega), u2x (by omega), hr0 _ (Nat.le_refl _)]; rfl
      · rw [u2x (by omega), u2x (by omega), u2x (by omega), u2x (by omega), u2x (by omega), u2x (by omega), hr0 _ (Nat.le_refl _)]; rfl
      · rw [u2x (by omega), u2x (by omega), u2x (by omega), u2x (by omega), u2x (by omega), u2x (by omega), hr0 _ (Nat.le_refl _)]; rfl
      · rw [u2x (by omega), u2x (by omega), u2x (by omega), u2x (by omega), u2x (by omega), sv_u2_at]; rfl
      · rw [u2x (by omega), u2x (by omega), u2x (by omega), u2x (by omega), sv_u2_at]; rfl
      · rw [u2x (by omega), u2x (by omega), u2x (by omega), sv_u2_at]; rfl
      · rw [u2x (by omega), u2x (by omega), sv_u2_at]; rfl
      · rw [u2x (by omega), sv_u2_at]; rfl
      · rw [sv_u2_at]; rfl
      · rw [u2x (by omega), u2x (by omega), u2x (by omega), u2x (by omega), u2x (by omega), u2x (by omega), hr0 _ (Nat.le_refl _)]; show none = (sv_off 6 k).map _; rw [off_none (fun _ => rfl) hk]; rfl
    · rw [sv_u2_off (by omega), sv_u2_off (by omega), sv_u2_off (by omega), sv_u2_off (by omega), sv_u2_off (by omega), sv_u2_off (by omega), hr0 _ (by omega)]; exact (Ht_arr (m := 0) (sv_next (q := (0, 6)) (r := (1, 8)) (d := 1) (by decide +kernel) hS) (by decide)).symm
    · rw [sv_u2_off (by omega), sv_u2_off (by omega), sv_u2_off (by omega), sv_u2_off (by omega), sv_u2_off (by omega), sv_u2_off (by omega), hr0 _ (by omega)]; exact (Ht_arr (m := 0) (sv_next (q := (0, 6)) (r := (1, 8)) (d := 2) (by decide +kernel) hS) (by decide)).symm
    · rw [sv_u2_off (by omega), sv_u2_off (by omega), sv_u2_off (by omega), sv_u2_off (by omega), sv_u2_off (by omega), sv_u2_off (by omega), hr0 _ (by omega)]; exact (Ht_arr (m := 0) (sv_next (q := (0, 6)) (r := (1, 8)) (d := 3) (by decide +kernel) hS) (by decide)).symm
    · rw [sv_u2_off (by omega), sv_u2_off (by omega), sv_u2_off (by omega), sv_u2_off (by omega), sv_u2_off (by omega), sv_u2_off (by omega), hr0 _ (by omega)]; exact (Ht_arr (m := 0) (sv_next (q := (0, 6)) (r := (1, 6)) (d := 4) (by decide +kernel) hS) (by decide)).symm
    · rw [sv_u2_off (by omega), sv_u2_off (by omega), sv_u2_off (by omega), sv_u2_off (by omega), sv_u2_off (by omega), sv_u2_off (by omega), hr0 _ (by omega)]; exact (Ht_arr (m := 0) (sv_next (q := (0, 6)) (r := (1, 6)) (d := 5) (by decide +kernel) hS) (by decide)).symm
    · rw [sv_u2_off (by omega), sv_u2_off (by omega), sv_u2_off (by omega), sv_u2_off (by omega), sv_u2_off (by omega), sv_u2_off (by omega), hr0 _ (by omega)]; exact (Ht_arr (m := 0) (sv_next (q := (0, 6)) (r := (1, 6)) (d := 6) (by decide +kernel) hS) (by decide)).symm
  · rw [sv_z_off (by omega), sv_z_off (by omega), sv_z_off (by omega), sv_z_off (by omega), sv_z_off (by omega), sv_z_off (by omega), u2x (by omega), u2x (by omega), u2x (by omega), u2x (by omega), sv_u2_at]
  · rw [sv_z_off (by omega), sv_z_off (by omega), sv_z_off (by omega), sv_z_off (by omega), sv_z_off (by omega), sv_z_off (by omega), u2x (by omega), u2x (by omega), u2x (by omega), sv_u2_at]
  · rw [sv_z_off (by omega), sv_z_off (by omega), sv_z_off (by omega), sv_z_off (by omega), sv_z_off (by omega), sv_z_off (by omega), u2x (by omega), sv_u2_at]
  · rw [sv_z_off (by omega), sv_z_off (by omega), sv_z_off (by omega), sv_z_off (by omega), sv_z_off (by omega), sv_z_off (by omega), sv_u2_at]
set_option maxRecDepth 20000 in
set_option maxHeartbeats 2000000 in
theorem t_X5_init {l : Launch} {G : svG} {sh : svS} {hi : svH} {hl : svL} {hr : svR} {i : Nat} (hz : sh.length = i + 1) (hsh : sh[i]? = some (0, 5)) (hS : svSH[i]? = some (0, 5)) (hr0 : ∀ q, i ≤ q → hr q = noR) : svT l G yX5_init mX5_init (sv_rm 1 1 120) 1 120 [sv_rf G.1 i] sh hi hl hr (fun v sh' a b c => v = none ∧ sh' = sh ++ [(2, 120)] ∧ hl = b ∧ (∀ q, q < i → a q = hi q) ∧ (∀ q, q < i ∨ i + 2 ≤ q → c q = hr q) ∧ (∀ q, i ≤ q → q < i + 2 → c q = svHt q) ∧ a i 0 = 0) := by
  have hi0 : i ≠ 0 := sv_ne hS sh_0 (by simp)
  have hr0i : ∀ k, hr i k = none := fun k => by rw [hr0 i (Nat.le_refl _)]; rfl
  refine sv_entry (by decide +kernel) rfl rfl (Nat.le_of_ble_eq_true rfl) (by simp [Value.category, sv_rf]) [some (sv_rf G.1 i)] rfl ?_
  refine S_aload_0 (pc := 0) dX5_init_0 ?_
  refine obX5_3 (pc := 1) dX5_init_1 (by decide) (Nat.le_of_ble_eq_true rfl) ?_
  refine S_aload_0 (pc := 4) dX5_init_4 ?_
  refine J_iconst (pc := 5) (0) rfl dX5_init_5 ?_
  refine fpX5_9 (pc := 6) hsh dX5_init_6 ?_
  refine S_aload_0 (pc := 9) dX5_init_9 ?_
  refine J_bipush (pc := 10) (120) rfl dX5_init_10 ?_
  refine J_newa_char (pc := 12) 120 rfl (by decide) sv_wC (by decide) (by decide) dX5_init_12 ?_
  rw [show List.length (sh : svS) = i + 1 from hz]
  refine fpX5_15 (pc := 14) rfl (shx hsh) dX5_init_14 ?_
  refine S_aload_0 (pc := 17) dX5_init_17 ?_
  refine J_iconst (pc := 18) (0) rfl dX5_init_18 ?_
  refine fpX5_19 (pc := 19) (shx hsh) dX5_init_19 ?_
  refine S_aload_0 (pc := 22) dX5_init_22 ?_
  refine J_iconst (pc := 23) (0) rfl dX5_init_23 ?_
  refine fpX5_22 (pc := 24) (shx hsh) dX5_init_24 ?_
  refine S_aload_0 (pc := 27) dX5_init_27 ?_
  refine J_iconst (pc := 28) (0) rfl dX5_init_28 ?_
  refine fpX5_25 (pc := 29) (shx hsh) dX5_init_29 ?_
  refine S_aload_0 (pc := 32) dX5_init_32 ?_
  refine J_iconst (pc := 33) (0) rfl dX5_init_33 ?_
  refine fpX5_28 (pc := 34) (shx hsh) dX5_init_34 ?_
  refine J_return (pc := 37) dX5_init_37 rfl ⟨rfl, rfl, rfl, fun q hq => ?_, fun q hq => ?_, fun q h1 h2 => ?_, ?_⟩
  · rw [sv_u2_off (by omega), sv_u2_off (by omega), sv_u2_off (by omega), sv_u2_off (by omega), sv_z_off (by omega), sv_u2_off (by omega)]
  · rw [sv_u2_off (by omega)]
  · rcases (show q = i ∨ q = i + 1 by omega) with rfl | rfl
    · funext k
      rw [Ht_obj hS hi0]
      rcases (show k = 0 ∨ k = 1 ∨ k = 2 ∨ k = 3 ∨ k = 4 ∨ k = 5 ∨ 6 ≤ k by omega) with rfl | rfl | rfl | rfl | rfl | rfl | hk
      · rw [u2x (by omega), hr0 _ (Nat.le_refl _)]; rfl
      · rw [sv_u2_at]; rfl
      · rw [u2x (by omega), hr0 _ (Nat.le_refl _)]; rfl
      · rw [u2x (by omega), hr0 _ (Nat.le_refl _)]; rfl
      · rw [u2x (by omega), hr0 _ (Nat.le_refl _)]; rfl
      · rw [u2x (by omega), hr0 _ (Nat.le_refl _)]; rfl
      · rw [u2x (by omega), hr0 _ (Nat.le_refl _)]; show none = (sv_off 5 k).map _; rw [off_none (fun _ => rfl) hk]; rfl
    · rw [sv_u2_off (by omega), hr0 _ (by omega)]; exact (Ht_arr (m := 1) (sv_next (q := (0, 5)) (r := (2, 120)) (d := 1) (by decide +kernel) hS) (by decide)).symm
  · rw [u2x (by omega), u2x (by omega), u2x (by omega), u2x (by omega), sv_z_off (by omega), sv_u2_at]
set_option maxRecDepth 20000 in
set_option maxHeartbeats 2000000 in
theorem t_X3_init {l : Launch} {G : svG} {sh : svS} {hi : svH} {hl : svL} {hr : svR} {i : Nat} (hz : sh.length = i + 1) (hsh : sh[i]? = some (0, 3)) (hS : svSH[i]? = some (0, 3)) (hr0 : ∀ q, i ≤ q → hr q = noR) : svT l G yX3_init mX3_init (sv_rm 1 3 22) 3 22 [sv_rf G.1 i] sh hi hl hr (fun v sh' a b c => v = none ∧ sh' = sh ++ [(1, 6)] ++ [(1, 8)] ++ [(1, 8)] ∧ hl = b ∧ (∀ q, q < i → a q = hi q) ∧ (∀ q, q < i ∨ i + 4 ≤ q → c q = hr q) ∧ (∀ q, i ≤ q → q < i + 4 → c q = svHt q) ∧ a i 0 = 0 ∧ a i 1 = 3 ∧ a i 2 = 0 ∧ a i 3 = 0 ∧ a i 4 = 0 ∧ a (i + 1) = (fun _ => 0)) := by
  have hi0 : i ≠ 0 := sv_ne hS sh_0 (by simp)
  have hr0i : ∀ k, hr i k = none := fun k => by rw [hr0 i (Nat.le_refl _)]; rfl
  refine sv_entry (by decide +kernel) rfl rfl (Nat.le_of_ble_eq_true rfl) (by simp [Value.category, sv_rf]) [some (sv_rf G.1 i)] rfl ?_
  refine S_aload_0 (pc := 0) dX3_init_0 ?_
  refine obX3_3 (pc := 1) dX3_init_1 (by decide) (Nat.le_of_ble_eq_true rfl) ?_
  refine S_aload_0 (pc := 4) dX3_init_4 ?_
  refine J_iconst (pc := 5) (0) rfl dX3_init_5 ?_
  refine fpX3_9 (pc := 6) hsh dX3_init_6 ?_
  refine S_aload_0 (pc := 9) dX3_init_9 ?_
  refine J_iconst (pc := 10) (3) rfl dX3_init_10 ?_
  refine fpX3_15 (pc := 11) hsh dX3_init_11 ?_
  refine S_aload_0 (pc := 14) dX3_init_14 ?_
  refine J_iconst (pc := 15) (0) rfl dX3_init_15 ?_
  refine fpX3_18 (pc := 16) hsh dX3_init_16 ?_
  refine S_aload_0 (pc := 19) dX3_init_19 ?_
  refine J_iconst (pc := 20) (0) rfl dX3_init_20 ?_
  refine fpX3_21 (pc := 21) hsh dX3_init_21 ?_
  refine S_aload_0 (pc := 24) dX3_init_24 ?_
  refine J_iconst (pc := 25) (0) rfl dX3_init_25 ?_
  refine fpX3_24 (pc := 26) hsh dX3_init_26 ?_
  refine S_aload_0 (pc := 29) dX3_init_29 ?_
  refine J_bipush (pc := 30) (6) rfl dX3_init_30 ?_
  refine J_newa_int (pc := 32) 6 rfl (by decide) sv_wI (by decide) (by decide) dX3_init_32 ?_
  rw [show List.length (sh : svS) = i + 1 from hz]
  refine fpX3_27 (pc := 34) rfl (shx hsh) dX3_init_34 ?_
  refine S_aload_0 (pc := 37) dX3_init_37 ?_
  refine J_bipush (pc := 38) (8) rfl dX3_init_38 ?_
  refine J_newa_int (pc := 40) 8 rfl (by decide) sv_wI (by decide) (by decide) dX3_init_40 ?_
  rw [show List.length (sh ++ [(1, 6)] : svS) = i + 2 from (by simp only [List.length_append, List.length_cons, List.length_nil]; omega)]
  refine fpX3_31 (pc := 42) rfl (shx (shx hsh)) dX3_init_42 ?_
  refine S_aload_0 (pc := 45) dX3_init_45 ?_
  refine J_bipush (pc := 46) (8) rfl dX3_init_46 ?_
  refine J_newa_int (pc := 48) 8 rfl (by decide) sv_wI (by decide) (by decide) dX3_init_48 ?_
  rw [show List.length (sh ++ [(1, 6)] ++ [(1, 8)] : svS) = i + 3 from (by simp only [List.length_append, List.length_cons, List.length_nil]; omega)]
  refine fpX3_34 (pc := 50) rfl (shx (shx (shx hsh))) dX3_init_50 ?_
  refine J_return (pc := 53) dX3_init_53 rfl ⟨rfl, rfl, rfl, fun q hq => ?_, fun q hq => ?_, fun q h1 h2 => ?_, ?_, ?_, ?_, ?_, ?_, ?_⟩
  · rw [sv_z_off (by omega), sv_z_off (by omega), sv_z_off (by omega), sv_u2_off (by omega), sv_u2_off (by omega), sv_u2_off (by omega), sv_u2_off (by omega), sv_u2_off (by omega)]
  · rw [sv_u2_off (by omega), sv_u2_off (by omega), sv_u2_off (by omega)]
  · rcases (show q = i ∨ q = i + 1 ∨ q = i + 2 ∨ q = i + 3 by omega) with rfl | rfl | rfl | rfl
    · funext k
      rw [Ht_obj hS hi0]
      rcases (show k = 0 ∨ k = 1 ∨ k = 2 ∨ k = 3 ∨ k = 4 ∨ k = 5 ∨ k = 6 ∨ k = 7 ∨ 8 ≤ k by omega) with rfl | rfl | rfl | rfl | rfl | rfl | rfl | rfl | hk
      · rw [u2x (by omega), u2x (by omega), u2x (by omega), hr0 _ (Nat.le_refl _)]; rfl
      · rw [u2x (by omega), u2x (by omega), u2x (by omega), hr0 _ (Nat.le_refl _)]; rfl
      · rw [u2x (by omega), u2x (by omega), u2x (by omega), hr0 _ (Nat.le_refl _)]; rfl
      · rw [u2x (by omega), u2x (by omega), u2x (by omega), hr0 _ (Nat.le_refl _)]; rfl
      · rw [u2x (by omega), u2x (by omega), u2x (by omega), hr0 _ (Nat.le_refl _)]; rfl
      · rw [u2x (by omega), u2x (by omega), sv_u2_at]; rfl
      · rw [u2x (by omega), sv_u2_at]; rfl
      · rw [sv_u2_at]; rfl
      · rw [u2x (by omega), u2x (by omega), u2x (by omega), hr0 _ (Nat.le_refl _)]; show none = (sv_off 3 k).map _; rw [off_none (fun _ => rfl) hk]; rfl
    · rw [sv_u2_off (by omega), sv_u2_off (by omega), sv_u2_off (by omega), hr0 _ (by omega)]; exact (Ht_arr (m := 0) (sv_next (q := (0, 3)) (r := (1, 6)) (d := 1) (by decide +kernel) hS) (by decide)).symm
    · rw [sv_u2_off (by omega), sv_u2_off (by omega), sv_u2_off (by omega), hr0 _ (by omega)]; exact (Ht_arr (m := 0) (sv_next (q := (0, 3)) (r := (1, 8)) (d := 2) (by decide +kernel) hS) (by decide)).symm
    · rw [sv_u2_off (by omega), sv_u2_off (by omega), sv_u2_off (by omega), hr0 _ (by omega)]; exact (Ht_arr (m := 0) (sv_next (q := (0, 3)) (r := (1, 8)) (d := 3) (by decide +kernel) hS) (by decide)).symm
  · rw [sv_z_off (by omega), sv_z_off (by omega), sv_z_off (by omega), u2x (by omega), u2x (by omega), u2x (by omega), u2x (by omega), sv_u2_at]
  · rw [sv_z_off (by omega), sv_z_off (by omega), sv_z_off (by omega), u2x (by omega), u2x (by omega), u2x (by omega), sv_u2_at]
  · rw [sv_z_off (by omega), sv_z_off (by omega), sv_z_off (by omega), u2x (by omega), u2x (by omega), sv_u2_at]
  · rw [sv_z_off (by omega), sv_z_off (by omega), sv_z_off (by omega), u2x (by omega), sv_u2_at]
  · rw [sv_z_off (by omega), sv_z_off (by omega), sv_z_off (by omega), sv_u2_at]
  · rw [sv_z_off (by omega), sv_z_off (by omega), sv_z_at]
set_option maxRecDepth 20000 in
set_option maxHeartbeats 2000000 in
theorem t_X0_init {l : Launch} {G : svG} {sh : svS} {hi : svH} {hl : svL} {hr : svR} {i : Nat} (hz : sh.length = i + 1) (hsh : sh[i]? = some (0, 0)) (hS : svSH[i]? = some (0, 0)) (hr0 : ∀ q, i ≤ q → hr q = noR) : svT l G yX0_init mX0_init (sv_rm 1 2 12) 2 12 [sv_rf G.1 i] sh hi hl hr (fun v sh' a b c => v = none ∧ sh' = sh ++ [(1, 6)] ++ [(1, 6)] ∧ hl = b ∧ (∀ q, q < i → a q = hi q) ∧ (∀ q, q < i ∨ i + 3 ≤ q → c q = hr q) ∧ (∀ q, i ≤ q → q < i + 3 → c q = svHt q)) := by
  have hi0 : i ≠ 0 := sv_ne hS sh_0 (by simp)
  have hr0i : ∀ k, hr i k = none := fun k => by rw [hr0 i (Nat.le_refl _)]; rfl
  refine sv_entry (by decide +kernel) rfl rfl (Nat.le_of_ble_eq_true rfl) (by simp [Value.category, sv_rf]) [some (sv_rf G.1 i)] rfl ?_
  refine S_aload_0 (pc := 0) dX0_init_0 ?_
  refine obX0_3 (pc := 1) dX0_init_1 (by decide) (Nat.le_of_ble_eq_true rfl) ?_
  refine S_aload_0 (pc := 4) dX0_init_4 ?_
  refine J_bipush (pc := 5) (6) rfl dX0_init_5 ?_
  refine J_newa_int (pc := 7) 6 rfl (by decide) sv_wI (by decide) (by decide) dX0_init_7 ?_
  rw [show List.length (sh : svS) = i + 1 from hz]
  refine fpX0_9 (pc := 9) rfl (shx hsh) dX0_init_9 ?_
  refine S_aload_0 (pc := 12) dX0_init_12 ?_
  refine J_bipush (pc := 13) (6) rfl dX0_init_13 ?_
  refine J_newa_int (pc := 15) 6 rfl (by decide) sv_wI (by decide) (by decide) dX0_init_15 ?_
  rw [show List.length (sh ++ [(1, 6)] : svS) = i + 2 from (by simp only [List.length_append, List.length_cons, List.length_nil]; omega)]
  refine fpX0_15 (pc := 17) rfl (shx (shx hsh)) dX0_init_17 ?_
  refine J_return (pc := 20) dX0_init_20 rfl ⟨rfl, rfl, rfl, fun q hq => ?_, fun q hq => ?_, fun q h1 h2 => ?_⟩
  · rw [sv_z_off (by omega), sv_z_off (by omega)]
  · rw [sv_u2_off (by omega), sv_u2_off (by omega)]
  · rcases (show q = i ∨ q = i + 1 ∨ q = i + 2 by omega) with rfl | rfl | rfl
    · funext k
      rw [Ht_obj hS hi0]
      rcases (show k = 0 ∨ k = 1 ∨ 2 ≤ k by omega) with rfl | rfl | hk
      · rw [u2x (by omega), sv_u2_at]; rfl
      · rw [sv_u2_at]; rfl
      · rw [u2x (by omega), u2x (by omega), hr0 _ (Nat.le_refl _)]; show none = (sv_off 0 k).map _; rw [off_none (fun _ => rfl) hk]; rfl
    · rw [sv_u2_off (by omega), sv_u2_off (by omega), hr0 _ (by omega)]; exact (Ht_arr (m := 0) (sv_next (q := (0, 0)) (r := (1, 6)) (d := 1) (by decide +kernel) hS) (by decide)).symm
    · rw [sv_u2_off (by omega), sv_u2_off (by omega), hr0 _ (by omega)]; exact (Ht_arr (m := 0) (sv_next (q := (0, 0)) (r := (1, 6)) (d := 2) (by decide +kernel) hS) (by decide)).symm
set_option maxRecDepth 20000 in
set_option maxHeartbeats 2000000 in
theorem t_X1_init {l : Launch} {G : svG} {sh : svS} {hi : svH} {hl : svL} {hr : svR} {i : Nat} (hz : sh.length = i + 1) (hsh : sh[i]? = some (0, 1)) (hS : svSH[i]? = some (0, 1)) (hr0 : ∀ q, i ≤ q → hr q = noR) : svT l G yX1_init mX1_init (sv_rm 1 3 44) 3 44 [sv_rf G.1 i] sh hi hl hr (fun v sh' a b c => v = none ∧ sh' = sh ++ [(1, 4)] ++ [(1, 4)] ++ [(1, 36)] ∧ hl = b ∧ (∀ q, q < i → a q = hi q) ∧ (∀ q, q < i ∨ i + 4 ≤ q → c q = hr q) ∧ (∀ q, i ≤ q → q < i + 4 → c q = svHt q) ∧ a i 0 = 0) := by
  have hi0 : i ≠ 0 := sv_ne hS sh_0 (by simp)
  have hr0i : ∀ k, hr i k = none := fun k => by rw [hr0 i (Nat.le_refl _)]; rfl
  refine sv_entry (by decide +kernel) rfl rfl (Nat.le_of_ble_eq_true rfl) (by simp [Value.category, sv_rf]) [some (sv_rf G.1 i)] rfl ?_
  refine S_aload_0 (pc := 0) dX1_init_0 ?_
  refine obX1_3 (pc := 1) dX1_init_1 (by decide) (Nat.le_of_ble_eq_true rfl) ?_
  refine S_aload_0 (pc := 4) dX1_init_4 ?_
  refine J_iconst (pc := 5) (0) rfl dX1_init_5 ?_
  refine fpX1_9 (pc := 6) hsh dX1_init_6 ?_
  refine S_aload_0 (pc := 9) dX1_init_9 ?_
  refine J_iconst (pc := 10) (0) rfl dX1_init_10 ?_
  refine fpX1_15 (pc := 11) hsh dX1_init_11 ?_
  refine S_aload_0 (pc := 14) dX1_init_14 ?_
  refine J_iconst (pc := 15) (4) rfl dX1_init_15 ?_
  refine J_newa_int (pc := 16) 4 rfl (by decide) sv_wI (by decide) (by decide) dX1_init_16 ?_
  rw [show List.length (sh : svS) = i + 1 from hz]
  refine fpX1_18 (pc := 18) rfl (shx hsh) dX1_init_18 ?_
  refine S_aload_0 (pc := 21) dX1_init_21 ?_
  refine J_iconst (pc := 22) (4) rfl dX1_init_22 ?_
  refine J_newa_int (pc := 23) 4 rfl (by decide) sv_wI (by decide) (by decide) dX1_init_23 ?_
  rw [show List.length (sh ++ [(1, 4)] : svS) = i + 2 from (by simp only [List.length_append, List.length_cons, List.length_nil]; omega)]
  refine fpX1_22 (pc := 25) rfl (shx (shx hsh)) dX1_init_25 ?_
  refine S_aload_0 (pc := 28) dX1_init_28 ?_
  refine J_bipush (pc := 29) (36) rfl dX1_init_29 ?_
  refine J_newa_int (pc := 31) 36 rfl (by decide) sv_wI (by decide) (by decide) dX1_init_31 ?_
  rw [show List.length (sh ++ [(1, 4)] ++ [(1, 4)] : svS) = i + 3 from (by simp only [List.length_append, List.length_cons, List.length_nil]; omega)]
  refine fpX1_25 (pc := 33) rfl (shx (shx (shx hsh))) dX1_init_33 ?_
  refine J_return (pc := 36) dX1_init_36 rfl ⟨rfl, rfl, rfl, fun q hq => ?_, fun q hq => ?_, fun q h1 h2 => ?_, ?_⟩
  · rw [sv_z_off (by omega), sv_z_off (by omega), sv_z_off (by omega), sv_u2_off (by omega), sv_u2_off (by omega)]
  · rw [sv_u2_off (by omega), sv_u2_off (by omega), sv_u2_off (by omega)]
  · rcases (show q = i ∨ q = i + 1 ∨ q = i + 2 ∨ q = i + 3 by omega) with rfl | rfl | rfl | rfl
    · funext k
      rw [Ht_obj hS hi0]
      rcases (show k = 0 ∨ k = 1 ∨ k = 2 ∨ k = 3 ∨ k = 4 ∨ 5 ≤ k by omega) with rfl | rfl | rfl | rfl | rfl | hk
      · rw [u2x (by omega), u2x (by omega), u2x (by omega), hr0 _ (Nat.le_refl _)]; rfl
      · rw [u2x (by omega), u2x (by omega), u2x (by omega), hr0 _ (Nat.le_refl _)]; rfl
      · rw [u2x (by omega), u2x (by omega), sv_u2_at]; rfl
      · rw [u2x (by omega), sv_u2_at]; rfl
      · rw [sv_u2_at]; rfl
      · rw [u2x (by omega), u2x (by omega), u2x (by omega), hr0 _ (Nat.le_refl _)]; show none = (sv_off 1 k).map _; rw [off_none (fun _ => rfl) hk]; rfl
    · rw [sv_u2_off (by omega), sv_u2_off (by omega), sv_u2_off (by omega), hr0 _ (by omega)]; exact (Ht_arr (m := 0) (sv_next (q := (0, 1)) (r := (1, 4)) (d := 1) (by decide +kernel) hS) (by decide)).symm
    · rw [sv_u2_off (by omega), sv_u2_off (by omega), sv_u2_off (by omega), hr0 _ (by omega)]; exact (Ht_arr (m := 0) (sv_next (q := (0, 1)) (r := (1, 4)) (d := 2) (by decide +kernel) hS) (by decide)).symm
    · rw [sv_u2_off (by omega), sv_u2_off (by omega), sv_u2_off (by omega), hr0 _ (by omega)]; exact (Ht_arr (m := 0) (sv_next (q := (0, 1)) (r := (1, 36)) (d := 3) (by decide +kernel) hS) (by decide)).symm
  · rw [sv_z_off (by omega), sv_z_off (by omega), sv_z_off (by omega), u2x (by omega), sv_u2_at]
