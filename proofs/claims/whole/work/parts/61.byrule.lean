/-! the model's settling by a rule -/
theorem v_ev_congr {La Lb : Nat → Int64} (h : ∀ k, k < 5 → La k = Lb k) : ∀ (cs : List (Int32 × Int32)) (st : List Int64), v_ev La cs st = v_ev Lb cs st := by
  intro cs
  induction cs with
  | nil => intro st; rfl
  | cons q r ih =>
    intro st
    have e : v_st La q.1 q.2 st = v_st Lb q.1 q.2 st := by
      unfold v_st
      by_cases c : q.1 = 2 ∧ ¬ q.2 < 0 ∧ ¬ 5 ≤ q.2
      · have hb := e_inb_in (e_inb_5 c.2.1 c.2.2)
        have hj : q.2.toNatClampNeg < 5 := Nat.not_le.mp fun z => hb (Or.inr z)
        rw [h _ hj]
      · rw [if_neg c, if_neg c]
    show v_ev La r (v_st La q.1 q.2 st) = v_ev Lb r (v_st Lb q.1 q.2 st)
    rw [e]
    exact ih _
theorem v_pu_congr {La Lb : Nat → Int64} (h : ∀ k, k < 5 → La k = Lb k) {cs : List (Int32 × Int32)} {v : Int64} (hv : v_pu La cs v) : v_pu Lb cs v := fun st => by rw [← v_ev_congr h]; exact hv st
/-- the least and the greatest as the model keeps them: none is -1 -/
def s_luM (B : Nat → Int32) (k : Nat) : Int32 × Int32 := if (s_lu B k).1 = -5 then (-1, -1) else s_lu B k
theorem nI_ne5 {l : Nat} (h : l ≤ 100) : ¬ nI l = -5 := by
  intro z
  have e := congrArg Int32.toInt z
  rw [nI_toInt (by omega), show (-5 : Int32).toInt = -5 from rfl] at e
  omega
theorem nI_nem1 {l : Nat} (h : l ≤ 100) : ¬ nI l = -1 := by
  intro z
  have e := congrArg Int32.toInt z
  rw [nI_toInt (by omega), show (-1 : Int32).toInt = -1 from rfl] at e
  omega
theorem s_lu_in (B : Nat → Int32) : ∀ k, k ≤ 100 → ((s_lu B k).1 = -5 ∧ (s_lu B k).2 = -5 ∧ ∀ x, x < k → B x = 0) ∨ ∃ l u, l ≤ u ∧ u < k ∧ s_lu B k = (nI l, nI u) ∧ ¬ B l = 0 ∧ ¬ B u = 0 ∧ (∀ x, x < l → B x = 0) ∧ ∀ x, u < x → x < k → B x = 0 := by
  intro k
  induction k with
  | zero => intro _; exact Or.inl ⟨rfl, rfl, fun x hx => by omega⟩
  | succ k ih =>
    intro hk100
    replace ih := ih (by omega)
    by_cases c1 : B k = 0
    · have e : s_lu B (k + 1) = s_lu B k := by rw [s_lu, if_pos c1]
      rw [e]
      rcases ih with ⟨h1, h2, h3⟩ | ⟨l, u, h1, h2, h3, h4, h5, h6, h7⟩
      · exact Or.inl ⟨h1, h2, fun x hx => by
          by_cases hk : x = k
          · rw [hk]; exact c1
          · exact h3 x (by omega)⟩
      · exact Or.inr ⟨l, u, h1, by omega, h3, h4, h5, h6, fun x hx hx2 => by
          by_cases hk : x = k
          · rw [hk]; exact c1
          · exact h7 x hx (by omega)⟩
    · rcases ih with ⟨h1, h2, h3⟩ | ⟨l, u, h1, h2, h3, h4, h5, h6, h7⟩
      · have e : s_lu B (k + 1) = (nI k, nI k) := by rw [s_lu, if_neg c1, if_neg (by rw [h1]; decide)]
        exact Or.inr ⟨k, k, Nat.le_refl _, by omega, e, c1, c1, h3, fun x h1 h2 => by omega⟩
      · have hne : ¬ (s_lu B k).1 = -5 := by
          rw [h3]
          exact nI_ne5 (by omega)
        have e : s_lu B (k + 1) = (nI l, nI k) := by rw [s_lu, if_neg c1, if_pos hne, h3]
        exact Or.inr ⟨l, k, by omega, by omega, e, h4, c1, h6, fun x h1 h2 => by omega⟩
set_option maxRecDepth 100000 in
theorem r_M_lu_loop {d n : Nat} {w0 w1 : Int32} {a6 a7 a8 : Value} (hn : n ≤ 24) {g : e_H} (hg : e_gI g 40 0 = nI n) : ∀ (m k : Nat), k + m = n + 1 → e_F kX4_byRule (e_X e_pg d) 8 [.ref 40, .int w0, .int w1, .int (s_luM (e_gI g 48) k).1, .int (s_luM (e_gI g 48) k).2, .int (nI k), a6, a7, a8] [] g = e_F kX4_byRule (e_X e_pg d) 64 [.ref 40, .int w0, .int w1, .int (s_luM (e_gI g 48) (n + 1)).1, .int (s_luM (e_gI g 48) (n + 1)).2, .int (nI (n + 1)), a6, a7, a8] [] g := by
  intro m
  induction m with
  | zero =>
    intro k hk
    have hk : k = n + 1 := by omega
    subst hk
    have hc : nI n < nI (n + 1) := nI_lt (by omega) (by omega)
    rw [zX4_byRule_8]
    simp only [zX4_byRule_10, zX4_byRule_11, zX4_byRule_14, zX4_byRule_17, zX4_byRule_18, zX4_byRule_21, zX4_byRule_23, zX4_byRule_24, zX4_byRule_27, zX4_byRule_28, zX4_byRule_29, zX4_byRule_32, zX4_byRule_34, zX4_byRule_37, zX4_byRule_38, zX4_byRule_39, zX4_byRule_40, zX4_byRule_43, zX4_byRule_45, zX4_byRule_46, zX4_byRule_49, zX4_byRule_51, zX4_byRule_54, zX4_byRule_56, zX4_byRule_58, zX4_byRule_61, hg, hc, e_k_int, e_k_ref, e_k_null, e_k_long, e_k_ret, e_cats_nil, e_cats_int, e_cats_ref, e_cats_ret, e_cats_long, Option.toList_some, Option.toList_none, List.nil_append, List.cons_append, Option.bind_some, Nat.reduceAdd, Nat.reduceLeDiff, Nat.add_zero, if_true, if_false, true_and, and_true, and_self, Int32.reduceToNatClampNeg]
  | succ m ih =>
    intro k hk
    have hc : ¬ nI n < nI k := nI_nlt (by omega) (by omega)
    have hb : e_inb (nI k) 25 = true := e_inb_nI (by omega) (by decide)
    have hcl : (nI k).toNatClampNeg = k := nI_clamp (by omega)
    have q := ih (k + 1) (by omega)
    rw [zX4_byRule_8]
    by_cases c1 : e_gI g 48 k = 0
    · have e : s_luM (e_gI g 48) (k + 1) = s_luM (e_gI g 48) k := by unfold s_luM; rw [s_lu, if_pos c1]
      rw [e] at q
      simp only [zX4_byRule_10, zX4_byRule_11, zX4_byRule_14, zX4_byRule_17, zX4_byRule_18, zX4_byRule_21, zX4_byRule_23, zX4_byRule_24, zX4_byRule_27, zX4_byRule_28, zX4_byRule_29, zX4_byRule_32, zX4_byRule_34, zX4_byRule_37, zX4_byRule_38, zX4_byRule_39, zX4_byRule_40, zX4_byRule_43, zX4_byRule_45, zX4_byRule_46, zX4_byRule_49, zX4_byRule_51, zX4_byRule_54, zX4_byRule_56, zX4_byRule_58, zX4_byRule_61, hg, hc, hb, hcl, nI_1, c1, e_k_int, e_k_ref, e_k_null, e_k_long, e_k_ret, e_cats_nil, e_cats_int, e_cats_ref, e_cats_ret, e_cats_long, Option.toList_some, Option.toList_none, List.nil_append, List.cons_append, Option.bind_some, Nat.reduceAdd, Nat.reduceLeDiff, Nat.add_zero, if_true, if_false, true_and, and_true, and_self, Int32.reduceToNatClampNeg, ok_1, ok_2, ok_3, ok_4, ok_5, ok_6, ok_7, ok_8, ok_9, ok_30, ok_31, ok_32, ok_33, ok_34, ok_35, ok_36, ok_37, ok_38, ok_39, ok_40, ok_41, ok_42, ok_43, ok_44, ok_45, ok_46, ok_47, ok_48, ok_49, ok_50, ok_51, ok_52, ln_1, ln_2, ln_4, ln_5, ln_6, ln_7, ln_8, ln_30, ln_31, ln_32, ln_33, ln_34, ln_35, ln_36, ln_37, ln_38, ln_39, ln_41, ln_42, ln_43, ln_44, ln_45, ln_46, ln_47, ln_48, ln_49, ln_50, ln_51, ln_52]
      exact q
    · rcases s_lu_in (e_gI g 48) k (by omega) with ⟨h1, h2, h3⟩ | ⟨l, u, h1, h2, h3, h4, h5, h6, h7⟩
      · have e1 : s_lu (e_gI g 48) (k + 1) = (nI k, nI k) := by rw [s_lu, if_neg c1, if_neg (not_not_intro h1)]
        have e : s_luM (e_gI g 48) (k + 1) = (nI k, nI k) := by unfold s_luM; rw [e1, if_neg (nI_ne5 (by omega))]
        have e0 : s_luM (e_gI g 48) k = (-1, -1) := by unfold s_luM; rw [if_pos h1]
        rw [e] at q
        rw [e0]
        simp only [zX4_byRule_10, zX4_byRule_11, zX4_byRule_14, zX4_byRule_17, zX4_byRule_18, zX4_byRule_21, zX4_byRule_23, zX4_byRule_24, zX4_byRule_27, zX4_byRule_28, zX4_byRule_29, zX4_byRule_32, zX4_byRule_34, zX4_byRule_37, zX4_byRule_38, zX4_byRule_39, zX4_byRule_40, zX4_byRule_43, zX4_byRule_45, zX4_byRule_46, zX4_byRule_49, zX4_byRule_51, zX4_byRule_54, zX4_byRule_56, zX4_byRule_58, zX4_byRule_61, hg, hc, hb, hcl, nI_1, c1, not_true_eq_false, e_k_int, e_k_ref, e_k_null, e_k_long, e_k_ret, e_cats_nil, e_cats_int, e_cats_ref, e_cats_ret, e_cats_long, Option.toList_some, Option.toList_none, List.nil_append, List.cons_append, Option.bind_some, Nat.reduceAdd, Nat.reduceLeDiff, Nat.add_zero, if_true, if_false, true_and, and_true, and_self, Int32.reduceToNatClampNeg, ok_1, ok_2, ok_3, ok_4, ok_5, ok_6, ok_7, ok_8, ok_9, ok_30, ok_31, ok_32, ok_33, ok_34, ok_35, ok_36, ok_37, ok_38, ok_39, ok_40, ok_41, ok_42, ok_43, ok_44, ok_45, ok_46, ok_47, ok_48, ok_49, ok_50, ok_51, ok_52, ln_1, ln_2, ln_4, ln_5, ln_6, ln_7, ln_8, ln_30, ln_31, ln_32, ln_33, ln_34, ln_35, ln_36, ln_37, ln_38, ln_39, ln_41, ln_42, ln_43, ln_44, ln_45, ln_46, ln_47, ln_48, ln_49, ln_50, ln_51, ln_52]
        exact q
      · have hl5 : ¬ nI l = -5 := nI_ne5 (by omega)
        have hl1 : ¬ nI l = -1 := nI_nem1 (by omega)
        have e : s_luM (e_gI g 48) (k + 1) = (nI l, nI k) := by unfold s_luM; rw [s_lu, if_neg c1, h3, if_pos hl5, if_neg hl5]
        have e0 : s_luM (e_gI g 48) k = (nI l, nI u) := by unfold s_luM; rw [h3, if_neg hl5]
        rw [e] at q
        rw [e0]
        simp only [zX4_byRule_10, zX4_byRule_11, zX4_byRule_14, zX4_byRule_17, zX4_byRule_18, zX4_byRule_21, zX4_byRule_23, zX4_byRule_24, zX4_byRule_27, zX4_byRule_28, zX4_byRule_29, zX4_byRule_32, zX4_byRule_34, zX4_byRule_37, zX4_byRule_38, zX4_byRule_39, zX4_byRule_40, zX4_byRule_43, zX4_byRule_45, zX4_byRule_46, zX4_byRule_49, zX4_byRule_51, zX4_byRule_54, zX4_byRule_56, zX4_byRule_58, zX4_byRule_61, hg, hc, hb, hcl, nI_1, c1, hl1, not_false_eq_true, e_k_int, e_k_ref, e_k_null, e_k_long, e_k_ret, e_cats_nil, e_cats_int, e_cats_ref, e_cats_ret, e_cats_long, Option.toList_some, Option.toList_none, List.nil_append, List.cons_append, Option.bind_some, Nat.reduceAdd, Nat.reduceLeDiff, Nat.add_zero, if_true, if_false, true_and, and_true, and_self, Int32.reduceToNatClampNeg, ok_1, ok_2, ok_3, ok_4, ok_5, ok_6, ok_7, ok_8, ok_9, ok_30, ok_31, ok_32, ok_33, ok_34, ok_35, ok_36, ok_37, ok_38, ok_39, ok_40, ok_41, ok_42, ok_43, ok_44, ok_45, ok_46, ok_47, ok_48, ok_49, ok_50, ok_51, ok_52, ln_1, ln_2, ln_4, ln_5, ln_6, ln_7, ln_8, ln_30, ln_31, ln_32, ln_33, ln_34, ln_35, ln_36, ln_37, ln_38, ln_39, ln_41, ln_42, ln_43, ln_44, ln_45, ln_46, ln_47, ln_48, ln_49, ln_50, ln_51, ln_52]
        exact q
def s_far (a b : Int32) : Int32 := if b ≤ a then a - b else b - a
theorem r_M_far {d : Nat} {a b : Int32} {h : e_H} : e_X e_pg (d + 1) 119 [.int a, .int b] h = some (some (.int (s_far a b)), h) := by
  rw [xX4_far]
  simp only [zX4_far_0, zX4_far_1, zX4_far_2, zX4_far_5, zX4_far_6, zX4_far_7, zX4_far_8, zX4_far_11, zX4_far_12, zX4_far_13, zX4_far_14, s_far, e_k_int, e_k_ref, e_k_null, e_k_long, e_k_ret, e_cats_nil, e_cats_int, e_cats_ref, e_cats_ret, e_cats_long, Option.toList_some, Option.toList_none, List.nil_append, List.cons_append, Option.bind_some, Nat.reduceAdd, Nat.reduceLeDiff, Nat.add_zero, if_true, if_false, true_and, and_true, and_self, Int32.reduceToNatClampNeg]
  repeat' split
  all_goals (first | rfl | (simp_all; done) | grind)
def s_l2 (B : Nat → Int32) (nr : Int32) (l : Nat) : Nat → Int32
  | 0 => nI l
  | j + 1 => if B (l + j) = 0 then s_l2 B nr l j else if s_far (s_l2 B nr l j) nr ≤ s_far (nI (l + j)) nr then s_l2 B nr l j else nI (l + j)
set_option maxRecDepth 100000 in
theorem r_M_l2_loop {d n l u : Nat} {w0 w1 nr b0 c0 : Int32} {to : Int64} (hu : u ≤ 24) {g : e_H} : ∀ (m j : Nat) (f : e_H), l + j + m = u + 1 → s_MFin g f (s_l2 (e_gI g 48) nr l j) b0 c0 → ∃ f2, e_F kX4_byRule (e_X e_pg (d + 1)) 183 [.ref 40, .int w0, .int w1, .int (nI l), .int (nI u), .long to, .null, .int nr, .int (nI (l + j))] [] f = some (none, f2) ∧ s_MFin g f2 (s_l2 (e_gI g 48) nr l (u + 1 - l)) b0 c0 := by
  intro m
  induction m with
  | zero =>
    intro j f hk hF
    have hj : j = u + 1 - l := by omega
    have hc : nI u < nI (l + j) := nI_lt (by omega) (by omega)
    refine ⟨f, ?_, by rw [← hj]; exact hF⟩
    rw [zX4_byRule_183]
    simp only [zX4_byRule_185, zX4_byRule_187, zX4_byRule_190, zX4_byRule_191, zX4_byRule_194, zX4_byRule_196, zX4_byRule_197, zX4_byRule_200, zX4_byRule_202, zX4_byRule_204, zX4_byRule_207, zX4_byRule_208, zX4_byRule_211, zX4_byRule_213, zX4_byRule_216, zX4_byRule_219, zX4_byRule_220, zX4_byRule_222, zX4_byRule_225, zX4_byRule_228, zX4_byRule_231, hc, e_k_int, e_k_ref, e_k_null, e_k_long, e_k_ret, e_cats_nil, e_cats_int, e_cats_ref, e_cats_ret, e_cats_long, Option.toList_some, Option.toList_none, List.nil_append, List.cons_append, Option.bind_some, Nat.reduceAdd, Nat.reduceLeDiff, Nat.add_zero, if_true, if_false, true_and, and_true, and_self, Int32.reduceToNatClampNeg]
  | succ m ih =>
    intro j f hk hF
    have hc : ¬ nI u < nI (l + j) := nI_nlt (by omega) (by omega)
    have hb : e_inb (nI (l + j)) 25 = true := e_inb_nI (by omega) (by decide)
    have hcl : (nI (l + j)).toNatClampNeg = l + j := nI_clamp (by omega)
    have r3 : e_gI f 48 = e_gI g 48 := hF.arr (by decide)
    have f24 := hF.2.2.2.1
    have q := fun f hf => ih (j + 1) f (by omega) hf
    rw [show l + (j + 1) = l + j + 1 by omega] at q
    simp only [s_l2] at q
    rw [zX4_byRule_183]
    by_cases c1 : e_gI g 48 (l + j) = 0
    · simp only [c1, if_true] at q
      simp only [zX4_byRule_185, zX4_byRule_187, zX4_byRule_190, zX4_byRule_191, zX4_byRule_194, zX4_byRule_196, zX4_byRule_197, zX4_byRule_200, zX4_byRule_202, zX4_byRule_204, zX4_byRule_207, zX4_byRule_208, zX4_byRule_211, zX4_byRule_213, zX4_byRule_216, zX4_byRule_219, zX4_byRule_220, zX4_byRule_222, zX4_byRule_225, zX4_byRule_228, zX4_byRule_231, hc, hb, hcl, r3, c1, nI_1, e_k_int, e_k_ref, e_k_null, e_k_long, e_k_ret, e_cats_nil, e_cats_int, e_cats_ref, e_cats_ret, e_cats_long, Option.toList_some, Option.toList_none, List.nil_append, List.cons_append, Option.bind_some, Nat.reduceAdd, Nat.reduceLeDiff, Nat.add_zero, if_true, if_false, true_and, and_true, and_self, Int32.reduceToNatClampNeg, ok_1, ok_2, ok_3, ok_4, ok_5, ok_6, ok_7, ok_8, ok_9, ok_30, ok_31, ok_32, ok_33, ok_34, ok_35, ok_36, ok_37, ok_38, ok_39, ok_40, ok_41, ok_42, ok_43, ok_44, ok_45, ok_46, ok_47, ok_48, ok_49, ok_50, ok_51, ok_52, ln_1, ln_2, ln_4, ln_5, ln_6, ln_7, ln_8, ln_30, ln_31, ln_32, ln_33, ln_34, ln_35, ln_36, ln_37, ln_38, ln_39, ln_41, ln_42, ln_43, ln_44, ln_45, ln_46, ln_47, ln_48, ln_49, ln_50, ln_51, ln_52]
      exact q f hF
    · by_cases c2 : s_far (s_l2 (e_gI g 48) nr l j) nr ≤ s_far (nI (l + j)) nr
      · simp only [c1, c2, if_true, if_false] at q
        simp only [zX4_byRule_185, zX4_byRule_187, zX4_byRule_190, zX4_byRule_191, zX4_byRule_194, zX4_byRule_196, zX4_byRule_197, zX4_byRule_200, zX4_byRule_202, zX4_byRule_204, zX4_byRule_207, zX4_byRule_208, zX4_byRule_211, zX4_byRule_213, zX4_byRule_216, zX4_byRule_219, zX4_byRule_220, zX4_byRule_222, zX4_byRule_225, zX4_byRule_228, zX4_byRule_231, hc, hb, hcl, r3, c1, r_M_far, f24, c2, nI_1, e_k_int, e_k_ref, e_k_null, e_k_long, e_k_ret, e_cats_nil, e_cats_int, e_cats_ref, e_cats_ret, e_cats_long, Option.toList_some, Option.toList_none, List.nil_append, List.cons_append, Option.bind_some, Nat.reduceAdd, Nat.reduceLeDiff, Nat.add_zero, if_true, if_false, true_and, and_true, and_self, Int32.reduceToNatClampNeg, ok_1, ok_2, ok_3, ok_4, ok_5, ok_6, ok_7, ok_8, ok_9, ok_30, ok_31, ok_32, ok_33, ok_34, ok_35, ok_36, ok_37, ok_38, ok_39, ok_40, ok_41, ok_42, ok_43, ok_44, ok_45, ok_46, ok_47, ok_48, ok_49, ok_50, ok_51, ok_52, ln_1, ln_2, ln_4, ln_5, ln_6, ln_7, ln_8, ln_30, ln_31, ln_32, ln_33, ln_34, ln_35, ln_36, ln_37, ln_38, ln_39, ln_41, ln_42, ln_43, ln_44, ln_45, ln_46, ln_47, ln_48, ln_49, ln_50, ln_51, ln_52]
        exact q f hF
      · simp only [c1, c2, if_false] at q
        simp only [zX4_byRule_185, zX4_byRule_187, zX4_byRule_190, zX4_byRule_191, zX4_byRule_194, zX4_byRule_196, zX4_byRule_197, zX4_byRule_200, zX4_byRule_202, zX4_byRule_204, zX4_byRule_207, zX4_byRule_208, zX4_byRule_211, zX4_byRule_213, zX4_byRule_216, zX4_byRule_219, zX4_byRule_220, zX4_byRule_222, zX4_byRule_225, zX4_byRule_228, zX4_byRule_231, hc, hb, hcl, r3, c1, r_M_far, f24, c2, nI_1, e_k_int, e_k_ref, e_k_null, e_k_long, e_k_ret, e_cats_nil, e_cats_int, e_cats_ref, e_cats_ret, e_cats_long, Option.toList_some, Option.toList_none, List.nil_append, List.cons_append, Option.bind_some, Nat.reduceAdd, Nat.reduceLeDiff, Nat.add_zero, if_true, if_false, true_and, and_true, and_self, Int32.reduceToNatClampNeg, ok_1, ok_2, ok_3, ok_4, ok_5, ok_6, ok_7, ok_8, ok_9, ok_30, ok_31, ok_32, ok_33, ok_34, ok_35, ok_36, ok_37, ok_38, ok_39, ok_40, ok_41, ok_42, ok_43, ok_44, ok_45, ok_46, ok_47, ok_48, ok_49, ok_50, ok_51, ok_52, ln_1, ln_2, ln_4, ln_5, ln_6, ln_7, ln_8, ln_30, ln_31, ln_32, ln_33, ln_34, ln_35, ln_36, ln_37, ln_38, ln_39, ln_41, ln_42, ln_43, ln_44, ln_45, ln_46, ln_47, ln_48, ln_49, ln_50, ln_51, ln_52]
        exact q _ hF.share
/-! the nearest share: the class's words and the model's -/
theorem ti_far {a : Nat} {nr : Int32} {c : Int} (ha : a ≤ 30) (hc : nr.toInt = c) (h1 : -30 ≤ c) (h2 : c ≤ 30) : (s_far (nI a) nr).toInt = if c ≤ (a : Int) then (a : Int) - c else c - (a : Int) := by
  have e := nI_ti (x := a) (by omega)
  unfold s_far
  by_cases q : nr ≤ nI a
  · rw [if_pos q]
    rw [Int32.le_iff_toInt_le] at q
    rw [if_pos (by omega), ti_sub (by omega) (by omega)]
    omega
  · rw [if_neg q]
    rw [Int32.le_iff_toInt_le] at q
    rw [if_neg (by omega), ti_sub (by omega) (by omega)]
    omega
theorem ti_abs {a : Nat} {nr : Int32} {c : Int} (ha : a ≤ 30) (hc : nr.toInt = c) (h1 : -30 ≤ c) (h2 : c ≤ 30) : (s_abs (nI a - nr)).toInt = if c ≤ (a : Int) then (a : Int) - c else c - (a : Int) := by
  have e := nI_ti (x := a) (by omega)
  have e2 : (nI a - nr).toInt = (a : Int) - c := by rw [ti_sub] <;> omega
  unfold s_abs
  by_cases q : 0 ≤ nI a - nr
  · rw [if_pos q]
    rw [Int32.le_iff_toInt_le, ti_0] at q
    rw [if_pos (by omega)]
    omega
  · rw [if_neg q]
    rw [Int32.le_iff_toInt_le, ti_0] at q
    rw [if_neg (by omega), ti_sub (by rw [ti_0]; omega) (by rw [ti_0]; omega), ti_0]
    omega
/-- the same share is nearest if both ways of measuring order the shares alike -/
theorem s_l2_near {B : Nat → Int32} {n l u : Nat} {nrC nrM : Int32} (hn : n ≤ 24) (hlu : l ≤ u) (hun : u ≤ n) (hl : ¬ B l = 0) (h1 : ∀ x, x < l → B x = 0) (h2 : ∀ x, u < x → x < n + 1 → B x = 0) (hcmp : ∀ a b, a ≤ n → b ≤ n → (s_abs (nI a - nrC) ≤ s_abs (nI b - nrC) ↔ s_far (nI a) nrM ≤ s_far (nI b) nrM)) : s_l2 B nrM l (u + 1 - l) = s_near B nrC (n + 1) := by
  have z0 : ∀ k, k ≤ l → s_near B nrC k = -5 := by
    intro k
    induction k with
    | zero => intro _; rfl
    | succ k ih => intro hk; rw [s_near, s_nst, if_pos (h1 k (by omega))]; exact ih (by omega)
  have z1 : ∀ j, l + j + 1 ≤ n + 1 → s_near B nrC (l + j + 1) = s_l2 B nrM l (j + 1) ∧ ∃ x, x ≤ n ∧ s_l2 B nrM l (j + 1) = nI x := by
    intro j
    induction j with
    | zero =>
      intro _
      have e1 : s_near B nrC (l + 0 + 1) = nI l := by
        rw [show l + 0 + 1 = l + 1 by omega, s_near, s_nst, if_neg hl, z0 l (Nat.le_refl _), if_pos rfl]
      have e2 : s_l2 B nrM l 1 = nI l := by
        rw [s_l2, Nat.add_zero, if_neg hl]
        have : s_l2 B nrM l 0 = nI l := rfl
        rw [this]
        split <;> rfl
      rw [e1, e2]
      exact ⟨rfl, l, by omega, rfl⟩
    | succ j ih =>
      intro hj
      obtain ⟨e1, x, hx, e2⟩ := ih (by omega)
      have st : s_l2 B nrM l (j + 1 + 1) = if B (l + (j + 1)) = 0 then s_l2 B nrM l (j + 1) else if s_far (s_l2 B nrM l (j + 1)) nrM ≤ s_far (nI (l + (j + 1))) nrM then s_l2 B nrM l (j + 1) else nI (l + (j + 1)) := rfl
      rw [show l + (j + 1) + 1 = (l + j + 1) + 1 by omega, s_near, s_nst, e1, st, e2]
      rw [show l + (j + 1) = l + j + 1 by omega]
      rw [if_neg (show ¬ nI x = -5 from nI_ne5 (by omega))]
      have hc := hcmp x (l + j + 1) hx (by omega)
      by_cases c1 : B (l + j + 1) = 0
      · rw [if_pos c1, if_pos c1]
        exact ⟨rfl, x, hx, rfl⟩
      · rw [if_neg c1, if_neg c1]
        by_cases c2 : s_far (nI x) nrM ≤ s_far (nI (l + j + 1)) nrM
        · rw [if_pos c2, if_pos (hc.mpr c2)]
          exact ⟨rfl, x, hx, rfl⟩
        · rw [if_neg c2, if_neg (fun z => c2 (hc.mp z))]
          exact ⟨rfl, l + j + 1, by omega, rfl⟩
  have z2 : ∀ k, u + 1 + k ≤ n + 1 → s_near B nrC (u + 1 + k) = s_near B nrC (u + 1) := by
    intro k
    induction k with
    | zero => intro _; rfl
    | succ k ih =>
      intro hk
      rw [show u + 1 + (k + 1) = (u + 1 + k) + 1 by omega, s_near, s_nst, if_pos (h2 _ (by omega) (by omega))]
      exact ih (by omega)
  have e := z2 (n - u) (by omega)
  rw [show u + 1 + (n - u) = n + 1 by omega] at e
  rw [e]
  have e3 := (z1 (u - l) (by omega)).1
  rw [show l + (u - l) + 1 = u + 1 by omega] at e3
  rw [e3]
  congr 1
  omega
def s_clM (n : Int32) (t : Int64) : Int32 := (if t < -1 then -1 else if n.toInt64 + 1 < t then n.toInt64 + 1 else t).toInt32
theorem l64_32 {x : Int64} {c : Int} (h : x.toInt = c) (h1 : -100 ≤ c) (h2 : c ≤ 100) : x.toInt32.toInt = c := by
  rw [Int64.toInt_toInt32, h, ti_bm (by omega) (by omega)]
theorem n64 {n : Nat} (hn : n ≤ 24) : (nI n).toInt64.toInt = (n : Int) ∧ ((nI n).toInt64 + 1).toInt = (n : Int) + 1 := by
  have e : (nI n).toInt64.toInt = (n : Int) := by rw [Int32.toInt_toInt64, nI_ti (by omega)]
  refine ⟨e, ?_⟩
  rw [Int64.toInt_add, e, show (1 : Int64).toInt = 1 from rfl, Int.bmod_def]
  rw [Int.emod_eq_of_lt (by omega) (by omega), if_pos (by omega)]
theorem cl_C {n : Nat} (hn : n ≤ 24) (t : Int64) : (s_clamp (nI n) t).toInt = if t.toInt < 0 then 0 else if (n : Int) < t.toInt then (n : Int) else t.toInt := by
  obtain ⟨e1, -⟩ := n64 hn
  have z0 : (0 : Int64).toInt = 0 := rfl
  unfold s_clamp
  by_cases c1 : t < (nI n).toInt64
  · rw [if_pos c1]
    rw [Int64.lt_iff_toInt_lt, e1] at c1
    by_cases c2 : t < 0
    · rw [if_pos c2]
      rw [Int64.lt_iff_toInt_lt, z0] at c2
      rw [if_pos c2]
      rfl
    · rw [if_neg c2]
      rw [Int64.lt_iff_toInt_lt, z0] at c2
      rw [if_neg c2, if_neg (by omega)]
      exact l64_32 rfl (by omega) (by omega)
  · rw [if_neg c1]
    rw [Int64.lt_iff_toInt_lt, e1] at c1
    have c2 : ¬ (nI n).toInt64 < 0 := by rw [Int64.lt_iff_toInt_lt, e1, z0]; omega
    rw [if_neg c2, if_neg (by omega)]
    rw [l64_32 e1 (by omega) (by omega)]
    split <;> omega
theorem cl_M {n : Nat} (hn : n ≤ 24) (t : Int64) : (s_clM (nI n) t).toInt = if t.toInt < -1 then -1 else if (n : Int) + 1 < t.toInt then (n : Int) + 1 else t.toInt := by
  obtain ⟨-, e2⟩ := n64 hn
  have z0 : (-1 : Int64).toInt = -1 := rfl
  unfold s_clM
  by_cases c1 : t < -1
  · rw [if_pos c1]
    rw [Int64.lt_iff_toInt_lt, z0] at c1
    rw [if_pos c1]
    rfl
  · rw [if_neg c1]
    rw [Int64.lt_iff_toInt_lt, z0] at c1
    rw [if_neg c1]
    by_cases c2 : (nI n).toInt64 + 1 < t
    · rw [if_pos c2]
      rw [Int64.lt_iff_toInt_lt, e2] at c2
      rw [if_pos c2]
      exact l64_32 e2 (by omega) (by omega)
    · rw [if_neg c2]
      rw [Int64.lt_iff_toInt_lt, e2] at c2
      rw [if_neg c2]
      exact l64_32 rfl (by omega) (by omega)
theorem s_near_eq {B : Nat → Int32} {n l u : Nat} (hn : n ≤ 24) (hlu : l ≤ u) (hun : u ≤ n) (hl : ¬ B l = 0) (h1 : ∀ x, x < l → B x = 0) (h2 : ∀ x, u < x → x < n + 1 → B x = 0) (t : Int64) : s_l2 B (s_clM (nI n) t) l (u + 1 - l) = s_near B (s_clamp (nI n) t) (n + 1) := by
  refine s_l2_near hn hlu hun hl h1 h2 (fun a b ha hb => ?_)
  have c1 := cl_C hn t
  have c2 := cl_M hn t
  rw [Int32.le_iff_toInt_le, Int32.le_iff_toInt_le, ti_abs (by omega) c1 (by split <;> (try split) <;> omega) (by split <;> (try split) <;> omega), ti_abs (by omega) c1 (by split <;> (try split) <;> omega) (by split <;> (try split) <;> omega), ti_far (by omega) c2 (by split <;> (try split) <;> omega) (by split <;> (try split) <;> omega), ti_far (by omega) c2 (by split <;> (try split) <;> omega) (by split <;> (try split) <;> omega)]
  repeat' split
  all_goals omega
theorem s_l2_least {B : Nat → Int32} {n l : Nat} (hn : n ≤ 24) (hl : l ≤ n) : ∀ j, l + j ≤ n + 1 → s_l2 B (nI l) l j = nI l := by
  intro j
  induction j with
  | zero => intro _; rfl
  | succ j ih =>
    intro hj
    have e := ih (by omega)
    rw [s_l2, e]
    have c : s_far (nI l) (nI l) ≤ s_far (nI (l + j)) (nI l) := by
      rw [Int32.le_iff_toInt_le, ti_far (c := (l : Int)) (by omega) (nI_ti (by omega)) (by omega) (by omega), ti_far (c := (l : Int)) (by omega) (nI_ti (by omega)) (by omega) (by omega)]
      repeat' split
      all_goals omega
    rw [if_pos c]
    split <;> rfl
