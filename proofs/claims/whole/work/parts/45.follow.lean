/-! by a rule: the least and the greatest share that both take, the nearest to what is told -/
def s_lu (B : Nat → Int32) : Nat → Int32 × Int32
  | 0 => (-5, -5)
  | k + 1 => if B k = 0 then s_lu B k else if ¬ (s_lu B k).1 = -5 then ((s_lu B k).1, nI k) else (nI k, nI k)
def s_abs (x : Int32) : Int32 := if 0 ≤ x then x else 0 - x
def s_nst (B : Nat → Int32) (nr : Int32) (k : Nat) (a : Int32) : Int32 := if B k = 0 then a else if a = -5 then nI k else if s_abs (a - nr) ≤ s_abs (nI k - nr) then a else nI k
def s_near (B : Nat → Int32) (nr : Int32) : Nat → Int32
  | 0 => -5
  | k + 1 => s_nst B nr k (s_near B nr k)
def s_clamp (n : Int32) (t : Int64) : Int32 := (if (if t < n.toInt64 then t else n.toInt64) < 0 then 0 else (if t < n.toInt64 then t else n.toInt64)).toInt32
set_option maxRecDepth 100000 in
theorem r_near_loop {d n : Nat} {t : Int64} {v2 : Value} {nr : Int32} (hn : n ≤ 24) {g : e_H} (hg : e_gI g 9 2 = nI n) : ∀ (m k : Nat), k + m = n + 1 → e_F kX1_nearest (e_X e_pg d) 22 [.ref 9, .long t, v2, .int nr, .int (s_near (e_gI g 30) nr k), .int (nI k)] [] g = some (some (.int (s_near (e_gI g 30) nr (n + 1))), g) := by
  intro m
  induction m with
  | zero =>
    intro k hk
    have hk : k = n + 1 := by omega
    subst hk
    have hc : nI n < nI (n + 1) := nI_lt (by omega) (by omega)
    rw [zX1_nearest_22]
    simp only [zX1_nearest_24, zX1_nearest_25, zX1_nearest_28, zX1_nearest_31, zX1_nearest_32, zX1_nearest_35, zX1_nearest_37, zX1_nearest_38, zX1_nearest_41, zX1_nearest_43, zX1_nearest_45, zX1_nearest_48, zX1_nearest_50, zX1_nearest_51, zX1_nearest_52, zX1_nearest_55, zX1_nearest_57, zX1_nearest_58, zX1_nearest_59, zX1_nearest_62, zX1_nearest_65, zX1_nearest_67, zX1_nearest_69, zX1_nearest_72, zX1_nearest_75, zX1_nearest_77, hg, hc, e_k_int, e_k_ref, e_k_null, e_k_long, e_k_ret, e_cats_nil, e_cats_int, e_cats_ref, e_cats_ret, e_cats_long, Option.toList_some, Option.toList_none, List.nil_append, List.cons_append, Option.bind_some, Nat.reduceAdd, Nat.reduceLeDiff, Nat.add_zero, if_true, if_false, true_and, and_true, and_self, Int32.reduceToNatClampNeg]
  | succ m ih =>
    intro k hk
    have hc : ¬ nI n < nI k := nI_nlt (by omega) (by omega)
    have hb : e_inb (nI k) 25 = true := e_inb_nI (by omega) (by decide)
    have hcl : (nI k).toNatClampNeg = k := nI_clamp (by omega)
    have q := ih (k + 1) (by omega)
    simp only [s_near, s_nst, s_abs] at q
    rw [zX1_nearest_22]
    by_cases c1 : e_gI g 30 k = 0
    · simp only [c1, if_true] at q
      simp only [zX1_nearest_24, zX1_nearest_25, zX1_nearest_28, zX1_nearest_31, zX1_nearest_32, zX1_nearest_35, zX1_nearest_37, zX1_nearest_38, zX1_nearest_41, zX1_nearest_43, zX1_nearest_45, zX1_nearest_48, zX1_nearest_50, zX1_nearest_51, zX1_nearest_52, zX1_nearest_55, zX1_nearest_57, zX1_nearest_58, zX1_nearest_59, zX1_nearest_62, zX1_nearest_65, zX1_nearest_67, zX1_nearest_69, zX1_nearest_72, zX1_nearest_75, zX1_nearest_77, hg, hc, hb, hcl, nI_1, c1, e_k_int, e_k_ref, e_k_null, e_k_long, e_k_ret, e_cats_nil, e_cats_int, e_cats_ref, e_cats_ret, e_cats_long, Option.toList_some, Option.toList_none, List.nil_append, List.cons_append, Option.bind_some, Nat.reduceAdd, Nat.reduceLeDiff, Nat.add_zero, if_true, if_false, true_and, and_true, and_self, Int32.reduceToNatClampNeg, ok_1, ok_2, ok_3, ok_4, ok_5, ok_6, ok_7, ok_8, ok_9, ok_30, ok_31, ok_32, ok_33, ok_34, ok_35, ok_36, ok_37, ok_38, ok_39, ok_40, ok_41, ok_42, ok_43, ok_44, ok_45, ok_46, ok_47, ok_48, ok_49, ok_50, ok_51, ok_52, ln_1, ln_2, ln_4, ln_5, ln_6, ln_7, ln_8, ln_30, ln_31, ln_32, ln_33, ln_34, ln_35, ln_36, ln_37, ln_38, ln_39, ln_41, ln_42, ln_43, ln_44, ln_45, ln_46, ln_47, ln_48, ln_49, ln_50, ln_51, ln_52]
      exact q
    · by_cases c2 : s_near (e_gI g 30) nr k = -5
      · simp only [c1, c2, if_true, if_false] at q
        simp only [zX1_nearest_24, zX1_nearest_25, zX1_nearest_28, zX1_nearest_31, zX1_nearest_32, zX1_nearest_35, zX1_nearest_37, zX1_nearest_38, zX1_nearest_41, zX1_nearest_43, zX1_nearest_45, zX1_nearest_48, zX1_nearest_50, zX1_nearest_51, zX1_nearest_52, zX1_nearest_55, zX1_nearest_57, zX1_nearest_58, zX1_nearest_59, zX1_nearest_62, zX1_nearest_65, zX1_nearest_67, zX1_nearest_69, zX1_nearest_72, zX1_nearest_75, zX1_nearest_77, hg, hc, hb, hcl, nI_1, c1, c2, e_k_int, e_k_ref, e_k_null, e_k_long, e_k_ret, e_cats_nil, e_cats_int, e_cats_ref, e_cats_ret, e_cats_long, Option.toList_some, Option.toList_none, List.nil_append, List.cons_append, Option.bind_some, Nat.reduceAdd, Nat.reduceLeDiff, Nat.add_zero, if_true, if_false, true_and, and_true, and_self, Int32.reduceToNatClampNeg, ok_1, ok_2, ok_3, ok_4, ok_5, ok_6, ok_7, ok_8, ok_9, ok_30, ok_31, ok_32, ok_33, ok_34, ok_35, ok_36, ok_37, ok_38, ok_39, ok_40, ok_41, ok_42, ok_43, ok_44, ok_45, ok_46, ok_47, ok_48, ok_49, ok_50, ok_51, ok_52, ln_1, ln_2, ln_4, ln_5, ln_6, ln_7, ln_8, ln_30, ln_31, ln_32, ln_33, ln_34, ln_35, ln_36, ln_37, ln_38, ln_39, ln_41, ln_42, ln_43, ln_44, ln_45, ln_46, ln_47, ln_48, ln_49, ln_50, ln_51, ln_52]
        exact q
      · by_cases c3 : (if 0 ≤ s_near (e_gI g 30) nr k - nr then s_near (e_gI g 30) nr k - nr else 0 - (s_near (e_gI g 30) nr k - nr)) ≤ (if 0 ≤ nI k - nr then nI k - nr else 0 - (nI k - nr))
        · simp only [c1, c2, c3, if_true, if_false] at q
          simp only [zX1_nearest_24, zX1_nearest_25, zX1_nearest_28, zX1_nearest_31, zX1_nearest_32, zX1_nearest_35, zX1_nearest_37, zX1_nearest_38, zX1_nearest_41, zX1_nearest_43, zX1_nearest_45, zX1_nearest_48, zX1_nearest_50, zX1_nearest_51, zX1_nearest_52, zX1_nearest_55, zX1_nearest_57, zX1_nearest_58, zX1_nearest_59, zX1_nearest_62, zX1_nearest_65, zX1_nearest_67, zX1_nearest_69, zX1_nearest_72, zX1_nearest_75, zX1_nearest_77, hg, hc, hb, hcl, nI_1, c1, c2, c3, e_k_int, e_k_ref, e_k_null, e_k_long, e_k_ret, e_cats_nil, e_cats_int, e_cats_ref, e_cats_ret, e_cats_long, Option.toList_some, Option.toList_none, List.nil_append, List.cons_append, Option.bind_some, Nat.reduceAdd, Nat.reduceLeDiff, Nat.add_zero, if_true, if_false, true_and, and_true, and_self, Int32.reduceToNatClampNeg, ok_1, ok_2, ok_3, ok_4, ok_5, ok_6, ok_7, ok_8, ok_9, ok_30, ok_31, ok_32, ok_33, ok_34, ok_35, ok_36, ok_37, ok_38, ok_39, ok_40, ok_41, ok_42, ok_43, ok_44, ok_45, ok_46, ok_47, ok_48, ok_49, ok_50, ok_51, ok_52, ln_1, ln_2, ln_4, ln_5, ln_6, ln_7, ln_8, ln_30, ln_31, ln_32, ln_33, ln_34, ln_35, ln_36, ln_37, ln_38, ln_39, ln_41, ln_42, ln_43, ln_44, ln_45, ln_46, ln_47, ln_48, ln_49, ln_50, ln_51, ln_52]
          exact q
        · simp only [c1, c2, c3, if_false] at q
          simp only [zX1_nearest_24, zX1_nearest_25, zX1_nearest_28, zX1_nearest_31, zX1_nearest_32, zX1_nearest_35, zX1_nearest_37, zX1_nearest_38, zX1_nearest_41, zX1_nearest_43, zX1_nearest_45, zX1_nearest_48, zX1_nearest_50, zX1_nearest_51, zX1_nearest_52, zX1_nearest_55, zX1_nearest_57, zX1_nearest_58, zX1_nearest_59, zX1_nearest_62, zX1_nearest_65, zX1_nearest_67, zX1_nearest_69, zX1_nearest_72, zX1_nearest_75, zX1_nearest_77, hg, hc, hb, hcl, nI_1, c1, c2, c3, e_k_int, e_k_ref, e_k_null, e_k_long, e_k_ret, e_cats_nil, e_cats_int, e_cats_ref, e_cats_ret, e_cats_long, Option.toList_some, Option.toList_none, List.nil_append, List.cons_append, Option.bind_some, Nat.reduceAdd, Nat.reduceLeDiff, Nat.add_zero, if_true, if_false, true_and, and_true, and_self, Int32.reduceToNatClampNeg, ok_1, ok_2, ok_3, ok_4, ok_5, ok_6, ok_7, ok_8, ok_9, ok_30, ok_31, ok_32, ok_33, ok_34, ok_35, ok_36, ok_37, ok_38, ok_39, ok_40, ok_41, ok_42, ok_43, ok_44, ok_45, ok_46, ok_47, ok_48, ok_49, ok_50, ok_51, ok_52, ln_1, ln_2, ln_4, ln_5, ln_6, ln_7, ln_8, ln_30, ln_31, ln_32, ln_33, ln_34, ln_35, ln_36, ln_37, ln_38, ln_39, ln_41, ln_42, ln_43, ln_44, ln_45, ln_46, ln_47, ln_48, ln_49, ln_50, ln_51, ln_52]
          exact q
theorem r_nearest {d n : Nat} {t : Int64} (hn : n ≤ 24) {g : e_H} (hg : e_gI g 9 2 = nI n) : e_X e_pg (d + 1) 14 [.ref 9, .long t] g = some (some (.int (s_near (e_gI g 30) (s_clamp (nI n) t) (n + 1))), g) := by
  rw [xX1_nearest]
  simp only [zX1_nearest_0, zX1_nearest_1, zX1_nearest_2, zX1_nearest_5, zX1_nearest_6, zX1_nearest_7, zX1_nearest_10, zX1_nearest_13, zX1_nearest_14, zX1_nearest_15, zX1_nearest_17, zX1_nearest_19, zX1_nearest_20, hg, e_k_int, e_k_ref, e_k_null, e_k_long, e_k_ret, e_cats_nil, e_cats_int, e_cats_ref, e_cats_ret, e_cats_long, Option.toList_some, Option.toList_none, List.nil_append, List.cons_append, Option.bind_some, Nat.reduceAdd, Nat.reduceLeDiff, Nat.add_zero, if_true, if_false, true_and, and_true, and_self, Int32.reduceToNatClampNeg]
  exact r_near_loop hn hg (n + 1) 0 (by omega)
/-- the share by a rule with that fault, that tells tl l u -/
def s_rul (B : Nat → Int32) (n : Nat) (flaw : Int32) (tl : Int32 → Int32 → Int64) : Int32 := if (s_lu B (n + 1)).1 = -5 then (s_lu B (n + 1)).1 else if ¬ flaw = -1 then (s_lu B (n + 1)).1 else s_near B (s_clamp (nI n) (tl (s_lu B (n + 1)).1 (s_lu B (n + 1)).2)) (n + 1)
set_option maxRecDepth 100000 in
theorem r_follow_loop {d n : Nat} {a4 : Value} (hn : n ≤ 24) {g : e_H} (hg : e_gI g 9 2 = nI n) : ∀ (m k : Nat), k + m = n + 1 → e_F kX1_follow (e_X e_pg d) 9 [.ref 9, .ref 3, .int (s_lu (e_gI g 30) k).1, .int (s_lu (e_gI g 30) k).2, .int (nI k)] [] g = e_F kX1_follow (e_X e_pg d) 50 [.ref 9, .ref 3, .int (s_lu (e_gI g 30) (n + 1)).1, .int (s_lu (e_gI g 30) (n + 1)).2, .int (nI (n + 1))] [] g := by
  intro m
  induction m with
  | zero =>
    intro k hk
    have hk : k = n + 1 := by omega
    subst hk
    have hc : nI n < nI (n + 1) := nI_lt (by omega) (by omega)
    rw [zX1_follow_9]
    simp only [zX1_follow_11, zX1_follow_12, zX1_follow_15, zX1_follow_18, zX1_follow_19, zX1_follow_22, zX1_follow_24, zX1_follow_25, zX1_follow_28, zX1_follow_29, zX1_follow_31, zX1_follow_34, zX1_follow_36, zX1_follow_39, zX1_follow_40, zX1_follow_41, zX1_follow_43, zX1_follow_44, zX1_follow_47, hg, hc, e_k_int, e_k_ref, e_k_null, e_k_long, e_k_ret, e_cats_nil, e_cats_int, e_cats_ref, e_cats_ret, e_cats_long, Option.toList_some, Option.toList_none, List.nil_append, List.cons_append, Option.bind_some, Nat.reduceAdd, Nat.reduceLeDiff, Nat.add_zero, if_true, if_false, true_and, and_true, and_self, Int32.reduceToNatClampNeg]
  | succ m ih =>
    intro k hk
    have hc : ¬ nI n < nI k := nI_nlt (by omega) (by omega)
    have hb : e_inb (nI k) 25 = true := e_inb_nI (by omega) (by decide)
    have hcl : (nI k).toNatClampNeg = k := nI_clamp (by omega)
    have q := ih (k + 1) (by omega)
    rw [s_lu] at q
    rw [zX1_follow_9]
    by_cases c1 : e_gI g 30 k = 0
    · rw [if_pos c1] at q
      simp only [zX1_follow_11, zX1_follow_12, zX1_follow_15, zX1_follow_18, zX1_follow_19, zX1_follow_22, zX1_follow_24, zX1_follow_25, zX1_follow_28, zX1_follow_29, zX1_follow_31, zX1_follow_34, zX1_follow_36, zX1_follow_39, zX1_follow_40, zX1_follow_41, zX1_follow_43, zX1_follow_44, zX1_follow_47, hg, hc, hb, hcl, nI_1, c1, e_k_int, e_k_ref, e_k_null, e_k_long, e_k_ret, e_cats_nil, e_cats_int, e_cats_ref, e_cats_ret, e_cats_long, Option.toList_some, Option.toList_none, List.nil_append, List.cons_append, Option.bind_some, Nat.reduceAdd, Nat.reduceLeDiff, Nat.add_zero, if_true, if_false, true_and, and_true, and_self, Int32.reduceToNatClampNeg, ok_1, ok_2, ok_3, ok_4, ok_5, ok_6, ok_7, ok_8, ok_9, ok_30, ok_31, ok_32, ok_33, ok_34, ok_35, ok_36, ok_37, ok_38, ok_39, ok_40, ok_41, ok_42, ok_43, ok_44, ok_45, ok_46, ok_47, ok_48, ok_49, ok_50, ok_51, ok_52, ln_1, ln_2, ln_4, ln_5, ln_6, ln_7, ln_8, ln_30, ln_31, ln_32, ln_33, ln_34, ln_35, ln_36, ln_37, ln_38, ln_39, ln_41, ln_42, ln_43, ln_44, ln_45, ln_46, ln_47, ln_48, ln_49, ln_50, ln_51, ln_52]
      exact q
    · rw [if_neg c1] at q
      by_cases c2 : (s_lu (e_gI g 30) k).1 = -5
      · rw [if_neg (by rw [c2]; decide)] at q
        simp only [zX1_follow_11, zX1_follow_12, zX1_follow_15, zX1_follow_18, zX1_follow_19, zX1_follow_22, zX1_follow_24, zX1_follow_25, zX1_follow_28, zX1_follow_29, zX1_follow_31, zX1_follow_34, zX1_follow_36, zX1_follow_39, zX1_follow_40, zX1_follow_41, zX1_follow_43, zX1_follow_44, zX1_follow_47, hg, hc, hb, hcl, nI_1, c1, c2, not_true_eq_false, e_k_int, e_k_ref, e_k_null, e_k_long, e_k_ret, e_cats_nil, e_cats_int, e_cats_ref, e_cats_ret, e_cats_long, Option.toList_some, Option.toList_none, List.nil_append, List.cons_append, Option.bind_some, Nat.reduceAdd, Nat.reduceLeDiff, Nat.add_zero, if_true, if_false, true_and, and_true, and_self, Int32.reduceToNatClampNeg, ok_1, ok_2, ok_3, ok_4, ok_5, ok_6, ok_7, ok_8, ok_9, ok_30, ok_31, ok_32, ok_33, ok_34, ok_35, ok_36, ok_37, ok_38, ok_39, ok_40, ok_41, ok_42, ok_43, ok_44, ok_45, ok_46, ok_47, ok_48, ok_49, ok_50, ok_51, ok_52, ln_1, ln_2, ln_4, ln_5, ln_6, ln_7, ln_8, ln_30, ln_31, ln_32, ln_33, ln_34, ln_35, ln_36, ln_37, ln_38, ln_39, ln_41, ln_42, ln_43, ln_44, ln_45, ln_46, ln_47, ln_48, ln_49, ln_50, ln_51, ln_52]
        exact q
      · rw [if_pos c2] at q
        simp only [zX1_follow_11, zX1_follow_12, zX1_follow_15, zX1_follow_18, zX1_follow_19, zX1_follow_22, zX1_follow_24, zX1_follow_25, zX1_follow_28, zX1_follow_29, zX1_follow_31, zX1_follow_34, zX1_follow_36, zX1_follow_39, zX1_follow_40, zX1_follow_41, zX1_follow_43, zX1_follow_44, zX1_follow_47, hg, hc, hb, hcl, nI_1, c1, c2, not_false_eq_true, e_k_int, e_k_ref, e_k_null, e_k_long, e_k_ret, e_cats_nil, e_cats_int, e_cats_ref, e_cats_ret, e_cats_long, Option.toList_some, Option.toList_none, List.nil_append, List.cons_append, Option.bind_some, Nat.reduceAdd, Nat.reduceLeDiff, Nat.add_zero, if_true, if_false, true_and, and_true, and_self, Int32.reduceToNatClampNeg, ok_1, ok_2, ok_3, ok_4, ok_5, ok_6, ok_7, ok_8, ok_9, ok_30, ok_31, ok_32, ok_33, ok_34, ok_35, ok_36, ok_37, ok_38, ok_39, ok_40, ok_41, ok_42, ok_43, ok_44, ok_45, ok_46, ok_47, ok_48, ok_49, ok_50, ok_51, ok_52, ln_1, ln_2, ln_4, ln_5, ln_6, ln_7, ln_8, ln_30, ln_31, ln_32, ln_33, ln_34, ln_35, ln_36, ln_37, ln_38, ln_39, ln_41, ln_42, ln_43, ln_44, ln_45, ln_46, ln_47, ln_48, ln_49, ln_50, ln_51, ln_52]
        exact q
def s_Fin2 (g f : e_H) (a b c : Int32) : Prop := e_fr [7, 8, 9] g f ∧ (∀ k, k < 5 → e_gI f 9 k = e_gI g 9 k) ∧ e_gI f 9 5 = a ∧ e_gI f 9 6 = b ∧ e_gI f 9 7 = c
theorem s_Fin.two {g f : e_H} {a b c : Int32} (h : s_Fin g f a b c) : s_Fin2 g f a b c := ⟨h.1.mono (fun o ho => by simp at ho ⊢; omega), h.2⟩
theorem s_Fin2_agree {g f : e_H} {x y z : Int32} (h : e_fr [7, 8] g f) : s_Fin2 g (e_pI (e_pI (e_pI f 9 5 x) 9 6 y) 9 7 z) x y z := by
  have h1 : e_fr [7, 8, 9] g f := h.mono (fun o ho => by simp at ho ⊢; omega)
  refine ⟨((h1.pI (by simp)).pI (by simp)).pI (by simp), fun k hk => ?_, by simp [e_gI_pI], by simp [e_gI_pI], by simp [e_gI_pI]⟩
  rw [e_gI_pI, if_neg (by omega), e_gI_pI, if_neg (by omega), e_gI_pI, if_neg (by omega)]
  exact h.1 9 k (by simp)
/-- follow, over what the rule's work tells -/
theorem r_follow {d n : Nat} (hn : n ≤ 24) {g : e_H} (hg : e_gI g 9 2 = nI n) {tl : Int32 → Int32 → Int64} (hW : e_gI g 3 1 = -1 → ∀ l u : Int32, ∃ g2, e_X e_pg (d + 2) 29 [.ref 3, .int l, .int u, .int (nI n), .int (e_gI g 9 3), .int (e_gI g 9 4)] g = some (some (.long (tl l u)), g2) ∧ e_fr [7, 8] g g2) : ∃ f, e_X e_pg (d + 3) 13 [.ref 9, .ref 3] g = some (none, f) ∧ s_Fin2 g f (s_rul (e_gI g 30) n (e_gI g 3 1) tl) (s_rul (e_gI g 30) n (e_gI g 3 1) tl) (-1) := by
  rw [xX1_follow]
  simp only [zX1_follow_0, zX1_follow_2, zX1_follow_3, zX1_follow_5, zX1_follow_6, zX1_follow_7, e_k_int, e_k_ref, e_k_null, e_k_long, e_k_ret, e_cats_nil, e_cats_int, e_cats_ref, e_cats_ret, e_cats_long, Option.toList_some, Option.toList_none, List.nil_append, List.cons_append, Option.bind_some, Nat.reduceAdd, Nat.reduceLeDiff, Nat.add_zero, if_true, if_false, true_and, and_true, and_self, Int32.reduceToNatClampNeg]
  rw [show (0 : Int32) = nI 0 from rfl]
  have hl := r_follow_loop (d := d + 2) (a4 := .null) hn hg (n + 1) 0 (by omega)
  rw [s_lu] at hl
  rw [hl]
  unfold s_rul
  by_cases c1 : (s_lu (e_gI g 30) (n + 1)).1 = -5
  · simp only [zX1_follow_50, zX1_follow_51, zX1_follow_53, zX1_follow_54, zX1_follow_56, zX1_follow_59, zX1_follow_60, zX1_follow_63, zX1_follow_64, zX1_follow_67, zX1_follow_68, zX1_follow_69, zX1_follow_70, zX1_follow_71, zX1_follow_72, zX1_follow_75, zX1_follow_76, zX1_follow_79, zX1_follow_80, zX1_follow_83, zX1_follow_86, zX1_follow_89, zX1_follow_91, zX1_follow_92, zX1_follow_94, zX1_follow_96, zX1_follow_97, zX1_follow_100, c1, r_agree, e_k_int, e_k_ref, e_k_null, e_k_long, e_k_ret, e_cats_nil, e_cats_int, e_cats_ref, e_cats_ret, e_cats_long, Option.toList_some, Option.toList_none, List.nil_append, List.cons_append, Option.bind_some, Nat.reduceAdd, Nat.reduceLeDiff, Nat.add_zero, if_true, if_false, true_and, and_true, and_self, Int32.reduceToNatClampNeg]
    exact ⟨_, rfl, s_Fin2_agree (e_fr.refl _ _)⟩
  · by_cases c2 : e_gI g 3 1 = -1
    · obtain ⟨g2, w1, w2⟩ := hW c2 (s_lu (e_gI g 30) (n + 1)).1 (s_lu (e_gI g 30) (n + 1)).2
      have n2 : e_gI g2 9 2 = nI n := by rw [w2.1 9 2 (by simp)]; exact hg
      have b2 : e_gI g2 30 = e_gI g 30 := funext fun k => w2.1 30 k (by simp)
      have hnr := r_nearest (d := d + 1) (t := tl (s_lu (e_gI g 30) (n + 1)).1 (s_lu (e_gI g 30) (n + 1)).2) hn n2
      rw [b2] at hnr
      simp only [zX1_follow_50, zX1_follow_51, zX1_follow_53, zX1_follow_54, zX1_follow_56, zX1_follow_59, zX1_follow_60, zX1_follow_63, zX1_follow_64, zX1_follow_67, zX1_follow_68, zX1_follow_69, zX1_follow_70, zX1_follow_71, zX1_follow_72, zX1_follow_75, zX1_follow_76, zX1_follow_79, zX1_follow_80, zX1_follow_83, zX1_follow_86, zX1_follow_89, zX1_follow_91, zX1_follow_92, zX1_follow_94, zX1_follow_96, zX1_follow_97, zX1_follow_100, c1, c2, not_true_eq_false, hg, w1, hnr, r_agree, e_k_int, e_k_ref, e_k_null, e_k_long, e_k_ret, e_cats_nil, e_cats_int, e_cats_ref, e_cats_ret, e_cats_long, Option.toList_some, Option.toList_none, List.nil_append, List.cons_append, Option.bind_some, Nat.reduceAdd, Nat.reduceLeDiff, Nat.add_zero, if_true, if_false, true_and, and_true, and_self, Int32.reduceToNatClampNeg]
      exact ⟨_, rfl, s_Fin2_agree w2⟩
    · simp only [zX1_follow_50, zX1_follow_51, zX1_follow_53, zX1_follow_54, zX1_follow_56, zX1_follow_59, zX1_follow_60, zX1_follow_63, zX1_follow_64, zX1_follow_67, zX1_follow_68, zX1_follow_69, zX1_follow_70, zX1_follow_71, zX1_follow_72, zX1_follow_75, zX1_follow_76, zX1_follow_79, zX1_follow_80, zX1_follow_83, zX1_follow_86, zX1_follow_89, zX1_follow_91, zX1_follow_92, zX1_follow_94, zX1_follow_96, zX1_follow_97, zX1_follow_100, c1, c2, not_false_eq_true, r_agree, e_k_int, e_k_ref, e_k_null, e_k_long, e_k_ret, e_cats_nil, e_cats_int, e_cats_ref, e_cats_ret, e_cats_long, Option.toList_some, Option.toList_none, List.nil_append, List.cons_append, Option.bind_some, Nat.reduceAdd, Nat.reduceLeDiff, Nat.add_zero, if_true, if_false, true_and, and_true, and_self, Int32.reduceToNatClampNeg]
      exact ⟨_, rfl, s_Fin2_agree (e_fr.refl _ _)⟩
/-! what is settled, whatever the way -/
def s_res (G0 G1 B : Nat → Int32) (n : Nat) (way : Int32) (R : Nat) (delay low rs : Int32) : Int32 × Int32 × Int32 :=
  if way = 1 then ((s_off G0 G1 B n delay R (-5, -1)).1, (s_off G0 G1 B n delay R (-5, -1)).1, (s_off G0 G1 B n delay R (-5, -1)).2)
  else if way = 2 then (s_best G0 G1 B low (n + 1), s_best G1 G0 B low (n + 1), -1)
  else if way = 3 then (rs, rs, -1)
  else ((s_prod G0 G1 B (n + 1)).1, (s_prod G0 G1 B (n + 1)).1, -1)
theorem r_conclude {d n R : Nat} (hn : n ≤ 24) (hR : R ≤ 9) {g : e_H} (hg : e_gI g 9 2 = nI n) (h5 : e_gI g 9 5 = -5) (h6 : e_gI g 9 6 = -5) (h7 : e_gI g 9 7 = -1) (hr : e_gI g 0 8 = nI R) {tl : Int32 → Int32 → Int64} (hW : e_gI g 3 1 = -1 → ∀ l u : Int32, ∃ g2, e_X e_pg (d + 2) 29 [.ref 3, .int l, .int u, .int (nI n), .int (e_gI g 9 3), .int (e_gI g 9 4)] g = some (some (.long (tl l u)), g2) ∧ e_fr [7, 8] g g2) :
    ∃ f, e_X e_pg (d + 4) 67 [.ref 0] g = some (some (.int (s_res (e_gI g 32) (e_gI g 33) (e_gI g 30) n (e_gI g 0 7) R (e_gI g 0 9) (-2147483648) (s_rul (e_gI g 30) n (e_gI g 3 1) tl)).1), f) ∧ s_Fin2 g f (s_res (e_gI g 32) (e_gI g 33) (e_gI g 30) n (e_gI g 0 7) R (e_gI g 0 9) (-2147483648) (s_rul (e_gI g 30) n (e_gI g 3 1) tl)).1 (s_res (e_gI g 32) (e_gI g 33) (e_gI g 30) n (e_gI g 0 7) R (e_gI g 0 9) (-2147483648) (s_rul (e_gI g 30) n (e_gI g 3 1) tl)).2.1 (s_res (e_gI g 32) (e_gI g 33) (e_gI g 30) n (e_gI g 0 7) R (e_gI g 0 9) (-2147483648) (s_rul (e_gI g 30) n (e_gI g 3 1) tl)).2.2 := by
  rw [xX3_conclude]
  have hFr : s_Fin g g (-5) (-5) (-1) := ⟨e_fr.refl _ _, fun _ _ => rfl, h5, h6, h7⟩
  by_cases w1 : e_gI g 0 7 = 1
  · obtain ⟨f, a1, a2⟩ := r_offerInTurns (d := d + 1) (delay := e_gI g 0 9) hn hR hg h5 h6 h7
    refine ⟨f, ?_, ?_⟩
    · have := a2.2.2.1
      simp only [zX3_conclude_0, zX3_conclude_1, zX3_conclude_4, zX3_conclude_32, zX3_conclude_33, zX3_conclude_36, zX3_conclude_37, zX3_conclude_40, zX3_conclude_41, zX3_conclude_44, zX3_conclude_47, zX3_conclude_50, zX3_conclude_51, zX3_conclude_54, zX3_conclude_57, zX3_conclude_60, zX3_conclude_61, zX3_conclude_64, zX3_conclude_65, zX3_conclude_68, zX3_conclude_71, zX3_conclude_74, zX3_conclude_75, zX3_conclude_78, zX3_conclude_81, zX3_conclude_82, zX3_conclude_85, zX3_conclude_88, w1, hr, a1, this, s_res, e_k_int, e_k_ref, e_k_null, e_k_long, e_k_ret, e_cats_nil, e_cats_int, e_cats_ref, e_cats_ret, e_cats_long, Option.toList_some, Option.toList_none, List.nil_append, List.cons_append, Option.bind_some, Nat.reduceAdd, Nat.reduceLeDiff, Nat.add_zero, if_true, if_false, true_and, and_true, and_self, Int32.reduceToNatClampNeg]
    · simp only [s_res, w1, if_true]
      exact a2.two
  · by_cases w2 : e_gI g 0 7 = 2
    · obtain ⟨f, a1, a2⟩ : ∃ f, e_X e_pg (d + 3) 11 [.ref 9] g = some (none, f) ∧ s_Fin g f (s_best (e_gI g 32) (e_gI g 33) (e_gI g 30) (-2147483648) (n + 1)) (s_best (e_gI g 33) (e_gI g 32) (e_gI g 30) (-2147483648) (n + 1)) (-1) := ⟨_, r_drawLots (d := d + 1) hn hg, hFr.agree⟩
      refine ⟨f, ?_, ?_⟩
      · have := a2.2.2.1
        simp only [zX3_conclude_0, zX3_conclude_1, zX3_conclude_4, zX3_conclude_32, zX3_conclude_33, zX3_conclude_36, zX3_conclude_37, zX3_conclude_40, zX3_conclude_41, zX3_conclude_44, zX3_conclude_47, zX3_conclude_50, zX3_conclude_51, zX3_conclude_54, zX3_conclude_57, zX3_conclude_60, zX3_conclude_61, zX3_conclude_64, zX3_conclude_65, zX3_conclude_68, zX3_conclude_71, zX3_conclude_74, zX3_conclude_75, zX3_conclude_78, zX3_conclude_81, zX3_conclude_82, zX3_conclude_85, zX3_conclude_88, w1, w2, a1, this, s_res, ne_0_1, ne_0_2, ne_0_3, ne_1_0, ne_1_2, ne_1_3, ne_2_0, ne_2_1, ne_2_3, ne_3_0, ne_3_1, ne_3_2, e_k_int, e_k_ref, e_k_null, e_k_long, e_k_ret, e_cats_nil, e_cats_int, e_cats_ref, e_cats_ret, e_cats_long, Option.toList_some, Option.toList_none, List.nil_append, List.cons_append, Option.bind_some, Nat.reduceAdd, Nat.reduceLeDiff, Nat.add_zero, if_true, if_false, true_and, and_true, and_self, Int32.reduceToNatClampNeg]
      · simp only [s_res, w2, ne_0_1, ne_0_2, ne_0_3, ne_1_0, ne_1_2, ne_1_3, ne_2_0, ne_2_1, ne_2_3, ne_3_0, ne_3_1, ne_3_2, if_true, if_false]
        exact a2.two
    · by_cases w3 : e_gI g 0 7 = 3
      · obtain ⟨f, a1, a2⟩ := r_follow (d := d) hn hg hW
        refine ⟨f, ?_, ?_⟩
        · have := a2.2.2.1
          simp only [zX3_conclude_0, zX3_conclude_1, zX3_conclude_4, zX3_conclude_32, zX3_conclude_33, zX3_conclude_36, zX3_conclude_37, zX3_conclude_40, zX3_conclude_41, zX3_conclude_44, zX3_conclude_47, zX3_conclude_50, zX3_conclude_51, zX3_conclude_54, zX3_conclude_57, zX3_conclude_60, zX3_conclude_61, zX3_conclude_64, zX3_conclude_65, zX3_conclude_68, zX3_conclude_71, zX3_conclude_74, zX3_conclude_75, zX3_conclude_78, zX3_conclude_81, zX3_conclude_82, zX3_conclude_85, zX3_conclude_88, w1, w2, w3, a1, this, s_res, ne_0_1, ne_0_2, ne_0_3, ne_1_0, ne_1_2, ne_1_3, ne_2_0, ne_2_1, ne_2_3, ne_3_0, ne_3_1, ne_3_2, e_k_int, e_k_ref, e_k_null, e_k_long, e_k_ret, e_cats_nil, e_cats_int, e_cats_ref, e_cats_ret, e_cats_long, Option.toList_some, Option.toList_none, List.nil_append, List.cons_append, Option.bind_some, Nat.reduceAdd, Nat.reduceLeDiff, Nat.add_zero, if_true, if_false, true_and, and_true, and_self, Int32.reduceToNatClampNeg]
        · simp only [s_res, w3, ne_0_1, ne_0_2, ne_0_3, ne_1_0, ne_1_2, ne_1_3, ne_2_0, ne_2_1, ne_2_3, ne_3_0, ne_3_1, ne_3_2, if_true, if_false]
          exact a2
      · obtain ⟨f, a1, a2⟩ : ∃ f, e_X e_pg (d + 3) 8 [.ref 9] g = some (none, f) ∧ s_Fin g f (s_prod (e_gI g 32) (e_gI g 33) (e_gI g 30) (n + 1)).1 (s_prod (e_gI g 32) (e_gI g 33) (e_gI g 30) (n + 1)).1 (-1) := ⟨_, r_multiplyGains (d := d + 1) hn hg, hFr.agree⟩
        refine ⟨f, ?_, ?_⟩
        · have := a2.2.2.1
          simp only [zX3_conclude_0, zX3_conclude_1, zX3_conclude_4, zX3_conclude_32, zX3_conclude_33, zX3_conclude_36, zX3_conclude_37, zX3_conclude_40, zX3_conclude_41, zX3_conclude_44, zX3_conclude_47, zX3_conclude_50, zX3_conclude_51, zX3_conclude_54, zX3_conclude_57, zX3_conclude_60, zX3_conclude_61, zX3_conclude_64, zX3_conclude_65, zX3_conclude_68, zX3_conclude_71, zX3_conclude_74, zX3_conclude_75, zX3_conclude_78, zX3_conclude_81, zX3_conclude_82, zX3_conclude_85, zX3_conclude_88, w1, w2, w3, a1, this, s_res, e_k_int, e_k_ref, e_k_null, e_k_long, e_k_ret, e_cats_nil, e_cats_int, e_cats_ref, e_cats_ret, e_cats_long, Option.toList_some, Option.toList_none, List.nil_append, List.cons_append, Option.bind_some, Nat.reduceAdd, Nat.reduceLeDiff, Nat.add_zero, if_true, if_false, true_and, and_true, and_self, Int32.reduceToNatClampNeg]
        · simp only [s_res, w1, w2, w3, if_false]
          exact a2.two
