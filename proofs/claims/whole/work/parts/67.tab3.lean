/-! the rests in their order -/
def q_rst (S : e_H) (what : Int32) (i j : Nat) (st : Int32 × Option Int32) : Int32 × Option Int32 := match st.2 with
  | some _ => st
  | none => if q_isR S i j = true then (if st.1 = what then (st.1, some (10 * nI i + nI j)) else (st.1 + 1, none)) else st
def q_rin (S : e_H) (what : Int32) (i : Nat) (st : Int32 × Option Int32) : Nat → Int32 × Option Int32
  | 0 => st
  | k + 1 => q_rst S what i k (q_rin S what i st k)
def q_rou (S : e_H) (what : Int32) : Nat → Int32 × Option Int32
  | 0 => (0, none)
  | k + 1 => q_rin S what k (q_rou S what k) (q_c S 1)
def q_rend (what : Int32) (st : Int32 × Option Int32) : Int32 := match st.2 with
  | some a => a
  | none => if what = -1 then st.1 else -5
def q_rest (S : e_H) (what : Int32) : Int32 := q_rend what (q_rou S what (q_c S 0))
theorem q_rst_some {S : e_H} {what x : Int32} {i j : Nat} {st : Int32 × Option Int32} (h : st.2 = some x) : (q_rst S what i j st).2 = some x := by
  unfold q_rst
  rw [h]
  exact h
theorem q_rin_some {S : e_H} {what x : Int32} {i : Nat} {st : Int32 × Option Int32} : ∀ {k m : Nat}, k ≤ m → (q_rin S what i st k).2 = some x → (q_rin S what i st m).2 = some x := by
  intro k m hkm h
  induction m with
  | zero =>
    have : k = 0 := by omega
    subst this
    exact h
  | succ m ih =>
    by_cases e : k = m + 1
    · rw [← e]; exact h
    · exact q_rst_some (ih (by omega))
theorem q_rou_some {S : e_H} {what x : Int32} : ∀ {k m : Nat}, k ≤ m → (q_rou S what k).2 = some x → (q_rou S what m).2 = some x := by
  intro k m hkm h
  induction m with
  | zero =>
    have : k = 0 := by omega
    subst this
    exact h
  | succ m ih =>
    by_cases e : k = m + 1
    · rw [← e]; exact h
    · exact q_rin_some (k := 0) (Nat.zero_le _) (ih (by omega))
theorem q_rend_some {what x : Int32} {st : Int32 × Option Int32} (h : st.2 = some x) : q_rend what st = x := by
  unfold q_rend
  rw [h]
set_option maxRecDepth 100000 in
theorem r_restAt {d : Nat} {S g : e_H} {what : Int32} (hS : q_ok S) (hC : q_C S g) (hH : q_Hd S g (q_all S)) : e_X e_pg (d + 3) 80 [.ref 0, .int what] g = some (some (.int (q_rest S what)), g) := by
  have c0 := (hS.c (show 0 < 2 by decide)).2
  have c1 := (hS.c (show 1 < 2 by decide)).2
  have e0 := hC.c hS (show 0 < 2 by decide)
  have e1 := hC.c hS (show 1 < 2 by decide)
  rw [xX3_restAt]
  simp only [zX3_restAt_0, zX3_restAt_1, zX3_restAt_2, zX3_restAt_3, e_k_int, e_k_ref, e_k_null, e_k_long, e_k_ret, e_cats_nil, e_cats_int, e_cats_ref, e_cats_ret, e_cats_long, Option.toList_some, Option.toList_none, List.nil_append, List.cons_append, Option.bind_some, Nat.reduceAdd, Nat.reduceLeDiff, Nat.add_zero, if_true, if_false, true_and, and_true, and_self, Int32.reduceToNatClampNeg]
  refine f_lq (cd := kX3_restAt) (O := e_X e_pg (d + 2)) (pc := 4) (fun k ls h => (∃ v, ls = [.ref 0, .int what, .int (q_rou S what k).1, .int (nI k), v]) ∧ h = g ∧ (q_rou S what k).2 = none) (fun x => x = some (some (.int (q_rest S what)), g)) (Nat.zero_le (q_c S 0)) ?_ ?_ (ls := [.ref 0, .int what, .int 0, .int 0, .null]) (h := g) ⟨⟨_, rfl⟩, rfl, rfl⟩
  · rintro k ls h - hk ⟨⟨v, rfl⟩, rfl, hN⟩
    have hc : ¬ nI (q_c S 0) ≤ nI k := nI_ge hk (by omega)
    rw [zX3_restAt_4]
    simp only [zX3_restAt_5, zX3_restAt_6, zX3_restAt_9, zX3_restAt_10, zX3_restAt_11, zX3_restAt_14, zX3_restAt_15, e0, hc, e_k_int, e_k_ref, e_k_null, e_k_long, e_k_ret, e_cats_nil, e_cats_int, e_cats_ref, e_cats_ret, e_cats_long, Option.toList_some, Option.toList_none, List.nil_append, List.cons_append, Option.bind_some, Nat.reduceAdd, Nat.reduceLeDiff, Nat.add_zero, if_true, if_false, true_and, and_true, and_self, Int32.reduceToNatClampNeg, ok_1, ok_2, ok_3, ok_4, ok_5, ok_6, ok_7, ok_8, ok_9, ok_30, ok_31, ok_32, ok_33, ok_34, ok_35, ok_36, ok_37, ok_38, ok_39, ok_40, ok_41, ok_42, ok_43, ok_44, ok_45, ok_46, ok_47, ok_48, ok_49, ok_50, ok_51, ok_52, ln_1, ln_2, ln_4, ln_5, ln_6, ln_7, ln_8, ln_30, ln_31, ln_32, ln_33, ln_34, ln_35, ln_36, ln_37, ln_38, ln_39, ln_41, ln_42, ln_43, ln_44, ln_45, ln_46, ln_47, ln_48, ln_49, ln_50, ln_51, ln_52, ib_0_9, ib_1_9, ib_2_9, ib_3_9, ib_4_9, ib_5_9, ib_6_9, ib_7_9, ib_8_9, ib_0_2, ib_1_2, ib_0_5, ib_1_5, ib_2_5, ib_3_5, ib_4_5, ib_0_25, ib_0_10, ib_5_10, ib_0_90, ib_45_90, ib_0_64]
    refine f_lq (cd := kX3_restAt) (O := e_X e_pg (d + 2)) (pc := 17) (fun j ls g => ls = [.ref 0, .int what, .int (q_rin S what k (q_rou S what k) j).1, .int (nI k), .int (nI j)] ∧ g = h ∧ (q_rin S what k (q_rou S what k) j).2 = none) (fun x => x = some (some (.int (q_rest S what)), h) ∨ ∃ ls2 h2, x = e_F kX3_restAt (e_X e_pg (d + 2)) 4 ls2 [] h2 ∧ (∃ v, ls2 = [.ref 0, .int what, .int (q_rou S what (k + 1)).1, .int (nI (k + 1)), v]) ∧ h2 = h ∧ (q_rou S what (k + 1)).2 = none) (Nat.zero_le (q_c S 1)) ?_ ?_ (ls := [.ref 0, .int what, .int (q_rou S what k).1, .int (nI k), .int 0]) (h := h) ⟨rfl, rfl, hN⟩
    · rintro j ls g - hj ⟨rfl, rfl, hN⟩
      have hc : ¬ nI (q_c S 1) ≤ nI j := nI_ge hj (by omega)
      have ir := r_isRest (d := d) hS hC hH (a := nI k) (b := nI j) rfl rfl hk hj
      have nx : q_rin S what k (q_rou S what k) (j + 1) = if q_isR S k j = true then (if (q_rin S what k (q_rou S what k) j).1 = what then ((q_rin S what k (q_rou S what k) j).1, some (10 * nI k + nI j)) else ((q_rin S what k (q_rou S what k) j).1 + 1, none)) else q_rin S what k (q_rou S what k) j := by
        show q_rst S what k j (q_rin S what k (q_rou S what k) j) = _
        unfold q_rst
        rw [hN]
      rw [zX3_restAt_17]
      cases cr : q_isR S k j with
      | false =>
        rw [cr, if_neg (by decide)] at nx
        right
        simp only [zX3_restAt_19, zX3_restAt_20, zX3_restAt_23, zX3_restAt_24, zX3_restAt_25, zX3_restAt_28, zX3_restAt_29, zX3_restAt_30, zX3_restAt_32, zX3_restAt_35, zX3_restAt_38, zX3_restAt_39, zX3_restAt_40, zX3_restAt_43, zX3_restAt_45, zX3_restAt_46, zX3_restAt_47, zX3_restAt_49, zX3_restAt_50, zX3_restAt_51, zX3_restAt_54, zX3_restAt_57, e1, hc, ir, cr, q_b1, Bool.false_eq_true, nI_1, e_k_int, e_k_ref, e_k_null, e_k_long, e_k_ret, e_cats_nil, e_cats_int, e_cats_ref, e_cats_ret, e_cats_long, Option.toList_some, Option.toList_none, List.nil_append, List.cons_append, Option.bind_some, Nat.reduceAdd, Nat.reduceLeDiff, Nat.add_zero, if_true, if_false, true_and, and_true, and_self, Int32.reduceToNatClampNeg, ok_1, ok_2, ok_3, ok_4, ok_5, ok_6, ok_7, ok_8, ok_9, ok_30, ok_31, ok_32, ok_33, ok_34, ok_35, ok_36, ok_37, ok_38, ok_39, ok_40, ok_41, ok_42, ok_43, ok_44, ok_45, ok_46, ok_47, ok_48, ok_49, ok_50, ok_51, ok_52, ln_1, ln_2, ln_4, ln_5, ln_6, ln_7, ln_8, ln_30, ln_31, ln_32, ln_33, ln_34, ln_35, ln_36, ln_37, ln_38, ln_39, ln_41, ln_42, ln_43, ln_44, ln_45, ln_46, ln_47, ln_48, ln_49, ln_50, ln_51, ln_52, ib_0_9, ib_1_9, ib_2_9, ib_3_9, ib_4_9, ib_5_9, ib_6_9, ib_7_9, ib_8_9, ib_0_2, ib_1_2, ib_0_5, ib_1_5, ib_2_5, ib_3_5, ib_4_5, ib_0_25, ib_0_10, ib_5_10, ib_0_90, ib_45_90, ib_0_64]
        exact ⟨_, _, rfl, by rw [nx], rfl, by rw [nx]; exact hN⟩
      | true =>
        rw [cr, if_pos rfl] at nx
        by_cases cw : (q_rin S what k (q_rou S what k) j).1 = what
        · rw [if_pos cw] at nx
          left; left
          have q : q_rest S what = 10 * nI k + nI j := by
            have s1 : (q_rin S what k (q_rou S what k) (j + 1)).2 = some (10 * nI k + nI j) := by rw [nx]
            have s2 : (q_rou S what (k + 1)).2 = some (10 * nI k + nI j) := q_rin_some (m := q_c S 1) (by omega) s1
            exact q_rend_some (q_rou_some (by omega) s2)
          rw [q]
          simp only [zX3_restAt_19, zX3_restAt_20, zX3_restAt_23, zX3_restAt_24, zX3_restAt_25, zX3_restAt_28, zX3_restAt_29, zX3_restAt_30, zX3_restAt_32, zX3_restAt_35, zX3_restAt_38, zX3_restAt_39, zX3_restAt_40, zX3_restAt_43, zX3_restAt_45, zX3_restAt_46, zX3_restAt_47, zX3_restAt_49, zX3_restAt_50, zX3_restAt_51, zX3_restAt_54, zX3_restAt_57, e1, hc, ir, cr, cw, q_b1, not_true_eq_false, ne_0_1, ne_0_2, ne_0_3, ne_1_0, ne_1_2, ne_1_3, ne_2_0, ne_2_1, ne_2_3, ne_3_0, ne_3_1, ne_3_2, e_k_int, e_k_ref, e_k_null, e_k_long, e_k_ret, e_cats_nil, e_cats_int, e_cats_ref, e_cats_ret, e_cats_long, Option.toList_some, Option.toList_none, List.nil_append, List.cons_append, Option.bind_some, Nat.reduceAdd, Nat.reduceLeDiff, Nat.add_zero, if_true, if_false, true_and, and_true, and_self, Int32.reduceToNatClampNeg, ok_1, ok_2, ok_3, ok_4, ok_5, ok_6, ok_7, ok_8, ok_9, ok_30, ok_31, ok_32, ok_33, ok_34, ok_35, ok_36, ok_37, ok_38, ok_39, ok_40, ok_41, ok_42, ok_43, ok_44, ok_45, ok_46, ok_47, ok_48, ok_49, ok_50, ok_51, ok_52, ln_1, ln_2, ln_4, ln_5, ln_6, ln_7, ln_8, ln_30, ln_31, ln_32, ln_33, ln_34, ln_35, ln_36, ln_37, ln_38, ln_39, ln_41, ln_42, ln_43, ln_44, ln_45, ln_46, ln_47, ln_48, ln_49, ln_50, ln_51, ln_52, ib_0_9, ib_1_9, ib_2_9, ib_3_9, ib_4_9, ib_5_9, ib_6_9, ib_7_9, ib_8_9, ib_0_2, ib_1_2, ib_0_5, ib_1_5, ib_2_5, ib_3_5, ib_4_5, ib_0_25, ib_0_10, ib_5_10, ib_0_90, ib_45_90, ib_0_64]
        · rw [if_neg cw] at nx
          right
          simp only [zX3_restAt_19, zX3_restAt_20, zX3_restAt_23, zX3_restAt_24, zX3_restAt_25, zX3_restAt_28, zX3_restAt_29, zX3_restAt_30, zX3_restAt_32, zX3_restAt_35, zX3_restAt_38, zX3_restAt_39, zX3_restAt_40, zX3_restAt_43, zX3_restAt_45, zX3_restAt_46, zX3_restAt_47, zX3_restAt_49, zX3_restAt_50, zX3_restAt_51, zX3_restAt_54, zX3_restAt_57, e1, hc, ir, cr, cw, q_b1, not_false_eq_true, nI_1, ne_0_1, ne_0_2, ne_0_3, ne_1_0, ne_1_2, ne_1_3, ne_2_0, ne_2_1, ne_2_3, ne_3_0, ne_3_1, ne_3_2, e_k_int, e_k_ref, e_k_null, e_k_long, e_k_ret, e_cats_nil, e_cats_int, e_cats_ref, e_cats_ret, e_cats_long, Option.toList_some, Option.toList_none, List.nil_append, List.cons_append, Option.bind_some, Nat.reduceAdd, Nat.reduceLeDiff, Nat.add_zero, if_true, if_false, true_and, and_true, and_self, Int32.reduceToNatClampNeg, ok_1, ok_2, ok_3, ok_4, ok_5, ok_6, ok_7, ok_8, ok_9, ok_30, ok_31, ok_32, ok_33, ok_34, ok_35, ok_36, ok_37, ok_38, ok_39, ok_40, ok_41, ok_42, ok_43, ok_44, ok_45, ok_46, ok_47, ok_48, ok_49, ok_50, ok_51, ok_52, ln_1, ln_2, ln_4, ln_5, ln_6, ln_7, ln_8, ln_30, ln_31, ln_32, ln_33, ln_34, ln_35, ln_36, ln_37, ln_38, ln_39, ln_41, ln_42, ln_43, ln_44, ln_45, ln_46, ln_47, ln_48, ln_49, ln_50, ln_51, ln_52, ib_0_9, ib_1_9, ib_2_9, ib_3_9, ib_4_9, ib_5_9, ib_6_9, ib_7_9, ib_8_9, ib_0_2, ib_1_2, ib_0_5, ib_1_5, ib_2_5, ib_3_5, ib_4_5, ib_0_25, ib_0_10, ib_5_10, ib_0_90, ib_45_90, ib_0_64]
          exact ⟨_, _, rfl, by rw [nx], rfl, by rw [nx]⟩
    · rintro ls g ⟨rfl, rfl, hN⟩
      have hc : nI (q_c S 1) ≤ nI (q_c S 1) := nI_le (Nat.le_refl _) (by omega)
      right
      rw [zX3_restAt_17]
      simp only [zX3_restAt_19, zX3_restAt_20, zX3_restAt_23, zX3_restAt_24, zX3_restAt_25, zX3_restAt_28, zX3_restAt_29, zX3_restAt_30, zX3_restAt_32, zX3_restAt_35, zX3_restAt_38, zX3_restAt_39, zX3_restAt_40, zX3_restAt_43, zX3_restAt_45, zX3_restAt_46, zX3_restAt_47, zX3_restAt_49, zX3_restAt_50, zX3_restAt_51, zX3_restAt_54, zX3_restAt_57, zX3_restAt_60, zX3_restAt_63, e1, hc, nI_1, e_k_int, e_k_ref, e_k_null, e_k_long, e_k_ret, e_cats_nil, e_cats_int, e_cats_ref, e_cats_ret, e_cats_long, Option.toList_some, Option.toList_none, List.nil_append, List.cons_append, Option.bind_some, Nat.reduceAdd, Nat.reduceLeDiff, Nat.add_zero, if_true, if_false, true_and, and_true, and_self, Int32.reduceToNatClampNeg, ok_1, ok_2, ok_3, ok_4, ok_5, ok_6, ok_7, ok_8, ok_9, ok_30, ok_31, ok_32, ok_33, ok_34, ok_35, ok_36, ok_37, ok_38, ok_39, ok_40, ok_41, ok_42, ok_43, ok_44, ok_45, ok_46, ok_47, ok_48, ok_49, ok_50, ok_51, ok_52, ln_1, ln_2, ln_4, ln_5, ln_6, ln_7, ln_8, ln_30, ln_31, ln_32, ln_33, ln_34, ln_35, ln_36, ln_37, ln_38, ln_39, ln_41, ln_42, ln_43, ln_44, ln_45, ln_46, ln_47, ln_48, ln_49, ln_50, ln_51, ln_52, ib_0_9, ib_1_9, ib_2_9, ib_3_9, ib_4_9, ib_5_9, ib_6_9, ib_7_9, ib_8_9, ib_0_2, ib_1_2, ib_0_5, ib_1_5, ib_2_5, ib_3_5, ib_4_5, ib_0_25, ib_0_10, ib_5_10, ib_0_90, ib_45_90, ib_0_64]
      exact ⟨_, _, rfl, ⟨_, rfl⟩, rfl, hN⟩
  · rintro ls h ⟨⟨v, rfl⟩, rfl, hN⟩
    have hc : nI (q_c S 0) ≤ nI (q_c S 0) := nI_le (Nat.le_refl _) (by omega)
    have q : q_rest S what = if what = -1 then (q_rou S what (q_c S 0)).1 else -5 := by
      unfold q_rest q_rend
      rw [hN]
    rw [q, zX3_restAt_4]
    by_cases cw : what = -1
    · simp only [zX3_restAt_5, zX3_restAt_6, zX3_restAt_9, zX3_restAt_10, zX3_restAt_11, zX3_restAt_14, zX3_restAt_15, zX3_restAt_66, zX3_restAt_67, zX3_restAt_68, zX3_restAt_71, zX3_restAt_72, zX3_restAt_75, zX3_restAt_77, e0, hc, cw, not_true_eq_false, e_k_int, e_k_ref, e_k_null, e_k_long, e_k_ret, e_cats_nil, e_cats_int, e_cats_ref, e_cats_ret, e_cats_long, Option.toList_some, Option.toList_none, List.nil_append, List.cons_append, Option.bind_some, Nat.reduceAdd, Nat.reduceLeDiff, Nat.add_zero, if_true, if_false, true_and, and_true, and_self, Int32.reduceToNatClampNeg, ok_1, ok_2, ok_3, ok_4, ok_5, ok_6, ok_7, ok_8, ok_9, ok_30, ok_31, ok_32, ok_33, ok_34, ok_35, ok_36, ok_37, ok_38, ok_39, ok_40, ok_41, ok_42, ok_43, ok_44, ok_45, ok_46, ok_47, ok_48, ok_49, ok_50, ok_51, ok_52, ln_1, ln_2, ln_4, ln_5, ln_6, ln_7, ln_8, ln_30, ln_31, ln_32, ln_33, ln_34, ln_35, ln_36, ln_37, ln_38, ln_39, ln_41, ln_42, ln_43, ln_44, ln_45, ln_46, ln_47, ln_48, ln_49, ln_50, ln_51, ln_52, ib_0_9, ib_1_9, ib_2_9, ib_3_9, ib_4_9, ib_5_9, ib_6_9, ib_7_9, ib_8_9, ib_0_2, ib_1_2, ib_0_5, ib_1_5, ib_2_5, ib_3_5, ib_4_5, ib_0_25, ib_0_10, ib_5_10, ib_0_90, ib_45_90, ib_0_64]
    · simp only [zX3_restAt_5, zX3_restAt_6, zX3_restAt_9, zX3_restAt_10, zX3_restAt_11, zX3_restAt_14, zX3_restAt_15, zX3_restAt_66, zX3_restAt_67, zX3_restAt_68, zX3_restAt_71, zX3_restAt_72, zX3_restAt_75, zX3_restAt_77, e0, hc, cw, not_false_eq_true, e_k_int, e_k_ref, e_k_null, e_k_long, e_k_ret, e_cats_nil, e_cats_int, e_cats_ref, e_cats_ret, e_cats_long, Option.toList_some, Option.toList_none, List.nil_append, List.cons_append, Option.bind_some, Nat.reduceAdd, Nat.reduceLeDiff, Nat.add_zero, if_true, if_false, true_and, and_true, and_self, Int32.reduceToNatClampNeg, ok_1, ok_2, ok_3, ok_4, ok_5, ok_6, ok_7, ok_8, ok_9, ok_30, ok_31, ok_32, ok_33, ok_34, ok_35, ok_36, ok_37, ok_38, ok_39, ok_40, ok_41, ok_42, ok_43, ok_44, ok_45, ok_46, ok_47, ok_48, ok_49, ok_50, ok_51, ok_52, ln_1, ln_2, ln_4, ln_5, ln_6, ln_7, ln_8, ln_30, ln_31, ln_32, ln_33, ln_34, ln_35, ln_36, ln_37, ln_38, ln_39, ln_41, ln_42, ln_43, ln_44, ln_45, ln_46, ln_47, ln_48, ln_49, ln_50, ln_51, ln_52, ib_0_9, ib_1_9, ib_2_9, ib_3_9, ib_4_9, ib_5_9, ib_6_9, ib_7_9, ib_8_9, ib_0_2, ib_1_2, ib_0_5, ib_1_5, ib_2_5, ib_3_5, ib_4_5, ib_0_25, ib_0_10, ib_5_10, ib_0_90, ib_45_90, ib_0_64]
/-! weights -/
def q_wt (S : e_H) (s : Nat) : Nat → Nat
  | 0 => 0
  | k + 1 => q_wt S s k + q_W S s k
theorem q_wt_le {S : e_H} (hS : q_ok S) {s : Nat} (hs : s < 2) : ∀ k, k ≤ 5 → q_wt S s k ≤ 9 * k := by
  intro k
  induction k with
  | zero => intro _; exact Nat.le_refl _
  | succ k ih =>
    intro hk
    have a := ih (by omega)
    have b := (hS.W hs (show k < 5 by omega)).2.2
    show q_wt S s k + q_W S s k ≤ _
    omega
theorem q_C.W {S g : e_H} (hS : q_ok S) (h : q_C S g) {s k : Nat} (hs : s < 2) (hk : k < 5) : e_gI g (q_x s k + 10) 1 = nI (q_W S s k) := by
  rw [h.at (by have := q_x_lt hs hk; simp; omega)]
  exact (hS.W hs hk).1
theorem r_sumOfWeights {d s : Nat} {S g : e_H} {a : Int32} (hS : q_ok S) (hC : q_C S g) (ha : a = nI s) (hs : s < 2) : e_X e_pg (d + 2) 81 [.ref 0, .int a] g = some (some (.int (nI (q_wt S s (q_c S s)))), g) := by
  have cc := (hS.c hs).2
  have ec := hC.c hS hs
  have hib : e_inb a 2 = true := by rw [ha]; exact e_inb_nI hs (by decide)
  have hcl : a.toNatClampNeg = s := by rw [ha]; exact nI_clamp (by omega)
  rw [xX3_sumOfWeights]
  simp only [zX3_sumOfWeights_0, zX3_sumOfWeights_1, zX3_sumOfWeights_2, zX3_sumOfWeights_3, e_k_int, e_k_ref, e_k_null, e_k_long, e_k_ret, e_cats_nil, e_cats_int, e_cats_ref, e_cats_ret, e_cats_long, Option.toList_some, Option.toList_none, List.nil_append, List.cons_append, Option.bind_some, Nat.reduceAdd, Nat.reduceLeDiff, Nat.add_zero, if_true, if_false, true_and, and_true, and_self, Int32.reduceToNatClampNeg]
  obtain ⟨ls2, f, e, ⟨rfl⟩, rfl⟩ := f_lp (cd := kX3_sumOfWeights) (O := e_X e_pg (d + 1)) (pc := 4) (fun k ls h => ls = [.ref 0, .int a, .int (nI (q_wt S s k)), .int (nI k)] ∧ h = g) (Nat.zero_le (q_c S s)) (by
    rintro k ls h - hk ⟨rfl, rfl⟩
    have hc : ¬ nI (q_c S s) ≤ nI k := nI_ge hk (by omega)
    have hx := q_x_lt hs (show k < 5 by omega)
    have w := hC.W hS hs (show k < 5 by omega)
    rw [zX3_sumOfWeights_4]
    simp only [zX3_sumOfWeights_5, zX3_sumOfWeights_6, zX3_sumOfWeights_9, zX3_sumOfWeights_10, zX3_sumOfWeights_11, zX3_sumOfWeights_14, zX3_sumOfWeights_15, zX3_sumOfWeights_16, zX3_sumOfWeights_17, zX3_sumOfWeights_18, zX3_sumOfWeights_21, zX3_sumOfWeights_24, zX3_sumOfWeights_25, zX3_sumOfWeights_26, zX3_sumOfWeights_29, ec, hc, hib, hcl, hx, r_eAt ha rfl hs (show k < 5 by omega), w, nI_add, nI_1, e_k_int, e_k_ref, e_k_null, e_k_long, e_k_ret, e_cats_nil, e_cats_int, e_cats_ref, e_cats_ret, e_cats_long, Option.toList_some, Option.toList_none, List.nil_append, List.cons_append, Option.bind_some, Nat.reduceAdd, Nat.reduceLeDiff, Nat.add_zero, if_true, if_false, true_and, and_true, and_self, Int32.reduceToNatClampNeg, ok_1, ok_2, ok_3, ok_4, ok_5, ok_6, ok_7, ok_8, ok_9, ok_30, ok_31, ok_32, ok_33, ok_34, ok_35, ok_36, ok_37, ok_38, ok_39, ok_40, ok_41, ok_42, ok_43, ok_44, ok_45, ok_46, ok_47, ok_48, ok_49, ok_50, ok_51, ok_52, ln_1, ln_2, ln_4, ln_5, ln_6, ln_7, ln_8, ln_30, ln_31, ln_32, ln_33, ln_34, ln_35, ln_36, ln_37, ln_38, ln_39, ln_41, ln_42, ln_43, ln_44, ln_45, ln_46, ln_47, ln_48, ln_49, ln_50, ln_51, ln_52]
    exact ⟨_, _, rfl, rfl, rfl⟩) (ls := [.ref 0, .int a, .int 0, .int 0]) (h := g) ⟨rfl, rfl⟩
  have hc : nI (q_c S s) ≤ nI (q_c S s) := nI_le (Nat.le_refl _) (by omega)
  rw [e, zX3_sumOfWeights_4]
  simp only [zX3_sumOfWeights_5, zX3_sumOfWeights_6, zX3_sumOfWeights_9, zX3_sumOfWeights_10, zX3_sumOfWeights_11, zX3_sumOfWeights_14, zX3_sumOfWeights_15, zX3_sumOfWeights_16, zX3_sumOfWeights_17, zX3_sumOfWeights_18, zX3_sumOfWeights_21, zX3_sumOfWeights_24, zX3_sumOfWeights_25, zX3_sumOfWeights_26, zX3_sumOfWeights_29, zX3_sumOfWeights_32, zX3_sumOfWeights_33, ec, hc, hib, hcl, e_k_int, e_k_ref, e_k_null, e_k_long, e_k_ret, e_cats_nil, e_cats_int, e_cats_ref, e_cats_ret, e_cats_long, Option.toList_some, Option.toList_none, List.nil_append, List.cons_append, Option.bind_some, Nat.reduceAdd, Nat.reduceLeDiff, Nat.add_zero, if_true, if_false, true_and, and_true, and_self, Int32.reduceToNatClampNeg, ok_1, ok_2, ok_3, ok_4, ok_5, ok_6, ok_7, ok_8, ok_9, ok_30, ok_31, ok_32, ok_33, ok_34, ok_35, ok_36, ok_37, ok_38, ok_39, ok_40, ok_41, ok_42, ok_43, ok_44, ok_45, ok_46, ok_47, ok_48, ok_49, ok_50, ok_51, ok_52, ln_1, ln_2, ln_4, ln_5, ln_6, ln_7, ln_8, ln_30, ln_31, ln_32, ln_33, ln_34, ln_35, ln_36, ln_37, ln_38, ln_39, ln_41, ln_42, ln_43, ln_44, ln_45, ln_46, ln_47, ln_48, ln_49, ln_50, ln_51, ln_52]
def q_wg (S : e_H) (s k : Nat) : Nat → Int64
  | 0 => 0
  | m + 1 => q_wg S s k m + (nI (q_W S (1 - s) m)).toInt64 * (q_ag S s k m).toInt64
theorem r_weighed {d s k : Nat} {S g : e_H} {a b : Int32} (hS : q_ok S) (hC : q_C S g) (hH : q_Hd S g (q_all S)) (ha : a = nI s) (hb : b = nI k) (hs : s < 2) (hk : k < q_c S s) : e_X e_pg (d + 2) 82 [.ref 0, .int a, .int b] g = some (some (.long (q_wg S s k (q_c S (1 - s)))), g) := by
  subst hb
  rw [xX3_weighed]
  simp only [zX3_weighed_0, zX3_weighed_1, zX3_weighed_2, zX3_weighed_3, e_k_int, e_k_ref, e_k_null, e_k_long, e_k_ret, e_cats_nil, e_cats_int, e_cats_ref, e_cats_ret, e_cats_long, Option.toList_some, Option.toList_none, List.nil_append, List.cons_append, Option.bind_some, Nat.reduceAdd, Nat.reduceLeDiff, Nat.add_zero, if_true, if_false, true_and, and_true, and_self, Int32.reduceToNatClampNeg]
  rcases (show s = 0 ∨ s = 1 by omega) with rfl | rfl
  · have ha : a = 0 := ha
    subst ha
    have c0 := (hS.c (show 0 < 2 by decide)).2
    have cc := (hS.c (show 1 < 2 by decide)).2
    have ec := hC.c hS (show 1 < 2 by decide)
    obtain ⟨ls2, f, e, ⟨v, rfl⟩, rfl⟩ := f_lp (cd := kX3_weighed) (O := e_X e_pg (d + 1)) (pc := 5) (fun m ls h => (∃ v, ls = [.ref 0, .int 0, .int (nI k), .long (q_wg S 0 k m), .null, .int (nI m), v]) ∧ h = g) (Nat.zero_le (q_c S (1 - 0))) (by
      rintro m ls h - hm ⟨⟨v, rfl⟩, rfl⟩
      have hm : m < q_c S 1 := hm
      have hc : ¬ nI (q_c S 1) ≤ nI m := nI_ge hm (by omega)
      have hx := q_x_lt (show 1 < 2 by decide) (show m < 5 by omega)
      have w := hC.W hS (show 1 < 2 by decide) (show m < 5 by omega)
      have hib : e_inb (nI (5 * k + m)) 25 = true := e_inb_nI (by omega) (by decide)
      have hcl : (nI (5 * k + m)).toNatClampNeg = 5 * k + m := nI_clamp (by omega)
      have v0 := (hH k m (by omega) (by omega) ⟨hk, hm⟩).1
      rw [zX3_weighed_5]
      simp only [zX3_weighed_7, zX3_weighed_8, zX3_weighed_11, zX3_weighed_12, zX3_weighed_13, zX3_weighed_14, zX3_weighed_15, zX3_weighed_18, zX3_weighed_19, zX3_weighed_22, zX3_weighed_23, zX3_weighed_25, zX3_weighed_28, zX3_weighed_31, zX3_weighed_33, zX3_weighed_34, zX3_weighed_37, zX3_weighed_39, zX3_weighed_40, zX3_weighed_41, zX3_weighed_42, zX3_weighed_43, zX3_weighed_44, zX3_weighed_46, zX3_weighed_49, zX3_weighed_52, zX3_weighed_53, zX3_weighed_54, zX3_weighed_57, zX3_weighed_58, zX3_weighed_59, zX3_weighed_61, zX3_weighed_62, zX3_weighed_63, zX3_weighed_64, zX3_weighed_65, zX3_weighed_68, show (1 : Int32) - 0 = 1 from rfl, not_true_eq_false, ec, hc, r_cell, q_cell, hib, hcl, hx, r_eAt (s := 1) (a := 1) rfl rfl (by decide) (show m < 5 by omega), w, v0, nI_1, e_k_int, e_k_ref, e_k_null, e_k_long, e_k_ret, e_cats_nil, e_cats_int, e_cats_ref, e_cats_ret, e_cats_long, Option.toList_some, Option.toList_none, List.nil_append, List.cons_append, Option.bind_some, Nat.reduceAdd, Nat.reduceLeDiff, Nat.add_zero, if_true, if_false, true_and, and_true, and_self, Int32.reduceToNatClampNeg, ok_1, ok_2, ok_3, ok_4, ok_5, ok_6, ok_7, ok_8, ok_9, ok_30, ok_31, ok_32, ok_33, ok_34, ok_35, ok_36, ok_37, ok_38, ok_39, ok_40, ok_41, ok_42, ok_43, ok_44, ok_45, ok_46, ok_47, ok_48, ok_49, ok_50, ok_51, ok_52, ln_1, ln_2, ln_4, ln_5, ln_6, ln_7, ln_8, ln_30, ln_31, ln_32, ln_33, ln_34, ln_35, ln_36, ln_37, ln_38, ln_39, ln_41, ln_42, ln_43, ln_44, ln_45, ln_46, ln_47, ln_48, ln_49, ln_50, ln_51, ln_52, ib_0_9, ib_1_9, ib_2_9, ib_3_9, ib_4_9, ib_5_9, ib_6_9, ib_7_9, ib_8_9, ib_0_2, ib_1_2, ib_0_5, ib_1_5, ib_2_5, ib_3_5, ib_4_5, ib_0_25, ib_0_10, ib_5_10, ib_0_90, ib_45_90, ib_0_64]
      exact ⟨_, _, rfl, ⟨_, rfl⟩, rfl⟩) (ls := [.ref 0, .int 0, .int (nI k), .long 0, .null, .int 0, .null]) (h := g) ⟨⟨_, rfl⟩, rfl⟩
    have hc : nI (q_c S 1) ≤ nI (q_c S 1) := nI_le (Nat.le_refl _) (by omega)
    rw [e, zX3_weighed_5]
    simp only [zX3_weighed_7, zX3_weighed_8, zX3_weighed_11, zX3_weighed_12, zX3_weighed_13, zX3_weighed_14, zX3_weighed_15, zX3_weighed_18, zX3_weighed_19, zX3_weighed_22, zX3_weighed_23, zX3_weighed_25, zX3_weighed_28, zX3_weighed_31, zX3_weighed_33, zX3_weighed_34, zX3_weighed_37, zX3_weighed_39, zX3_weighed_40, zX3_weighed_41, zX3_weighed_42, zX3_weighed_43, zX3_weighed_44, zX3_weighed_46, zX3_weighed_49, zX3_weighed_52, zX3_weighed_53, zX3_weighed_54, zX3_weighed_57, zX3_weighed_58, zX3_weighed_59, zX3_weighed_61, zX3_weighed_62, zX3_weighed_63, zX3_weighed_64, zX3_weighed_65, zX3_weighed_68, zX3_weighed_71, zX3_weighed_72, show (1 : Int32) - 0 = 1 from rfl, ec, hc, Nat.sub_zero, e_k_int, e_k_ref, e_k_null, e_k_long, e_k_ret, e_cats_nil, e_cats_int, e_cats_ref, e_cats_ret, e_cats_long, Option.toList_some, Option.toList_none, List.nil_append, List.cons_append, Option.bind_some, Nat.reduceAdd, Nat.reduceLeDiff, Nat.add_zero, if_true, if_false, true_and, and_true, and_self, Int32.reduceToNatClampNeg, ok_1, ok_2, ok_3, ok_4, ok_5, ok_6, ok_7, ok_8, ok_9, ok_30, ok_31, ok_32, ok_33, ok_34, ok_35, ok_36, ok_37, ok_38, ok_39, ok_40, ok_41, ok_42, ok_43, ok_44, ok_45, ok_46, ok_47, ok_48, ok_49, ok_50, ok_51, ok_52, ln_1, ln_2, ln_4, ln_5, ln_6, ln_7, ln_8, ln_30, ln_31, ln_32, ln_33, ln_34, ln_35, ln_36, ln_37, ln_38, ln_39, ln_41, ln_42, ln_43, ln_44, ln_45, ln_46, ln_47, ln_48, ln_49, ln_50, ln_51, ln_52, ib_0_9, ib_1_9, ib_2_9, ib_3_9, ib_4_9, ib_5_9, ib_6_9, ib_7_9, ib_8_9, ib_0_2, ib_1_2, ib_0_5, ib_1_5, ib_2_5, ib_3_5, ib_4_5, ib_0_25, ib_0_10, ib_5_10, ib_0_90, ib_45_90, ib_0_64]
  · have ha : a = 1 := ha
    subst ha
    have c0 := (hS.c (show 1 < 2 by decide)).2
    have cc := (hS.c (show 0 < 2 by decide)).2
    have ec := hC.c hS (show 0 < 2 by decide)
    obtain ⟨ls2, f, e, ⟨v, rfl⟩, rfl⟩ := f_lp (cd := kX3_weighed) (O := e_X e_pg (d + 1)) (pc := 5) (fun m ls h => (∃ v, ls = [.ref 0, .int 1, .int (nI k), .long (q_wg S 1 k m), .null, .int (nI m), v]) ∧ h = g) (Nat.zero_le (q_c S (1 - 1))) (by
      rintro m ls h - hm ⟨⟨v, rfl⟩, rfl⟩
      have hm : m < q_c S 0 := hm
      have hc : ¬ nI (q_c S 0) ≤ nI m := nI_ge hm (by omega)
      have hx := q_x_lt (show 0 < 2 by decide) (show m < 5 by omega)
      have w := hC.W hS (show 0 < 2 by decide) (show m < 5 by omega)
      have hib : e_inb (nI (5 * m + k)) 25 = true := e_inb_nI (by omega) (by decide)
      have hcl : (nI (5 * m + k)).toNatClampNeg = 5 * m + k := nI_clamp (by omega)
      have v0 := (hH m k (by omega) (by omega) ⟨hm, hk⟩).2
      rw [zX3_weighed_5]
      simp only [zX3_weighed_7, zX3_weighed_8, zX3_weighed_11, zX3_weighed_12, zX3_weighed_13, zX3_weighed_14, zX3_weighed_15, zX3_weighed_18, zX3_weighed_19, zX3_weighed_22, zX3_weighed_23, zX3_weighed_25, zX3_weighed_28, zX3_weighed_31, zX3_weighed_33, zX3_weighed_34, zX3_weighed_37, zX3_weighed_39, zX3_weighed_40, zX3_weighed_41, zX3_weighed_42, zX3_weighed_43, zX3_weighed_44, zX3_weighed_46, zX3_weighed_49, zX3_weighed_52, zX3_weighed_53, zX3_weighed_54, zX3_weighed_57, zX3_weighed_58, zX3_weighed_59, zX3_weighed_61, zX3_weighed_62, zX3_weighed_63, zX3_weighed_64, zX3_weighed_65, zX3_weighed_68, show (1 : Int32) - 1 = 0 from rfl, ne_0_1, ne_0_2, ne_0_3, ne_1_0, ne_1_2, ne_1_3, ne_2_0, ne_2_1, ne_2_3, ne_3_0, ne_3_1, ne_3_2, not_false_eq_true, ec, hc, r_cell, q_cell, hib, hcl, hx, r_eAt (s := 0) (a := 0) rfl rfl (by decide) (show m < 5 by omega), w, v0, nI_1, e_k_int, e_k_ref, e_k_null, e_k_long, e_k_ret, e_cats_nil, e_cats_int, e_cats_ref, e_cats_ret, e_cats_long, Option.toList_some, Option.toList_none, List.nil_append, List.cons_append, Option.bind_some, Nat.reduceAdd, Nat.reduceLeDiff, Nat.add_zero, if_true, if_false, true_and, and_true, and_self, Int32.reduceToNatClampNeg, ok_1, ok_2, ok_3, ok_4, ok_5, ok_6, ok_7, ok_8, ok_9, ok_30, ok_31, ok_32, ok_33, ok_34, ok_35, ok_36, ok_37, ok_38, ok_39, ok_40, ok_41, ok_42, ok_43, ok_44, ok_45, ok_46, ok_47, ok_48, ok_49, ok_50, ok_51, ok_52, ln_1, ln_2, ln_4, ln_5, ln_6, ln_7, ln_8, ln_30, ln_31, ln_32, ln_33, ln_34, ln_35, ln_36, ln_37, ln_38, ln_39, ln_41, ln_42, ln_43, ln_44, ln_45, ln_46, ln_47, ln_48, ln_49, ln_50, ln_51, ln_52, ib_0_9, ib_1_9, ib_2_9, ib_3_9, ib_4_9, ib_5_9, ib_6_9, ib_7_9, ib_8_9, ib_0_2, ib_1_2, ib_0_5, ib_1_5, ib_2_5, ib_3_5, ib_4_5, ib_0_25, ib_0_10, ib_5_10, ib_0_90, ib_45_90, ib_0_64]
      exact ⟨_, _, rfl, ⟨_, rfl⟩, rfl⟩) (ls := [.ref 0, .int 1, .int (nI k), .long 0, .null, .int 0, .null]) (h := g) ⟨⟨_, rfl⟩, rfl⟩
    have hc : nI (q_c S 0) ≤ nI (q_c S 0) := nI_le (Nat.le_refl _) (by omega)
    rw [e, zX3_weighed_5]
    simp only [zX3_weighed_7, zX3_weighed_8, zX3_weighed_11, zX3_weighed_12, zX3_weighed_13, zX3_weighed_14, zX3_weighed_15, zX3_weighed_18, zX3_weighed_19, zX3_weighed_22, zX3_weighed_23, zX3_weighed_25, zX3_weighed_28, zX3_weighed_31, zX3_weighed_33, zX3_weighed_34, zX3_weighed_37, zX3_weighed_39, zX3_weighed_40, zX3_weighed_41, zX3_weighed_42, zX3_weighed_43, zX3_weighed_44, zX3_weighed_46, zX3_weighed_49, zX3_weighed_52, zX3_weighed_53, zX3_weighed_54, zX3_weighed_57, zX3_weighed_58, zX3_weighed_59, zX3_weighed_61, zX3_weighed_62, zX3_weighed_63, zX3_weighed_64, zX3_weighed_65, zX3_weighed_68, zX3_weighed_71, zX3_weighed_72, show (1 : Int32) - 1 = 0 from rfl, ec, hc, Nat.sub_self, e_k_int, e_k_ref, e_k_null, e_k_long, e_k_ret, e_cats_nil, e_cats_int, e_cats_ref, e_cats_ret, e_cats_long, Option.toList_some, Option.toList_none, List.nil_append, List.cons_append, Option.bind_some, Nat.reduceAdd, Nat.reduceLeDiff, Nat.add_zero, if_true, if_false, true_and, and_true, and_self, Int32.reduceToNatClampNeg, ok_1, ok_2, ok_3, ok_4, ok_5, ok_6, ok_7, ok_8, ok_9, ok_30, ok_31, ok_32, ok_33, ok_34, ok_35, ok_36, ok_37, ok_38, ok_39, ok_40, ok_41, ok_42, ok_43, ok_44, ok_45, ok_46, ok_47, ok_48, ok_49, ok_50, ok_51, ok_52, ln_1, ln_2, ln_4, ln_5, ln_6, ln_7, ln_8, ln_30, ln_31, ln_32, ln_33, ln_34, ln_35, ln_36, ln_37, ln_38, ln_39, ln_41, ln_42, ln_43, ln_44, ln_45, ln_46, ln_47, ln_48, ln_49, ln_50, ln_51, ln_52, ib_0_9, ib_1_9, ib_2_9, ib_3_9, ib_4_9, ib_5_9, ib_6_9, ib_7_9, ib_8_9, ib_0_2, ib_1_2, ib_0_5, ib_1_5, ib_2_5, ib_3_5, ib_4_5, ib_0_25, ib_0_10, ib_5_10, ib_0_90, ib_45_90, ib_0_64]
/-! the greatest divisor -/
theorem ln_div {a d : Nat} (ha : a < 2 ^ 31) (h0 : 0 < d) (hd : d < 2 ^ 31) : lN a / lN d = lN (a / d) := by
  apply Int64.toInt_inj.mp
  rw [Int64.toInt_div, lN_toInt ha, lN_toInt hd, lN_toInt (Nat.lt_of_le_of_lt (Nat.div_le_self a d) ha), Int.tdiv_eq_ediv_of_nonneg (by omega)]
  have e : (a : Int) / (d : Int) = ((a / d : Nat) : Int) := rfl
  have hq := Nat.div_le_self a d
  rw [e]
  generalize a / d = q at hq
  exact tl_bm (by omega) (by omega)
theorem ln_rem {a d : Nat} (ha : a < 2 ^ 31) (h0 : 0 < d) (hd : d < 2 ^ 31) : lN a - lN a / lN d * lN d = lN (a % d) := by
  rw [ln_div ha h0 hd, lN_mul, lN_sub (Nat.div_mul_le_self a d)]
  exact congrArg lN (by have := Nat.div_add_mod' a d; omega)
theorem gcd_st (a b : Nat) : Nat.gcd b (a % b) = Nat.gcd a b := by
  rw [Nat.gcd_comm a b, Nat.gcd_rec b a, Nat.gcd_comm]
theorem half_lt {a b : Nat} (hb : 0 < b) (hab : b ≤ a) : 2 * (a % b) < a := by
  have h1 := Nat.mod_lt a hb
  have h2 : a % b = (a - b) % b := Nat.mod_eq_sub_mod hab
  have h3 := Nat.mod_le (a - b) b
  omega
set_option maxRecDepth 100000 in
theorem r_gd_loop {d : Nat} {x y : Int64} {g : e_H} : ∀ (f a b t : Nat) (v w : Value), b < a → a < 2 ^ 20 → a * b < 2 ^ f → t + f + 1 ≤ 200 → e_F kX3_greatestDivisor (e_X e_pg d) 9 [.long x, .null, .long y, .null, .long (lN a), .null, .long (lN b), .null, .int (nI t), v, w] [] g = some (some (.long (lN (Nat.gcd a b))), g) := by
  intro f
  have ez : ∀ a t v w, a < 2 ^ 20 → t ≤ 200 → e_F kX3_greatestDivisor (e_X e_pg d) 9 [.long x, .null, .long y, .null, .long (lN a), .null, .long (lN 0), .null, .int (nI t), v, w] [] g = some (some (.long (lN (Nat.gcd a 0))), g) := by
    intro a t v w ha ht
    rw [Nat.gcd_zero_right, zX3_greatestDivisor_9]
    by_cases c : 200 ≤ nI t
    · simp only [zX3_greatestDivisor_11, zX3_greatestDivisor_14, zX3_greatestDivisor_17, zX3_greatestDivisor_19, zX3_greatestDivisor_20, zX3_greatestDivisor_21, zX3_greatestDivisor_24, zX3_greatestDivisor_26, zX3_greatestDivisor_28, zX3_greatestDivisor_29, zX3_greatestDivisor_31, zX3_greatestDivisor_33, zX3_greatestDivisor_35, zX3_greatestDivisor_37, zX3_greatestDivisor_39, zX3_greatestDivisor_42, zX3_greatestDivisor_45, zX3_greatestDivisor_47, c, e_k_int, e_k_ref, e_k_null, e_k_long, e_k_ret, e_cats_nil, e_cats_int, e_cats_ref, e_cats_ret, e_cats_long, Option.toList_some, Option.toList_none, List.nil_append, List.cons_append, Option.bind_some, Nat.reduceAdd, Nat.reduceLeDiff, Nat.add_zero, if_true, if_false, true_and, and_true, and_self, Int32.reduceToNatClampNeg]
    · simp only [zX3_greatestDivisor_11, zX3_greatestDivisor_14, zX3_greatestDivisor_17, zX3_greatestDivisor_19, zX3_greatestDivisor_20, zX3_greatestDivisor_21, zX3_greatestDivisor_24, zX3_greatestDivisor_26, zX3_greatestDivisor_28, zX3_greatestDivisor_29, zX3_greatestDivisor_31, zX3_greatestDivisor_33, zX3_greatestDivisor_35, zX3_greatestDivisor_37, zX3_greatestDivisor_39, zX3_greatestDivisor_42, zX3_greatestDivisor_45, zX3_greatestDivisor_47, c, lc_eq, show lN 0 = (0 : Int64) from rfl, e_k_int, e_k_ref, e_k_null, e_k_long, e_k_ret, e_cats_nil, e_cats_int, e_cats_ref, e_cats_ret, e_cats_long, Option.toList_some, Option.toList_none, List.nil_append, List.cons_append, Option.bind_some, Nat.reduceAdd, Nat.reduceLeDiff, Nat.add_zero, if_true, if_false, true_and, and_true, and_self, Int32.reduceToNatClampNeg]
  induction f with
  | zero =>
    intro a b t v w hab ha hp ht
    have hb : b = 0 := by
      rcases Nat.eq_zero_or_pos b with q | q
      · exact q
      · have := Nat.mul_pos (show 0 < a by omega) q
        omega
    subst hb
    exact ez a t v w ha (by omega)
  | succ f ih =>
    intro a b t v w hab ha hp ht
    rcases Nat.eq_zero_or_pos b with q | q
    · subst q
      exact ez a t v w ha (by omega)
    · have hc : ¬ 200 ≤ nI t := by rw [show (200 : Int32) = nI 200 from rfl]; exact nI_ge (by omega) (by decide)
      have hb0 : ¬ lN b = 0 := by rw [show (0 : Int64) = lN 0 from rfl, lN_eq (by omega) (by decide)]; omega
      have hr := ln_rem (a := a) (d := b) (by omega) q (by omega)
      have hh := half_lt q (show b ≤ a by omega)
      have hml := Nat.mod_lt a q
      have hpr : b * (a % b) < 2 ^ f := by
        have h1 : b * (2 * (a % b)) ≤ b * a := Nat.mul_le_mul_left b (by omega)
        have h2 : b * (2 * (a % b)) = 2 * (b * (a % b)) := by rw [Nat.mul_left_comm]
        have h3 : b * a = a * b := Nat.mul_comm b a
        have h4 : 2 ^ (f + 1) = 2 * 2 ^ f := by rw [Nat.pow_succ, Nat.mul_comm]
        omega
      rw [← gcd_st, zX3_greatestDivisor_9]
      simp only [zX3_greatestDivisor_11, zX3_greatestDivisor_14, zX3_greatestDivisor_17, zX3_greatestDivisor_19, zX3_greatestDivisor_20, zX3_greatestDivisor_21, zX3_greatestDivisor_24, zX3_greatestDivisor_26, zX3_greatestDivisor_28, zX3_greatestDivisor_29, zX3_greatestDivisor_31, zX3_greatestDivisor_33, zX3_greatestDivisor_35, zX3_greatestDivisor_37, zX3_greatestDivisor_39, zX3_greatestDivisor_42, zX3_greatestDivisor_45, zX3_greatestDivisor_47, hc, lc_eq, hb0, hr, nI_1, e_k_int, e_k_ref, e_k_null, e_k_long, e_k_ret, e_cats_nil, e_cats_int, e_cats_ref, e_cats_ret, e_cats_long, Option.toList_some, Option.toList_none, List.nil_append, List.cons_append, Option.bind_some, Nat.reduceAdd, Nat.reduceLeDiff, Nat.add_zero, if_true, if_false, true_and, and_true, and_self, Int32.reduceToNatClampNeg]
      exact ih b (a % b) (t + 1) _ _ hml (by omega) hpr (by omega)
theorem r_greatestDivisor {d a b : Nat} {g : e_H} (ha : a < 2 ^ 31) (hb0 : 0 < b) (hb : b ≤ 1000) : e_X e_pg (d + 1) 84 [.long (lN a), .long (lN b)] g = some (some (.long (lN (Nat.gcd a b))), g) := by
  have hc : ¬ (200 : Int32) ≤ 0 := by decide
  have hbz : ¬ lN b = 0 := by rw [show (0 : Int64) = lN 0 from rfl, lN_eq (by omega) (by decide)]; omega
  have hr := ln_rem (a := a) (d := b) ha hb0 (by omega)
  have hml := Nat.mod_lt a hb0
  rw [xX3_greatestDivisor, ← gcd_st]
  simp only [zX3_greatestDivisor_0, zX3_greatestDivisor_1, zX3_greatestDivisor_3, zX3_greatestDivisor_4, zX3_greatestDivisor_6, zX3_greatestDivisor_7, e_k_int, e_k_ref, e_k_null, e_k_long, e_k_ret, e_cats_nil, e_cats_int, e_cats_ref, e_cats_ret, e_cats_long, Option.toList_some, Option.toList_none, List.nil_append, List.cons_append, Option.bind_some, Nat.reduceAdd, Nat.reduceLeDiff, Nat.add_zero, if_true, if_false, true_and, and_true, and_self, Int32.reduceToNatClampNeg]
  rw [zX3_greatestDivisor_9]
  simp only [zX3_greatestDivisor_11, zX3_greatestDivisor_14, zX3_greatestDivisor_17, zX3_greatestDivisor_19, zX3_greatestDivisor_20, zX3_greatestDivisor_21, zX3_greatestDivisor_24, zX3_greatestDivisor_26, zX3_greatestDivisor_28, zX3_greatestDivisor_29, zX3_greatestDivisor_31, zX3_greatestDivisor_33, zX3_greatestDivisor_35, zX3_greatestDivisor_37, zX3_greatestDivisor_39, zX3_greatestDivisor_42, zX3_greatestDivisor_45, zX3_greatestDivisor_47, hc, lc_eq, hbz, hr, e_k_int, e_k_ref, e_k_null, e_k_long, e_k_ret, e_cats_nil, e_cats_int, e_cats_ref, e_cats_ret, e_cats_long, Option.toList_some, Option.toList_none, List.nil_append, List.cons_append, Option.bind_some, Nat.reduceAdd, Nat.reduceLeDiff, Nat.add_zero, if_true, if_false, true_and, and_true, and_self, Int32.reduceToNatClampNeg]
  refine r_gd_loop (d := d) 20 b (a % b) 1 _ _ hml (by omega) ?_ (by omega)
  have : b * (a % b) ≤ 1000 * 1000 := Nat.mul_le_mul hb (by omega)
  omega
/-- a fraction told: top over b -/
def q_gd (top : Int64) (b : Nat) : Nat := Nat.gcd top.toInt.natAbs b
def q_tell (S : e_H) (top : Int64) (b : Nat) : e_H := e_pJ (e_pJ S 0 12 (top / lN (q_gd top b))) 0 13 (lN b / lN (q_gd top b))
theorem q_gd_pos {top : Int64} {b : Nat} (hb : 0 < b) : 0 < q_gd top b := Nat.gcd_pos_of_pos_right _ hb
theorem q_gd_le {top : Int64} {b : Nat} (hb : 0 < b) : q_gd top b ≤ b := Nat.le_of_dvd hb (Nat.gcd_dvd_right _ _)
theorem i64_abs {x : Int64} (h1 : -16777216 ≤ x.toInt) (h2 : x.toInt ≤ 16777216) : (if 0 < x then x else -x) = lN x.toInt.natAbs ∧ (if 0 ≤ x then x else -x) = lN x.toInt.natAbs := by
  have z : (0 : Int64).toInt = 0 := rfl
  have e : ∀ y : Int64, y.toInt = (x.toInt.natAbs : Int) → y = lN x.toInt.natAbs := fun y hy => Int64.toInt_inj.mp (by rw [hy, lN_toInt (by omega)])
  have ng : (-x).toInt = - x.toInt := by rw [Int64.toInt_neg, tl_bm (by omega) (by omega)]
  constructor
  · split
    · rename_i c
      rw [Int64.lt_iff_toInt_lt, z] at c
      exact e _ (by omega)
    · rename_i c
      rw [Int64.lt_iff_toInt_lt, z] at c
      exact e _ (by omega)
  · split
    · rename_i c
      rw [Int64.le_iff_toInt_le, z] at c
      exact e _ (by omega)
    · rename_i c
      rw [Int64.le_iff_toInt_le, z] at c
      exact e _ (by omega)
theorem r_tellFraction {d b : Nat} {top : Int64} {g : e_H} (h1 : -16777216 ≤ top.toInt) (h2 : top.toInt ≤ 16777216) (hb0 : 0 < b) (hb : b ≤ 1000) : e_X e_pg (d + 2) 83 [.ref 0, .long top, .long (lN b)] g = some (none, q_tell g top b) := by
  have hg := r_greatestDivisor (d := d) (a := top.toInt.natAbs) (g := g) (by omega) hb0 hb
  have p0 := q_gd_pos (top := top) hb0
  have p1 := q_gd_le (top := top) hb0
  have hz : ¬ lN (q_gd top b) = 0 := by rw [show (0 : Int64) = lN 0 from rfl, lN_eq (by omega) (by decide)]; omega
  have hp : ¬ lN (q_gd top b) ≤ 0 := by rw [show (0 : Int64) = lN 0 from rfl, lN_le (by omega) (by decide)]; omega
  change _ = some (some (Value.long (lN (q_gd top b))), g) at hg
  rw [xX3_tellFraction]
  simp only [zX3_tellFraction_0, zX3_tellFraction_1, zX3_tellFraction_4, zX3_tellFraction_5, zX3_tellFraction_8, zX3_tellFraction_10, zX3_tellFraction_12, zX3_tellFraction_13, zX3_tellFraction_14, zX3_tellFraction_17, zX3_tellFraction_18, zX3_tellFraction_19, zX3_tellFraction_21, zX3_tellFraction_22, zX3_tellFraction_25, zX3_tellFraction_26, zX3_tellFraction_27, zX3_tellFraction_29, zX3_tellFraction_30, zX3_tellFraction_33, (i64_abs h1 h2).1, hg, lc_le, hz, hp, q_tell, e_k_int, e_k_ref, e_k_null, e_k_long, e_k_ret, e_cats_nil, e_cats_int, e_cats_ref, e_cats_ret, e_cats_long, Option.toList_some, Option.toList_none, List.nil_append, List.cons_append, Option.bind_some, Nat.reduceAdd, Nat.reduceLeDiff, Nat.add_zero, if_true, if_false, true_and, and_true, and_self, Int32.reduceToNatClampNeg]
