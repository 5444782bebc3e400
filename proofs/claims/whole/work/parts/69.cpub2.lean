/-! counting pairs -/
def q_cin (P : Nat → Nat → Bool) (i : Nat) (st : Int32) : Nat → Int32
  | 0 => st
  | k + 1 => q_cin P i st k + q_b1 (P i k)
def q_cou (P : Nat → Nat → Bool) (c1 : Nat) : Nat → Int32
  | 0 => 0
  | k + 1 => q_cin P k (q_cou P c1 k) c1
def q_no (S : e_H) (i j : Nat) : Bool := decide ((q_res S i j).1 = -5)
def q_lose (S : e_H) (w : Nat) : Int32 := q_cou (fun i j => if w = 0 then q_lr S i j else q_no S i j) (q_c S 1) (q_c S 0)
set_option maxRecDepth 100000 in
theorem r_lose {d w : Nat} {S : e_H} (hS : q_ok S) (hw : w < 2) : ∃ f, e_X e_pg (d + 7) 46 [.ref 0, .int (nI w)] S = some (some (.int (q_lose S w)), f) ∧ q_C S f := by
  have c0 := (hS.c (show 0 < 2 by decide)).2
  have c1 := (hS.c (show 1 < 2 by decide)).2
  obtain ⟨f1, a1, a2, a3⟩ := r_settleAll (d := d) hS (q_C.refl S)
  obtain ⟨f2, b1, b2, b3⟩ := r_holdAll (d := d + 1) hS a2 a3
  have hC2 := a2.fr b2 (fun o ho => by simp at ho ⊢; omega)
  have e0 := hC2.c hS (show 0 < 2 by decide)
  have e1 := hC2.c hS (show 1 < 2 by decide)
  refine ⟨f2, ?_, hC2⟩
  unfold q_lose
  generalize hP : (fun i j => if w = 0 then q_lr S i j else q_no S i j) = P
  rw [xX3_lose]
  have pre : e_F kX3_lose (e_X e_pg (d + 6)) 0 [.ref 0, .int (nI w), .null, .null, .null] [] S = e_F kX3_lose (e_X e_pg (d + 6)) 24 [.ref 0, .int (nI w), .int 0, .int 0, .null] [] f2 := by
    rcases (show w = 0 ∨ w = 1 by omega) with rfl | rfl
    · simp only [show nI 0 = (0 : Int32) from rfl, zX3_lose_0, zX3_lose_1, zX3_lose_4, zX3_lose_5, zX3_lose_6, zX3_lose_9, zX3_lose_11, zX3_lose_12, zX3_lose_13, zX3_lose_16, zX3_lose_17, zX3_lose_20, zX3_lose_21, zX3_lose_22, zX3_lose_23, a1, b1, e_k_int, e_k_ref, e_k_null, e_k_long, e_k_ret, e_cats_nil, e_cats_int, e_cats_ref, e_cats_ret, e_cats_long, Option.toList_some, Option.toList_none, List.nil_append, List.cons_append, Option.bind_some, Nat.reduceAdd, Nat.reduceLeDiff, Nat.add_zero, if_true, if_false, true_and, and_true, and_self, Int32.reduceToNatClampNeg]
    · simp only [show nI 1 = (1 : Int32) from rfl, zX3_lose_0, zX3_lose_1, zX3_lose_4, zX3_lose_5, zX3_lose_6, zX3_lose_9, zX3_lose_11, zX3_lose_12, zX3_lose_13, zX3_lose_16, zX3_lose_17, zX3_lose_20, zX3_lose_21, zX3_lose_22, zX3_lose_23, a1, b1, ne_0_1, ne_0_2, ne_0_3, ne_1_0, ne_1_2, ne_1_3, ne_2_0, ne_2_1, ne_2_3, ne_3_0, ne_3_1, ne_3_2, e_k_int, e_k_ref, e_k_null, e_k_long, e_k_ret, e_cats_nil, e_cats_int, e_cats_ref, e_cats_ret, e_cats_long, Option.toList_some, Option.toList_none, List.nil_append, List.cons_append, Option.bind_some, Nat.reduceAdd, Nat.reduceLeDiff, Nat.add_zero, if_true, if_false, true_and, and_true, and_self, Int32.reduceToNatClampNeg]
  rw [pre]
  obtain ⟨ls2, f, e, ⟨v, rfl⟩, rfl⟩ := f_lp (cd := kX3_lose) (O := e_X e_pg (d + 6)) (pc := 24) (fun k ls h => (∃ v, ls = [.ref 0, .int (nI w), .int (q_cou P (q_c S 1) k), .int (nI k), v]) ∧ h = f2) (Nat.zero_le (q_c S 0)) (by
    rintro k ls h - hk ⟨⟨v, rfl⟩, rfl⟩
    have hc : ¬ nI (q_c S 0) ≤ nI k := nI_ge hk (by omega)
    rw [zX3_lose_24]
    simp only [zX3_lose_25, zX3_lose_26, zX3_lose_29, zX3_lose_30, zX3_lose_31, zX3_lose_34, zX3_lose_35, e0, hc, e_k_int, e_k_ref, e_k_null, e_k_long, e_k_ret, e_cats_nil, e_cats_int, e_cats_ref, e_cats_ret, e_cats_long, Option.toList_some, Option.toList_none, List.nil_append, List.cons_append, Option.bind_some, Nat.reduceAdd, Nat.reduceLeDiff, Nat.add_zero, if_true, if_false, true_and, and_true, and_self, Int32.reduceToNatClampNeg, ok_1, ok_2, ok_3, ok_4, ok_5, ok_6, ok_7, ok_8, ok_9, ok_30, ok_31, ok_32, ok_33, ok_34, ok_35, ok_36, ok_37, ok_38, ok_39, ok_40, ok_41, ok_42, ok_43, ok_44, ok_45, ok_46, ok_47, ok_48, ok_49, ok_50, ok_51, ok_52, ln_1, ln_2, ln_4, ln_5, ln_6, ln_7, ln_8, ln_30, ln_31, ln_32, ln_33, ln_34, ln_35, ln_36, ln_37, ln_38, ln_39, ln_41, ln_42, ln_43, ln_44, ln_45, ln_46, ln_47, ln_48, ln_49, ln_50, ln_51, ln_52, ib_0_9, ib_1_9, ib_2_9, ib_3_9, ib_4_9, ib_5_9, ib_6_9, ib_7_9, ib_8_9, ib_0_2, ib_1_2, ib_0_5, ib_1_5, ib_2_5, ib_3_5, ib_4_5, ib_0_25, ib_0_10, ib_5_10, ib_0_90, ib_45_90, ib_0_64]
    obtain ⟨ls2, f, e, ⟨rfl⟩, rfl⟩ := f_lp (cd := kX3_lose) (O := e_X e_pg (d + 6)) (pc := 37) (fun j ls g => ls = [.ref 0, .int (nI w), .int (q_cin P k (q_cou P (q_c S 1) k) j), .int (nI k), .int (nI j)] ∧ g = h) (Nat.zero_le (q_c S 1)) (by
      rintro j ls g - hj ⟨rfl, rfl⟩
      have hc : ¬ nI (q_c S 1) ≤ nI j := nI_ge hj (by omega)
      have hib : e_inb (nI (5 * k + j)) 25 = true := e_inb_nI (by omega) (by decide)
      have hcl : (nI (5 * k + j)).toNatClampNeg = 5 * k + j := nI_clamp (by omega)
      have il := r_isLosingRest (d := d + 3) hS hC2 b3 (a := nI k) (b := nI j) rfl rfl hk hj
      have t1 : e_gI g 35 (5 * k + j) = (q_res S k j).1 := by
        rw [b2.1 35 _ (by simp)]
        exact (a3 k j (by omega) (by omega) ⟨hk, hj⟩).1
      have nx : q_cin P k (q_cou P (q_c S 1) k) (j + 1) = q_cin P k (q_cou P (q_c S 1) k) j + q_b1 (P k j) := rfl
      have z0 : ∀ x : Int32, x + 0 = x := fun x => by grind
      rw [zX3_lose_37, nx]
      rcases (show w = 0 ∨ w = 1 by omega) with rfl | rfl
      · have eP : P k j = q_lr S k j := by rw [← hP]; rfl
        rw [eP]
        cases cr : q_lr S k j with
        | false =>
          simp only [show nI 0 = (0 : Int32) from rfl, zX3_lose_39, zX3_lose_40, zX3_lose_43, zX3_lose_44, zX3_lose_45, zX3_lose_48, zX3_lose_49, zX3_lose_52, zX3_lose_53, zX3_lose_54, zX3_lose_56, zX3_lose_59, zX3_lose_62, zX3_lose_65, zX3_lose_66, zX3_lose_69, zX3_lose_70, zX3_lose_71, zX3_lose_72, zX3_lose_74, zX3_lose_77, zX3_lose_78, zX3_lose_80, zX3_lose_83, zX3_lose_86, zX3_lose_89, e1, hc, il, cr, q_b1, z0, Bool.false_eq_true, not_true_eq_false, nI_1, ne_0_1, ne_0_2, ne_0_3, ne_1_0, ne_1_2, ne_1_3, ne_2_0, ne_2_1, ne_2_3, ne_3_0, ne_3_1, ne_3_2, e_k_int, e_k_ref, e_k_null, e_k_long, e_k_ret, e_cats_nil, e_cats_int, e_cats_ref, e_cats_ret, e_cats_long, Option.toList_some, Option.toList_none, List.nil_append, List.cons_append, Option.bind_some, Nat.reduceAdd, Nat.reduceLeDiff, Nat.add_zero, if_true, if_false, true_and, and_true, and_self, Int32.reduceToNatClampNeg, ok_1, ok_2, ok_3, ok_4, ok_5, ok_6, ok_7, ok_8, ok_9, ok_30, ok_31, ok_32, ok_33, ok_34, ok_35, ok_36, ok_37, ok_38, ok_39, ok_40, ok_41, ok_42, ok_43, ok_44, ok_45, ok_46, ok_47, ok_48, ok_49, ok_50, ok_51, ok_52, ln_1, ln_2, ln_4, ln_5, ln_6, ln_7, ln_8, ln_30, ln_31, ln_32, ln_33, ln_34, ln_35, ln_36, ln_37, ln_38, ln_39, ln_41, ln_42, ln_43, ln_44, ln_45, ln_46, ln_47, ln_48, ln_49, ln_50, ln_51, ln_52, ib_0_9, ib_1_9, ib_2_9, ib_3_9, ib_4_9, ib_5_9, ib_6_9, ib_7_9, ib_8_9, ib_0_2, ib_1_2, ib_0_5, ib_1_5, ib_2_5, ib_3_5, ib_4_5, ib_0_25, ib_0_10, ib_5_10, ib_0_90, ib_45_90, ib_0_64]
          exact ⟨_, _, rfl, rfl, rfl⟩
        | true =>
          simp only [show nI 0 = (0 : Int32) from rfl, zX3_lose_39, zX3_lose_40, zX3_lose_43, zX3_lose_44, zX3_lose_45, zX3_lose_48, zX3_lose_49, zX3_lose_52, zX3_lose_53, zX3_lose_54, zX3_lose_56, zX3_lose_59, zX3_lose_62, zX3_lose_65, zX3_lose_66, zX3_lose_69, zX3_lose_70, zX3_lose_71, zX3_lose_72, zX3_lose_74, zX3_lose_77, zX3_lose_78, zX3_lose_80, zX3_lose_83, zX3_lose_86, zX3_lose_89, e1, hc, il, cr, q_b1, not_true_eq_false, nI_1, ne_0_1, ne_0_2, ne_0_3, ne_1_0, ne_1_2, ne_1_3, ne_2_0, ne_2_1, ne_2_3, ne_3_0, ne_3_1, ne_3_2, e_k_int, e_k_ref, e_k_null, e_k_long, e_k_ret, e_cats_nil, e_cats_int, e_cats_ref, e_cats_ret, e_cats_long, Option.toList_some, Option.toList_none, List.nil_append, List.cons_append, Option.bind_some, Nat.reduceAdd, Nat.reduceLeDiff, Nat.add_zero, if_true, if_false, true_and, and_true, and_self, Int32.reduceToNatClampNeg, ok_1, ok_2, ok_3, ok_4, ok_5, ok_6, ok_7, ok_8, ok_9, ok_30, ok_31, ok_32, ok_33, ok_34, ok_35, ok_36, ok_37, ok_38, ok_39, ok_40, ok_41, ok_42, ok_43, ok_44, ok_45, ok_46, ok_47, ok_48, ok_49, ok_50, ok_51, ok_52, ln_1, ln_2, ln_4, ln_5, ln_6, ln_7, ln_8, ln_30, ln_31, ln_32, ln_33, ln_34, ln_35, ln_36, ln_37, ln_38, ln_39, ln_41, ln_42, ln_43, ln_44, ln_45, ln_46, ln_47, ln_48, ln_49, ln_50, ln_51, ln_52, ib_0_9, ib_1_9, ib_2_9, ib_3_9, ib_4_9, ib_5_9, ib_6_9, ib_7_9, ib_8_9, ib_0_2, ib_1_2, ib_0_5, ib_1_5, ib_2_5, ib_3_5, ib_4_5, ib_0_25, ib_0_10, ib_5_10, ib_0_90, ib_45_90, ib_0_64]
          exact ⟨_, _, rfl, rfl, rfl⟩
      · have eP : P k j = q_no S k j := by rw [← hP]; rfl
        rw [eP]
        unfold q_no
        by_cases cr : (q_res S k j).1 = -5
        · simp only [show nI 1 = (1 : Int32) from rfl, zX3_lose_39, zX3_lose_40, zX3_lose_43, zX3_lose_44, zX3_lose_45, zX3_lose_48, zX3_lose_49, zX3_lose_52, zX3_lose_53, zX3_lose_54, zX3_lose_56, zX3_lose_59, zX3_lose_62, zX3_lose_65, zX3_lose_66, zX3_lose_69, zX3_lose_70, zX3_lose_71, zX3_lose_72, zX3_lose_74, zX3_lose_77, zX3_lose_78, zX3_lose_80, zX3_lose_83, zX3_lose_86, zX3_lose_89, e1, hc, r_cell, q_cell, hib, hcl, t1, cr, q_b1, decide_true, not_true_eq_false, not_false_eq_true, nI_1, ne_0_1, ne_0_2, ne_0_3, ne_1_0, ne_1_2, ne_1_3, ne_2_0, ne_2_1, ne_2_3, ne_3_0, ne_3_1, ne_3_2, e_k_int, e_k_ref, e_k_null, e_k_long, e_k_ret, e_cats_nil, e_cats_int, e_cats_ref, e_cats_ret, e_cats_long, Option.toList_some, Option.toList_none, List.nil_append, List.cons_append, Option.bind_some, Nat.reduceAdd, Nat.reduceLeDiff, Nat.add_zero, if_true, if_false, true_and, and_true, and_self, Int32.reduceToNatClampNeg, ok_1, ok_2, ok_3, ok_4, ok_5, ok_6, ok_7, ok_8, ok_9, ok_30, ok_31, ok_32, ok_33, ok_34, ok_35, ok_36, ok_37, ok_38, ok_39, ok_40, ok_41, ok_42, ok_43, ok_44, ok_45, ok_46, ok_47, ok_48, ok_49, ok_50, ok_51, ok_52, ln_1, ln_2, ln_4, ln_5, ln_6, ln_7, ln_8, ln_30, ln_31, ln_32, ln_33, ln_34, ln_35, ln_36, ln_37, ln_38, ln_39, ln_41, ln_42, ln_43, ln_44, ln_45, ln_46, ln_47, ln_48, ln_49, ln_50, ln_51, ln_52, ib_0_9, ib_1_9, ib_2_9, ib_3_9, ib_4_9, ib_5_9, ib_6_9, ib_7_9, ib_8_9, ib_0_2, ib_1_2, ib_0_5, ib_1_5, ib_2_5, ib_3_5, ib_4_5, ib_0_25, ib_0_10, ib_5_10, ib_0_90, ib_45_90, ib_0_64]
          exact ⟨_, _, rfl, rfl, rfl⟩
        · simp only [show nI 1 = (1 : Int32) from rfl, zX3_lose_39, zX3_lose_40, zX3_lose_43, zX3_lose_44, zX3_lose_45, zX3_lose_48, zX3_lose_49, zX3_lose_52, zX3_lose_53, zX3_lose_54, zX3_lose_56, zX3_lose_59, zX3_lose_62, zX3_lose_65, zX3_lose_66, zX3_lose_69, zX3_lose_70, zX3_lose_71, zX3_lose_72, zX3_lose_74, zX3_lose_77, zX3_lose_78, zX3_lose_80, zX3_lose_83, zX3_lose_86, zX3_lose_89, e1, hc, r_cell, q_cell, hib, hcl, t1, cr, q_b1, z0, decide_false, Bool.false_eq_true, not_false_eq_true, nI_1, ne_0_1, ne_0_2, ne_0_3, ne_1_0, ne_1_2, ne_1_3, ne_2_0, ne_2_1, ne_2_3, ne_3_0, ne_3_1, ne_3_2, e_k_int, e_k_ref, e_k_null, e_k_long, e_k_ret, e_cats_nil, e_cats_int, e_cats_ref, e_cats_ret, e_cats_long, Option.toList_some, Option.toList_none, List.nil_append, List.cons_append, Option.bind_some, Nat.reduceAdd, Nat.reduceLeDiff, Nat.add_zero, if_true, if_false, true_and, and_true, and_self, Int32.reduceToNatClampNeg, ok_1, ok_2, ok_3, ok_4, ok_5, ok_6, ok_7, ok_8, ok_9, ok_30, ok_31, ok_32, ok_33, ok_34, ok_35, ok_36, ok_37, ok_38, ok_39, ok_40, ok_41, ok_42, ok_43, ok_44, ok_45, ok_46, ok_47, ok_48, ok_49, ok_50, ok_51, ok_52, ln_1, ln_2, ln_4, ln_5, ln_6, ln_7, ln_8, ln_30, ln_31, ln_32, ln_33, ln_34, ln_35, ln_36, ln_37, ln_38, ln_39, ln_41, ln_42, ln_43, ln_44, ln_45, ln_46, ln_47, ln_48, ln_49, ln_50, ln_51, ln_52, ib_0_9, ib_1_9, ib_2_9, ib_3_9, ib_4_9, ib_5_9, ib_6_9, ib_7_9, ib_8_9, ib_0_2, ib_1_2, ib_0_5, ib_1_5, ib_2_5, ib_3_5, ib_4_5, ib_0_25, ib_0_10, ib_5_10, ib_0_90, ib_45_90, ib_0_64]
          exact ⟨_, _, rfl, rfl, rfl⟩) (ls := [.ref 0, .int (nI w), .int (q_cou P (q_c S 1) k), .int (nI k), .int 0]) (h := h) ⟨rfl, rfl⟩
    have hc2 : nI (q_c S 1) ≤ nI (q_c S 1) := nI_le (Nat.le_refl _) (by omega)
    rw [e, zX3_lose_37]
    simp only [zX3_lose_39, zX3_lose_40, zX3_lose_43, zX3_lose_44, zX3_lose_45, zX3_lose_48, zX3_lose_49, zX3_lose_52, zX3_lose_53, zX3_lose_54, zX3_lose_56, zX3_lose_59, zX3_lose_62, zX3_lose_65, zX3_lose_66, zX3_lose_69, zX3_lose_70, zX3_lose_71, zX3_lose_72, zX3_lose_74, zX3_lose_77, zX3_lose_78, zX3_lose_80, zX3_lose_83, zX3_lose_86, zX3_lose_89, zX3_lose_92, zX3_lose_95, e1, hc2, nI_1, e_k_int, e_k_ref, e_k_null, e_k_long, e_k_ret, e_cats_nil, e_cats_int, e_cats_ref, e_cats_ret, e_cats_long, Option.toList_some, Option.toList_none, List.nil_append, List.cons_append, Option.bind_some, Nat.reduceAdd, Nat.reduceLeDiff, Nat.add_zero, if_true, if_false, true_and, and_true, and_self, Int32.reduceToNatClampNeg, ok_1, ok_2, ok_3, ok_4, ok_5, ok_6, ok_7, ok_8, ok_9, ok_30, ok_31, ok_32, ok_33, ok_34, ok_35, ok_36, ok_37, ok_38, ok_39, ok_40, ok_41, ok_42, ok_43, ok_44, ok_45, ok_46, ok_47, ok_48, ok_49, ok_50, ok_51, ok_52, ln_1, ln_2, ln_4, ln_5, ln_6, ln_7, ln_8, ln_30, ln_31, ln_32, ln_33, ln_34, ln_35, ln_36, ln_37, ln_38, ln_39, ln_41, ln_42, ln_43, ln_44, ln_45, ln_46, ln_47, ln_48, ln_49, ln_50, ln_51, ln_52, ib_0_9, ib_1_9, ib_2_9, ib_3_9, ib_4_9, ib_5_9, ib_6_9, ib_7_9, ib_8_9, ib_0_2, ib_1_2, ib_0_5, ib_1_5, ib_2_5, ib_3_5, ib_4_5, ib_0_25, ib_0_10, ib_5_10, ib_0_90, ib_45_90, ib_0_64]
    exact ⟨_, _, rfl, ⟨_, rfl⟩, rfl⟩) (ls := [.ref 0, .int (nI w), .int 0, .int 0, .null]) (h := f2) ⟨⟨_, rfl⟩, rfl⟩
  have hc2 : nI (q_c S 0) ≤ nI (q_c S 0) := nI_le (Nat.le_refl _) (by omega)
  rw [e, zX3_lose_24]
  simp only [zX3_lose_25, zX3_lose_26, zX3_lose_29, zX3_lose_30, zX3_lose_31, zX3_lose_34, zX3_lose_35, zX3_lose_98, zX3_lose_99, e0, hc2, e_k_int, e_k_ref, e_k_null, e_k_long, e_k_ret, e_cats_nil, e_cats_int, e_cats_ref, e_cats_ret, e_cats_long, Option.toList_some, Option.toList_none, List.nil_append, List.cons_append, Option.bind_some, Nat.reduceAdd, Nat.reduceLeDiff, Nat.add_zero, if_true, if_false, true_and, and_true, and_self, Int32.reduceToNatClampNeg, ok_1, ok_2, ok_3, ok_4, ok_5, ok_6, ok_7, ok_8, ok_9, ok_30, ok_31, ok_32, ok_33, ok_34, ok_35, ok_36, ok_37, ok_38, ok_39, ok_40, ok_41, ok_42, ok_43, ok_44, ok_45, ok_46, ok_47, ok_48, ok_49, ok_50, ok_51, ok_52, ln_1, ln_2, ln_4, ln_5, ln_6, ln_7, ln_8, ln_30, ln_31, ln_32, ln_33, ln_34, ln_35, ln_36, ln_37, ln_38, ln_39, ln_41, ln_42, ln_43, ln_44, ln_45, ln_46, ln_47, ln_48, ln_49, ln_50, ln_51, ln_52, ib_0_9, ib_1_9, ib_2_9, ib_3_9, ib_4_9, ib_5_9, ib_6_9, ib_7_9, ib_8_9, ib_0_2, ib_1_2, ib_0_5, ib_1_5, ib_2_5, ib_3_5, ib_4_5, ib_0_25, ib_0_10, ib_5_10, ib_0_90, ib_45_90, ib_0_64]
theorem r_lose_no {d : Nat} {S : e_H} {a : Int32} (h : ¬ ∃ w, w < 2 ∧ a = nI w) : e_X e_pg (d + 7) 46 [.ref 0, .int a] S = some (some (.int (-2)), S) := by
  have h0 : ¬ a = 0 := fun q => h ⟨0, by decide, q⟩
  have h1 : ¬ a = 1 := fun q => h ⟨1, by decide, q⟩
  rw [xX3_lose]
  simp only [zX3_lose_0, zX3_lose_1, zX3_lose_4, zX3_lose_5, zX3_lose_6, zX3_lose_9, zX3_lose_11, zX3_lose_12, zX3_lose_13, zX3_lose_16, zX3_lose_17, zX3_lose_20, zX3_lose_21, zX3_lose_22, zX3_lose_23, h0, h1, e_k_int, e_k_ref, e_k_null, e_k_long, e_k_ret, e_cats_nil, e_cats_int, e_cats_ref, e_cats_ret, e_cats_long, Option.toList_some, Option.toList_none, List.nil_append, List.cons_append, Option.bind_some, Nat.reduceAdd, Nat.reduceLeDiff, Nat.add_zero, if_true, if_false, true_and, and_true, and_self, Int32.reduceToNatClampNeg]
theorem r_weight {d s k : Nat} {S : e_H} {w : Int32} (hS : q_ok S) (hs : s < 2) (hk : k < q_c S s) (h1 : ¬ w < 0) (h2 : w ≤ 9) : e_X e_pg (d + 3) 47 [.ref 0, .int (nI s), .int (nI k), .int w] S = some (some (.int (nI (q_W S s k))), e_pI S (q_x s k + 10) 1 w) := by
  have cs := (hS.c hs).2
  have ie := p_isE_yes hS hs hk
  have hx := q_x_lt hs (show k < 5 by omega)
  have eW := (hS.W hs (show k < 5 by omega)).1
  rw [xX3_weight]
  simp only [zX3_weight_0, zX3_weight_1, zX3_weight_2, zX3_weight_3, zX3_weight_6, zX3_weight_9, zX3_weight_10, zX3_weight_13, zX3_weight_14, zX3_weight_16, zX3_weight_19, zX3_weight_21, zX3_weight_22, zX3_weight_23, zX3_weight_24, zX3_weight_25, zX3_weight_28, zX3_weight_30, zX3_weight_32, zX3_weight_35, zX3_weight_37, zX3_weight_39, zX3_weight_40, zX3_weight_43, zX3_weight_45, r_isEnvoy, ie, h1, h2, hx, eW, r_eAt (s := s) (k := k) (a := nI s) (b := nI k) rfl rfl hs (show k < 5 by omega), ne_0_1, ne_0_2, ne_0_3, ne_1_0, ne_1_2, ne_1_3, ne_2_0, ne_2_1, ne_2_3, ne_3_0, ne_3_1, ne_3_2, e_k_int, e_k_ref, e_k_null, e_k_long, e_k_ret, e_cats_nil, e_cats_int, e_cats_ref, e_cats_ret, e_cats_long, Option.toList_some, Option.toList_none, List.nil_append, List.cons_append, Option.bind_some, Nat.reduceAdd, Nat.reduceLeDiff, Nat.add_zero, if_true, if_false, true_and, and_true, and_self, Int32.reduceToNatClampNeg]
theorem r_weight_no {d : Nat} {S : e_H} {a b w : Int32} (hS : q_ok S) (hp : (¬ ∃ s k, s < 2 ∧ k < q_c S s ∧ a = nI s ∧ b = nI k) ∨ w < 0 ∨ ¬ w ≤ 9) : e_X e_pg (d + 3) 47 [.ref 0, .int a, .int b, .int w] S = some (some (.int (-2)), S) := by
  rw [xX3_weight]
  by_cases c : p_isE (e_gI S 1) a b = 0
  · simp only [zX3_weight_0, zX3_weight_1, zX3_weight_2, zX3_weight_3, zX3_weight_6, zX3_weight_9, zX3_weight_10, zX3_weight_13, zX3_weight_14, zX3_weight_16, zX3_weight_19, zX3_weight_21, zX3_weight_22, zX3_weight_23, zX3_weight_24, zX3_weight_25, zX3_weight_28, zX3_weight_30, zX3_weight_32, zX3_weight_35, zX3_weight_37, zX3_weight_39, zX3_weight_40, zX3_weight_43, zX3_weight_45, r_isEnvoy, c, e_k_int, e_k_ref, e_k_null, e_k_long, e_k_ret, e_cats_nil, e_cats_int, e_cats_ref, e_cats_ret, e_cats_long, Option.toList_some, Option.toList_none, List.nil_append, List.cons_append, Option.bind_some, Nat.reduceAdd, Nat.reduceLeDiff, Nat.add_zero, if_true, if_false, true_and, and_true, and_self, Int32.reduceToNatClampNeg]
  · by_cases c2 : w < 0
    · simp only [zX3_weight_0, zX3_weight_1, zX3_weight_2, zX3_weight_3, zX3_weight_6, zX3_weight_9, zX3_weight_10, zX3_weight_13, zX3_weight_14, zX3_weight_16, zX3_weight_19, zX3_weight_21, zX3_weight_22, zX3_weight_23, zX3_weight_24, zX3_weight_25, zX3_weight_28, zX3_weight_30, zX3_weight_32, zX3_weight_35, zX3_weight_37, zX3_weight_39, zX3_weight_40, zX3_weight_43, zX3_weight_45, r_isEnvoy, c, c2, e_k_int, e_k_ref, e_k_null, e_k_long, e_k_ret, e_cats_nil, e_cats_int, e_cats_ref, e_cats_ret, e_cats_long, Option.toList_some, Option.toList_none, List.nil_append, List.cons_append, Option.bind_some, Nat.reduceAdd, Nat.reduceLeDiff, Nat.add_zero, if_true, if_false, true_and, and_true, and_self, Int32.reduceToNatClampNeg]
    · have c3 : ¬ w ≤ 9 := by
        rcases hp with z | z | z
        · exact absurd (p_isE_no hS z) c
        · exact absurd z c2
        · exact z
      simp only [zX3_weight_0, zX3_weight_1, zX3_weight_2, zX3_weight_3, zX3_weight_6, zX3_weight_9, zX3_weight_10, zX3_weight_13, zX3_weight_14, zX3_weight_16, zX3_weight_19, zX3_weight_21, zX3_weight_22, zX3_weight_23, zX3_weight_24, zX3_weight_25, zX3_weight_28, zX3_weight_30, zX3_weight_32, zX3_weight_35, zX3_weight_37, zX3_weight_39, zX3_weight_40, zX3_weight_43, zX3_weight_45, r_isEnvoy, c, c2, c3, e_k_int, e_k_ref, e_k_null, e_k_long, e_k_ret, e_cats_nil, e_cats_int, e_cats_ref, e_cats_ret, e_cats_long, Option.toList_some, Option.toList_none, List.nil_append, List.cons_append, Option.bind_some, Nat.reduceAdd, Nat.reduceLeDiff, Nat.add_zero, if_true, if_false, true_and, and_true, and_self, Int32.reduceToNatClampNeg]
/-! whom one sends who guesses -/
theorem od9_rg {a b : Int} (h1 : 0 ≤ a) (h2 : a ≤ 9) (h3 : -90000 ≤ b) (h4 : b ≤ 90000) : -810000 ≤ a * b ∧ a * b ≤ 810000 := by
  rcases (show a = 0 ∨ a = 1 ∨ a = 2 ∨ a = 3 ∨ a = 4 ∨ a = 5 ∨ a = 6 ∨ a = 7 ∨ a = 8 ∨ a = 9 by omega) with rfl | rfl | rfl | rfl | rfl | rfl | rfl | rfl | rfl | rfl <;> omega
theorem q_ag_rg {S : e_H} (hS : q_ok S) {s k m : Nat} (hk : k < 5) (hm : m < 5) : -90000 ≤ (q_ag S s k m).toInt ∧ (q_ag S s k m).toInt ≤ 90000 := by
  unfold q_ag
  split
  · exact q_has_rg hS (by decide) hk hm
  · exact q_has_rg hS (by decide) hm hk
theorem q_wg_rg {S : e_H} (hS : q_ok S) {s k : Nat} (hs : s < 2) (hk : k < 5) : ∀ m : Nat, m ≤ 5 → -810000 * (m : Int) ≤ (q_wg S s k m).toInt ∧ (q_wg S s k m).toInt ≤ 810000 * (m : Int) := by
  intro m
  induction m with
  | zero =>
    intro _
    show -810000 * ((0 : Nat) : Int) ≤ (0 : Int64).toInt ∧ _
    have : (0 : Int64).toInt = 0 := rfl
    rw [show q_wg S s k 0 = 0 from rfl, this]
    omega
  | succ m ih =>
    intro hm
    have i1 := ih (by omega)
    have w := (hS.W (show 1 - s < 2 by omega) (show m < 5 by omega)).2
    have wi := nI_ti (x := q_W S (1 - s) m) (by omega)
    have a := q_ag_rg hS (s := s) hk (show m < 5 by omega)
    have p := od9_rg (a := (nI (q_W S (1 - s) m)).toInt) (by omega) (by omega) a.1 a.2
    have e1 : ((nI (q_W S (1 - s) m)).toInt64 * (q_ag S s k m).toInt64).toInt = (nI (q_W S (1 - s) m)).toInt * (q_ag S s k m).toInt := by
      rw [Int64.toInt_mul, Int32.toInt_toInt64, Int32.toInt_toInt64, tl_bm (by omega) (by omega)]
    have e2 : (q_wg S s k (m + 1)).toInt = (q_wg S s k m).toInt + (nI (q_W S (1 - s) m)).toInt * (q_ag S s k m).toInt := by
      show (q_wg S s k m + (nI (q_W S (1 - s) m)).toInt64 * (q_ag S s k m).toInt64).toInt = _
      rw [Int64.toInt_add, e1, tl_bm (by omega) (by omega)]
    rw [e2]
    omega
def q_tv (S : e_H) (s : Nat) : Nat → Int64 := fun k => q_wg S s k (q_c S (1 - s))
def q_th (S : e_H) (s : Nat) : Int32 × Int64 := q_bm (q_tv S s) (q_c S s - 1)
def q_tb (S : e_H) (s : Nat) : Nat := q_sc S * q_wt S (1 - s) (q_c S (1 - s))
theorem q_th_rg {S : e_H} (hS : q_ok S) {s : Nat} (hs : s < 2) : -16777216 ≤ (q_th S s).2.toInt ∧ (q_th S s).2.toInt ≤ 16777216 := by
  have c1 := (hS.c hs).2
  have c2 := (hS.c (show 1 - s < 2 by omega)).2
  obtain ⟨j, h1, h2⟩ := q_bm_mem (q_tv S s) (q_c S s - 1)
  have := q_wg_rg hS hs (show j < 5 by omega) (q_c S (1 - s)) (by omega)
  unfold q_th
  rw [h2]
  unfold q_tv
  omega
theorem q_tb_rg {S : e_H} (hS : q_ok S) {s : Nat} (hs : s < 2) (h : 0 < q_wt S (1 - s) (q_c S (1 - s))) : 0 < q_tb S s ∧ q_tb S s ≤ 1000 := by
  have c2 := (hS.c (show 1 - s < 2 by omega)).2
  have a := q_sc_rg hS
  have b := q_wt_le hS (show 1 - s < 2 by omega) (q_c S (1 - s)) (by omega)
  unfold q_tb
  refine ⟨Nat.mul_pos (by omega) h, ?_⟩
  have := Nat.mul_le_mul a.2 (show q_wt S (1 - s) (q_c S (1 - s)) ≤ 45 by omega)
  omega
set_option maxRecDepth 100000 in
theorem r_thought {d s : Nat} {S : e_H} (hS : q_ok S) (hs : s < 2) (hw : 0 < q_wt S (1 - s) (q_c S (1 - s))) : ∃ f, e_X e_pg (d + 7) 48 [.ref 0, .int (nI s)] S = some (some (.int (q_th S s).1), f) ∧ q_C (q_tell S (q_th S s).2 (q_tb S s)) f := by
  have cs := (hS.c hs).2
  have co := (hS.c (show 1 - s < 2 by omega)).2
  have hib : e_inb (nI s) 2 = true := e_inb_nI hs (by decide)
  have hcl : (nI s).toNatClampNeg = s := nI_clamp (by omega)
  have wl := q_wt_le hS (show 1 - s < 2 by omega) (q_c S (1 - s)) (by omega)
  have sw := r_sumOfWeights (d := d + 4) hS (q_C.refl S) (a := nI (1 - s)) rfl (show 1 - s < 2 by omega)
  obtain ⟨f1, a1, a2, a3⟩ := r_settleAll (d := d) hS (q_C.refl S)
  obtain ⟨f2, b1, b2, b3⟩ := r_holdAll (d := d + 1) hS a2 a3
  have hC2 := a2.fr b2 (fun o ho => by simp at ho ⊢; omega)
  have wg := fun k (hk : k < q_c S s) => r_weighed (d := d + 4) hS hC2 b3 (a := nI s) (b := nI k) rfl rfl hs hk
  have wg0 := wg 0 (by omega)
  rw [show nI 0 = (0 : Int32) from rfl] at wg0
  have hw1 : 1 ≤ nI (q_wt S (1 - s) (q_c S (1 - s))) := by rw [show (1 : Int32) = nI 1 from rfl]; exact nI_le hw (by omega)
  rw [xX3_thought]
  simp only [zX3_thought_0, zX3_thought_1, zX3_thought_4, zX3_thought_7, zX3_thought_9, zX3_thought_10, zX3_thought_11, zX3_thought_12, zX3_thought_13, zX3_thought_14, zX3_thought_17, zX3_thought_18, zX3_thought_19, zX3_thought_20, zX3_thought_23, zX3_thought_25, zX3_thought_26, zX3_thought_27, zX3_thought_30, zX3_thought_31, zX3_thought_34, zX3_thought_35, zX3_thought_36, zX3_thought_37, zX3_thought_38, zX3_thought_39, zX3_thought_42, zX3_thought_44, zX3_thought_45, r_isSide, p_side_yes hs, nI_1s hs, sw, hw1, a1, b1, wg0, ne_0_1, ne_0_2, ne_0_3, ne_1_0, ne_1_2, ne_1_3, ne_2_0, ne_2_1, ne_2_3, ne_3_0, ne_3_1, ne_3_2, not_false_eq_true, e_k_int, e_k_ref, e_k_null, e_k_long, e_k_ret, e_cats_nil, e_cats_int, e_cats_ref, e_cats_ret, e_cats_long, Option.toList_some, Option.toList_none, List.nil_append, List.cons_append, Option.bind_some, Nat.reduceAdd, Nat.reduceLeDiff, Nat.add_zero, if_true, if_false, true_and, and_true, and_self, Int32.reduceToNatClampNeg]
  obtain ⟨ls2, f, e, ⟨v, w, rfl⟩, rfl⟩ := f_lp (cd := kX3_thought) (O := e_X e_pg (d + 6)) (pc := 47) (fun k ls h => (∃ v w, ls = [.ref 0, .int (nI s), .int (nI (q_wt S (1 - s) (q_c S (1 - s)))), .int (q_bm (q_tv S s) (k - 1)).1, .long (q_bm (q_tv S s) (k - 1)).2, .null, .int (nI k), v, w]) ∧ h = f2) (a := 1) (n := q_c S s) (by omega) (by
    rintro k ls h hk1 hk ⟨⟨v, w, rfl⟩, rfl⟩
    obtain ⟨k, rfl⟩ : ∃ j, k = j + 1 := ⟨k - 1, by omega⟩
    have hc : ¬ nI (q_c S s) ≤ nI (k + 1) := nI_ge hk (by omega)
    have wk := wg (k + 1) hk
    change _ = some (some (Value.long (q_tv S s (k + 1))), h) at wk
    rw [zX3_thought_47, Nat.add_sub_cancel, Nat.add_sub_cancel]
    rw [q_bm]
    by_cases c : q_tv S s (k + 1) ≤ (q_bm (q_tv S s) k).2
    · simp only [zX3_thought_49, zX3_thought_50, zX3_thought_53, zX3_thought_54, zX3_thought_55, zX3_thought_58, zX3_thought_59, zX3_thought_60, zX3_thought_62, zX3_thought_65, zX3_thought_67, zX3_thought_69, zX3_thought_71, zX3_thought_72, zX3_thought_75, zX3_thought_77, zX3_thought_79, zX3_thought_81, zX3_thought_82, zX3_thought_85, hC2.c hS hs, hib, hcl, hc, wk, lc_le, c, nI_1, e_k_int, e_k_ref, e_k_null, e_k_long, e_k_ret, e_cats_nil, e_cats_int, e_cats_ref, e_cats_ret, e_cats_long, Option.toList_some, Option.toList_none, List.nil_append, List.cons_append, Option.bind_some, Nat.reduceAdd, Nat.reduceLeDiff, Nat.add_zero, if_true, if_false, true_and, and_true, and_self, Int32.reduceToNatClampNeg, ok_1, ok_2, ok_3, ok_4, ok_5, ok_6, ok_7, ok_8, ok_9, ok_30, ok_31, ok_32, ok_33, ok_34, ok_35, ok_36, ok_37, ok_38, ok_39, ok_40, ok_41, ok_42, ok_43, ok_44, ok_45, ok_46, ok_47, ok_48, ok_49, ok_50, ok_51, ok_52, ln_1, ln_2, ln_4, ln_5, ln_6, ln_7, ln_8, ln_30, ln_31, ln_32, ln_33, ln_34, ln_35, ln_36, ln_37, ln_38, ln_39, ln_41, ln_42, ln_43, ln_44, ln_45, ln_46, ln_47, ln_48, ln_49, ln_50, ln_51, ln_52]
      exact ⟨_, _, rfl, ⟨_, _, rfl⟩, rfl⟩
    · simp only [zX3_thought_49, zX3_thought_50, zX3_thought_53, zX3_thought_54, zX3_thought_55, zX3_thought_58, zX3_thought_59, zX3_thought_60, zX3_thought_62, zX3_thought_65, zX3_thought_67, zX3_thought_69, zX3_thought_71, zX3_thought_72, zX3_thought_75, zX3_thought_77, zX3_thought_79, zX3_thought_81, zX3_thought_82, zX3_thought_85, hC2.c hS hs, hib, hcl, hc, wk, lc_le, c, nI_1, e_k_int, e_k_ref, e_k_null, e_k_long, e_k_ret, e_cats_nil, e_cats_int, e_cats_ref, e_cats_ret, e_cats_long, Option.toList_some, Option.toList_none, List.nil_append, List.cons_append, Option.bind_some, Nat.reduceAdd, Nat.reduceLeDiff, Nat.add_zero, if_true, if_false, true_and, and_true, and_self, Int32.reduceToNatClampNeg, ok_1, ok_2, ok_3, ok_4, ok_5, ok_6, ok_7, ok_8, ok_9, ok_30, ok_31, ok_32, ok_33, ok_34, ok_35, ok_36, ok_37, ok_38, ok_39, ok_40, ok_41, ok_42, ok_43, ok_44, ok_45, ok_46, ok_47, ok_48, ok_49, ok_50, ok_51, ok_52, ln_1, ln_2, ln_4, ln_5, ln_6, ln_7, ln_8, ln_30, ln_31, ln_32, ln_33, ln_34, ln_35, ln_36, ln_37, ln_38, ln_39, ln_41, ln_42, ln_43, ln_44, ln_45, ln_46, ln_47, ln_48, ln_49, ln_50, ln_51, ln_52]
      exact ⟨_, _, rfl, ⟨_, _, rfl⟩, rfl⟩) (ls := [.ref 0, .int (nI s), .int (nI (q_wt S (1 - s) (q_c S (1 - s)))), .int 0, .long (q_wg S s 0 (q_c S (1 - s))), .null, .int 1, .null, .null]) (h := f2) ⟨⟨_, _, rfl⟩, rfl⟩
  have hc : nI (q_c S s) ≤ nI (q_c S s) := nI_le (Nat.le_refl _) (by omega)
  have rg := q_th_rg hS hs
  have tb := q_tb_rg hS hs hw
  have tf := r_tellFraction (d := d + 4) (b := q_tb S s) (top := (q_th S s).2) (g := f) rg.1 rg.2 tb.1 tb.2
  have esc := q_sc_eq hS hC2
  have e32 := nI_l (n := q_tb S s) (by omega)
  unfold q_tb at tf e32
  unfold q_th at tf
  refine ⟨q_tell f (q_th S s).2 (q_tb S s), ?_, hC2.tell _ _⟩
  rw [e, zX3_thought_47]
  simp only [zX3_thought_49, zX3_thought_50, zX3_thought_53, zX3_thought_54, zX3_thought_55, zX3_thought_58, zX3_thought_59, zX3_thought_60, zX3_thought_62, zX3_thought_65, zX3_thought_67, zX3_thought_69, zX3_thought_71, zX3_thought_72, zX3_thought_75, zX3_thought_77, zX3_thought_79, zX3_thought_81, zX3_thought_82, zX3_thought_85, zX3_thought_88, zX3_thought_89, zX3_thought_91, zX3_thought_92, zX3_thought_95, zX3_thought_96, zX3_thought_97, zX3_thought_98, zX3_thought_101, zX3_thought_102, hC2.c hS hs, hib, hcl, hc, r_scale, esc, pk_mul, e32, tf, q_th, q_tb, e_k_int, e_k_ref, e_k_null, e_k_long, e_k_ret, e_cats_nil, e_cats_int, e_cats_ref, e_cats_ret, e_cats_long, Option.toList_some, Option.toList_none, List.nil_append, List.cons_append, Option.bind_some, Nat.reduceAdd, Nat.reduceLeDiff, Nat.add_zero, if_true, if_false, true_and, and_true, and_self, Int32.reduceToNatClampNeg, ok_1, ok_2, ok_3, ok_4, ok_5, ok_6, ok_7, ok_8, ok_9, ok_30, ok_31, ok_32, ok_33, ok_34, ok_35, ok_36, ok_37, ok_38, ok_39, ok_40, ok_41, ok_42, ok_43, ok_44, ok_45, ok_46, ok_47, ok_48, ok_49, ok_50, ok_51, ok_52, ln_1, ln_2, ln_4, ln_5, ln_6, ln_7, ln_8, ln_30, ln_31, ln_32, ln_33, ln_34, ln_35, ln_36, ln_37, ln_38, ln_39, ln_41, ln_42, ln_43, ln_44, ln_45, ln_46, ln_47, ln_48, ln_49, ln_50, ln_51, ln_52]
theorem r_thought_0 {d s : Nat} {S : e_H} (hS : q_ok S) (hs : s < 2) (hw : ¬ 0 < q_wt S (1 - s) (q_c S (1 - s))) : e_X e_pg (d + 7) 48 [.ref 0, .int (nI s)] S = some (some (.int (-3)), S) := by
  have sw := r_sumOfWeights (d := d + 4) hS (q_C.refl S) (a := nI (1 - s)) rfl (show 1 - s < 2 by omega)
  have e : q_wt S (1 - s) (q_c S (1 - s)) = 0 := by omega
  rw [e] at sw
  have hw1 : ¬ 1 ≤ nI 0 := by decide
  rw [xX3_thought]
  simp only [zX3_thought_0, zX3_thought_1, zX3_thought_4, zX3_thought_7, zX3_thought_9, zX3_thought_10, zX3_thought_11, zX3_thought_12, zX3_thought_13, zX3_thought_14, zX3_thought_17, zX3_thought_18, zX3_thought_19, zX3_thought_20, zX3_thought_23, zX3_thought_25, zX3_thought_26, zX3_thought_27, zX3_thought_30, zX3_thought_31, zX3_thought_34, zX3_thought_35, zX3_thought_36, zX3_thought_37, zX3_thought_38, zX3_thought_39, zX3_thought_42, zX3_thought_44, zX3_thought_45, r_isSide, p_side_yes hs, nI_1s hs, sw, hw1, ne_0_1, ne_0_2, ne_0_3, ne_1_0, ne_1_2, ne_1_3, ne_2_0, ne_2_1, ne_2_3, ne_3_0, ne_3_1, ne_3_2, not_false_eq_true, e_k_int, e_k_ref, e_k_null, e_k_long, e_k_ret, e_cats_nil, e_cats_int, e_cats_ref, e_cats_ret, e_cats_long, Option.toList_some, Option.toList_none, List.nil_append, List.cons_append, Option.bind_some, Nat.reduceAdd, Nat.reduceLeDiff, Nat.add_zero, if_true, if_false, true_and, and_true, and_self, Int32.reduceToNatClampNeg]
theorem r_thought_no {d : Nat} {S : e_H} {a : Int32} (h : ¬ ∃ s, s < 2 ∧ a = nI s) : e_X e_pg (d + 7) 48 [.ref 0, .int a] S = some (some (.int (-2)), S) := by
  rw [xX3_thought]
  simp only [zX3_thought_0, zX3_thought_1, zX3_thought_4, zX3_thought_7, zX3_thought_9, zX3_thought_10, zX3_thought_11, zX3_thought_12, zX3_thought_13, zX3_thought_14, zX3_thought_17, zX3_thought_18, zX3_thought_19, zX3_thought_20, zX3_thought_23, zX3_thought_25, zX3_thought_26, zX3_thought_27, zX3_thought_30, zX3_thought_31, zX3_thought_34, zX3_thought_35, zX3_thought_36, zX3_thought_37, zX3_thought_38, zX3_thought_39, zX3_thought_42, zX3_thought_44, zX3_thought_45, r_isSide, p_side_no h, not_true_eq_false, e_k_int, e_k_ref, e_k_null, e_k_long, e_k_ret, e_cats_nil, e_cats_int, e_cats_ref, e_cats_ret, e_cats_long, Option.toList_some, Option.toList_none, List.nil_append, List.cons_append, Option.bind_some, Nat.reduceAdd, Nat.reduceLeDiff, Nat.add_zero, if_true, if_false, true_and, and_true, and_self, Int32.reduceToNatClampNeg]
