/-! a new envoy, numbers, worth, the rule's text, the digest -/
theorem r_becomeLike {d i j : Nat} {h : e_H} (hi : i < 10) (hj : j < 10) : e_X e_pg (d + 1) 0 [.ref (i + 10), .ref (j + 10)] h = some (none, e_pI (e_cp h (j + 20) (i + 20) 9) (i + 20) 8 0) := by
  have n9 : ¬ (9 : Int32) < 0 := by decide
  rw [xX0_becomeLike]
  simp only [zX0_becomeLike_0, zX0_becomeLike_1, zX0_becomeLike_4, zX0_becomeLike_5, zX0_becomeLike_6, zX0_becomeLike_9, zX0_becomeLike_10, zX0_becomeLike_12, zX0_becomeLike_15, zX0_becomeLike_16, zX0_becomeLike_19, zX0_becomeLike_21, zX0_becomeLike_22, zX0_becomeLike_23, hi, hj, e_ok_N hi, e_ok_N hj, e_len_N hi, e_len_N hj, n9, not_false_eq_true, Nat.le_refl, e_k_int, e_k_ref, e_k_null, e_k_long, e_k_ret, e_cats_nil, e_cats_int, e_cats_ref, e_cats_ret, e_cats_long, Option.toList_some, Option.toList_none, List.nil_append, List.cons_append, Option.bind_some, Nat.reduceAdd, Nat.reduceLeDiff, Nat.add_zero, if_true, if_false, true_and, and_true, and_self, Int32.reduceToNatClampNeg, ib_0_9, ib_1_9, ib_2_9, ib_3_9, ib_4_9, ib_5_9, ib_6_9, ib_7_9, ib_8_9, ib_0_2, ib_1_2, ib_0_5, ib_1_5, ib_2_5, ib_3_5, ib_4_5, ib_0_25, ib_0_10, ib_5_10, ib_0_90, ib_45_90, ib_0_64]
def q_env (S : e_H) (s : Nat) : e_H := e_pI (e_cp (e_pI S 1 s (nI (q_c S s + 1))) (q_x s 0 + 20) (q_x s (q_c S s) + 20) 9) (q_x s (q_c S s) + 20) 8 0
theorem r_envoy {d s : Nat} {S : e_H} (hS : q_ok S) (hs : s < 2) (hc : q_c S s < 5) : e_X e_pg (d + 3) 32 [.ref 0, .int (nI s)] S = some (some (.int (nI (q_c S s))), q_env S s) := by
  have ec := (hS.c hs).1
  have hib : e_inb (nI s) 2 = true := e_inb_nI hs (by decide)
  have hcl : (nI s).toNatClampNeg = s := nI_clamp (by omega)
  have h5 : nI (q_c S s) < 5 := by rw [show (5 : Int32) = nI 5 from rfl]; exact nI_lt hc (by decide)
  rw [xX3_envoy]
  simp only [zX3_envoy_0, zX3_envoy_1, zX3_envoy_4, zX3_envoy_7, zX3_envoy_9, zX3_envoy_10, zX3_envoy_11, zX3_envoy_14, zX3_envoy_15, zX3_envoy_16, zX3_envoy_17, zX3_envoy_20, zX3_envoy_22, zX3_envoy_23, zX3_envoy_24, zX3_envoy_27, zX3_envoy_28, zX3_envoy_29, zX3_envoy_30, zX3_envoy_31, zX3_envoy_34, zX3_envoy_35, zX3_envoy_36, zX3_envoy_37, zX3_envoy_38, zX3_envoy_39, zX3_envoy_40, zX3_envoy_41, zX3_envoy_42, zX3_envoy_43, zX3_envoy_46, zX3_envoy_47, zX3_envoy_48, zX3_envoy_49, zX3_envoy_52, zX3_envoy_55, zX3_envoy_56, q_x_lt hs hc, q_x_lt hs (show 0 < 5 by decide), r_isSide, p_side_yes hs, hib, hcl, ec, h5, nI_1, r_eAt (s := s) (k := q_c S s) (a := nI s) (b := nI (q_c S s)) rfl rfl hs hc, r_eAt (s := s) (k := 0) (a := nI s) (b := 0) rfl rfl hs (by decide), r_becomeLike (q_x_lt hs hc) (q_x_lt hs (show 0 < 5 by decide)), q_env, ne_0_1, ne_0_2, ne_0_3, ne_1_0, ne_1_2, ne_1_3, ne_2_0, ne_2_1, ne_2_3, ne_3_0, ne_3_1, ne_3_2, not_false_eq_true, e_k_int, e_k_ref, e_k_null, e_k_long, e_k_ret, e_cats_nil, e_cats_int, e_cats_ref, e_cats_ret, e_cats_long, Option.toList_some, Option.toList_none, List.nil_append, List.cons_append, Option.bind_some, Nat.reduceAdd, Nat.reduceLeDiff, Nat.add_zero, if_true, if_false, true_and, and_true, and_self, Int32.reduceToNatClampNeg, ok_1, ok_2, ok_3, ok_4, ok_5, ok_6, ok_7, ok_8, ok_9, ok_30, ok_31, ok_32, ok_33, ok_34, ok_35, ok_36, ok_37, ok_38, ok_39, ok_40, ok_41, ok_42, ok_43, ok_44, ok_45, ok_46, ok_47, ok_48, ok_49, ok_50, ok_51, ok_52, ln_1, ln_2, ln_4, ln_5, ln_6, ln_7, ln_8, ln_30, ln_31, ln_32, ln_33, ln_34, ln_35, ln_36, ln_37, ln_38, ln_39, ln_41, ln_42, ln_43, ln_44, ln_45, ln_46, ln_47, ln_48, ln_49, ln_50, ln_51, ln_52]
theorem r_envoy_full {d s : Nat} {S : e_H} (hS : q_ok S) (hs : s < 2) (hc : ¬ q_c S s < 5) : e_X e_pg (d + 3) 32 [.ref 0, .int (nI s)] S = some (some (.int (-4)), S) := by
  have ec := (hS.c hs).1
  have cc := (hS.c hs).2
  have hib : e_inb (nI s) 2 = true := e_inb_nI hs (by decide)
  have hcl : (nI s).toNatClampNeg = s := nI_clamp (by omega)
  have h5 : ¬ nI (q_c S s) < 5 := by rw [show (5 : Int32) = nI 5 from rfl]; exact nI_nlt (by omega) (by omega)
  rw [xX3_envoy]
  simp only [zX3_envoy_0, zX3_envoy_1, zX3_envoy_4, zX3_envoy_7, zX3_envoy_9, zX3_envoy_10, zX3_envoy_11, zX3_envoy_14, zX3_envoy_15, zX3_envoy_16, zX3_envoy_17, zX3_envoy_20, zX3_envoy_22, zX3_envoy_23, zX3_envoy_24, zX3_envoy_27, zX3_envoy_28, zX3_envoy_29, zX3_envoy_30, zX3_envoy_31, zX3_envoy_34, zX3_envoy_35, zX3_envoy_36, zX3_envoy_37, zX3_envoy_38, zX3_envoy_39, zX3_envoy_40, zX3_envoy_41, zX3_envoy_42, zX3_envoy_43, zX3_envoy_46, zX3_envoy_47, zX3_envoy_48, zX3_envoy_49, zX3_envoy_52, zX3_envoy_55, zX3_envoy_56, r_isSide, p_side_yes hs, hib, hcl, ec, h5, ne_0_1, ne_0_2, ne_0_3, ne_1_0, ne_1_2, ne_1_3, ne_2_0, ne_2_1, ne_2_3, ne_3_0, ne_3_1, ne_3_2, not_false_eq_true, e_k_int, e_k_ref, e_k_null, e_k_long, e_k_ret, e_cats_nil, e_cats_int, e_cats_ref, e_cats_ret, e_cats_long, Option.toList_some, Option.toList_none, List.nil_append, List.cons_append, Option.bind_some, Nat.reduceAdd, Nat.reduceLeDiff, Nat.add_zero, if_true, if_false, true_and, and_true, and_self, Int32.reduceToNatClampNeg, ok_1, ok_2, ok_3, ok_4, ok_5, ok_6, ok_7, ok_8, ok_9, ok_30, ok_31, ok_32, ok_33, ok_34, ok_35, ok_36, ok_37, ok_38, ok_39, ok_40, ok_41, ok_42, ok_43, ok_44, ok_45, ok_46, ok_47, ok_48, ok_49, ok_50, ok_51, ok_52, ln_1, ln_2, ln_4, ln_5, ln_6, ln_7, ln_8, ln_30, ln_31, ln_32, ln_33, ln_34, ln_35, ln_36, ln_37, ln_38, ln_39, ln_41, ln_42, ln_43, ln_44, ln_45, ln_46, ln_47, ln_48, ln_49, ln_50, ln_51, ln_52]
theorem r_envoy_no {d : Nat} {S : e_H} {a : Int32} (h : ¬ ∃ s, s < 2 ∧ a = nI s) : e_X e_pg (d + 3) 32 [.ref 0, .int a] S = some (some (.int (-2)), S) := by
  rw [xX3_envoy]
  simp only [zX3_envoy_0, zX3_envoy_1, zX3_envoy_4, zX3_envoy_7, zX3_envoy_9, zX3_envoy_10, zX3_envoy_11, zX3_envoy_14, zX3_envoy_15, zX3_envoy_16, zX3_envoy_17, zX3_envoy_20, zX3_envoy_22, zX3_envoy_23, zX3_envoy_24, zX3_envoy_27, zX3_envoy_28, zX3_envoy_29, zX3_envoy_30, zX3_envoy_31, zX3_envoy_34, zX3_envoy_35, zX3_envoy_36, zX3_envoy_37, zX3_envoy_38, zX3_envoy_39, zX3_envoy_40, zX3_envoy_41, zX3_envoy_42, zX3_envoy_43, zX3_envoy_46, zX3_envoy_47, zX3_envoy_48, zX3_envoy_49, zX3_envoy_52, zX3_envoy_55, zX3_envoy_56, r_isSide, p_side_no h, not_true_eq_false, e_k_int, e_k_ref, e_k_null, e_k_long, e_k_ret, e_cats_nil, e_cats_int, e_cats_ref, e_cats_ret, e_cats_long, Option.toList_some, Option.toList_none, List.nil_append, List.cons_append, Option.bind_some, Nat.reduceAdd, Nat.reduceLeDiff, Nat.add_zero, if_true, if_false, true_and, and_true, and_self, Int32.reduceToNatClampNeg]
/-- a number that may be put -/
def q_num (what v : Int32) : Prop := ∃ w, w < 9 ∧ what = nI w ∧ ¬ v < e_lo w ∧ v ≤ e_hi w
theorem r_put {d s k w : Nat} {S : e_H} {v : Int32} (hS : q_ok S) (hs : s < 2) (hk : k < q_c S s) (hw : w < 9) (h1 : ¬ v < e_lo w) (h2 : v ≤ e_hi w) : e_X e_pg (d + 3) 33 [.ref 0, .int (nI s), .int (nI k), .int (nI w), .int v] S = some (some (.int (q_N S s k w)), e_pI S (q_x s k + 20) w v) := by
  have cs := (hS.c hs).2
  have hk5 : k < 5 := by omega
  have hx := q_x_lt hs hk5
  have hib : e_inb (nI w) 9 = true := e_inb_nI hw (by decide)
  have hcl : (nI w).toNatClampNeg = w := nI_clamp (by omega)
  have w1 : ¬ nI w < 0 := nI_pos (by omega)
  have w2 : ¬ 9 ≤ nI w := by rw [show (9 : Int32) = nI 9 from rfl]; exact nI_ge hw (by decide)
  rw [xX3_put]
  simp only [zX3_put_0, zX3_put_1, zX3_put_2, zX3_put_3, zX3_put_6, zX3_put_9, zX3_put_10, zX3_put_13, zX3_put_14, zX3_put_16, zX3_put_19, zX3_put_21, zX3_put_24, zX3_put_25, zX3_put_26, zX3_put_29, zX3_put_31, zX3_put_34, zX3_put_35, zX3_put_36, zX3_put_39, zX3_put_42, zX3_put_43, zX3_put_44, zX3_put_45, zX3_put_46, zX3_put_49, zX3_put_52, zX3_put_54, zX3_put_56, zX3_put_57, zX3_put_58, zX3_put_60, zX3_put_62, zX3_put_63, zX3_put_65, zX3_put_66, zX3_put_68, r_isEnvoy, p_isE_yes hS hs hk, w1, w2, hib, hcl, h1, h2, r_eAt (s := s) (k := k) (a := nI s) (b := nI k) rfl rfl hs hk5, hx, e_ok_N hx, e_len_N hx, q_N, ne_0_1, ne_0_2, ne_0_3, ne_1_0, ne_1_2, ne_1_3, ne_2_0, ne_2_1, ne_2_3, ne_3_0, ne_3_1, ne_3_2, e_k_int, e_k_ref, e_k_null, e_k_long, e_k_ret, e_cats_nil, e_cats_int, e_cats_ref, e_cats_ret, e_cats_long, Option.toList_some, Option.toList_none, List.nil_append, List.cons_append, Option.bind_some, Nat.reduceAdd, Nat.reduceLeDiff, Nat.add_zero, if_true, if_false, true_and, and_true, and_self, Int32.reduceToNatClampNeg]
theorem r_put_no {d : Nat} {S : e_H} {a b w v : Int32} (hS : q_ok S) (h : (¬ ∃ s k, s < 2 ∧ k < q_c S s ∧ a = nI s ∧ b = nI k) ∨ ¬ q_num w v) : e_X e_pg (d + 3) 33 [.ref 0, .int a, .int b, .int w, .int v] S = some (some (.int (-1000)), S) := by
  rw [xX3_put]
  by_cases c : p_isE (e_gI S 1) a b = 0
  · simp only [zX3_put_0, zX3_put_1, zX3_put_2, zX3_put_3, zX3_put_6, zX3_put_9, zX3_put_10, zX3_put_13, zX3_put_14, zX3_put_16, zX3_put_19, zX3_put_21, zX3_put_24, zX3_put_25, zX3_put_26, zX3_put_29, zX3_put_31, zX3_put_34, zX3_put_35, zX3_put_36, zX3_put_39, zX3_put_42, r_isEnvoy, c, e_k_int, e_k_ref, e_k_null, e_k_long, e_k_ret, e_cats_nil, e_cats_int, e_cats_ref, e_cats_ret, e_cats_long, Option.toList_some, Option.toList_none, List.nil_append, List.cons_append, Option.bind_some, Nat.reduceAdd, Nat.reduceLeDiff, Nat.add_zero, if_true, if_false, true_and, and_true, and_self, Int32.reduceToNatClampNeg]
  · have h : ¬ q_num w v := h.resolve_left (fun z => c (p_isE_no hS z))
    by_cases w1 : w < 0
    · simp only [zX3_put_0, zX3_put_1, zX3_put_2, zX3_put_3, zX3_put_6, zX3_put_9, zX3_put_10, zX3_put_13, zX3_put_14, zX3_put_16, zX3_put_19, zX3_put_21, zX3_put_24, zX3_put_25, zX3_put_26, zX3_put_29, zX3_put_31, zX3_put_34, zX3_put_35, zX3_put_36, zX3_put_39, zX3_put_42, r_isEnvoy, c, w1, e_k_int, e_k_ref, e_k_null, e_k_long, e_k_ret, e_cats_nil, e_cats_int, e_cats_ref, e_cats_ret, e_cats_long, Option.toList_some, Option.toList_none, List.nil_append, List.cons_append, Option.bind_some, Nat.reduceAdd, Nat.reduceLeDiff, Nat.add_zero, if_true, if_false, true_and, and_true, and_self, Int32.reduceToNatClampNeg]
    · obtain ⟨x, hx, rfl⟩ := nI_of w1
      by_cases w2 : 9 ≤ nI x
      · simp only [zX3_put_0, zX3_put_1, zX3_put_2, zX3_put_3, zX3_put_6, zX3_put_9, zX3_put_10, zX3_put_13, zX3_put_14, zX3_put_16, zX3_put_19, zX3_put_21, zX3_put_24, zX3_put_25, zX3_put_26, zX3_put_29, zX3_put_31, zX3_put_34, zX3_put_35, zX3_put_36, zX3_put_39, zX3_put_42, r_isEnvoy, c, w1, w2, e_k_int, e_k_ref, e_k_null, e_k_long, e_k_ret, e_cats_nil, e_cats_int, e_cats_ref, e_cats_ret, e_cats_long, Option.toList_some, Option.toList_none, List.nil_append, List.cons_append, Option.bind_some, Nat.reduceAdd, Nat.reduceLeDiff, Nat.add_zero, if_true, if_false, true_and, and_true, and_self, Int32.reduceToNatClampNeg]
      · have hw : x < 9 := Nat.not_le.mp (fun q => w2 (by rw [show (9 : Int32) = nI 9 from rfl]; exact nI_le q hx))
        have hib : e_inb (nI x) 9 = true := e_inb_nI hw (by decide)
        have hcl : (nI x).toNatClampNeg = x := nI_clamp (by omega)
        by_cases c1 : v < e_lo x
        · simp only [zX3_put_0, zX3_put_1, zX3_put_2, zX3_put_3, zX3_put_6, zX3_put_9, zX3_put_10, zX3_put_13, zX3_put_14, zX3_put_16, zX3_put_19, zX3_put_21, zX3_put_24, zX3_put_25, zX3_put_26, zX3_put_29, zX3_put_31, zX3_put_34, zX3_put_35, zX3_put_36, zX3_put_39, zX3_put_42, r_isEnvoy, c, w1, w2, hib, hcl, c1, e_k_int, e_k_ref, e_k_null, e_k_long, e_k_ret, e_cats_nil, e_cats_int, e_cats_ref, e_cats_ret, e_cats_long, Option.toList_some, Option.toList_none, List.nil_append, List.cons_append, Option.bind_some, Nat.reduceAdd, Nat.reduceLeDiff, Nat.add_zero, if_true, if_false, true_and, and_true, and_self, Int32.reduceToNatClampNeg]
        · have c2 : ¬ v ≤ e_hi x := fun z => h ⟨x, hw, rfl, c1, z⟩
          simp only [zX3_put_0, zX3_put_1, zX3_put_2, zX3_put_3, zX3_put_6, zX3_put_9, zX3_put_10, zX3_put_13, zX3_put_14, zX3_put_16, zX3_put_19, zX3_put_21, zX3_put_24, zX3_put_25, zX3_put_26, zX3_put_29, zX3_put_31, zX3_put_34, zX3_put_35, zX3_put_36, zX3_put_39, zX3_put_42, r_isEnvoy, c, w1, w2, hib, hcl, c1, c2, e_k_int, e_k_ref, e_k_null, e_k_long, e_k_ret, e_cats_nil, e_cats_int, e_cats_ref, e_cats_ret, e_cats_long, Option.toList_some, Option.toList_none, List.nil_append, List.cons_append, Option.bind_some, Nat.reduceAdd, Nat.reduceLeDiff, Nat.add_zero, if_true, if_false, true_and, and_true, and_self, Int32.reduceToNatClampNeg]
theorem r_worth {d s k x : Nat} {S : e_H} (hS : q_ok S) (hs : s < 2) (hk : k < q_c S s) (hx : x ≤ q_n S) : e_X e_pg (d + 3) 34 [.ref 0, .int (nI s), .int (nI k), .int (nI x)] S = some (some (.int (p_worth (q_N S s k) (nI x) (nI (q_n S)))), S) := by
  have cs := (hS.c hs).2
  have hn := hS.n
  have hn2 := hn.2
  have hk5 : k < 5 := by omega
  have hx5 := q_x_lt hs hk5
  have w1 : ¬ nI x < 0 := nI_pos (by omega)
  have w2 : nI x ≤ nI (q_n S) := nI_le hx (by omega)
  have wo := r_worthOf (d := d) (own := nI x) (wood := nI (q_n S)) (h := S) hx5
  rw [xX3_worth]
  simp only [zX3_worth_0, zX3_worth_1, zX3_worth_2, zX3_worth_3, zX3_worth_6, zX3_worth_9, zX3_worth_10, zX3_worth_13, zX3_worth_14, zX3_worth_15, zX3_worth_18, zX3_worth_21, zX3_worth_23, zX3_worth_24, zX3_worth_25, zX3_worth_26, zX3_worth_27, zX3_worth_30, zX3_worth_31, zX3_worth_32, zX3_worth_35, zX3_worth_38, hx5, r_isEnvoy, p_isE_yes hS hs hk, w1, hn.1, w2, r_eAt (s := s) (k := k) (a := nI s) (b := nI k) rfl rfl hs hk5, wo, q_N, ne_0_1, ne_0_2, ne_0_3, ne_1_0, ne_1_2, ne_1_3, ne_2_0, ne_2_1, ne_2_3, ne_3_0, ne_3_1, ne_3_2, e_k_int, e_k_ref, e_k_null, e_k_long, e_k_ret, e_cats_nil, e_cats_int, e_cats_ref, e_cats_ret, e_cats_long, Option.toList_some, Option.toList_none, List.nil_append, List.cons_append, Option.bind_some, Nat.reduceAdd, Nat.reduceLeDiff, Nat.add_zero, if_true, if_false, true_and, and_true, and_self, Int32.reduceToNatClampNeg]
def q_eo (S : e_H) (a b x : Int32) : Prop := ∃ s k y, s < 2 ∧ k < q_c S s ∧ y ≤ q_n S ∧ a = nI s ∧ b = nI k ∧ x = nI y
theorem q_eo_no {S : e_H} (hS : q_ok S) {a b x : Int32} (h : ¬ q_eo S a b x) (c : ¬ p_isE (e_gI S 1) a b = 0) (c1 : ¬ x < 0) : ¬ x ≤ nI (q_n S) := by
  have hn2 := hS.n.2
  intro q
  apply c
  obtain ⟨y, hy, rfl⟩ := nI_of c1
  refine p_isE_no hS ?_
  rintro ⟨s, k, g1, g2, rfl, rfl⟩
  rw [nI_leI hy (by omega)] at q
  exact h ⟨s, k, y, g1, g2, q, rfl, rfl, rfl⟩
theorem r_worth_no {d : Nat} {S : e_H} {a b x : Int32} (hS : q_ok S) (h : ¬ q_eo S a b x) : e_X e_pg (d + 3) 34 [.ref 0, .int a, .int b, .int x] S = some (some (.int (-100000)), S) := by
  rw [xX3_worth]
  by_cases c : p_isE (e_gI S 1) a b = 0
  · simp only [zX3_worth_0, zX3_worth_1, zX3_worth_2, zX3_worth_3, zX3_worth_6, zX3_worth_9, zX3_worth_10, zX3_worth_13, zX3_worth_14, zX3_worth_15, zX3_worth_18, zX3_worth_21, zX3_worth_23, r_isEnvoy, c, e_k_int, e_k_ref, e_k_null, e_k_long, e_k_ret, e_cats_nil, e_cats_int, e_cats_ref, e_cats_ret, e_cats_long, Option.toList_some, Option.toList_none, List.nil_append, List.cons_append, Option.bind_some, Nat.reduceAdd, Nat.reduceLeDiff, Nat.add_zero, if_true, if_false, true_and, and_true, and_self, Int32.reduceToNatClampNeg]
  · by_cases c1 : x < 0
    · simp only [zX3_worth_0, zX3_worth_1, zX3_worth_2, zX3_worth_3, zX3_worth_6, zX3_worth_9, zX3_worth_10, zX3_worth_13, zX3_worth_14, zX3_worth_15, zX3_worth_18, zX3_worth_21, zX3_worth_23, r_isEnvoy, c, c1, e_k_int, e_k_ref, e_k_null, e_k_long, e_k_ret, e_cats_nil, e_cats_int, e_cats_ref, e_cats_ret, e_cats_long, Option.toList_some, Option.toList_none, List.nil_append, List.cons_append, Option.bind_some, Nat.reduceAdd, Nat.reduceLeDiff, Nat.add_zero, if_true, if_false, true_and, and_true, and_self, Int32.reduceToNatClampNeg]
    · have c2 := q_eo_no hS h c c1
      simp only [zX3_worth_0, zX3_worth_1, zX3_worth_2, zX3_worth_3, zX3_worth_6, zX3_worth_9, zX3_worth_10, zX3_worth_13, zX3_worth_14, zX3_worth_15, zX3_worth_18, zX3_worth_21, zX3_worth_23, r_isEnvoy, c, c1, hS.n.1, c2, e_k_int, e_k_ref, e_k_null, e_k_long, e_k_ret, e_cats_nil, e_cats_int, e_cats_ref, e_cats_ret, e_cats_long, Option.toList_some, Option.toList_none, List.nil_append, List.cons_append, Option.bind_some, Nat.reduceAdd, Nat.reduceLeDiff, Nat.add_zero, if_true, if_false, true_and, and_true, and_self, Int32.reduceToNatClampNeg]
def q_tks (S : e_H) (s k x : Nat) : Int32 := p_acc (q_N S s k) (nI x) (p_worth (q_N S s k) (nI x) (nI (q_n S)) - q_N S s k 4)
theorem p_acc_01 (N : Nat → Int32) (a b : Int32) : p_acc N a b = 0 ∨ p_acc N a b = 1 := by
  unfold p_acc
  repeat' split
  all_goals simp
theorem r_takes {d s k x : Nat} {S : e_H} (hS : q_ok S) (hs : s < 2) (hk : k < q_c S s) (hx : x ≤ q_n S) : e_X e_pg (d + 4) 35 [.ref 0, .int (nI s), .int (nI k), .int (nI x)] S = some (some (.int (q_tks S s k x)), S) := by
  have cs := (hS.c hs).2
  have hn := hS.n
  have hn2 := hn.2
  have hk5 : k < 5 := by omega
  have hx5 := q_x_lt hs hk5
  have w1 : ¬ nI x < 0 := nI_pos (by omega)
  have w2 : nI x ≤ nI (q_n S) := nI_le hx (by omega)
  have gb := r_gainBy (d := d) (own := nI x) (wood := nI (q_n S)) (h := S) hx5
  have ac := r_accepts (d := d + 2) (own := nI x) (gain := p_worth (q_N S s k) (nI x) (nI (q_n S)) - q_N S s k 4) (h := S) hx5
  change _ = some (some (Value.int (p_worth (q_N S s k) (nI x) (nI (q_n S)) - q_N S s k 4)), S) at gb
  change _ = some (some (Value.int (q_tks S s k x)), S) at ac
  rw [xX3_takes]
  rcases p_acc_01 (q_N S s k) (nI x) (p_worth (q_N S s k) (nI x) (nI (q_n S)) - q_N S s k 4) with z | z
  · change q_tks S s k x = 0 at z
    simp only [zX3_takes_0, zX3_takes_1, zX3_takes_2, zX3_takes_3, zX3_takes_6, zX3_takes_9, zX3_takes_10, zX3_takes_13, zX3_takes_14, zX3_takes_15, zX3_takes_18, zX3_takes_21, zX3_takes_23, zX3_takes_24, zX3_takes_25, zX3_takes_26, zX3_takes_27, zX3_takes_30, zX3_takes_32, zX3_takes_34, zX3_takes_35, zX3_takes_37, zX3_takes_38, zX3_takes_39, zX3_takes_42, zX3_takes_45, zX3_takes_48, zX3_takes_51, zX3_takes_52, zX3_takes_55, zX3_takes_56, hx5, r_isEnvoy, p_isE_yes hS hs hk, w1, hn.1, w2, r_eAt (s := s) (k := k) (a := nI s) (b := nI k) rfl rfl hs hk5, gb, ac, z, ne_0_1, ne_0_2, ne_0_3, ne_1_0, ne_1_2, ne_1_3, ne_2_0, ne_2_1, ne_2_3, ne_3_0, ne_3_1, ne_3_2, e_k_int, e_k_ref, e_k_null, e_k_long, e_k_ret, e_cats_nil, e_cats_int, e_cats_ref, e_cats_ret, e_cats_long, Option.toList_some, Option.toList_none, List.nil_append, List.cons_append, Option.bind_some, Nat.reduceAdd, Nat.reduceLeDiff, Nat.add_zero, if_true, if_false, true_and, and_true, and_self, Int32.reduceToNatClampNeg]
  · change q_tks S s k x = 1 at z
    simp only [zX3_takes_0, zX3_takes_1, zX3_takes_2, zX3_takes_3, zX3_takes_6, zX3_takes_9, zX3_takes_10, zX3_takes_13, zX3_takes_14, zX3_takes_15, zX3_takes_18, zX3_takes_21, zX3_takes_23, zX3_takes_24, zX3_takes_25, zX3_takes_26, zX3_takes_27, zX3_takes_30, zX3_takes_32, zX3_takes_34, zX3_takes_35, zX3_takes_37, zX3_takes_38, zX3_takes_39, zX3_takes_42, zX3_takes_45, zX3_takes_48, zX3_takes_51, zX3_takes_52, zX3_takes_55, zX3_takes_56, hx5, r_isEnvoy, p_isE_yes hS hs hk, w1, hn.1, w2, r_eAt (s := s) (k := k) (a := nI s) (b := nI k) rfl rfl hs hk5, gb, ac, z, ne_0_1, ne_0_2, ne_0_3, ne_1_0, ne_1_2, ne_1_3, ne_2_0, ne_2_1, ne_2_3, ne_3_0, ne_3_1, ne_3_2, e_k_int, e_k_ref, e_k_null, e_k_long, e_k_ret, e_cats_nil, e_cats_int, e_cats_ref, e_cats_ret, e_cats_long, Option.toList_some, Option.toList_none, List.nil_append, List.cons_append, Option.bind_some, Nat.reduceAdd, Nat.reduceLeDiff, Nat.add_zero, if_true, if_false, true_and, and_true, and_self, Int32.reduceToNatClampNeg]
theorem r_takes_no {d : Nat} {S : e_H} {a b x : Int32} (hS : q_ok S) (h : ¬ q_eo S a b x) : e_X e_pg (d + 4) 35 [.ref 0, .int a, .int b, .int x] S = some (some (.int (-2)), S) := by
  rw [xX3_takes]
  by_cases c : p_isE (e_gI S 1) a b = 0
  · simp only [zX3_takes_0, zX3_takes_1, zX3_takes_2, zX3_takes_3, zX3_takes_6, zX3_takes_9, zX3_takes_10, zX3_takes_13, zX3_takes_14, zX3_takes_15, zX3_takes_18, zX3_takes_21, zX3_takes_23, r_isEnvoy, c, e_k_int, e_k_ref, e_k_null, e_k_long, e_k_ret, e_cats_nil, e_cats_int, e_cats_ref, e_cats_ret, e_cats_long, Option.toList_some, Option.toList_none, List.nil_append, List.cons_append, Option.bind_some, Nat.reduceAdd, Nat.reduceLeDiff, Nat.add_zero, if_true, if_false, true_and, and_true, and_self, Int32.reduceToNatClampNeg]
  · by_cases c1 : x < 0
    · simp only [zX3_takes_0, zX3_takes_1, zX3_takes_2, zX3_takes_3, zX3_takes_6, zX3_takes_9, zX3_takes_10, zX3_takes_13, zX3_takes_14, zX3_takes_15, zX3_takes_18, zX3_takes_21, zX3_takes_23, r_isEnvoy, c, c1, e_k_int, e_k_ref, e_k_null, e_k_long, e_k_ret, e_cats_nil, e_cats_int, e_cats_ref, e_cats_ret, e_cats_long, Option.toList_some, Option.toList_none, List.nil_append, List.cons_append, Option.bind_some, Nat.reduceAdd, Nat.reduceLeDiff, Nat.add_zero, if_true, if_false, true_and, and_true, and_self, Int32.reduceToNatClampNeg]
    · have c2 := q_eo_no hS h c c1
      simp only [zX3_takes_0, zX3_takes_1, zX3_takes_2, zX3_takes_3, zX3_takes_6, zX3_takes_9, zX3_takes_10, zX3_takes_13, zX3_takes_14, zX3_takes_15, zX3_takes_18, zX3_takes_21, zX3_takes_23, r_isEnvoy, c, c1, hS.n.1, c2, e_k_int, e_k_ref, e_k_null, e_k_long, e_k_ret, e_cats_nil, e_cats_int, e_cats_ref, e_cats_ret, e_cats_long, Option.toList_some, Option.toList_none, List.nil_append, List.cons_append, Option.bind_some, Nat.reduceAdd, Nat.reduceLeDiff, Nat.add_zero, if_true, if_false, true_and, and_true, and_self, Int32.reduceToNatClampNeg]
/-! the rule's text -/
theorem c_P_rule {T : Nat → Int32} {n : Nat} {h g : e_H} {s : c_S} (hn : n ≤ 40) (hT : ∀ k, k < n → 0 ≤ (T k).toInt ∧ (T k).toInt < 128) (hs : s = c_comp T n) (p : c_P T n h g s) : q_rule g := by
  obtain ⟨p1, p2, p3, p4, p5, p6, p7, p8, p9⟩ := p
  have e4 : e_gI g 4 = T := funext p9
  have eL : q_L g = n := by unfold q_L; rw [p1]; exact nI_clamp (by omega)
  have eZ : q_Z g = s.2.2.length := by unfold q_Z; rw [p5]; exact nI_clamp (by omega)
  unfold q_rule
  rw [eL, e4, ← hs, eZ]
  exact ⟨⟨p1, Nat.zero_le _, hn⟩, hT, p2, ⟨p5, Nat.zero_le _, p6⟩, rfl, p7⟩
theorem q_ok_rule {A B : e_H} (h : ∀ o, o < 40 → o ≠ 3 → o ≠ 4 → o ≠ 5 → o ≠ 6 → e_gI B o = e_gI A o) (hr : q_rule B) (hA : q_ok A) : q_ok B := by
  have h0 := h 0 (by decide) (by decide) (by decide) (by decide) (by decide)
  have h1 := h 1 (by decide) (by decide) (by decide) (by decide) (by decide)
  obtain ⟨a1, a2, a3, a4, a5, a6, a7, a8, a9⟩ := hA
  refine ⟨?_, ?_, ?_, ?_, ?_, fun s hs => ?_, fun s k hs hk => ?_, fun s k hs hk => ?_, hr⟩
  · unfold q_n; rw [h0]; exact a1
  · unfold q_way; rw [h0]; exact a2
  · unfold q_R; rw [h0]; exact a3
  · unfold q_a q_b; rw [h0]; exact a4
  · unfold q_b; rw [h0]; exact a5
  · unfold q_c; rw [h1]; exact a6 s hs
  · have := q_x_lt hs hk
    unfold q_N
    rw [h _ (by omega) (by omega) (by omega) (by omega) (by omega)]
    exact a7 s k hs hk
  · have := q_x_lt hs hk
    unfold q_W
    rw [h _ (by omega) (by omega) (by omega) (by omega) (by omega)]
    exact a8 s k hs hk
/-- the text is another -/
def q_txt (S f : e_H) (n : Nat) (T : Nat → Int32) : Prop := q_ok f ∧ e_fr [3, 4, 5, 6] S f ∧ e_gI f 3 0 = nI n ∧ ∀ k, e_gI f 4 k = T k
theorem q_txt_of {S g f : e_H} {n : Nat} {T : Nat → Int32} (hS : q_ok S) (hn : n ≤ 40) (hT : ∀ k, k < n → 0 ≤ (T k).toInt ∧ (T k).toInt < 128) (hg : e_fr [3, 4] S g) (p : c_P T n g f (c_comp T n)) : q_txt S f n T := by
  have fr : e_fr [3, 4, 5, 6] S f := (hg.mono (fun o ho => by simp at ho ⊢; omega)).trans (p.2.2.2.2.2.2.2.1.mono (fun o ho => by simp at ho ⊢; omega))
  refine ⟨q_ok_rule (A := S) (fun o _ h3 h4 h5 h6 => fr.I (by simp; omega)) (c_P_rule hn hT rfl p) hS, fr, p.1, p.2.2.2.2.2.2.2.2⟩
theorem r_write {d : Nat} {S : e_H} {c : Int32} (hS : q_ok S) (h1 : ¬ c < 0) (h2 : c ≤ 127) (hL : q_L S < 40) : ∃ f, e_X e_pg (d + 249) 38 [.ref 0, .int c] S = some (some (.int (nI (q_L S + 1))), f) ∧ q_txt S f (q_L S + 1) (fun k => if k = q_L S then c else e_gI S 4 k) := by
  have hr := hS.rule
  have hib : e_inb (nI (q_L S)) 40 = true := e_inb_nI hL (by decide)
  have hcl : (nI (q_L S)).toNatClampNeg = q_L S := nI_clamp (by omega)
  have l1 : nI (q_L S) < 40 := by rw [show (40 : Int32) = nI 40 from rfl]; exact nI_lt hL (by decide)
  have l2 : ¬ 40 ≤ nI (q_L S) := by rw [show (40 : Int32) = nI 40 from rfl]; exact nI_ge hL (by decide)
  have hT : ∀ k, k < q_L S + 1 → 0 ≤ ((fun k => if k = q_L S then c else e_gI S 4 k) k).toInt ∧ ((fun k => if k = q_L S then c else e_gI S 4 k) k).toInt < 128 := by
    intro k hk
    show 0 ≤ (if k = q_L S then c else e_gI S 4 k).toInt ∧ (if k = q_L S then c else e_gI S 4 k).toInt < 128
    split
    · rw [Int32.lt_iff_toInt_lt, ti_0] at h1
      rw [Int32.le_iff_toInt_le, show (127 : Int32).toInt = 127 from rfl] at h2
      omega
    · exact hr.2.1 k (by omega)
  obtain ⟨f, a1, a2⟩ := r_compile (d := d) (n := q_L S + 1) (by omega) hT (g := e_pI (e_pI S 4 (q_L S) c) 3 0 (nI (q_L S + 1))) (by simp [e_gI_pI]) (fun k => by simp [e_gI_pI])
  have tx := q_txt_of hS (by omega) hT (((e_fr.refl [3, 4] S).pI (by simp)).pI (by simp)) a2
  refine ⟨f, ?_, tx⟩
  have ap : e_X e_pg (d + 248) 15 [.ref 3, .int c] S = some (none, f) := by
    rw [xX2_append]
    simp only [zX2_append_0, zX2_append_1, zX2_append_4, zX2_append_6, zX2_append_9, zX2_append_10, zX2_append_13, zX2_append_14, zX2_append_17, zX2_append_18, zX2_append_19, zX2_append_20, zX2_append_21, zX2_append_24, zX2_append_25, zX2_append_26, zX2_append_29, zX2_append_30, zX2_append_33, hr.1.1, l2, hib, hcl, e_gI_pI, Nat.reduceEqDiff, false_and, nI_1, a1, e_k_int, e_k_ref, e_k_null, e_k_long, e_k_ret, e_cats_nil, e_cats_int, e_cats_ref, e_cats_ret, e_cats_long, Option.toList_some, Option.toList_none, List.nil_append, List.cons_append, Option.bind_some, Nat.reduceAdd, Nat.reduceLeDiff, Nat.add_zero, if_true, if_false, true_and, and_true, and_self, Int32.reduceToNatClampNeg, ok_1, ok_2, ok_3, ok_4, ok_5, ok_6, ok_7, ok_8, ok_9, ok_30, ok_31, ok_32, ok_33, ok_34, ok_35, ok_36, ok_37, ok_38, ok_39, ok_40, ok_41, ok_42, ok_43, ok_44, ok_45, ok_46, ok_47, ok_48, ok_49, ok_50, ok_51, ok_52, ln_1, ln_2, ln_4, ln_5, ln_6, ln_7, ln_8, ln_30, ln_31, ln_32, ln_33, ln_34, ln_35, ln_36, ln_37, ln_38, ln_39, ln_41, ln_42, ln_43, ln_44, ln_45, ln_46, ln_47, ln_48, ln_49, ln_50, ln_51, ln_52]
  rw [xX3_write]
  simp only [zX3_write_0, zX3_write_1, zX3_write_4, zX3_write_5, zX3_write_7, zX3_write_10, zX3_write_12, zX3_write_13, zX3_write_14, zX3_write_17, zX3_write_20, zX3_write_22, zX3_write_25, zX3_write_27, zX3_write_28, zX3_write_29, zX3_write_32, zX3_write_33, zX3_write_36, zX3_write_37, zX3_write_40, zX3_write_43, h1, h2, hr.1.1, l1, ap, tx.2.2.1, e_k_int, e_k_ref, e_k_null, e_k_long, e_k_ret, e_cats_nil, e_cats_int, e_cats_ref, e_cats_ret, e_cats_long, Option.toList_some, Option.toList_none, List.nil_append, List.cons_append, Option.bind_some, Nat.reduceAdd, Nat.reduceLeDiff, Nat.add_zero, if_true, if_false, true_and, and_true, and_self, Int32.reduceToNatClampNeg]
theorem r_write_full {d : Nat} {S : e_H} {c : Int32} (hS : q_ok S) (h1 : ¬ c < 0) (h2 : c ≤ 127) (hL : ¬ q_L S < 40) : e_X e_pg (d + 249) 38 [.ref 0, .int c] S = some (some (.int (-4)), S) := by
  have hr := hS.rule.1
  have hr2 := hr.2
  have l1 : ¬ nI (q_L S) < 40 := by rw [show (40 : Int32) = nI 40 from rfl]; exact nI_nlt (by omega) (by omega)
  rw [xX3_write]
  simp only [zX3_write_0, zX3_write_1, zX3_write_4, zX3_write_5, zX3_write_7, zX3_write_10, zX3_write_12, zX3_write_13, zX3_write_14, zX3_write_17, zX3_write_20, zX3_write_22, zX3_write_25, zX3_write_27, h1, h2, hr.1, l1, e_k_int, e_k_ref, e_k_null, e_k_long, e_k_ret, e_cats_nil, e_cats_int, e_cats_ref, e_cats_ret, e_cats_long, Option.toList_some, Option.toList_none, List.nil_append, List.cons_append, Option.bind_some, Nat.reduceAdd, Nat.reduceLeDiff, Nat.add_zero, if_true, if_false, true_and, and_true, and_self, Int32.reduceToNatClampNeg]
theorem r_write_no {d : Nat} {S : e_H} {c : Int32} (h : c < 0 ∨ ¬ c ≤ 127) : e_X e_pg (d + 249) 38 [.ref 0, .int c] S = some (some (.int (-2)), S) := by
  rw [xX3_write]
  by_cases c1 : c < 0
  · simp only [zX3_write_0, zX3_write_1, zX3_write_4, zX3_write_5, zX3_write_7, zX3_write_10, zX3_write_12, zX3_write_13, zX3_write_14, zX3_write_17, zX3_write_20, zX3_write_22, zX3_write_25, zX3_write_27, c1, e_k_int, e_k_ref, e_k_null, e_k_long, e_k_ret, e_cats_nil, e_cats_int, e_cats_ref, e_cats_ret, e_cats_long, Option.toList_some, Option.toList_none, List.nil_append, List.cons_append, Option.bind_some, Nat.reduceAdd, Nat.reduceLeDiff, Nat.add_zero, if_true, if_false, true_and, and_true, and_self, Int32.reduceToNatClampNeg]
  · simp only [zX3_write_0, zX3_write_1, zX3_write_4, zX3_write_5, zX3_write_7, zX3_write_10, zX3_write_12, zX3_write_13, zX3_write_14, zX3_write_17, zX3_write_20, zX3_write_22, zX3_write_25, zX3_write_27, c1, h.resolve_left c1, e_k_int, e_k_ref, e_k_null, e_k_long, e_k_ret, e_cats_nil, e_cats_int, e_cats_ref, e_cats_ret, e_cats_long, Option.toList_some, Option.toList_none, List.nil_append, List.cons_append, Option.bind_some, Nat.reduceAdd, Nat.reduceLeDiff, Nat.add_zero, if_true, if_false, true_and, and_true, and_self, Int32.reduceToNatClampNeg]
theorem r_erase {d : Nat} {S : e_H} (hS : q_ok S) : ∃ f, e_X e_pg (d + 249) 39 [.ref 0] S = some (some (.int (nI (q_L S))), f) ∧ q_txt S f 0 (e_gI S 4) := by
  have hr := hS.rule
  obtain ⟨f, a1, a2⟩ := r_compile (d := d) (n := 0) (T := e_gI S 4) (by omega) (fun k hk => by omega) (g := e_pI S 3 0 0) (by simp [e_gI_pI]; rfl) (fun k => by simp [e_gI_pI])
  have tx := q_txt_of hS (by omega) (fun k hk => by omega) ((e_fr.refl [3, 4] S).pI (by simp)) a2
  refine ⟨f, ?_, tx⟩
  have ap : e_X e_pg (d + 248) 16 [.ref 3] S = some (none, f) := by
    rw [xX2_clear]
    simp only [zX2_clear_0, zX2_clear_1, zX2_clear_2, zX2_clear_5, zX2_clear_6, zX2_clear_9, a1, e_k_int, e_k_ref, e_k_null, e_k_long, e_k_ret, e_cats_nil, e_cats_int, e_cats_ref, e_cats_ret, e_cats_long, Option.toList_some, Option.toList_none, List.nil_append, List.cons_append, Option.bind_some, Nat.reduceAdd, Nat.reduceLeDiff, Nat.add_zero, if_true, if_false, true_and, and_true, and_self, Int32.reduceToNatClampNeg]
  rw [xX3_erase]
  simp only [zX3_erase_0, zX3_erase_1, zX3_erase_4, zX3_erase_7, zX3_erase_8, zX3_erase_9, zX3_erase_12, zX3_erase_15, zX3_erase_16, hr.1.1, ap, e_k_int, e_k_ref, e_k_null, e_k_long, e_k_ret, e_cats_nil, e_cats_int, e_cats_ref, e_cats_ret, e_cats_long, Option.toList_some, Option.toList_none, List.nil_append, List.cons_append, Option.bind_some, Nat.reduceAdd, Nat.reduceLeDiff, Nat.add_zero, if_true, if_false, true_and, and_true, and_self, Int32.reduceToNatClampNeg]
theorem r_fault {d : Nat} {S : e_H} : e_X e_pg (d + 1) 40 [.ref 0] S = some (some (.int (e_gI S 3 1)), S) := by
  rw [xX3_fault]
  simp only [zX3_fault_0, zX3_fault_1, zX3_fault_4, zX3_fault_7, e_k_int, e_k_ref, e_k_null, e_k_long, e_k_ret, e_cats_nil, e_cats_int, e_cats_ref, e_cats_ret, e_cats_long, Option.toList_some, Option.toList_none, List.nil_append, List.cons_append, Option.bind_some, Nat.reduceAdd, Nat.reduceLeDiff, Nat.add_zero, if_true, if_false, true_and, and_true, and_self, Int32.reduceToNatClampNeg]
/-! the digest -/
def q_dn (N : Nat → Int32) (h : Int64) : Nat → Int64
  | 0 => h
  | w + 1 => 31 * q_dn N h w + (N w).toInt64
def q_de (S : e_H) (s : Nat) (h : Int64) : Nat → Int64
  | 0 => h
  | k + 1 => 31 * q_dn (q_N S s k) (q_de S s h k) 9 + (nI (q_W S s k)).toInt64
def q_d1 (S : e_H) : Int64 := 31 * (31 * (14353 + (nI (q_n S)).toInt64) + (nI (q_c S 0)).toInt64) + (nI (q_c S 1)).toInt64
def q_d2 (S : e_H) : Nat → Int64
  | 0 => q_d1 S
  | k + 1 => q_de S k (q_d2 S k) (q_c S k)
def q_d3 (S : e_H) : Int64 := 31 * (31 * (31 * (31 * (31 * (31 * q_d2 S 2 + (e_gI S 0 7).toInt64) + (nI (q_R S)).toInt64) + (e_gI S 0 9).toInt64) + (nI (q_a S)).toInt64) + (nI (q_b S)).toInt64) + (nI (q_L S)).toInt64
def q_dig (S : e_H) : Int64 := 31 * (31 * q_dn (e_gI S 4) (q_d3 S) (q_L S) + e_gJ S 0 12) + e_gJ S 0 13
theorem r_mix0 {d s k : Nat} {S : e_H} {v : Int64} (hS : q_ok S) (hs : s < 2) (hk : k < 5) : e_X e_pg (d + 1) 5 [.ref (q_x s k + 10), .long v] S = some (some (.long (31 * q_dn (q_N S s k) v 9 + (nI (q_W S s k)).toInt64)), S) := by
  have hx := q_x_lt hs hk
  have eW := (hS.W hs hk).1
  rw [xX0_mixInto]
  simp only [zX0_mixInto_0, zX0_mixInto_1, zX0_mixInto_2, zX0_mixInto_3, e_k_int, e_k_ref, e_k_null, e_k_long, e_k_ret, e_cats_nil, e_cats_int, e_cats_ref, e_cats_ret, e_cats_long, Option.toList_some, Option.toList_none, List.nil_append, List.cons_append, Option.bind_some, Nat.reduceAdd, Nat.reduceLeDiff, Nat.add_zero, if_true, if_false, true_and, and_true, and_self, Int32.reduceToNatClampNeg]
  obtain ⟨ls2, f, e, ⟨rfl⟩, rfl⟩ := f_lp (cd := kX0_mixInto) (O := e_X e_pg d) (pc := 5) (fun w ls h => ls = [.ref (q_x s k + 10), .long v, .null, .long (q_dn (q_N S s k) v w), .null, .int (nI w)] ∧ h = S) (Nat.zero_le 9) (by
    rintro w ls h - hw ⟨rfl, rfl⟩
    have hc : ¬ 9 ≤ nI w := by rw [show (9 : Int32) = nI 9 from rfl]; exact nI_ge hw (by decide)
    have hib : e_inb (nI w) 9 = true := e_inb_nI hw (by decide)
    have hcl : (nI w).toNatClampNeg = w := nI_clamp (by omega)
    rw [zX0_mixInto_5]
    simp only [zX0_mixInto_7, zX0_mixInto_9, zX0_mixInto_12, zX0_mixInto_15, zX0_mixInto_16, zX0_mixInto_17, zX0_mixInto_18, zX0_mixInto_21, zX0_mixInto_23, zX0_mixInto_24, zX0_mixInto_25, zX0_mixInto_26, zX0_mixInto_27, zX0_mixInto_30, hc, hx, e_ok_N hx, e_len_N hx, hib, hcl, nI_1, e_k_int, e_k_ref, e_k_null, e_k_long, e_k_ret, e_cats_nil, e_cats_int, e_cats_ref, e_cats_ret, e_cats_long, Option.toList_some, Option.toList_none, List.nil_append, List.cons_append, Option.bind_some, Nat.reduceAdd, Nat.reduceLeDiff, Nat.add_zero, if_true, if_false, true_and, and_true, and_self, Int32.reduceToNatClampNeg]
    exact ⟨_, _, rfl, rfl, rfl⟩) (ls := [.ref (q_x s k + 10), .long v, .null, .long v, .null, .int 0]) (h := S) ⟨rfl, rfl⟩
  have hc : (9 : Int32) ≤ nI 9 := by decide
  rw [e, zX0_mixInto_5]
  simp only [zX0_mixInto_7, zX0_mixInto_9, zX0_mixInto_12, zX0_mixInto_15, zX0_mixInto_16, zX0_mixInto_17, zX0_mixInto_18, zX0_mixInto_21, zX0_mixInto_23, zX0_mixInto_24, zX0_mixInto_25, zX0_mixInto_26, zX0_mixInto_27, zX0_mixInto_30, zX0_mixInto_33, zX0_mixInto_36, zX0_mixInto_37, zX0_mixInto_38, zX0_mixInto_39, zX0_mixInto_42, zX0_mixInto_43, zX0_mixInto_44, hc, hx, eW, e_k_int, e_k_ref, e_k_null, e_k_long, e_k_ret, e_cats_nil, e_cats_int, e_cats_ref, e_cats_ret, e_cats_long, Option.toList_some, Option.toList_none, List.nil_append, List.cons_append, Option.bind_some, Nat.reduceAdd, Nat.reduceLeDiff, Nat.add_zero, if_true, if_false, true_and, and_true, and_self, Int32.reduceToNatClampNeg]
theorem r_mix2 {d : Nat} {S : e_H} {v : Int64} (hS : q_ok S) : e_X e_pg (d + 1) 17 [.ref 3, .long v] S = some (some (.long (q_dn (e_gI S 4) (31 * v + (nI (q_L S)).toInt64) (q_L S))), S) := by
  have hr := hS.rule.1
  have hr2 := hr.2
  rw [xX2_mixInto]
  simp only [zX2_mixInto_0, zX2_mixInto_3, zX2_mixInto_4, zX2_mixInto_5, zX2_mixInto_6, zX2_mixInto_9, zX2_mixInto_10, zX2_mixInto_11, zX2_mixInto_12, zX2_mixInto_13, hr.1, e_k_int, e_k_ref, e_k_null, e_k_long, e_k_ret, e_cats_nil, e_cats_int, e_cats_ref, e_cats_ret, e_cats_long, Option.toList_some, Option.toList_none, List.nil_append, List.cons_append, Option.bind_some, Nat.reduceAdd, Nat.reduceLeDiff, Nat.add_zero, if_true, if_false, true_and, and_true, and_self, Int32.reduceToNatClampNeg]
  obtain ⟨ls2, f, e, ⟨rfl⟩, rfl⟩ := f_lp (cd := kX2_mixInto) (O := e_X e_pg d) (pc := 15) (fun w ls h => ls = [.ref 3, .long v, .null, .long (q_dn (e_gI S 4) (31 * v + (nI (q_L S)).toInt64) w), .null, .int (nI w)] ∧ h = S) (Nat.zero_le (q_L S)) (by
    rintro w ls h - hw ⟨rfl, rfl⟩
    have hc : ¬ nI (q_L h) ≤ nI w := nI_ge hw (by omega)
    have hib : e_inb (nI w) 40 = true := e_inb_nI (by omega) (by decide)
    have hcl : (nI w).toNatClampNeg = w := nI_clamp (by omega)
    rw [zX2_mixInto_15]
    simp only [zX2_mixInto_17, zX2_mixInto_18, zX2_mixInto_21, zX2_mixInto_24, zX2_mixInto_27, zX2_mixInto_28, zX2_mixInto_29, zX2_mixInto_30, zX2_mixInto_33, zX2_mixInto_35, zX2_mixInto_36, zX2_mixInto_37, zX2_mixInto_38, zX2_mixInto_39, zX2_mixInto_42, hr.1, hc, hib, hcl, nI_1, e_k_int, e_k_ref, e_k_null, e_k_long, e_k_ret, e_cats_nil, e_cats_int, e_cats_ref, e_cats_ret, e_cats_long, Option.toList_some, Option.toList_none, List.nil_append, List.cons_append, Option.bind_some, Nat.reduceAdd, Nat.reduceLeDiff, Nat.add_zero, if_true, if_false, true_and, and_true, and_self, Int32.reduceToNatClampNeg, ok_1, ok_2, ok_3, ok_4, ok_5, ok_6, ok_7, ok_8, ok_9, ok_30, ok_31, ok_32, ok_33, ok_34, ok_35, ok_36, ok_37, ok_38, ok_39, ok_40, ok_41, ok_42, ok_43, ok_44, ok_45, ok_46, ok_47, ok_48, ok_49, ok_50, ok_51, ok_52, ln_1, ln_2, ln_4, ln_5, ln_6, ln_7, ln_8, ln_30, ln_31, ln_32, ln_33, ln_34, ln_35, ln_36, ln_37, ln_38, ln_39, ln_41, ln_42, ln_43, ln_44, ln_45, ln_46, ln_47, ln_48, ln_49, ln_50, ln_51, ln_52]
    exact ⟨_, _, rfl, rfl, rfl⟩) (ls := [.ref 3, .long v, .null, .long (31 * v + (nI (q_L S)).toInt64), .null, .int 0]) (h := S) ⟨rfl, rfl⟩
  have hc : nI (q_L f) ≤ nI (q_L f) := nI_le (Nat.le_refl _) (by omega)
  rw [e, zX2_mixInto_15]
  simp only [zX2_mixInto_17, zX2_mixInto_18, zX2_mixInto_21, zX2_mixInto_24, zX2_mixInto_27, zX2_mixInto_28, zX2_mixInto_29, zX2_mixInto_30, zX2_mixInto_33, zX2_mixInto_35, zX2_mixInto_36, zX2_mixInto_37, zX2_mixInto_38, zX2_mixInto_39, zX2_mixInto_42, zX2_mixInto_45, zX2_mixInto_46, hr.1, hc, e_k_int, e_k_ref, e_k_null, e_k_long, e_k_ret, e_cats_nil, e_cats_int, e_cats_ref, e_cats_ret, e_cats_long, Option.toList_some, Option.toList_none, List.nil_append, List.cons_append, Option.bind_some, Nat.reduceAdd, Nat.reduceLeDiff, Nat.add_zero, if_true, if_false, true_and, and_true, and_self, Int32.reduceToNatClampNeg]
set_option maxRecDepth 100000 in
theorem r_digest {d : Nat} {S : e_H} (hS : q_ok S) : e_X e_pg (d + 2) 57 [.ref 0] S = some (some (.long (q_dig S)), S) := by
  have c0 := (hS.c (show 0 < 2 by decide)).1
  have c1 := (hS.c (show 1 < 2 by decide)).1
  have k0 : (31 : Int64) * 463 = 14353 := by decide
  rw [xX3_digest]
  simp only [zX3_digest_0, zX3_digest_3, zX3_digest_4, zX3_digest_7, zX3_digest_8, zX3_digest_9, zX3_digest_10, zX3_digest_13, zX3_digest_14, zX3_digest_15, zX3_digest_16, zX3_digest_19, zX3_digest_20, zX3_digest_21, zX3_digest_22, zX3_digest_25, zX3_digest_26, zX3_digest_27, zX3_digest_28, zX3_digest_29, zX3_digest_30, zX3_digest_33, zX3_digest_34, zX3_digest_35, zX3_digest_36, zX3_digest_39, zX3_digest_40, zX3_digest_41, zX3_digest_42, zX3_digest_43, zX3_digest_44, zX3_digest_45, hS.n.1, c0, c1, k0, e_k_int, e_k_ref, e_k_null, e_k_long, e_k_ret, e_cats_nil, e_cats_int, e_cats_ref, e_cats_ret, e_cats_long, Option.toList_some, Option.toList_none, List.nil_append, List.cons_append, Option.bind_some, Nat.reduceAdd, Nat.reduceLeDiff, Nat.add_zero, if_true, if_false, true_and, and_true, and_self, Int32.reduceToNatClampNeg, ok_1, ok_2, ok_3, ok_4, ok_5, ok_6, ok_7, ok_8, ok_9, ok_30, ok_31, ok_32, ok_33, ok_34, ok_35, ok_36, ok_37, ok_38, ok_39, ok_40, ok_41, ok_42, ok_43, ok_44, ok_45, ok_46, ok_47, ok_48, ok_49, ok_50, ok_51, ok_52, ln_1, ln_2, ln_4, ln_5, ln_6, ln_7, ln_8, ln_30, ln_31, ln_32, ln_33, ln_34, ln_35, ln_36, ln_37, ln_38, ln_39, ln_41, ln_42, ln_43, ln_44, ln_45, ln_46, ln_47, ln_48, ln_49, ln_50, ln_51, ln_52, ib_0_9, ib_1_9, ib_2_9, ib_3_9, ib_4_9, ib_5_9, ib_6_9, ib_7_9, ib_8_9, ib_0_2, ib_1_2, ib_0_5, ib_1_5, ib_2_5, ib_3_5, ib_4_5, ib_0_25, ib_0_10, ib_5_10, ib_0_90, ib_45_90, ib_0_64]
  obtain ⟨ls2, f, e, ⟨v, rfl⟩, rfl⟩ := f_lp (cd := kX3_digest) (O := e_X e_pg (d + 1)) (pc := 46) (fun s ls h => (∃ v, ls = [.ref 0, .long (q_d2 S s), .null, .int (nI s), v]) ∧ h = S) (Nat.zero_le 2) (by
    rintro s ls h - hs ⟨⟨v, rfl⟩, rfl⟩
    have hc : ¬ 2 ≤ nI s := by rw [show (2 : Int32) = nI 2 from rfl]; exact nI_ge hs (by decide)
    have cc := (hS.c hs).2
    have ec := (hS.c hs).1
    have hib : e_inb (nI s) 2 = true := e_inb_nI hs (by decide)
    have hcl : (nI s).toNatClampNeg = s := nI_clamp (by omega)
    rw [zX3_digest_46]
    simp only [zX3_digest_47, zX3_digest_48, zX3_digest_51, zX3_digest_52, hc, e_k_int, e_k_ref, e_k_null, e_k_long, e_k_ret, e_cats_nil, e_cats_int, e_cats_ref, e_cats_ret, e_cats_long, Option.toList_some, Option.toList_none, List.nil_append, List.cons_append, Option.bind_some, Nat.reduceAdd, Nat.reduceLeDiff, Nat.add_zero, if_true, if_false, true_and, and_true, and_self, Int32.reduceToNatClampNeg]
    obtain ⟨ls2, f, e, ⟨rfl⟩, rfl⟩ := f_lp (cd := kX3_digest) (O := e_X e_pg (d + 1)) (pc := 54) (fun k ls g => ls = [.ref 0, .long (q_de h s (q_d2 h s) k), .null, .int (nI s), .int (nI k)] ∧ g = h) (Nat.zero_le (q_c h s)) (by
      rintro k ls g - hk ⟨rfl, rfl⟩
      have hc : ¬ nI (q_c g s) ≤ nI k := nI_ge hk (by omega)
      have mx := r_mix0 (d := d) (v := q_de g s (q_d2 g s) k) hS hs (show k < 5 by omega)
      rw [zX3_digest_54]
      simp only [zX3_digest_56, zX3_digest_57, zX3_digest_60, zX3_digest_61, zX3_digest_62, zX3_digest_65, zX3_digest_66, zX3_digest_67, zX3_digest_69, zX3_digest_72, zX3_digest_73, zX3_digest_76, zX3_digest_77, zX3_digest_80, q_x_lt hs (show k < 5 by omega), ec, hc, hib, hcl, r_eAt (s := s) (k := k) (a := nI s) (b := nI k) rfl rfl hs (show k < 5 by omega), mx, nI_1, e_k_int, e_k_ref, e_k_null, e_k_long, e_k_ret, e_cats_nil, e_cats_int, e_cats_ref, e_cats_ret, e_cats_long, Option.toList_some, Option.toList_none, List.nil_append, List.cons_append, Option.bind_some, Nat.reduceAdd, Nat.reduceLeDiff, Nat.add_zero, if_true, if_false, true_and, and_true, and_self, Int32.reduceToNatClampNeg, ok_1, ok_2, ok_3, ok_4, ok_5, ok_6, ok_7, ok_8, ok_9, ok_30, ok_31, ok_32, ok_33, ok_34, ok_35, ok_36, ok_37, ok_38, ok_39, ok_40, ok_41, ok_42, ok_43, ok_44, ok_45, ok_46, ok_47, ok_48, ok_49, ok_50, ok_51, ok_52, ln_1, ln_2, ln_4, ln_5, ln_6, ln_7, ln_8, ln_30, ln_31, ln_32, ln_33, ln_34, ln_35, ln_36, ln_37, ln_38, ln_39, ln_41, ln_42, ln_43, ln_44, ln_45, ln_46, ln_47, ln_48, ln_49, ln_50, ln_51, ln_52]
      exact ⟨_, _, rfl, rfl, rfl⟩) (ls := [.ref 0, .long (q_d2 h s), .null, .int (nI s), .int 0]) (h := h) ⟨rfl, rfl⟩
    have hc2 : nI (q_c f s) ≤ nI (q_c f s) := nI_le (Nat.le_refl _) (by omega)
    rw [e, zX3_digest_54]
    simp only [zX3_digest_56, zX3_digest_57, zX3_digest_60, zX3_digest_61, zX3_digest_62, zX3_digest_65, zX3_digest_66, zX3_digest_67, zX3_digest_69, zX3_digest_72, zX3_digest_73, zX3_digest_76, zX3_digest_77, zX3_digest_80, zX3_digest_83, zX3_digest_86, ec, hc2, hib, hcl, nI_1, e_k_int, e_k_ref, e_k_null, e_k_long, e_k_ret, e_cats_nil, e_cats_int, e_cats_ref, e_cats_ret, e_cats_long, Option.toList_some, Option.toList_none, List.nil_append, List.cons_append, Option.bind_some, Nat.reduceAdd, Nat.reduceLeDiff, Nat.add_zero, if_true, if_false, true_and, and_true, and_self, Int32.reduceToNatClampNeg, ok_1, ok_2, ok_3, ok_4, ok_5, ok_6, ok_7, ok_8, ok_9, ok_30, ok_31, ok_32, ok_33, ok_34, ok_35, ok_36, ok_37, ok_38, ok_39, ok_40, ok_41, ok_42, ok_43, ok_44, ok_45, ok_46, ok_47, ok_48, ok_49, ok_50, ok_51, ok_52, ln_1, ln_2, ln_4, ln_5, ln_6, ln_7, ln_8, ln_30, ln_31, ln_32, ln_33, ln_34, ln_35, ln_36, ln_37, ln_38, ln_39, ln_41, ln_42, ln_43, ln_44, ln_45, ln_46, ln_47, ln_48, ln_49, ln_50, ln_51, ln_52]
    exact ⟨_, _, rfl, ⟨_, rfl⟩, rfl⟩) (ls := [.ref 0, .long (31 * (31 * (14353 + (nI (q_n S)).toInt64) + (nI (q_c S 0)).toInt64) + (nI (q_c S 1)).toInt64), .null, .int 0, .null]) (h := S) ⟨⟨_, rfl⟩, rfl⟩
  have hc : (2 : Int32) ≤ nI 2 := by decide
  have mx := fun v => r_mix2 (d := d) (v := v) hS
  rw [e, zX3_digest_46]
  simp only [zX3_digest_47, zX3_digest_48, zX3_digest_51, zX3_digest_52, zX3_digest_89, zX3_digest_92, zX3_digest_93, zX3_digest_94, zX3_digest_95, zX3_digest_98, zX3_digest_99, zX3_digest_100, zX3_digest_101, zX3_digest_104, zX3_digest_105, zX3_digest_106, zX3_digest_107, zX3_digest_110, zX3_digest_111, zX3_digest_112, zX3_digest_113, zX3_digest_116, zX3_digest_117, zX3_digest_118, zX3_digest_119, zX3_digest_122, zX3_digest_123, zX3_digest_124, zX3_digest_125, zX3_digest_128, zX3_digest_129, zX3_digest_130, zX3_digest_131, zX3_digest_134, zX3_digest_135, zX3_digest_136, zX3_digest_137, zX3_digest_140, zX3_digest_141, zX3_digest_142, zX3_digest_143, zX3_digest_146, zX3_digest_147, zX3_digest_148, zX3_digest_149, zX3_digest_150, zX3_digest_153, zX3_digest_154, zX3_digest_157, zX3_digest_158, zX3_digest_161, zX3_digest_162, zX3_digest_163, zX3_digest_164, zX3_digest_167, zX3_digest_168, zX3_digest_169, zX3_digest_172, zX3_digest_173, zX3_digest_174, zX3_digest_175, zX3_digest_178, zX3_digest_179, hc, hS.R.1, hS.a.1, hS.b.1, mx, q_dig, q_d3, e_k_int, e_k_ref, e_k_null, e_k_long, e_k_ret, e_cats_nil, e_cats_int, e_cats_ref, e_cats_ret, e_cats_long, Option.toList_some, Option.toList_none, List.nil_append, List.cons_append, Option.bind_some, Nat.reduceAdd, Nat.reduceLeDiff, Nat.add_zero, if_true, if_false, true_and, and_true, and_self, Int32.reduceToNatClampNeg, ok_1, ok_2, ok_3, ok_4, ok_5, ok_6, ok_7, ok_8, ok_9, ok_30, ok_31, ok_32, ok_33, ok_34, ok_35, ok_36, ok_37, ok_38, ok_39, ok_40, ok_41, ok_42, ok_43, ok_44, ok_45, ok_46, ok_47, ok_48, ok_49, ok_50, ok_51, ok_52, ln_1, ln_2, ln_4, ln_5, ln_6, ln_7, ln_8, ln_30, ln_31, ln_32, ln_33, ln_34, ln_35, ln_36, ln_37, ln_38, ln_39, ln_41, ln_42, ln_43, ln_44, ln_45, ln_46, ln_47, ln_48, ln_49, ln_50, ln_51, ln_52, ib_0_9, ib_1_9, ib_2_9, ib_3_9, ib_4_9, ib_5_9, ib_6_9, ib_7_9, ib_8_9, ib_0_2, ib_1_2, ib_0_5, ib_1_5, ib_2_5, ib_3_5, ib_4_5, ib_0_25, ib_0_10, ib_5_10, ib_0_90, ib_45_90, ib_0_64]
