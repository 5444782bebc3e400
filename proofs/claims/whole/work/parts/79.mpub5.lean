/-! the model: the least change -/
theorem q_at0 {s : Nat} : 45 * nI s + 0 = nI (9 * q_x s 0) := by
  rw [show (45 : Int32) = nI 45 from rfl, show (0 : Int32) = nI 0 from rfl, pk_mul, nI_add]
  congr 1
  unfold q_x
  omega
set_option maxRecDepth 100000 in
theorem r_M_edge {d s : Nat} {S h : e_H} (hS : q_ok S) (hl : q_sl S) (hM : q_M S h) (hs : s < 2) : ∃ f, e_X e_pg (d + 11) 143 [.ref 40, .int (nI s)] h = some (some (.int (q_edge S s)), f) ∧ q_M S f ∧ e_fr q_lM h f := by
  have hx := q_x_lt hs (show 0 < 5 by decide)
  obtain ⟨f1, a1, a2⟩ := r_M_restOf (d := d) (what := 0) hS hM
  have b0 : e_inb (nI (9 * q_x s 0)) 90 = true := e_inb_nI (by omega) (by decide)
  have l0 : (nI (9 * q_x s 0)).toNatClampNeg = 9 * q_x s 0 := nI_clamp (by omega)
  have n0 := (hM.mf a2).N hs (show 0 < 5 by decide) (show 0 < 9 by decide)
  rw [Nat.add_zero] at n0
  have z0 : ∀ x : Int32, x + nI 0 = x := fun x => by rw [show nI 0 = (0 : Int32) from rfl]; grind
  have e0 : q_eS S s 0 = S := by unfold q_eS q_N; rw [z0, e_pI_self]
  have put : ∀ (t u : Nat) (g : e_H), q_M (q_eS S s t) g → q_M (q_eS S s u) (e_pI g 41 (9 * q_x s 0) (q_N S s 0 0 + nI u)) := fun t u g m => by
    unfold q_eS at m ⊢
    have := m.putN (q_c5_pI (by omega) hS.c5) hs (show 0 < 5 by decide) (w := 0) (by decide) (q_N S s 0 0 + nI u)
    rw [e_pI_pI] at this
    exact this
  have back : ∀ (t : Nat) (g : e_H), q_M (q_eS S s t) g → q_M S (e_pI g 41 (9 * q_x s 0) (q_N S s 0 0)) := fun t g m => by
    have := put t 0 g m
    rw [e0, z0] at this
    exact this
  rw [xX4_edge]
  simp only [zX4_edge_0, zX4_edge_1, zX4_edge_4, zX4_edge_7, zX4_edge_9, zX4_edge_10, zX4_edge_11, zX4_edge_12, zX4_edge_15, zX4_edge_16, zX4_edge_17, zX4_edge_20, zX4_edge_22, zX4_edge_23, zX4_edge_24, zX4_edge_25, zX4_edge_26, zX4_edge_27, zX4_edge_28, zX4_edge_29, zX4_edge_31, zX4_edge_32, r_M_isSide, p_side_yes hs, a1, q_at0, b0, l0, n0, ne_0_1, ne_0_2, ne_0_3, ne_1_0, ne_1_2, ne_1_3, ne_2_0, ne_2_1, ne_2_3, ne_3_0, ne_3_1, ne_3_2, not_false_eq_true, e_k_int, e_k_ref, e_k_null, e_k_long, e_k_ret, e_cats_nil, e_cats_int, e_cats_ref, e_cats_ret, e_cats_long, Option.toList_some, Option.toList_none, List.nil_append, List.cons_append, Option.bind_some, Nat.reduceAdd, Nat.reduceLeDiff, Nat.add_zero, if_true, if_false, true_and, and_true, and_self, Int32.reduceToNatClampNeg, ok_1, ok_2, ok_3, ok_4, ok_5, ok_6, ok_7, ok_8, ok_9, ok_30, ok_31, ok_32, ok_33, ok_34, ok_35, ok_36, ok_37, ok_38, ok_39, ok_40, ok_41, ok_42, ok_43, ok_44, ok_45, ok_46, ok_47, ok_48, ok_49, ok_50, ok_51, ok_52, ln_1, ln_2, ln_4, ln_5, ln_6, ln_7, ln_8, ln_30, ln_31, ln_32, ln_33, ln_34, ln_35, ln_36, ln_37, ln_38, ln_39, ln_41, ln_42, ln_43, ln_44, ln_45, ln_46, ln_47, ln_48, ln_49, ln_50, ln_51, ln_52]
  have fin : ∀ (k : Nat) (g : e_H) (a : Int32), q_M (q_eS S s k) g → e_fr q_lM h g → ∃ f, e_F kX4_edge (e_X e_pg (d + 10)) 85 [.ref 40, .int (nI s), .int (q_rest S 0), .int (q_N S s 0 0), .int a, .int (nI (k + 1))] [] g = some (some (.int a), f) ∧ q_M S f ∧ e_fr q_lM h f := by
    intro k g a hC hF
    refine ⟨_, ?_, back k g hC, hF.pI (by simp)⟩
    simp only [zX4_edge_85, zX4_edge_86, zX4_edge_89, zX4_edge_91, zX4_edge_92, zX4_edge_93, zX4_edge_94, zX4_edge_95, zX4_edge_96, zX4_edge_97, zX4_edge_99, q_at0, b0, l0, e_k_int, e_k_ref, e_k_null, e_k_long, e_k_ret, e_cats_nil, e_cats_int, e_cats_ref, e_cats_ret, e_cats_long, Option.toList_some, Option.toList_none, List.nil_append, List.cons_append, Option.bind_some, Nat.reduceAdd, Nat.reduceLeDiff, Nat.add_zero, if_true, if_false, true_and, and_true, and_self, Int32.reduceToNatClampNeg, ok_1, ok_2, ok_3, ok_4, ok_5, ok_6, ok_7, ok_8, ok_9, ok_30, ok_31, ok_32, ok_33, ok_34, ok_35, ok_36, ok_37, ok_38, ok_39, ok_40, ok_41, ok_42, ok_43, ok_44, ok_45, ok_46, ok_47, ok_48, ok_49, ok_50, ok_51, ok_52, ln_1, ln_2, ln_4, ln_5, ln_6, ln_7, ln_8, ln_30, ln_31, ln_32, ln_33, ln_34, ln_35, ln_36, ln_37, ln_38, ln_39, ln_41, ln_42, ln_43, ln_44, ln_45, ln_46, ln_47, ln_48, ln_49, ln_50, ln_51, ln_52]
  refine f_lq (cd := kX4_edge) (O := e_X e_pg (d + 10)) (pc := 34) (fun k ls g => ls = [.ref 40, .int (nI s), .int (q_rest S 0), .int (q_N S s 0 0), .int (q_edg (fun t => q_rest (q_eS S s t) 0) (q_rest S 0) k), .int (nI (k + 1))] ∧ q_M (q_eS S s k) g ∧ e_fr q_lM h g) (fun x => ∃ f, x = some (some (.int (q_edge S s)), f) ∧ q_M S f ∧ e_fr q_lM h f) (Nat.zero_le 30) ?_ ?_ (ls := [.ref 40, .int (nI s), .int (q_rest S 0), .int (q_N S s 0 0), .int (-1), .int 1]) (h := f1) ⟨rfl, by rw [e0]; exact hM.mf a2, a2.fr⟩
  · rintro k ls g - hk ⟨rfl, hC, hF⟩
    have hc : ¬ 30 < nI (k + 1) := by rw [show (30 : Int32) = nI 30 from rfl]; exact nI_nlt (by omega) (by omega)
    rw [zX4_edge_34]
    by_cases ca : q_edg (fun t => q_rest (q_eS S s t) 0) (q_rest S 0) k = -1
    · right
      have hS3 := q_eS_ok hS hl hs (show k + 1 ≤ 30 by omega)
      have hC3 := put k (k + 1) g hC
      obtain ⟨g2, c1, c2⟩ := r_M_restOf (d := d) (what := 0) hS3 hC3
      have nx : q_edg (fun t => q_rest (q_eS S s t) 0) (q_rest S 0) (k + 1) = if q_rest (q_eS S s (k + 1)) 0 = q_rest S 0 then -1 else nI (k + 1) := by
        show (if q_edg (fun t => q_rest (q_eS S s t) 0) (q_rest S 0) k = -1 then _ else _) = _
        rw [if_pos ca]
      have hF3 : e_fr q_lM h g2 := (hF.pI (by simp)).trans c2.fr
      by_cases cr : q_rest (q_eS S s (k + 1)) 0 = q_rest S 0
      · rw [if_pos cr] at nx
        simp only [zX4_edge_36, zX4_edge_38, zX4_edge_41, zX4_edge_43, zX4_edge_44, zX4_edge_47, zX4_edge_48, zX4_edge_51, zX4_edge_53, zX4_edge_54, zX4_edge_55, zX4_edge_56, zX4_edge_57, zX4_edge_58, zX4_edge_60, zX4_edge_61, zX4_edge_62, zX4_edge_63, zX4_edge_64, zX4_edge_67, zX4_edge_68, zX4_edge_71, zX4_edge_72, zX4_edge_75, zX4_edge_77, zX4_edge_79, zX4_edge_82, hc, ca, q_at0, b0, l0, c1, cr, nI_1, not_true_eq_false, e_k_int, e_k_ref, e_k_null, e_k_long, e_k_ret, e_cats_nil, e_cats_int, e_cats_ref, e_cats_ret, e_cats_long, Option.toList_some, Option.toList_none, List.nil_append, List.cons_append, Option.bind_some, Nat.reduceAdd, Nat.reduceLeDiff, Nat.add_zero, if_true, if_false, true_and, and_true, and_self, Int32.reduceToNatClampNeg, ok_1, ok_2, ok_3, ok_4, ok_5, ok_6, ok_7, ok_8, ok_9, ok_30, ok_31, ok_32, ok_33, ok_34, ok_35, ok_36, ok_37, ok_38, ok_39, ok_40, ok_41, ok_42, ok_43, ok_44, ok_45, ok_46, ok_47, ok_48, ok_49, ok_50, ok_51, ok_52, ln_1, ln_2, ln_4, ln_5, ln_6, ln_7, ln_8, ln_30, ln_31, ln_32, ln_33, ln_34, ln_35, ln_36, ln_37, ln_38, ln_39, ln_41, ln_42, ln_43, ln_44, ln_45, ln_46, ln_47, ln_48, ln_49, ln_50, ln_51, ln_52]
        exact ⟨_, _, rfl, by rw [nx], hC3.mf c2, hF3⟩
      · rw [if_neg cr] at nx
        simp only [zX4_edge_36, zX4_edge_38, zX4_edge_41, zX4_edge_43, zX4_edge_44, zX4_edge_47, zX4_edge_48, zX4_edge_51, zX4_edge_53, zX4_edge_54, zX4_edge_55, zX4_edge_56, zX4_edge_57, zX4_edge_58, zX4_edge_60, zX4_edge_61, zX4_edge_62, zX4_edge_63, zX4_edge_64, zX4_edge_67, zX4_edge_68, zX4_edge_71, zX4_edge_72, zX4_edge_75, zX4_edge_77, zX4_edge_79, zX4_edge_82, hc, ca, q_at0, b0, l0, c1, cr, nI_1, not_true_eq_false, not_false_eq_true, e_k_int, e_k_ref, e_k_null, e_k_long, e_k_ret, e_cats_nil, e_cats_int, e_cats_ref, e_cats_ret, e_cats_long, Option.toList_some, Option.toList_none, List.nil_append, List.cons_append, Option.bind_some, Nat.reduceAdd, Nat.reduceLeDiff, Nat.add_zero, if_true, if_false, true_and, and_true, and_self, Int32.reduceToNatClampNeg, ok_1, ok_2, ok_3, ok_4, ok_5, ok_6, ok_7, ok_8, ok_9, ok_30, ok_31, ok_32, ok_33, ok_34, ok_35, ok_36, ok_37, ok_38, ok_39, ok_40, ok_41, ok_42, ok_43, ok_44, ok_45, ok_46, ok_47, ok_48, ok_49, ok_50, ok_51, ok_52, ln_1, ln_2, ln_4, ln_5, ln_6, ln_7, ln_8, ln_30, ln_31, ln_32, ln_33, ln_34, ln_35, ln_36, ln_37, ln_38, ln_39, ln_41, ln_42, ln_43, ln_44, ln_45, ln_46, ln_47, ln_48, ln_49, ln_50, ln_51, ln_52]
        exact ⟨_, _, rfl, by rw [nx], hC3.mf c2, hF3⟩
    · left
      have q : q_edge S s = q_edg (fun t => q_rest (q_eS S s t) 0) (q_rest S 0) k := q_edg_stay (by omega) ca
      rw [q]
      simp only [zX4_edge_36, zX4_edge_38, zX4_edge_41, zX4_edge_43, zX4_edge_44, hc, ca, not_false_eq_true, e_k_int, e_k_ref, e_k_null, e_k_long, e_k_ret, e_cats_nil, e_cats_int, e_cats_ref, e_cats_ret, e_cats_long, Option.toList_some, Option.toList_none, List.nil_append, List.cons_append, Option.bind_some, Nat.reduceAdd, Nat.reduceLeDiff, Nat.add_zero, if_true, if_false, true_and, and_true, and_self, Int32.reduceToNatClampNeg]
      exact fin k g _ hC hF
  · rintro ls g ⟨rfl, hC, hF⟩
    have hc : (30 : Int32) < nI (30 + 1) := by decide
    rw [zX4_edge_34]
    simp only [zX4_edge_36, zX4_edge_38, hc, e_k_int, e_k_ref, e_k_null, e_k_long, e_k_ret, e_cats_nil, e_cats_int, e_cats_ref, e_cats_ret, e_cats_long, Option.toList_some, Option.toList_none, List.nil_append, List.cons_append, Option.bind_some, Nat.reduceAdd, Nat.reduceLeDiff, Nat.add_zero, if_true, if_false, true_and, and_true, and_self, Int32.reduceToNatClampNeg]
    exact fin 30 g _ hC hF
theorem r_M_edge_no {d : Nat} {S : e_H} {a : Int32} (h : ¬ ∃ s, s < 2 ∧ a = nI s) : e_X e_pg (d + 11) 143 [.ref 40, .int a] S = some (some (.int (-2)), S) := by
  rw [xX4_edge]
  simp only [zX4_edge_0, zX4_edge_1, zX4_edge_4, zX4_edge_7, zX4_edge_9, r_M_isSide, p_side_no h, not_true_eq_false, e_k_int, e_k_ref, e_k_null, e_k_long, e_k_ret, e_cats_nil, e_cats_int, e_cats_ref, e_cats_ret, e_cats_long, Option.toList_some, Option.toList_none, List.nil_append, List.cons_append, Option.bind_some, Nat.reduceAdd, Nat.reduceLeDiff, Nat.add_zero, if_true, if_false, true_and, and_true, and_self, Int32.reduceToNatClampNeg]
/-! committees -/
theorem r_M_sit {d a : Nat} {S h : e_H} {v j : Int32} {a4 a5 : Value} (hS : q_ok S) (hM : q_M S h) (ha : a < 32) : e_F kX4_committee (e_X e_pg d) 32 [.ref 40, .int (nI a), .int v, .int j, a4, a5, .null, .null] [] h = e_F kX4_committee (e_X e_pg d) 66 [.ref 40, .int (nI a), .int v, .int j, .int (nI (q_pc a (q_c S 0))), .int (nI (q_c S 0)), .null, .null] [] h := by
  have c0 := (hS.c (show 0 < 2 by decide)).2
  have e0 := hM.c hS (show 0 < 2 by decide)
  simp only [zX4_committee_32, zX4_committee_33, zX4_committee_35, zX4_committee_36, e_k_int, e_k_ref, e_k_null, e_k_long, e_k_ret, e_cats_nil, e_cats_int, e_cats_ref, e_cats_ret, e_cats_long, Option.toList_some, Option.toList_none, List.nil_append, List.cons_append, Option.bind_some, Nat.reduceAdd, Nat.reduceLeDiff, Nat.add_zero, if_true, if_false, true_and, and_true, and_self, Int32.reduceToNatClampNeg]
  obtain ⟨ls2, f, e, rfl, rfl⟩ := f_lp (cd := kX4_committee) (O := e_X e_pg d) (pc := 38) (fun k ls g => ls = [.ref 40, .int (nI a), .int v, .int j, .int (nI (q_pc a k)), .int (nI k), .null, .null] ∧ g = h) (Nat.zero_le (q_c S 0)) (by
    rintro k ls g - hk ⟨rfl, rfl⟩
    have hc : ¬ nI (q_c S 0) ≤ nI k := nI_ge hk (by omega)
    rw [zX4_committee_38]
    simp only [zX4_committee_40, zX4_committee_41, zX4_committee_44, zX4_committee_45, zX4_committee_46, zX4_committee_49, zX4_committee_51, zX4_committee_52, zX4_committee_54, zX4_committee_55, zX4_committee_56, zX4_committee_57, zX4_committee_58, zX4_committee_60, zX4_committee_63, e0, hc, q_bit ha (show k < 5 by omega), nI_add, nI_1, e_k_int, e_k_ref, e_k_null, e_k_long, e_k_ret, e_cats_nil, e_cats_int, e_cats_ref, e_cats_ret, e_cats_long, Option.toList_some, Option.toList_none, List.nil_append, List.cons_append, Option.bind_some, Nat.reduceAdd, Nat.reduceLeDiff, Nat.add_zero, if_true, if_false, true_and, and_true, and_self, Int32.reduceToNatClampNeg, ok_1, ok_2, ok_3, ok_4, ok_5, ok_6, ok_7, ok_8, ok_9, ok_30, ok_31, ok_32, ok_33, ok_34, ok_35, ok_36, ok_37, ok_38, ok_39, ok_40, ok_41, ok_42, ok_43, ok_44, ok_45, ok_46, ok_47, ok_48, ok_49, ok_50, ok_51, ok_52, ln_1, ln_2, ln_4, ln_5, ln_6, ln_7, ln_8, ln_30, ln_31, ln_32, ln_33, ln_34, ln_35, ln_36, ln_37, ln_38, ln_39, ln_41, ln_42, ln_43, ln_44, ln_45, ln_46, ln_47, ln_48, ln_49, ln_50, ln_51, ln_52, ib_0_9, ib_1_9, ib_2_9, ib_3_9, ib_4_9, ib_5_9, ib_6_9, ib_7_9, ib_8_9, ib_0_2, ib_1_2, ib_0_5, ib_1_5, ib_2_5, ib_3_5, ib_4_5, ib_0_25, ib_0_10, ib_5_10, ib_0_90, ib_45_90, ib_0_64]
    exact ⟨_, _, rfl, rfl, rfl⟩) (ls := [.ref 40, .int (nI a), .int v, .int j, .int 0, .int 0, .null, .null]) (h := h) ⟨rfl, rfl⟩
  have hc : nI (q_c S 0) ≤ nI (q_c S 0) := nI_le (Nat.le_refl _) (by omega)
  rw [e, zX4_committee_38]
  simp only [zX4_committee_40, zX4_committee_41, zX4_committee_44, zX4_committee_45, zX4_committee_46, e0, hc, e_k_int, e_k_ref, e_k_null, e_k_long, e_k_ret, e_cats_nil, e_cats_int, e_cats_ref, e_cats_ret, e_cats_long, Option.toList_some, Option.toList_none, List.nil_append, List.cons_append, Option.bind_some, Nat.reduceAdd, Nat.reduceLeDiff, Nat.add_zero, if_true, if_false, true_and, and_true, and_self, Int32.reduceToNatClampNeg, ok_1, ok_2, ok_3, ok_4, ok_5, ok_6, ok_7, ok_8, ok_9, ok_30, ok_31, ok_32, ok_33, ok_34, ok_35, ok_36, ok_37, ok_38, ok_39, ok_40, ok_41, ok_42, ok_43, ok_44, ok_45, ok_46, ok_47, ok_48, ok_49, ok_50, ok_51, ok_52, ln_1, ln_2, ln_4, ln_5, ln_6, ln_7, ln_8, ln_30, ln_31, ln_32, ln_33, ln_34, ln_35, ln_36, ln_37, ln_38, ln_39, ln_41, ln_42, ln_43, ln_44, ln_45, ln_46, ln_47, ln_48, ln_49, ln_50, ln_51, ln_52, ib_0_9, ib_1_9, ib_2_9, ib_3_9, ib_4_9, ib_5_9, ib_6_9, ib_7_9, ib_8_9, ib_0_2, ib_1_2, ib_0_5, ib_1_5, ib_2_5, ib_3_5, ib_4_5, ib_0_25, ib_0_10, ib_5_10, ib_0_90, ib_45_90, ib_0_64]
set_option maxRecDepth 100000 in
theorem r_M_committee {d a v j : Nat} {S h : e_H} (hS : q_ok S) (hM : q_M S h) (hk : q_cok S a v j) : ∃ f, e_X e_pg (d + 7) 140 [.ref 40, .int (nI a), .int (nI v), .int (nI j)] h = some (some (.int (q_com S a v j)), f) ∧ q_mr h f := by
  obtain ⟨k1, k2, k3, k4, k5⟩ := hk
  have c0 := (hS.c (show 0 < 2 by decide)).2
  have c1 := (hS.c (show 1 < 2 by decide)).2
  have e0 := hM.c hS (show 0 < 2 by decide)
  have hn := hS.n
  have hn2 := hn.2
  have p32 := pow_le32 c0.2
  have hj5 : j < 5 := by omega
  have pl := q_pc_le a (q_c S 0)
  have pp : 1 ≤ 2 ^ q_c S 0 := Nat.one_le_two_pow
  have psub : nI (2 ^ q_c S 0) - 1 = nI (2 ^ q_c S 0 - 1) := pk_sub (b := 1) pp
  have u1 : ¬ nI a < 1 := by rw [show (1 : Int32) = nI 1 from rfl]; exact nI_nlt k1 (by omega)
  have u2 : ¬ nI (2 ^ q_c S 0 - 1) < nI a := nI_nlt (by omega) (by omega)
  have u3 : ¬ nI v < 1 := by rw [show (1 : Int32) = nI 1 from rfl]; exact nI_nlt k3 (by omega)
  have u4 : ¬ nI (q_pc a (q_c S 0)) < nI v := nI_nlt k4 (by omega)
  have ie := p_isE_yes hS (show 1 < 2 by decide) k5
  rw [show nI 1 = (1 : Int32) from rfl] at ie
  obtain ⟨g, s1, s2, s3⟩ := r_M_lay (d := d + 1) (i := 0) (a := 0) (b := nI j) hS hM rfl rfl (by decide) hj5
  have hMg := hM.mf (q_mr_seat s2)
  rw [xX4_committee]
  simp only [zX4_committee_0, zX4_committee_1, zX4_committee_2, zX4_committee_3, zX4_committee_4, zX4_committee_5, zX4_committee_8, zX4_committee_9, zX4_committee_10, zX4_committee_11, zX4_committee_12, zX4_committee_13, zX4_committee_14, zX4_committee_17, zX4_committee_20, zX4_committee_21, zX4_committee_22, zX4_committee_23, zX4_committee_26, zX4_committee_29, zX4_committee_31, e0, q_shl c0.2, psub, r_in32 (v := nI a) (k := 1) (m := nI (2 ^ q_c S 0 - 1)) (a := 1) (b := (nI (2 ^ q_c S 0 - 1)).toInt64) rfl rfl, u1, u2, r_M_isMan hS hM, ie, ne_0_1, ne_0_2, ne_0_3, ne_1_0, ne_1_2, ne_1_3, ne_2_0, ne_2_1, ne_2_3, ne_3_0, ne_3_1, ne_3_2, not_false_eq_true, e_k_int, e_k_ref, e_k_null, e_k_long, e_k_ret, e_cats_nil, e_cats_int, e_cats_ref, e_cats_ret, e_cats_long, Option.toList_some, Option.toList_none, List.nil_append, List.cons_append, Option.bind_some, Nat.reduceAdd, Nat.reduceLeDiff, Nat.add_zero, if_true, if_false, true_and, and_true, and_self, Int32.reduceToNatClampNeg, ok_1, ok_2, ok_3, ok_4, ok_5, ok_6, ok_7, ok_8, ok_9, ok_30, ok_31, ok_32, ok_33, ok_34, ok_35, ok_36, ok_37, ok_38, ok_39, ok_40, ok_41, ok_42, ok_43, ok_44, ok_45, ok_46, ok_47, ok_48, ok_49, ok_50, ok_51, ok_52, ln_1, ln_2, ln_4, ln_5, ln_6, ln_7, ln_8, ln_30, ln_31, ln_32, ln_33, ln_34, ln_35, ln_36, ln_37, ln_38, ln_39, ln_41, ln_42, ln_43, ln_44, ln_45, ln_46, ln_47, ln_48, ln_49, ln_50, ln_51, ln_52, ib_0_9, ib_1_9, ib_2_9, ib_3_9, ib_4_9, ib_5_9, ib_6_9, ib_7_9, ib_8_9, ib_0_2, ib_1_2, ib_0_5, ib_1_5, ib_2_5, ib_3_5, ib_4_5, ib_0_25, ib_0_10, ib_5_10, ib_0_90, ib_45_90, ib_0_64]
  rw [r_M_sit hS hM (by omega)]
  simp only [zX4_committee_66, zX4_committee_67, zX4_committee_68, zX4_committee_69, zX4_committee_71, zX4_committee_72, zX4_committee_75, zX4_committee_78, zX4_committee_80, zX4_committee_81, zX4_committee_82, zX4_committee_83, zX4_committee_84, zX4_committee_87, zX4_committee_88, r_in32 (v := nI v) (k := 1) (m := nI (q_pc a (q_c S 0))) (a := 1) (b := (nI (q_pc a (q_c S 0))).toInt64) rfl rfl, u3, u4, s1, ne_0_1, ne_0_2, ne_0_3, ne_1_0, ne_1_2, ne_1_3, ne_2_0, ne_2_1, ne_2_3, ne_3_0, ne_3_1, ne_3_2, not_false_eq_true, e_k_int, e_k_ref, e_k_null, e_k_long, e_k_ret, e_cats_nil, e_cats_int, e_cats_ref, e_cats_ret, e_cats_long, Option.toList_some, Option.toList_none, List.nil_append, List.cons_append, Option.bind_some, Nat.reduceAdd, Nat.reduceLeDiff, Nat.add_zero, if_true, if_false, true_and, and_true, and_self, Int32.reduceToNatClampNeg]
  have toM : ∀ f, e_fr [48] g f → q_M S f := fun f hf => hMg.mf (q_mr_seat (hf.mono (fun o ho => by simp at ho ⊢; omega)))
  obtain ⟨ls2, f, e, ⟨w1, w2, rfl⟩, hF, hB⟩ := f_lp (cd := kX4_committee) (O := e_X e_pg (d + 6)) (pc := 90) (fun x ls f => (∃ w1 w2, ls = [.ref 40, .int (nI a), .int (nI v), .int (nI j), .int (nI (q_pc a (q_c S 0))), .int (nI x), w1, w2]) ∧ e_fr [48] g f ∧ ∀ y, y < x → e_gI f 48 y = q_cB S a v j y) (Nat.zero_le (q_n S + 1)) (by
    rintro x ls f - hx ⟨⟨w1, w2, rfl⟩, hF, hB⟩
    have hc : ¬ nI (q_n S) < nI x := nI_nlt (by omega) (by omega)
    have hib : e_inb (nI x) 25 = true := e_inb_nI (by omega) (by decide)
    have hcl : (nI x).toNatClampNeg = x := nI_clamp (by omega)
    have hsub : nI (q_n S) - nI x = nI (q_n S - x) := pk_sub (by omega)
    have hMf := toM f hF
    have g6 := hMf.n hS
    have ec := hMf.c hS (show 0 < 2 by decide)
    rw [zX4_committee_90]
    simp only [zX4_committee_92, zX4_committee_93, zX4_committee_96, zX4_committee_99, zX4_committee_100, zX4_committee_102, zX4_committee_103, g6, hc, e_k_int, e_k_ref, e_k_null, e_k_long, e_k_ret, e_cats_nil, e_cats_int, e_cats_ref, e_cats_ret, e_cats_long, Option.toList_some, Option.toList_none, List.nil_append, List.cons_append, Option.bind_some, Nat.reduceAdd, Nat.reduceLeDiff, Nat.add_zero, if_true, if_false, true_and, and_true, and_self, Int32.reduceToNatClampNeg]
    obtain ⟨ls2, f2, e, rfl, rfl⟩ := f_lp (cd := kX4_committee) (O := e_X e_pg (d + 6)) (pc := 105) (fun k ls f2 => ls = [.ref 40, .int (nI a), .int (nI v), .int (nI j), .int (nI (q_pc a (q_c S 0))), .int (nI x), .int (nI (q_vt S a x k)), .int (nI k)] ∧ f2 = f) (Nat.zero_le (q_c S 0)) (by
      rintro k ls f2 - hk ⟨rfl, rfl⟩
      have hc : ¬ nI (q_c S 0) ≤ nI k := nI_ge hk (by omega)
      have hk5 : k < 5 := by omega
      have b2 := Nat.mod_lt (a / 2 ^ k) (show 0 < 2 by decide)
      have tk := r_Mtake (d := d + 2) (s := 0) (k := k) (x := x) (a := 0) (b := nI k) (c := nI x) hS hMf rfl rfl rfl (by decide) hk5 (by omega)
      change _ = some (some (Value.int (q_tk S k x)), f2) at tk
      have nx : q_vt S a x (k + 1) = q_vt S a x k + (if a / 2 ^ k % 2 = 1 ∧ ¬ q_tk S k x = 0 then 1 else 0) := rfl
      have z0 : nI (q_vt S a x k) + 0 = nI (q_vt S a x k) := nI_add _ 0
      rw [zX4_committee_105, nx]
      by_cases c1 : a / 2 ^ k % 2 = 1
      · have q1 : ¬ ¬ nI 1 = 1 := by decide
        by_cases c2 : q_tk S k x = 0
        · simp only [zX4_committee_107, zX4_committee_108, zX4_committee_111, zX4_committee_112, zX4_committee_113, zX4_committee_116, zX4_committee_118, zX4_committee_119, zX4_committee_121, zX4_committee_122, zX4_committee_123, zX4_committee_124, zX4_committee_125, zX4_committee_128, zX4_committee_129, zX4_committee_130, zX4_committee_132, zX4_committee_134, zX4_committee_137, zX4_committee_140, zX4_committee_141, zX4_committee_144, zX4_committee_145, zX4_committee_146, zX4_committee_148, zX4_committee_151, ec, hc, q_bit (show a < 32 by omega) hk5, c1, q1, tk, c2, z0, nI_1, not_true_eq_false, and_false, e_k_int, e_k_ref, e_k_null, e_k_long, e_k_ret, e_cats_nil, e_cats_int, e_cats_ref, e_cats_ret, e_cats_long, Option.toList_some, Option.toList_none, List.nil_append, List.cons_append, Option.bind_some, Nat.reduceAdd, Nat.reduceLeDiff, Nat.add_zero, if_true, if_false, true_and, and_true, and_self, Int32.reduceToNatClampNeg, ok_1, ok_2, ok_3, ok_4, ok_5, ok_6, ok_7, ok_8, ok_9, ok_30, ok_31, ok_32, ok_33, ok_34, ok_35, ok_36, ok_37, ok_38, ok_39, ok_40, ok_41, ok_42, ok_43, ok_44, ok_45, ok_46, ok_47, ok_48, ok_49, ok_50, ok_51, ok_52, ln_1, ln_2, ln_4, ln_5, ln_6, ln_7, ln_8, ln_30, ln_31, ln_32, ln_33, ln_34, ln_35, ln_36, ln_37, ln_38, ln_39, ln_41, ln_42, ln_43, ln_44, ln_45, ln_46, ln_47, ln_48, ln_49, ln_50, ln_51, ln_52, ib_0_9, ib_1_9, ib_2_9, ib_3_9, ib_4_9, ib_5_9, ib_6_9, ib_7_9, ib_8_9, ib_0_2, ib_1_2, ib_0_5, ib_1_5, ib_2_5, ib_3_5, ib_4_5, ib_0_25, ib_0_10, ib_5_10, ib_0_90, ib_45_90, ib_0_64]
          exact ⟨_, _, rfl, rfl, rfl⟩
        · simp only [zX4_committee_107, zX4_committee_108, zX4_committee_111, zX4_committee_112, zX4_committee_113, zX4_committee_116, zX4_committee_118, zX4_committee_119, zX4_committee_121, zX4_committee_122, zX4_committee_123, zX4_committee_124, zX4_committee_125, zX4_committee_128, zX4_committee_129, zX4_committee_130, zX4_committee_132, zX4_committee_134, zX4_committee_137, zX4_committee_140, zX4_committee_141, zX4_committee_144, zX4_committee_145, zX4_committee_146, zX4_committee_148, zX4_committee_151, ec, hc, q_bit (show a < 32 by omega) hk5, c1, q1, tk, c2, nI_1, not_false_eq_true, e_k_int, e_k_ref, e_k_null, e_k_long, e_k_ret, e_cats_nil, e_cats_int, e_cats_ref, e_cats_ret, e_cats_long, Option.toList_some, Option.toList_none, List.nil_append, List.cons_append, Option.bind_some, Nat.reduceAdd, Nat.reduceLeDiff, Nat.add_zero, if_true, if_false, true_and, and_true, and_self, Int32.reduceToNatClampNeg, ok_1, ok_2, ok_3, ok_4, ok_5, ok_6, ok_7, ok_8, ok_9, ok_30, ok_31, ok_32, ok_33, ok_34, ok_35, ok_36, ok_37, ok_38, ok_39, ok_40, ok_41, ok_42, ok_43, ok_44, ok_45, ok_46, ok_47, ok_48, ok_49, ok_50, ok_51, ok_52, ln_1, ln_2, ln_4, ln_5, ln_6, ln_7, ln_8, ln_30, ln_31, ln_32, ln_33, ln_34, ln_35, ln_36, ln_37, ln_38, ln_39, ln_41, ln_42, ln_43, ln_44, ln_45, ln_46, ln_47, ln_48, ln_49, ln_50, ln_51, ln_52, ib_0_9, ib_1_9, ib_2_9, ib_3_9, ib_4_9, ib_5_9, ib_6_9, ib_7_9, ib_8_9, ib_0_2, ib_1_2, ib_0_5, ib_1_5, ib_2_5, ib_3_5, ib_4_5, ib_0_25, ib_0_10, ib_5_10, ib_0_90, ib_45_90, ib_0_64]
          exact ⟨_, _, rfl, rfl, rfl⟩
      · have c1' : a / 2 ^ k % 2 = 0 := by omega
        have q1 : ¬ nI 0 = 1 := by decide
        have q2 : ¬ 0 = 1 := by decide
        simp only [zX4_committee_107, zX4_committee_108, zX4_committee_111, zX4_committee_112, zX4_committee_113, zX4_committee_116, zX4_committee_118, zX4_committee_119, zX4_committee_121, zX4_committee_122, zX4_committee_123, zX4_committee_124, zX4_committee_125, zX4_committee_128, zX4_committee_129, zX4_committee_130, zX4_committee_132, zX4_committee_134, zX4_committee_137, zX4_committee_140, zX4_committee_141, zX4_committee_144, zX4_committee_145, zX4_committee_146, zX4_committee_148, zX4_committee_151, ec, hc, q_bit (show a < 32 by omega) hk5, c1', q1, q2, z0, nI_1, not_false_eq_true, false_and, e_k_int, e_k_ref, e_k_null, e_k_long, e_k_ret, e_cats_nil, e_cats_int, e_cats_ref, e_cats_ret, e_cats_long, Option.toList_some, Option.toList_none, List.nil_append, List.cons_append, Option.bind_some, Nat.reduceAdd, Nat.reduceLeDiff, Nat.add_zero, if_true, if_false, true_and, and_true, and_self, Int32.reduceToNatClampNeg, ok_1, ok_2, ok_3, ok_4, ok_5, ok_6, ok_7, ok_8, ok_9, ok_30, ok_31, ok_32, ok_33, ok_34, ok_35, ok_36, ok_37, ok_38, ok_39, ok_40, ok_41, ok_42, ok_43, ok_44, ok_45, ok_46, ok_47, ok_48, ok_49, ok_50, ok_51, ok_52, ln_1, ln_2, ln_4, ln_5, ln_6, ln_7, ln_8, ln_30, ln_31, ln_32, ln_33, ln_34, ln_35, ln_36, ln_37, ln_38, ln_39, ln_41, ln_42, ln_43, ln_44, ln_45, ln_46, ln_47, ln_48, ln_49, ln_50, ln_51, ln_52, ib_0_9, ib_1_9, ib_2_9, ib_3_9, ib_4_9, ib_5_9, ib_6_9, ib_7_9, ib_8_9, ib_0_2, ib_1_2, ib_0_5, ib_1_5, ib_2_5, ib_3_5, ib_4_5, ib_0_25, ib_0_10, ib_5_10, ib_0_90, ib_45_90, ib_0_64]
        exact ⟨_, _, rfl, rfl, rfl⟩) (ls := [.ref 40, .int (nI a), .int (nI v), .int (nI j), .int (nI (q_pc a (q_c S 0))), .int (nI x), .int 0, .int 0]) (h := f) ⟨rfl, rfl⟩
    have hc2 : nI (q_c S 0) ≤ nI (q_c S 0) := nI_le (Nat.le_refl _) (by omega)
    have vl := q_vt_le S a x (q_c S 0)
    have tj := r_Mtake (d := d + 2) (s := 1) (k := j) (x := q_n S - x) (a := 1) (b := nI j) (c := nI (q_n S - x)) hS hMf rfl rfl rfl (by decide) hj5 (by omega)
    change _ = some (some (Value.int (p_acc (q_N S 1 j) (nI (q_n S - x)) (s_g1 (q_N S 1 j) (q_n S) x))), f2) at tj
    have fin : ∀ z, z = q_cB S a v j x → ∀ y, y < x + 1 → e_gI (e_pI f2 48 x z) 48 y = q_cB S a v j y := fun z hz y hy => by
      rw [e_gI_pI]
      split
      · rename_i c; rw [c.2]; exact hz
      · rename_i c
        exact hB y (by omega)
    rw [e, zX4_committee_105]
    by_cases z2 : q_vt S a x (q_c S 0) < v
    · have z3 : nI (q_vt S a x (q_c S 0)) < nI v := nI_lt z2 (by omega)
      have ez : (0 : Int32) = q_cB S a v j x := by unfold q_cB; rw [if_pos z2]; split <;> rfl
      simp only [zX4_committee_107, zX4_committee_108, zX4_committee_111, zX4_committee_112, zX4_committee_113, zX4_committee_154, zX4_committee_155, zX4_committee_158, zX4_committee_160, zX4_committee_162, zX4_committee_163, zX4_committee_166, zX4_committee_167, zX4_committee_168, zX4_committee_169, zX4_committee_170, zX4_committee_173, zX4_committee_175, zX4_committee_176, zX4_committee_179, zX4_committee_182, zX4_committee_183, zX4_committee_186, zX4_committee_187, zX4_committee_188, zX4_committee_191, ec, hc2, hib, hcl, z3, bn_0, nI_1, e_k_int, e_k_ref, e_k_null, e_k_long, e_k_ret, e_cats_nil, e_cats_int, e_cats_ref, e_cats_ret, e_cats_long, Option.toList_some, Option.toList_none, List.nil_append, List.cons_append, Option.bind_some, Nat.reduceAdd, Nat.reduceLeDiff, Nat.add_zero, if_true, if_false, true_and, and_true, and_self, Int32.reduceToNatClampNeg, ok_1, ok_2, ok_3, ok_4, ok_5, ok_6, ok_7, ok_8, ok_9, ok_30, ok_31, ok_32, ok_33, ok_34, ok_35, ok_36, ok_37, ok_38, ok_39, ok_40, ok_41, ok_42, ok_43, ok_44, ok_45, ok_46, ok_47, ok_48, ok_49, ok_50, ok_51, ok_52, ln_1, ln_2, ln_4, ln_5, ln_6, ln_7, ln_8, ln_30, ln_31, ln_32, ln_33, ln_34, ln_35, ln_36, ln_37, ln_38, ln_39, ln_41, ln_42, ln_43, ln_44, ln_45, ln_46, ln_47, ln_48, ln_49, ln_50, ln_51, ln_52, ib_0_9, ib_1_9, ib_2_9, ib_3_9, ib_4_9, ib_5_9, ib_6_9, ib_7_9, ib_8_9, ib_0_2, ib_1_2, ib_0_5, ib_1_5, ib_2_5, ib_3_5, ib_4_5, ib_0_25, ib_0_10, ib_5_10, ib_0_90, ib_45_90, ib_0_64]
      exact ⟨_, _, rfl, ⟨_, _, rfl⟩, hF.pI (by simp), fin _ ez⟩
    · have z3 : ¬ nI (q_vt S a x (q_c S 0)) < nI v := nI_nlt (by omega) (by omega)
      by_cases z1 : p_acc (q_N S 1 j) (nI (q_n S - x)) (s_g1 (q_N S 1 j) (q_n S) x) = 0
      · have ez : (0 : Int32) = q_cB S a v j x := by unfold q_cB; rw [if_pos z1]
        simp only [zX4_committee_107, zX4_committee_108, zX4_committee_111, zX4_committee_112, zX4_committee_113, zX4_committee_154, zX4_committee_155, zX4_committee_158, zX4_committee_160, zX4_committee_162, zX4_committee_163, zX4_committee_166, zX4_committee_167, zX4_committee_168, zX4_committee_169, zX4_committee_170, zX4_committee_173, zX4_committee_175, zX4_committee_176, zX4_committee_179, zX4_committee_182, zX4_committee_183, zX4_committee_186, zX4_committee_187, zX4_committee_188, zX4_committee_191, ec, hc2, hib, hcl, z3, g6, hsub, tj, z1, bn_0, nI_1, e_k_int, e_k_ref, e_k_null, e_k_long, e_k_ret, e_cats_nil, e_cats_int, e_cats_ref, e_cats_ret, e_cats_long, Option.toList_some, Option.toList_none, List.nil_append, List.cons_append, Option.bind_some, Nat.reduceAdd, Nat.reduceLeDiff, Nat.add_zero, if_true, if_false, true_and, and_true, and_self, Int32.reduceToNatClampNeg, ok_1, ok_2, ok_3, ok_4, ok_5, ok_6, ok_7, ok_8, ok_9, ok_30, ok_31, ok_32, ok_33, ok_34, ok_35, ok_36, ok_37, ok_38, ok_39, ok_40, ok_41, ok_42, ok_43, ok_44, ok_45, ok_46, ok_47, ok_48, ok_49, ok_50, ok_51, ok_52, ln_1, ln_2, ln_4, ln_5, ln_6, ln_7, ln_8, ln_30, ln_31, ln_32, ln_33, ln_34, ln_35, ln_36, ln_37, ln_38, ln_39, ln_41, ln_42, ln_43, ln_44, ln_45, ln_46, ln_47, ln_48, ln_49, ln_50, ln_51, ln_52, ib_0_9, ib_1_9, ib_2_9, ib_3_9, ib_4_9, ib_5_9, ib_6_9, ib_7_9, ib_8_9, ib_0_2, ib_1_2, ib_0_5, ib_1_5, ib_2_5, ib_3_5, ib_4_5, ib_0_25, ib_0_10, ib_5_10, ib_0_90, ib_45_90, ib_0_64]
        exact ⟨_, _, rfl, ⟨_, _, rfl⟩, hF.pI (by simp), fin _ ez⟩
      · have ez : (1 : Int32) = q_cB S a v j x := by unfold q_cB; rw [if_neg z1, if_neg z2]
        simp only [zX4_committee_107, zX4_committee_108, zX4_committee_111, zX4_committee_112, zX4_committee_113, zX4_committee_154, zX4_committee_155, zX4_committee_158, zX4_committee_160, zX4_committee_162, zX4_committee_163, zX4_committee_166, zX4_committee_167, zX4_committee_168, zX4_committee_169, zX4_committee_170, zX4_committee_173, zX4_committee_175, zX4_committee_176, zX4_committee_179, zX4_committee_182, zX4_committee_183, zX4_committee_186, zX4_committee_187, zX4_committee_188, zX4_committee_191, ec, hc2, hib, hcl, z3, g6, hsub, tj, z1, bn_1, nI_1, e_k_int, e_k_ref, e_k_null, e_k_long, e_k_ret, e_cats_nil, e_cats_int, e_cats_ref, e_cats_ret, e_cats_long, Option.toList_some, Option.toList_none, List.nil_append, List.cons_append, Option.bind_some, Nat.reduceAdd, Nat.reduceLeDiff, Nat.add_zero, if_true, if_false, true_and, and_true, and_self, Int32.reduceToNatClampNeg, ok_1, ok_2, ok_3, ok_4, ok_5, ok_6, ok_7, ok_8, ok_9, ok_30, ok_31, ok_32, ok_33, ok_34, ok_35, ok_36, ok_37, ok_38, ok_39, ok_40, ok_41, ok_42, ok_43, ok_44, ok_45, ok_46, ok_47, ok_48, ok_49, ok_50, ok_51, ok_52, ln_1, ln_2, ln_4, ln_5, ln_6, ln_7, ln_8, ln_30, ln_31, ln_32, ln_33, ln_34, ln_35, ln_36, ln_37, ln_38, ln_39, ln_41, ln_42, ln_43, ln_44, ln_45, ln_46, ln_47, ln_48, ln_49, ln_50, ln_51, ln_52, ib_0_9, ib_1_9, ib_2_9, ib_3_9, ib_4_9, ib_5_9, ib_6_9, ib_7_9, ib_8_9, ib_0_2, ib_1_2, ib_0_5, ib_1_5, ib_2_5, ib_3_5, ib_4_5, ib_0_25, ib_0_10, ib_5_10, ib_0_90, ib_45_90, ib_0_64]
        exact ⟨_, _, rfl, ⟨_, _, rfl⟩, hF.pI (by simp), fin _ ez⟩) (ls := [.ref 40, .int (nI a), .int (nI v), .int (nI j), .int (nI (q_pc a (q_c S 0))), .int 0, .null, .null]) (h := g) ⟨⟨_, _, rfl⟩, e_fr.refl _ _, fun y hy => by omega⟩
  have hc2 : nI (q_n S) < nI (q_n S + 1) := nI_lt (by omega) (by omega)
  have hMf := toM f hF
  have g6 := hMf.n hS
  obtain ⟨f2, r1, r2⟩ := r_M_settleBy (d := d) (w0 := q_N S 0 0 4) (w1 := q_N S 1 j 4) (B := q_cB S a v j) hS hMf (hS.N (by decide) (by decide)) (hS.N (by decide) hj5) rfl rfl (fun x hx => ⟨by rw [hF.1 49 x (by simp)]; exact (s3 x hx).1, by rw [hF.1 50 x (by simp)]; exact (s3 x hx).2.1, hB x (by omega)⟩)
  refine ⟨f2, ?_, ((q_mr_seat s2).trans (q_mr_seat (hF.mono (fun o ho => by simp at ho ⊢; omega)))).trans r2.1⟩
  rw [e, zX4_committee_90]
  simp only [zX4_committee_92, zX4_committee_93, zX4_committee_96, zX4_committee_194, zX4_committee_195, zX4_committee_196, zX4_committee_197, zX4_committee_198, zX4_committee_199, zX4_committee_202, zX4_committee_203, zX4_committee_204, zX4_committee_205, zX4_committee_206, zX4_committee_209, zX4_committee_212, zX4_committee_213, zX4_committee_216, g6, hc2, r_Mof (s := 0) (k := 0) (w := 4) (a := 0) (b := 0) (c := 4) hMf rfl rfl rfl (by decide) (by decide) (by decide), r_Mof (s := 1) (k := j) (w := 4) (a := 1) (b := nI j) (c := 4) hMf rfl rfl rfl (by decide) hj5 (by decide), r1, r2.2.2.1, q_com, e_k_int, e_k_ref, e_k_null, e_k_long, e_k_ret, e_cats_nil, e_cats_int, e_cats_ref, e_cats_ret, e_cats_long, Option.toList_some, Option.toList_none, List.nil_append, List.cons_append, Option.bind_some, Nat.reduceAdd, Nat.reduceLeDiff, Nat.add_zero, if_true, if_false, true_and, and_true, and_self, Int32.reduceToNatClampNeg]
theorem r_M_committee_no {d : Nat} {S h : e_H} {a v j : Int32} (hS : q_ok S) (hM : q_M S h) (hh : ¬ ∃ x y z, q_cok S x y z ∧ a = nI x ∧ v = nI y ∧ j = nI z) : e_X e_pg (d + 7) 140 [.ref 40, .int a, .int v, .int j] h = some (some (.int (-2)), h) := by
  have c0 := (hS.c (show 0 < 2 by decide)).2
  have c1 := (hS.c (show 1 < 2 by decide)).2
  have e0 := hM.c hS (show 0 < 2 by decide)
  have p32 := pow_le32 c0.2
  have pp : 1 ≤ 2 ^ q_c S 0 := Nat.one_le_two_pow
  have psub : nI (2 ^ q_c S 0) - 1 = nI (2 ^ q_c S 0 - 1) := pk_sub (b := 1) pp
  rw [xX4_committee]
  by_cases u : (if a < 1 then (0 : Int32) else if nI (2 ^ q_c S 0 - 1) < a then 0 else 1) = 0
  · simp only [zX4_committee_0, zX4_committee_1, zX4_committee_2, zX4_committee_3, zX4_committee_4, zX4_committee_5, zX4_committee_8, zX4_committee_9, zX4_committee_10, zX4_committee_11, zX4_committee_12, zX4_committee_13, zX4_committee_14, zX4_committee_17, zX4_committee_20, zX4_committee_21, zX4_committee_22, zX4_committee_23, zX4_committee_26, zX4_committee_29, zX4_committee_31, e0, q_shl c0.2, psub, r_in32 (v := a) (k := 1) (m := nI (2 ^ q_c S 0 - 1)) (a := 1) (b := (nI (2 ^ q_c S 0 - 1)).toInt64) rfl rfl, u, e_k_int, e_k_ref, e_k_null, e_k_long, e_k_ret, e_cats_nil, e_cats_int, e_cats_ref, e_cats_ret, e_cats_long, Option.toList_some, Option.toList_none, List.nil_append, List.cons_append, Option.bind_some, Nat.reduceAdd, Nat.reduceLeDiff, Nat.add_zero, if_true, if_false, true_and, and_true, and_self, Int32.reduceToNatClampNeg, ok_1, ok_2, ok_3, ok_4, ok_5, ok_6, ok_7, ok_8, ok_9, ok_30, ok_31, ok_32, ok_33, ok_34, ok_35, ok_36, ok_37, ok_38, ok_39, ok_40, ok_41, ok_42, ok_43, ok_44, ok_45, ok_46, ok_47, ok_48, ok_49, ok_50, ok_51, ok_52, ln_1, ln_2, ln_4, ln_5, ln_6, ln_7, ln_8, ln_30, ln_31, ln_32, ln_33, ln_34, ln_35, ln_36, ln_37, ln_38, ln_39, ln_41, ln_42, ln_43, ln_44, ln_45, ln_46, ln_47, ln_48, ln_49, ln_50, ln_51, ln_52, ib_0_9, ib_1_9, ib_2_9, ib_3_9, ib_4_9, ib_5_9, ib_6_9, ib_7_9, ib_8_9, ib_0_2, ib_1_2, ib_0_5, ib_1_5, ib_2_5, ib_3_5, ib_4_5, ib_0_25, ib_0_10, ib_5_10, ib_0_90, ib_45_90, ib_0_64]
  · by_cases z : p_isE (e_gI S 1) 1 j = 0
    · simp only [zX4_committee_0, zX4_committee_1, zX4_committee_2, zX4_committee_3, zX4_committee_4, zX4_committee_5, zX4_committee_8, zX4_committee_9, zX4_committee_10, zX4_committee_11, zX4_committee_12, zX4_committee_13, zX4_committee_14, zX4_committee_17, zX4_committee_20, zX4_committee_21, zX4_committee_22, zX4_committee_23, zX4_committee_26, zX4_committee_29, zX4_committee_31, e0, q_shl c0.2, psub, r_in32 (v := a) (k := 1) (m := nI (2 ^ q_c S 0 - 1)) (a := 1) (b := (nI (2 ^ q_c S 0 - 1)).toInt64) rfl rfl, u, r_M_isMan hS hM, z, not_true_eq_false, e_k_int, e_k_ref, e_k_null, e_k_long, e_k_ret, e_cats_nil, e_cats_int, e_cats_ref, e_cats_ret, e_cats_long, Option.toList_some, Option.toList_none, List.nil_append, List.cons_append, Option.bind_some, Nat.reduceAdd, Nat.reduceLeDiff, Nat.add_zero, if_true, if_false, true_and, and_true, and_self, Int32.reduceToNatClampNeg, ok_1, ok_2, ok_3, ok_4, ok_5, ok_6, ok_7, ok_8, ok_9, ok_30, ok_31, ok_32, ok_33, ok_34, ok_35, ok_36, ok_37, ok_38, ok_39, ok_40, ok_41, ok_42, ok_43, ok_44, ok_45, ok_46, ok_47, ok_48, ok_49, ok_50, ok_51, ok_52, ln_1, ln_2, ln_4, ln_5, ln_6, ln_7, ln_8, ln_30, ln_31, ln_32, ln_33, ln_34, ln_35, ln_36, ln_37, ln_38, ln_39, ln_41, ln_42, ln_43, ln_44, ln_45, ln_46, ln_47, ln_48, ln_49, ln_50, ln_51, ln_52, ib_0_9, ib_1_9, ib_2_9, ib_3_9, ib_4_9, ib_5_9, ib_6_9, ib_7_9, ib_8_9, ib_0_2, ib_1_2, ib_0_5, ib_1_5, ib_2_5, ib_3_5, ib_4_5, ib_0_25, ib_0_10, ib_5_10, ib_0_90, ib_45_90, ib_0_64]
    · have u1 : ¬ a < 1 := fun q => u (by rw [if_pos q])
      have u2 : ¬ nI (2 ^ q_c S 0 - 1) < a := fun q => u (by rw [if_neg u1, if_pos q])
      obtain ⟨x, hx, rfl⟩ := nI_of (x := a) (fun q => u1 (Int32.lt_trans q (by decide)))
      have x1 : 1 ≤ x := Nat.not_lt.mp (fun q => u1 (by rw [show (1 : Int32) = nI 1 from rfl]; exact nI_lt q (by decide)))
      have x2 : x < 2 ^ q_c S 0 := by
        have := Nat.not_lt.mp (fun q => u2 (nI_lt q hx))
        omega
      have pl := q_pc_le x (q_c S 0)
      have zj : ∃ z, z < q_c S 1 ∧ j = nI z := by
        apply Classical.byContradiction
        intro q
        refine z (p_isE_no hS ?_)
        rintro ⟨s2, k2, g1, g2, g3, rfl⟩
        have hs : s2 = 1 := by rcases (show s2 = 0 ∨ s2 = 1 by omega) with rfl | rfl; exact absurd g3 (by decide); rfl
        subst hs
        exact q ⟨k2, g2, rfl⟩
      obtain ⟨jj, j1, rfl⟩ := zj
      have w : (if v < 1 then (0 : Int32) else if nI (q_pc x (q_c S 0)) < v then 0 else 1) = 0 := by
        by_cases w1 : v < 1
        · rw [if_pos w1]
        · obtain ⟨y, hy, rfl⟩ := nI_of (x := v) (fun q => w1 (Int32.lt_trans q (by decide)))
          have y1 : 1 ≤ y := Nat.not_lt.mp (fun q => w1 (by rw [show (1 : Int32) = nI 1 from rfl]; exact nI_lt q (by decide)))
          by_cases w2 : nI (q_pc x (q_c S 0)) < nI y
          · rw [if_neg w1, if_pos w2]
          · have y2 : y ≤ q_pc x (q_c S 0) := Nat.not_lt.mp (fun q => w2 (nI_lt q hy))
            exact absurd ⟨x, y, jj, ⟨x1, x2, y1, y2, j1⟩, rfl, rfl, rfl⟩ hh
      simp only [zX4_committee_0, zX4_committee_1, zX4_committee_2, zX4_committee_3, zX4_committee_4, zX4_committee_5, zX4_committee_8, zX4_committee_9, zX4_committee_10, zX4_committee_11, zX4_committee_12, zX4_committee_13, zX4_committee_14, zX4_committee_17, zX4_committee_20, zX4_committee_21, zX4_committee_22, zX4_committee_23, zX4_committee_26, zX4_committee_29, zX4_committee_31, e0, q_shl c0.2, psub, r_in32 (v := nI x) (k := 1) (m := nI (2 ^ q_c S 0 - 1)) (a := 1) (b := (nI (2 ^ q_c S 0 - 1)).toInt64) rfl rfl, u, r_M_isMan hS hM, z, not_false_eq_true, e_k_int, e_k_ref, e_k_null, e_k_long, e_k_ret, e_cats_nil, e_cats_int, e_cats_ref, e_cats_ret, e_cats_long, Option.toList_some, Option.toList_none, List.nil_append, List.cons_append, Option.bind_some, Nat.reduceAdd, Nat.reduceLeDiff, Nat.add_zero, if_true, if_false, true_and, and_true, and_self, Int32.reduceToNatClampNeg, ok_1, ok_2, ok_3, ok_4, ok_5, ok_6, ok_7, ok_8, ok_9, ok_30, ok_31, ok_32, ok_33, ok_34, ok_35, ok_36, ok_37, ok_38, ok_39, ok_40, ok_41, ok_42, ok_43, ok_44, ok_45, ok_46, ok_47, ok_48, ok_49, ok_50, ok_51, ok_52, ln_1, ln_2, ln_4, ln_5, ln_6, ln_7, ln_8, ln_30, ln_31, ln_32, ln_33, ln_34, ln_35, ln_36, ln_37, ln_38, ln_39, ln_41, ln_42, ln_43, ln_44, ln_45, ln_46, ln_47, ln_48, ln_49, ln_50, ln_51, ln_52, ib_0_9, ib_1_9, ib_2_9, ib_3_9, ib_4_9, ib_5_9, ib_6_9, ib_7_9, ib_8_9, ib_0_2, ib_1_2, ib_0_5, ib_1_5, ib_2_5, ib_3_5, ib_4_5, ib_0_25, ib_0_10, ib_5_10, ib_0_90, ib_45_90, ib_0_64]
      rw [r_M_sit hS hM (by omega)]
      simp only [zX4_committee_66, zX4_committee_67, zX4_committee_68, zX4_committee_69, zX4_committee_71, zX4_committee_72, zX4_committee_75, zX4_committee_78, zX4_committee_80, r_in32 (v := v) (k := 1) (m := nI (q_pc x (q_c S 0))) (a := 1) (b := (nI (q_pc x (q_c S 0))).toInt64) rfl rfl, w, not_true_eq_false, e_k_int, e_k_ref, e_k_null, e_k_long, e_k_ret, e_cats_nil, e_cats_int, e_cats_ref, e_cats_ret, e_cats_long, Option.toList_some, Option.toList_none, List.nil_append, List.cons_append, Option.bind_some, Nat.reduceAdd, Nat.reduceLeDiff, Nat.add_zero, if_true, if_false, true_and, and_true, and_self, Int32.reduceToNatClampNeg]
