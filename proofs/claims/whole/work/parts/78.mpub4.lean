/-! the model: weights, whom one sends who guesses -/
theorem q_M.putW {S h : e_H} (m : q_M S h) (h5 : q_c5 S) {s k : Nat} (hs : s < 2) (hk : k < 5) (v : Int32) : q_M (e_pI S (q_x s k + 10) 1 v) (e_pI h 42 (q_x s k) v) := by
  obtain ⟨a, b1, c1, e1, g1⟩ := m
  have hx := q_x_lt hs hk
  refine ⟨?_, ?_, ?_, ?_, ?_⟩
  · rw [e_pI_o (show 40 ≠ 42 by decide), e_pI_o (show 0 ≠ q_x s k + 10 by omega), e_pI_o (show 3 ≠ q_x s k + 10 by omega)]
    simp only [e_gJ_pI]
    exact a
  · rw [e_pI_o (show 43 ≠ 42 by decide), e_pI_o (show 1 ≠ q_x s k + 10 by omega)]
    exact b1
  · intro t n x ht hn hx2
    unfold q_N
    rw [e_pI_o (show 41 ≠ 42 by decide), e_pI_o (by omega)]
    exact c1 t n x ht hn hx2
  · intro t n ht hn
    unfold q_c at hn
    rw [e_pI_o (show 1 ≠ q_x s k + 10 by omega)] at hn
    rw [e_gI_pI, e_gI_pI]
    by_cases c : q_x t n = q_x s k
    · rw [if_pos ⟨rfl, c⟩, if_pos ⟨by omega, rfl⟩]
    · rw [if_neg (by omega), if_neg (by omega)]
      exact e1 t n ht hn
  · intro n
    rw [e_pI_o (show 44 ≠ 42 by decide), e_pI_o (show 4 ≠ q_x s k + 10 by omega)]
    exact g1 n
theorem r_M_weight {d s k : Nat} {S h : e_H} {w : Int32} (hS : q_ok S) (hM : q_M S h) (hs : s < 2) (hk : k < q_c S s) (h1 : ¬ w < 0) (h2 : w ≤ 9) : e_X e_pg (d + 4) 136 [.ref 40, .int (nI s), .int (nI k), .int w] h = some (some (.int (nI (q_W S s k))), e_pI h 42 (q_x s k) w) := by
  have cs := (hS.c hs).2
  have ie := p_isE_yes hS hs hk
  have hib : e_inb (nI (5 * s + k)) 10 = true := e_inb_nI (by omega) (by decide)
  have hcl : (nI (5 * s + k)).toNatClampNeg = q_x s k := nI_clamp (by omega)
  have eW := hM.W hS hs hk
  have h3 : ¬ 9 < w := Int32.not_lt.mpr h2
  rw [xX4_weight]
  simp only [zX4_weight_0, zX4_weight_1, zX4_weight_2, zX4_weight_3, zX4_weight_6, zX4_weight_9, zX4_weight_10, zX4_weight_11, zX4_weight_12, zX4_weight_15, zX4_weight_18, zX4_weight_21, zX4_weight_23, zX4_weight_24, zX4_weight_25, zX4_weight_28, zX4_weight_29, zX4_weight_30, zX4_weight_31, zX4_weight_32, zX4_weight_33, zX4_weight_34, zX4_weight_36, zX4_weight_37, zX4_weight_40, zX4_weight_41, zX4_weight_42, zX4_weight_43, zX4_weight_44, zX4_weight_45, zX4_weight_46, zX4_weight_47, zX4_weight_49, r_M_isMan hS hM, ie, r_in32 (v := w) (k := 0) (m := 9) (a := 0) (b := 9) rfl rfl, h1, h3, q_cellM, hib, hcl, eW, ne_0_1, ne_0_2, ne_0_3, ne_1_0, ne_1_2, ne_1_3, ne_2_0, ne_2_1, ne_2_3, ne_3_0, ne_3_1, ne_3_2, not_false_eq_true, e_k_int, e_k_ref, e_k_null, e_k_long, e_k_ret, e_cats_nil, e_cats_int, e_cats_ref, e_cats_ret, e_cats_long, Option.toList_some, Option.toList_none, List.nil_append, List.cons_append, Option.bind_some, Nat.reduceAdd, Nat.reduceLeDiff, Nat.add_zero, if_true, if_false, true_and, and_true, and_self, Int32.reduceToNatClampNeg, ok_1, ok_2, ok_3, ok_4, ok_5, ok_6, ok_7, ok_8, ok_9, ok_30, ok_31, ok_32, ok_33, ok_34, ok_35, ok_36, ok_37, ok_38, ok_39, ok_40, ok_41, ok_42, ok_43, ok_44, ok_45, ok_46, ok_47, ok_48, ok_49, ok_50, ok_51, ok_52, ln_1, ln_2, ln_4, ln_5, ln_6, ln_7, ln_8, ln_30, ln_31, ln_32, ln_33, ln_34, ln_35, ln_36, ln_37, ln_38, ln_39, ln_41, ln_42, ln_43, ln_44, ln_45, ln_46, ln_47, ln_48, ln_49, ln_50, ln_51, ln_52]
theorem r_M_weight_no {d : Nat} {S h : e_H} {a b w : Int32} (hS : q_ok S) (hM : q_M S h) (hp : (¬ ∃ s k, s < 2 ∧ k < q_c S s ∧ a = nI s ∧ b = nI k) ∨ w < 0 ∨ ¬ w ≤ 9) : e_X e_pg (d + 4) 136 [.ref 40, .int a, .int b, .int w] h = some (some (.int (-2)), h) := by
  rw [xX4_weight]
  by_cases c : p_isE (e_gI S 1) a b = 0
  · simp only [zX4_weight_0, zX4_weight_1, zX4_weight_2, zX4_weight_3, zX4_weight_6, zX4_weight_9, zX4_weight_10, zX4_weight_11, zX4_weight_12, zX4_weight_15, zX4_weight_18, zX4_weight_21, zX4_weight_23, r_M_isMan hS hM, c, e_k_int, e_k_ref, e_k_null, e_k_long, e_k_ret, e_cats_nil, e_cats_int, e_cats_ref, e_cats_ret, e_cats_long, Option.toList_some, Option.toList_none, List.nil_append, List.cons_append, Option.bind_some, Nat.reduceAdd, Nat.reduceLeDiff, Nat.add_zero, if_true, if_false, true_and, and_true, and_self, Int32.reduceToNatClampNeg]
  · have e : (if w < 0 then (0 : Int32) else if 9 < w then 0 else 1) = 0 := by
      rcases hp with z | z | z
      · exact absurd (p_isE_no hS z) c
      · rw [if_pos z]
      · split
        · rfl
        · rw [if_pos (Int32.not_le.mp z)]
    simp only [zX4_weight_0, zX4_weight_1, zX4_weight_2, zX4_weight_3, zX4_weight_6, zX4_weight_9, zX4_weight_10, zX4_weight_11, zX4_weight_12, zX4_weight_15, zX4_weight_18, zX4_weight_21, zX4_weight_23, r_M_isMan hS hM, c, r_in32 (v := w) (k := 0) (m := 9) (a := 0) (b := 9) rfl rfl, e, not_true_eq_false, e_k_int, e_k_ref, e_k_null, e_k_long, e_k_ret, e_cats_nil, e_cats_int, e_cats_ref, e_cats_ret, e_cats_long, Option.toList_some, Option.toList_none, List.nil_append, List.cons_append, Option.bind_some, Nat.reduceAdd, Nat.reduceLeDiff, Nat.add_zero, if_true, if_false, true_and, and_true, and_self, Int32.reduceToNatClampNeg]
def q_tm (v : Nat → Int64) : Nat → Int32 × Int64
  | 0 => (-1, 0)
  | k + 1 => q_bm v k
theorem q_bm_nI (v : Nat → Int64) : ∀ k, ∃ j, j ≤ k ∧ (q_bm v k).1 = nI j := by
  intro k
  induction k with
  | zero => exact ⟨0, Nat.le_refl _, rfl⟩
  | succ k ih =>
    obtain ⟨j, h1, h2⟩ := ih
    unfold q_bm
    split
    · exact ⟨j, by omega, h2⟩
    · exact ⟨k + 1, Nat.le_refl _, rfl⟩
set_option maxRecDepth 100000 in
theorem r_M_all {d s : Nat} {S h : e_H} (hS : q_ok S) (hM : q_M S h) (hs : s < 2) : e_X e_pg (d + 10) 137 [.ref 40, .int (nI s)] h = e_F kX4_thought (e_X e_pg (d + 9)) 47 [.ref 40, .int (nI s), .int (nI (q_wt S (1 - s) (q_c S (1 - s)))), .int (nI (q_c S (1 - s))), .null, .null, .null, .null, .null, .null] [] h := by
  have co := (hS.c (show 1 - s < 2 by omega)).2
  have ec := hM.c hS (show 1 - s < 2 by omega)
  have hib : e_inb (nI (1 - s)) 2 = true := e_inb_nI (by omega) (by decide)
  have hcl : (nI (1 - s)).toNatClampNeg = 1 - s := nI_clamp (by omega)
  rw [xX4_thought]
  simp only [zX4_thought_0, zX4_thought_1, zX4_thought_4, zX4_thought_7, zX4_thought_9, zX4_thought_10, zX4_thought_11, zX4_thought_12, zX4_thought_13, r_M_isSide, p_side_yes hs, ne_0_1, ne_0_2, ne_0_3, ne_1_0, ne_1_2, ne_1_3, ne_2_0, ne_2_1, ne_2_3, ne_3_0, ne_3_1, ne_3_2, not_false_eq_true, e_k_int, e_k_ref, e_k_null, e_k_long, e_k_ret, e_cats_nil, e_cats_int, e_cats_ref, e_cats_ret, e_cats_long, Option.toList_some, Option.toList_none, List.nil_append, List.cons_append, Option.bind_some, Nat.reduceAdd, Nat.reduceLeDiff, Nat.add_zero, if_true, if_false, true_and, and_true, and_self, Int32.reduceToNatClampNeg]
  obtain ⟨ls2, f, e, rfl, rfl⟩ := f_lp (cd := kX4_thought) (O := e_X e_pg (d + 9)) (pc := 14) (fun k ls g => ls = [.ref 40, .int (nI s), .int (nI (q_wt S (1 - s) k)), .int (nI k), .null, .null, .null, .null, .null, .null] ∧ g = h) (Nat.zero_le (q_c S (1 - s))) (by
    rintro k ls g - hk ⟨rfl, rfl⟩
    have hc : ¬ nI (q_c S (1 - s)) ≤ nI k := nI_ge hk (by omega)
    have hib2 : e_inb (nI (5 * (1 - s) + k)) 10 = true := e_inb_nI (by omega) (by decide)
    have hcl2 : (nI (5 * (1 - s) + k)).toNatClampNeg = q_x (1 - s) k := nI_clamp (by omega)
    have eW := hM.W hS (show 1 - s < 2 by omega) hk
    rw [zX4_thought_14]
    simp only [zX4_thought_15, zX4_thought_16, zX4_thought_19, zX4_thought_20, zX4_thought_21, zX4_thought_22, zX4_thought_23, zX4_thought_26, zX4_thought_27, zX4_thought_28, zX4_thought_31, zX4_thought_32, zX4_thought_33, zX4_thought_34, zX4_thought_35, zX4_thought_36, zX4_thought_37, zX4_thought_38, zX4_thought_39, zX4_thought_40, zX4_thought_41, zX4_thought_44, nI_1s hs, ec, hc, hib, hcl, q_cellM, hib2, hcl2, eW, nI_add, nI_1, e_k_int, e_k_ref, e_k_null, e_k_long, e_k_ret, e_cats_nil, e_cats_int, e_cats_ref, e_cats_ret, e_cats_long, Option.toList_some, Option.toList_none, List.nil_append, List.cons_append, Option.bind_some, Nat.reduceAdd, Nat.reduceLeDiff, Nat.add_zero, if_true, if_false, true_and, and_true, and_self, Int32.reduceToNatClampNeg, ok_1, ok_2, ok_3, ok_4, ok_5, ok_6, ok_7, ok_8, ok_9, ok_30, ok_31, ok_32, ok_33, ok_34, ok_35, ok_36, ok_37, ok_38, ok_39, ok_40, ok_41, ok_42, ok_43, ok_44, ok_45, ok_46, ok_47, ok_48, ok_49, ok_50, ok_51, ok_52, ln_1, ln_2, ln_4, ln_5, ln_6, ln_7, ln_8, ln_30, ln_31, ln_32, ln_33, ln_34, ln_35, ln_36, ln_37, ln_38, ln_39, ln_41, ln_42, ln_43, ln_44, ln_45, ln_46, ln_47, ln_48, ln_49, ln_50, ln_51, ln_52]
    exact ⟨_, _, rfl, rfl, rfl⟩) (ls := [.ref 40, .int (nI s), .int 0, .int 0, .null, .null, .null, .null, .null, .null]) (h := h) ⟨rfl, rfl⟩
  have hc : nI (q_c S (1 - s)) ≤ nI (q_c S (1 - s)) := nI_le (Nat.le_refl _) (by omega)
  rw [e, zX4_thought_14]
  simp only [zX4_thought_15, zX4_thought_16, zX4_thought_19, zX4_thought_20, zX4_thought_21, zX4_thought_22, zX4_thought_23, nI_1s hs, ec, hc, hib, hcl, e_k_int, e_k_ref, e_k_null, e_k_long, e_k_ret, e_cats_nil, e_cats_int, e_cats_ref, e_cats_ret, e_cats_long, Option.toList_some, Option.toList_none, List.nil_append, List.cons_append, Option.bind_some, Nat.reduceAdd, Nat.reduceLeDiff, Nat.add_zero, if_true, if_false, true_and, and_true, and_self, Int32.reduceToNatClampNeg, ok_1, ok_2, ok_3, ok_4, ok_5, ok_6, ok_7, ok_8, ok_9, ok_30, ok_31, ok_32, ok_33, ok_34, ok_35, ok_36, ok_37, ok_38, ok_39, ok_40, ok_41, ok_42, ok_43, ok_44, ok_45, ok_46, ok_47, ok_48, ok_49, ok_50, ok_51, ok_52, ln_1, ln_2, ln_4, ln_5, ln_6, ln_7, ln_8, ln_30, ln_31, ln_32, ln_33, ln_34, ln_35, ln_36, ln_37, ln_38, ln_39, ln_41, ln_42, ln_43, ln_44, ln_45, ln_46, ln_47, ln_48, ln_49, ln_50, ln_51, ln_52]
set_option maxRecDepth 100000 in
theorem r_M_thought {d s : Nat} {S h : e_H} (hS : q_ok S) (hM : q_M S h) (hs : s < 2) (hw : 0 < q_wt S (1 - s) (q_c S (1 - s))) : ∃ f, e_X e_pg (d + 10) 137 [.ref 40, .int (nI s)] h = some (some (.int (q_th S s).1), f) ∧ q_M (q_tell S (q_th S s).2 (q_tb S s)) f ∧ e_fr q_lM h f := by
  have cs := (hS.c hs).2
  have co := (hS.c (show 1 - s < 2 by omega)).2
  have hib : e_inb (nI s) 2 = true := e_inb_nI hs (by decide)
  have hcl : (nI s).toNatClampNeg = s := nI_clamp (by omega)
  have hibo : e_inb (nI (1 - s)) 2 = true := e_inb_nI (by omega) (by decide)
  have hclo : (nI (1 - s)).toNatClampNeg = 1 - s := nI_clamp (by omega)
  have wl := q_wt_le hS (show 1 - s < 2 by omega) (q_c S (1 - s)) (by omega)
  have nz : ¬ nI (q_wt S (1 - s) (q_c S (1 - s))) = 0 := nI_ne0 hw (by omega)
  rw [r_M_all hS hM hs]
  simp only [zX4_thought_47, zX4_thought_48, zX4_thought_51, zX4_thought_53, zX4_thought_54, zX4_thought_55, zX4_thought_56, zX4_thought_57, zX4_thought_59, zX4_thought_60, nz, not_false_eq_true, e_k_int, e_k_ref, e_k_null, e_k_long, e_k_ret, e_cats_nil, e_cats_int, e_cats_ref, e_cats_ret, e_cats_long, Option.toList_some, Option.toList_none, List.nil_append, List.cons_append, Option.bind_some, Nat.reduceAdd, Nat.reduceLeDiff, Nat.add_zero, if_true, if_false, true_and, and_true, and_self, Int32.reduceToNatClampNeg]
  obtain ⟨ls2, f, e, ⟨v1, v2, v3, rfl⟩, hF⟩ := f_lp (cd := kX4_thought) (O := e_X e_pg (d + 9)) (pc := 62) (fun k ls g => (∃ v1 v2 v3, ls = [.ref 40, .int (nI s), .int (nI (q_wt S (1 - s) (q_c S (1 - s)))), .int (q_tm (q_tv S s) k).1, .long (q_tm (q_tv S s) k).2, .null, .int (nI k), v1, v2, v3]) ∧ q_mr h g) (Nat.zero_le (q_c S s)) (by
    rintro k ls g - hk ⟨⟨v1, v2, v3, rfl⟩, hF⟩
    have hc : ¬ nI (q_c S s) ≤ nI k := nI_ge hk (by omega)
    have ec := (hM.mf hF).c hS hs
    rw [zX4_thought_62]
    simp only [zX4_thought_64, zX4_thought_65, zX4_thought_68, zX4_thought_69, zX4_thought_70, zX4_thought_73, zX4_thought_74, zX4_thought_76, zX4_thought_77, ec, hib, hcl, hc, e_k_int, e_k_ref, e_k_null, e_k_long, e_k_ret, e_cats_nil, e_cats_int, e_cats_ref, e_cats_ret, e_cats_long, Option.toList_some, Option.toList_none, List.nil_append, List.cons_append, Option.bind_some, Nat.reduceAdd, Nat.reduceLeDiff, Nat.add_zero, if_true, if_false, true_and, and_true, and_self, Int32.reduceToNatClampNeg, ok_1, ok_2, ok_3, ok_4, ok_5, ok_6, ok_7, ok_8, ok_9, ok_30, ok_31, ok_32, ok_33, ok_34, ok_35, ok_36, ok_37, ok_38, ok_39, ok_40, ok_41, ok_42, ok_43, ok_44, ok_45, ok_46, ok_47, ok_48, ok_49, ok_50, ok_51, ok_52, ln_1, ln_2, ln_4, ln_5, ln_6, ln_7, ln_8, ln_30, ln_31, ln_32, ln_33, ln_34, ln_35, ln_36, ln_37, ln_38, ln_39, ln_41, ln_42, ln_43, ln_44, ln_45, ln_46, ln_47, ln_48, ln_49, ln_50, ln_51, ln_52]
    obtain ⟨ls2, f, e, rfl, hF⟩ := f_lp (cd := kX4_thought) (O := e_X e_pg (d + 9)) (pc := 79) (fun m ls g => ls = [.ref 40, .int (nI s), .int (nI (q_wt S (1 - s) (q_c S (1 - s)))), .int (q_tm (q_tv S s) k).1, .long (q_tm (q_tv S s) k).2, .null, .int (nI k), .long (q_wg S s k m), .null, .int (nI m)] ∧ q_mr h g) (Nat.zero_le (q_c S (1 - s))) (by
      rintro m ls g - hm ⟨rfl, hF⟩
      have hMg := hM.mf hF
      have hc : ¬ nI (q_c S (1 - s)) ≤ nI m := nI_ge hm (by omega)
      have eco := hMg.c hS (show 1 - s < 2 by omega)
      have hib2 : e_inb (nI (5 * (1 - s) + m)) 10 = true := e_inb_nI (by omega) (by decide)
      have hcl2 : (nI (5 * (1 - s) + m)).toNatClampNeg = q_x (1 - s) m := nI_clamp (by omega)
      have eW := hMg.W hS (show 1 - s < 2 by omega) hm
      obtain ⟨f, b1, b2⟩ := r_M_hasAgainst (d := d) hS hMg (a := nI s) (b := nI k) (c := nI m) rfl rfl rfl hs (by omega) (by omega)
      rw [zX4_thought_79]
      simp only [zX4_thought_81, zX4_thought_82, zX4_thought_85, zX4_thought_86, zX4_thought_87, zX4_thought_88, zX4_thought_89, zX4_thought_92, zX4_thought_94, zX4_thought_95, zX4_thought_98, zX4_thought_99, zX4_thought_100, zX4_thought_101, zX4_thought_102, zX4_thought_103, zX4_thought_105, zX4_thought_106, zX4_thought_107, zX4_thought_108, zX4_thought_109, zX4_thought_110, zX4_thought_112, zX4_thought_114, zX4_thought_117, zX4_thought_118, zX4_thought_119, zX4_thought_120, zX4_thought_122, zX4_thought_125, nI_1s hs, eco, hc, hibo, hclo, q_cellM, hib2, hcl2, eW, b1, nI_1, e_k_int, e_k_ref, e_k_null, e_k_long, e_k_ret, e_cats_nil, e_cats_int, e_cats_ref, e_cats_ret, e_cats_long, Option.toList_some, Option.toList_none, List.nil_append, List.cons_append, Option.bind_some, Nat.reduceAdd, Nat.reduceLeDiff, Nat.add_zero, if_true, if_false, true_and, and_true, and_self, Int32.reduceToNatClampNeg, ok_1, ok_2, ok_3, ok_4, ok_5, ok_6, ok_7, ok_8, ok_9, ok_30, ok_31, ok_32, ok_33, ok_34, ok_35, ok_36, ok_37, ok_38, ok_39, ok_40, ok_41, ok_42, ok_43, ok_44, ok_45, ok_46, ok_47, ok_48, ok_49, ok_50, ok_51, ok_52, ln_1, ln_2, ln_4, ln_5, ln_6, ln_7, ln_8, ln_30, ln_31, ln_32, ln_33, ln_34, ln_35, ln_36, ln_37, ln_38, ln_39, ln_41, ln_42, ln_43, ln_44, ln_45, ln_46, ln_47, ln_48, ln_49, ln_50, ln_51, ln_52]
      exact ⟨_, _, rfl, rfl, hF.trans b2⟩) (ls := [.ref 40, .int (nI s), .int (nI (q_wt S (1 - s) (q_c S (1 - s)))), .int (q_tm (q_tv S s) k).1, .long (q_tm (q_tv S s) k).2, .null, .int (nI k), .long 0, .null, .int 0]) (h := g) ⟨rfl, hF⟩
    have hc2 : nI (q_c S (1 - s)) ≤ nI (q_c S (1 - s)) := nI_le (Nat.le_refl _) (by omega)
    have eco := (hM.mf hF).c hS (show 1 - s < 2 by omega)
    have tv : q_wg S s k (q_c S (1 - s)) = q_tv S s k := rfl
    rw [e, zX4_thought_79, tv]
    cases k with
    | zero =>
      have e1 : (q_tm (q_tv S s) 0).1 = -1 := rfl
      simp only [zX4_thought_81, zX4_thought_82, zX4_thought_85, zX4_thought_86, zX4_thought_87, zX4_thought_88, zX4_thought_89, zX4_thought_128, zX4_thought_129, zX4_thought_130, zX4_thought_133, zX4_thought_135, zX4_thought_137, zX4_thought_138, zX4_thought_141, zX4_thought_143, zX4_thought_144, zX4_thought_146, zX4_thought_148, zX4_thought_151, nI_1s hs, eco, hc2, hibo, hclo, e1, nI_1, e_k_int, e_k_ref, e_k_null, e_k_long, e_k_ret, e_cats_nil, e_cats_int, e_cats_ref, e_cats_ret, e_cats_long, Option.toList_some, Option.toList_none, List.nil_append, List.cons_append, Option.bind_some, Nat.reduceAdd, Nat.reduceLeDiff, Nat.add_zero, if_true, if_false, true_and, and_true, and_self, Int32.reduceToNatClampNeg, ok_1, ok_2, ok_3, ok_4, ok_5, ok_6, ok_7, ok_8, ok_9, ok_30, ok_31, ok_32, ok_33, ok_34, ok_35, ok_36, ok_37, ok_38, ok_39, ok_40, ok_41, ok_42, ok_43, ok_44, ok_45, ok_46, ok_47, ok_48, ok_49, ok_50, ok_51, ok_52, ln_1, ln_2, ln_4, ln_5, ln_6, ln_7, ln_8, ln_30, ln_31, ln_32, ln_33, ln_34, ln_35, ln_36, ln_37, ln_38, ln_39, ln_41, ln_42, ln_43, ln_44, ln_45, ln_46, ln_47, ln_48, ln_49, ln_50, ln_51, ln_52]
      exact ⟨_, _, rfl, ⟨_, _, _, rfl⟩, hF⟩
    | succ k =>
      obtain ⟨j, j1, j2⟩ := q_bm_nI (q_tv S s) k
      have e1 : ¬ (q_bm (q_tv S s) k).1 = -1 := by rw [j2]; exact nI_nem1 (by omega)
      have nx : q_tm (q_tv S s) (k + 1 + 1) = if q_tv S s (k + 1) ≤ (q_bm (q_tv S s) k).2 then q_bm (q_tv S s) k else (nI (k + 1), q_tv S s (k + 1)) := rfl
      rw [nx]
      simp only [q_tm]
      by_cases c : q_tv S s (k + 1) ≤ (q_bm (q_tv S s) k).2
      · simp only [zX4_thought_81, zX4_thought_82, zX4_thought_85, zX4_thought_86, zX4_thought_87, zX4_thought_88, zX4_thought_89, zX4_thought_128, zX4_thought_129, zX4_thought_130, zX4_thought_133, zX4_thought_135, zX4_thought_137, zX4_thought_138, zX4_thought_141, zX4_thought_143, zX4_thought_144, zX4_thought_146, zX4_thought_148, zX4_thought_151, nI_1s hs, eco, hc2, hibo, hclo, e1, lc_le, c, nI_1, e_k_int, e_k_ref, e_k_null, e_k_long, e_k_ret, e_cats_nil, e_cats_int, e_cats_ref, e_cats_ret, e_cats_long, Option.toList_some, Option.toList_none, List.nil_append, List.cons_append, Option.bind_some, Nat.reduceAdd, Nat.reduceLeDiff, Nat.add_zero, if_true, if_false, true_and, and_true, and_self, Int32.reduceToNatClampNeg, ok_1, ok_2, ok_3, ok_4, ok_5, ok_6, ok_7, ok_8, ok_9, ok_30, ok_31, ok_32, ok_33, ok_34, ok_35, ok_36, ok_37, ok_38, ok_39, ok_40, ok_41, ok_42, ok_43, ok_44, ok_45, ok_46, ok_47, ok_48, ok_49, ok_50, ok_51, ok_52, ln_1, ln_2, ln_4, ln_5, ln_6, ln_7, ln_8, ln_30, ln_31, ln_32, ln_33, ln_34, ln_35, ln_36, ln_37, ln_38, ln_39, ln_41, ln_42, ln_43, ln_44, ln_45, ln_46, ln_47, ln_48, ln_49, ln_50, ln_51, ln_52]
        exact ⟨_, _, rfl, ⟨_, _, _, rfl⟩, hF⟩
      · simp only [zX4_thought_81, zX4_thought_82, zX4_thought_85, zX4_thought_86, zX4_thought_87, zX4_thought_88, zX4_thought_89, zX4_thought_128, zX4_thought_129, zX4_thought_130, zX4_thought_133, zX4_thought_135, zX4_thought_137, zX4_thought_138, zX4_thought_141, zX4_thought_143, zX4_thought_144, zX4_thought_146, zX4_thought_148, zX4_thought_151, nI_1s hs, eco, hc2, hibo, hclo, e1, lc_le, c, nI_1, e_k_int, e_k_ref, e_k_null, e_k_long, e_k_ret, e_cats_nil, e_cats_int, e_cats_ref, e_cats_ret, e_cats_long, Option.toList_some, Option.toList_none, List.nil_append, List.cons_append, Option.bind_some, Nat.reduceAdd, Nat.reduceLeDiff, Nat.add_zero, if_true, if_false, true_and, and_true, and_self, Int32.reduceToNatClampNeg, ok_1, ok_2, ok_3, ok_4, ok_5, ok_6, ok_7, ok_8, ok_9, ok_30, ok_31, ok_32, ok_33, ok_34, ok_35, ok_36, ok_37, ok_38, ok_39, ok_40, ok_41, ok_42, ok_43, ok_44, ok_45, ok_46, ok_47, ok_48, ok_49, ok_50, ok_51, ok_52, ln_1, ln_2, ln_4, ln_5, ln_6, ln_7, ln_8, ln_30, ln_31, ln_32, ln_33, ln_34, ln_35, ln_36, ln_37, ln_38, ln_39, ln_41, ln_42, ln_43, ln_44, ln_45, ln_46, ln_47, ln_48, ln_49, ln_50, ln_51, ln_52]
        exact ⟨_, _, rfl, ⟨_, _, _, rfl⟩, hF⟩) (ls := [.ref 40, .int (nI s), .int (nI (q_wt S (1 - s) (q_c S (1 - s)))), .int (-1), .long 0, .null, .int 0, .null, .null, .null]) (h := h) ⟨⟨_, _, _, rfl⟩, q_mr.refl h⟩
  have hMf := hM.mf hF
  have ec := hMf.c hS hs
  have hc : nI (q_c S s) ≤ nI (q_c S s) := nI_le (Nat.le_refl _) (by omega)
  have rg := q_th_rg hS hs
  have tb := q_tb_rg hS hs hw
  have sc := q_sc_rg hS
  have tf := r_M_tell (d := d + 8) (b := q_tb S s) (top := (q_th S s).2) (g := f) rg.1 rg.2 tb.1 tb.2
  have esc := q_Msc hS hMf
  have e32 : (nI (q_wt S (1 - s) (q_c S (1 - s)))).toInt64 * (nI (q_sc S)).toInt64 = lN (q_tb S s) := by
    rw [nI_l (by omega), nI_l (by omega), lN_mul, Nat.mul_comm]
    rfl
  have etm : q_tm (q_tv S s) (q_c S s) = q_th S s := by
    unfold q_th
    obtain ⟨j, hj⟩ : ∃ j, q_c S s = j + 1 := ⟨q_c S s - 1, by omega⟩
    rw [hj]
    rfl
  refine ⟨q_Mtell f (q_th S s).2 (q_tb S s), ?_, hMf.tell _ _, hF.fr.trans q_Mtell_fr⟩
  rw [e, zX4_thought_62, etm]
  simp only [zX4_thought_64, zX4_thought_65, zX4_thought_68, zX4_thought_69, zX4_thought_70, zX4_thought_154, zX4_thought_155, zX4_thought_157, zX4_thought_158, zX4_thought_159, zX4_thought_160, zX4_thought_163, zX4_thought_164, zX4_thought_165, zX4_thought_168, zX4_thought_169, ec, hib, hcl, hc, r_M_under, esc, e32, tf, e_k_int, e_k_ref, e_k_null, e_k_long, e_k_ret, e_cats_nil, e_cats_int, e_cats_ref, e_cats_ret, e_cats_long, Option.toList_some, Option.toList_none, List.nil_append, List.cons_append, Option.bind_some, Nat.reduceAdd, Nat.reduceLeDiff, Nat.add_zero, if_true, if_false, true_and, and_true, and_self, Int32.reduceToNatClampNeg, ok_1, ok_2, ok_3, ok_4, ok_5, ok_6, ok_7, ok_8, ok_9, ok_30, ok_31, ok_32, ok_33, ok_34, ok_35, ok_36, ok_37, ok_38, ok_39, ok_40, ok_41, ok_42, ok_43, ok_44, ok_45, ok_46, ok_47, ok_48, ok_49, ok_50, ok_51, ok_52, ln_1, ln_2, ln_4, ln_5, ln_6, ln_7, ln_8, ln_30, ln_31, ln_32, ln_33, ln_34, ln_35, ln_36, ln_37, ln_38, ln_39, ln_41, ln_42, ln_43, ln_44, ln_45, ln_46, ln_47, ln_48, ln_49, ln_50, ln_51, ln_52]
theorem r_M_thought_0 {d s : Nat} {S h : e_H} (hS : q_ok S) (hM : q_M S h) (hs : s < 2) (hw : ¬ 0 < q_wt S (1 - s) (q_c S (1 - s))) : e_X e_pg (d + 10) 137 [.ref 40, .int (nI s)] h = some (some (.int (-3)), h) := by
  have e : q_wt S (1 - s) (q_c S (1 - s)) = 0 := by omega
  rw [r_M_all hS hM hs, e]
  simp only [zX4_thought_47, zX4_thought_48, zX4_thought_51, zX4_thought_53, show nI 0 = (0 : Int32) from rfl, not_true_eq_false, e_k_int, e_k_ref, e_k_null, e_k_long, e_k_ret, e_cats_nil, e_cats_int, e_cats_ref, e_cats_ret, e_cats_long, Option.toList_some, Option.toList_none, List.nil_append, List.cons_append, Option.bind_some, Nat.reduceAdd, Nat.reduceLeDiff, Nat.add_zero, if_true, if_false, true_and, and_true, and_self, Int32.reduceToNatClampNeg]
theorem r_M_thought_no {d : Nat} {S : e_H} {a : Int32} (h : ¬ ∃ s, s < 2 ∧ a = nI s) : e_X e_pg (d + 10) 137 [.ref 40, .int a] S = some (some (.int (-2)), S) := by
  rw [xX4_thought]
  simp only [zX4_thought_0, zX4_thought_1, zX4_thought_4, zX4_thought_7, zX4_thought_9, zX4_thought_10, zX4_thought_11, zX4_thought_12, zX4_thought_13, r_M_isSide, p_side_no h, not_true_eq_false, e_k_int, e_k_ref, e_k_null, e_k_long, e_k_ret, e_cats_nil, e_cats_int, e_cats_ref, e_cats_ret, e_cats_long, Option.toList_some, Option.toList_none, List.nil_append, List.cons_append, Option.bind_some, Nat.reduceAdd, Nat.reduceLeDiff, Nat.add_zero, if_true, if_false, true_and, and_true, and_self, Int32.reduceToNatClampNeg]
/-! recalling, the mediator -/
theorem r_M_recall {d s i j : Nat} {S h : e_H} (hS : q_ok S) (hM : q_M S h) (hs : s < 2) (hp : q_pr S i j) : ∃ f, e_X e_pg (d + 9) 141 [.ref 40, .int (nI s), .int (nI i), .int (nI j)] h = some (some (.int (q_rec S s i j)), f) ∧ q_mr h f := by
  obtain ⟨hi, hj⟩ := q_pr5 hS hp
  obtain ⟨f, a1, a2⟩ := r_M_hasOf (d := d) (a := nI s) (b := nI i) (c := nI j) hS hM rfl rfl rfl hs hi hj
  have m2 := hM.mf a2.1
  have f4 : e_gI f 40 4 = e_gI S 0 7 := m2.1.2.1
  have f24 := a2.2.2.1
  refine ⟨f, ?_, a2.1⟩
  have es := p_side_yes hs
  have pr := q_pr_yes hS hp
  rw [xX4_recall]
  unfold q_rec
  by_cases c : (q_res S i j).1 = -5
  · have q : (if e_gI S 0 7 = 2 then (-3 : Int32) else if (q_res S i j).1 = -5 then -3 else if 0 < q_un S s (if s = 0 then i else j) - q_byS S s (if s = 0 then i else j) (q_res S i j).1 then q_un S s (if s = 0 then i else j) - q_byS S s (if s = 0 then i else j) (q_res S i j).1 else 0) = -3 := by
      split <;> rfl
    rw [q]
    simp only [zX4_recall_0, zX4_recall_1, zX4_recall_4, zX4_recall_7, zX4_recall_8, zX4_recall_9, zX4_recall_10, zX4_recall_13, zX4_recall_16, zX4_recall_18, zX4_recall_19, zX4_recall_20, zX4_recall_21, zX4_recall_22, zX4_recall_23, zX4_recall_26, zX4_recall_28, zX4_recall_29, zX4_recall_32, zX4_recall_34, zX4_recall_37, zX4_recall_38, zX4_recall_41, zX4_recall_42, zX4_recall_45, zX4_recall_47, r_M_isSide, es, r_M_arePair hS hM, pr, a1, f24, c, ne_0_1, ne_0_2, ne_0_3, ne_1_0, ne_1_2, ne_1_3, ne_2_0, ne_2_1, ne_2_3, ne_3_0, ne_3_1, ne_3_2, not_false_eq_true, e_k_int, e_k_ref, e_k_null, e_k_long, e_k_ret, e_cats_nil, e_cats_int, e_cats_ref, e_cats_ret, e_cats_long, Option.toList_some, Option.toList_none, List.nil_append, List.cons_append, Option.bind_some, Nat.reduceAdd, Nat.reduceLeDiff, Nat.add_zero, if_true, if_false, true_and, and_true, and_self, Int32.reduceToNatClampNeg]
  · by_cases w : e_gI S 0 7 = 2
    · rw [if_pos w]
      simp only [zX4_recall_0, zX4_recall_1, zX4_recall_4, zX4_recall_7, zX4_recall_8, zX4_recall_9, zX4_recall_10, zX4_recall_13, zX4_recall_16, zX4_recall_18, zX4_recall_19, zX4_recall_20, zX4_recall_21, zX4_recall_22, zX4_recall_23, zX4_recall_26, zX4_recall_28, zX4_recall_29, zX4_recall_32, zX4_recall_34, zX4_recall_37, zX4_recall_38, zX4_recall_41, zX4_recall_42, zX4_recall_45, zX4_recall_47, r_M_isSide, es, r_M_arePair hS hM, pr, a1, f24, c, f4, w, ne_0_1, ne_0_2, ne_0_3, ne_1_0, ne_1_2, ne_1_3, ne_2_0, ne_2_1, ne_2_3, ne_3_0, ne_3_1, ne_3_2, not_false_eq_true, not_true_eq_false, e_k_int, e_k_ref, e_k_null, e_k_long, e_k_ret, e_cats_nil, e_cats_int, e_cats_ref, e_cats_ret, e_cats_long, Option.toList_some, Option.toList_none, List.nil_append, List.cons_append, Option.bind_some, Nat.reduceAdd, Nat.reduceLeDiff, Nat.add_zero, if_true, if_false, true_and, and_true, and_self, Int32.reduceToNatClampNeg]
    · rw [if_neg w, if_neg c]
      have eh : q_has S s i j = q_byS S s (if s = 0 then i else j) (q_res S i j).1 := by
        unfold q_has q_hd q_by
        rw [if_neg w, if_neg c]
      rw [eh] at a1
      have u5 : ∀ k, q_by S s k (-5) = q_un S s k := fun k => if_pos rfl
      rcases (show s = 0 ∨ s = 1 by omega) with rfl | rfl
      · have y := r_M_hasBy (d := d + 4) (s := 0) (k := i) (a := 0) (b := nI i) (x := -5) hS m2 rfl rfl (by decide) hi (Or.inl rfl)
        rw [u5] at y
        simp only [show nI 0 = (0 : Int32) from rfl, if_true] at a1 es ⊢
        by_cases c3 : q_un S 0 i - q_byS S 0 i (q_res S i j).1 ≤ 0
        · rw [if_neg (Int32.not_lt.mpr c3)]
          simp only [zX4_recall_0, zX4_recall_1, zX4_recall_4, zX4_recall_7, zX4_recall_8, zX4_recall_9, zX4_recall_10, zX4_recall_13, zX4_recall_16, zX4_recall_18, zX4_recall_19, zX4_recall_20, zX4_recall_21, zX4_recall_22, zX4_recall_23, zX4_recall_26, zX4_recall_28, zX4_recall_29, zX4_recall_32, zX4_recall_34, zX4_recall_37, zX4_recall_38, zX4_recall_41, zX4_recall_42, zX4_recall_45, zX4_recall_47, zX4_recall_48, zX4_recall_49, zX4_recall_50, zX4_recall_51, zX4_recall_54, zX4_recall_55, zX4_recall_58, zX4_recall_59, zX4_recall_61, zX4_recall_64, zX4_recall_66, zX4_recall_67, zX4_recall_69, zX4_recall_71, zX4_recall_74, zX4_recall_76, zX4_recall_79, zX4_recall_80, r_M_isSide, es, r_M_arePair hS hM, pr, a1, f24, c, f4, w, y, c3, ne_0_1, ne_0_2, ne_0_3, ne_1_0, ne_1_2, ne_1_3, ne_2_0, ne_2_1, ne_2_3, ne_3_0, ne_3_1, ne_3_2, not_false_eq_true, not_true_eq_false, e_k_int, e_k_ref, e_k_null, e_k_long, e_k_ret, e_cats_nil, e_cats_int, e_cats_ref, e_cats_ret, e_cats_long, Option.toList_some, Option.toList_none, List.nil_append, List.cons_append, Option.bind_some, Nat.reduceAdd, Nat.reduceLeDiff, Nat.add_zero, if_true, if_false, true_and, and_true, and_self, Int32.reduceToNatClampNeg]
        · rw [if_pos (Int32.not_le.mp c3)]
          simp only [zX4_recall_0, zX4_recall_1, zX4_recall_4, zX4_recall_7, zX4_recall_8, zX4_recall_9, zX4_recall_10, zX4_recall_13, zX4_recall_16, zX4_recall_18, zX4_recall_19, zX4_recall_20, zX4_recall_21, zX4_recall_22, zX4_recall_23, zX4_recall_26, zX4_recall_28, zX4_recall_29, zX4_recall_32, zX4_recall_34, zX4_recall_37, zX4_recall_38, zX4_recall_41, zX4_recall_42, zX4_recall_45, zX4_recall_47, zX4_recall_48, zX4_recall_49, zX4_recall_50, zX4_recall_51, zX4_recall_54, zX4_recall_55, zX4_recall_58, zX4_recall_59, zX4_recall_61, zX4_recall_64, zX4_recall_66, zX4_recall_67, zX4_recall_69, zX4_recall_71, zX4_recall_74, zX4_recall_76, zX4_recall_79, zX4_recall_80, r_M_isSide, es, r_M_arePair hS hM, pr, a1, f24, c, f4, w, y, c3, ne_0_1, ne_0_2, ne_0_3, ne_1_0, ne_1_2, ne_1_3, ne_2_0, ne_2_1, ne_2_3, ne_3_0, ne_3_1, ne_3_2, not_false_eq_true, not_true_eq_false, e_k_int, e_k_ref, e_k_null, e_k_long, e_k_ret, e_cats_nil, e_cats_int, e_cats_ref, e_cats_ret, e_cats_long, Option.toList_some, Option.toList_none, List.nil_append, List.cons_append, Option.bind_some, Nat.reduceAdd, Nat.reduceLeDiff, Nat.add_zero, if_true, if_false, true_and, and_true, and_self, Int32.reduceToNatClampNeg]
      · have y := r_M_hasBy (d := d + 4) (s := 1) (k := j) (a := 1) (b := nI j) (x := -5) hS m2 rfl rfl (by decide) hj (Or.inl rfl)
        rw [u5] at y
        simp only [show nI 1 = (1 : Int32) from rfl, Nat.one_ne_zero, if_false] at a1 es ⊢
        by_cases c3 : q_un S 1 j - q_byS S 1 j (q_res S i j).1 ≤ 0
        · rw [if_neg (Int32.not_lt.mpr c3)]
          simp only [zX4_recall_0, zX4_recall_1, zX4_recall_4, zX4_recall_7, zX4_recall_8, zX4_recall_9, zX4_recall_10, zX4_recall_13, zX4_recall_16, zX4_recall_18, zX4_recall_19, zX4_recall_20, zX4_recall_21, zX4_recall_22, zX4_recall_23, zX4_recall_26, zX4_recall_28, zX4_recall_29, zX4_recall_32, zX4_recall_34, zX4_recall_37, zX4_recall_38, zX4_recall_41, zX4_recall_42, zX4_recall_45, zX4_recall_47, zX4_recall_48, zX4_recall_49, zX4_recall_50, zX4_recall_51, zX4_recall_54, zX4_recall_55, zX4_recall_58, zX4_recall_59, zX4_recall_61, zX4_recall_64, zX4_recall_66, zX4_recall_67, zX4_recall_69, zX4_recall_71, zX4_recall_74, zX4_recall_76, zX4_recall_79, zX4_recall_80, r_M_isSide, es, r_M_arePair hS hM, pr, a1, f24, c, f4, w, y, c3, ne_0_1, ne_0_2, ne_0_3, ne_1_0, ne_1_2, ne_1_3, ne_2_0, ne_2_1, ne_2_3, ne_3_0, ne_3_1, ne_3_2, not_false_eq_true, not_true_eq_false, e_k_int, e_k_ref, e_k_null, e_k_long, e_k_ret, e_cats_nil, e_cats_int, e_cats_ref, e_cats_ret, e_cats_long, Option.toList_some, Option.toList_none, List.nil_append, List.cons_append, Option.bind_some, Nat.reduceAdd, Nat.reduceLeDiff, Nat.add_zero, if_true, if_false, true_and, and_true, and_self, Int32.reduceToNatClampNeg]
        · rw [if_pos (Int32.not_le.mp c3)]
          simp only [zX4_recall_0, zX4_recall_1, zX4_recall_4, zX4_recall_7, zX4_recall_8, zX4_recall_9, zX4_recall_10, zX4_recall_13, zX4_recall_16, zX4_recall_18, zX4_recall_19, zX4_recall_20, zX4_recall_21, zX4_recall_22, zX4_recall_23, zX4_recall_26, zX4_recall_28, zX4_recall_29, zX4_recall_32, zX4_recall_34, zX4_recall_37, zX4_recall_38, zX4_recall_41, zX4_recall_42, zX4_recall_45, zX4_recall_47, zX4_recall_48, zX4_recall_49, zX4_recall_50, zX4_recall_51, zX4_recall_54, zX4_recall_55, zX4_recall_58, zX4_recall_59, zX4_recall_61, zX4_recall_64, zX4_recall_66, zX4_recall_67, zX4_recall_69, zX4_recall_71, zX4_recall_74, zX4_recall_76, zX4_recall_79, zX4_recall_80, r_M_isSide, es, r_M_arePair hS hM, pr, a1, f24, c, f4, w, y, c3, ne_0_1, ne_0_2, ne_0_3, ne_1_0, ne_1_2, ne_1_3, ne_2_0, ne_2_1, ne_2_3, ne_3_0, ne_3_1, ne_3_2, not_false_eq_true, not_true_eq_false, e_k_int, e_k_ref, e_k_null, e_k_long, e_k_ret, e_cats_nil, e_cats_int, e_cats_ref, e_cats_ret, e_cats_long, Option.toList_some, Option.toList_none, List.nil_append, List.cons_append, Option.bind_some, Nat.reduceAdd, Nat.reduceLeDiff, Nat.add_zero, if_true, if_false, true_and, and_true, and_self, Int32.reduceToNatClampNeg]
theorem r_M_recall_no {d : Nat} {S h : e_H} {s a b : Int32} (hS : q_ok S) (hM : q_M S h) (hp : (¬ ∃ k, k < 2 ∧ s = nI k) ∨ ¬ ∃ i j, q_pr S i j ∧ a = nI i ∧ b = nI j) : e_X e_pg (d + 9) 141 [.ref 40, .int s, .int a, .int b] h = some (some (.int (-2)), h) := by
  rw [xX4_recall]
  rcases hp with hp | hp
  · simp only [zX4_recall_0, zX4_recall_1, zX4_recall_4, zX4_recall_7, zX4_recall_8, zX4_recall_9, zX4_recall_10, zX4_recall_13, zX4_recall_16, zX4_recall_18, r_M_isSide, p_side_no hp, e_k_int, e_k_ref, e_k_null, e_k_long, e_k_ret, e_cats_nil, e_cats_int, e_cats_ref, e_cats_ret, e_cats_long, Option.toList_some, Option.toList_none, List.nil_append, List.cons_append, Option.bind_some, Nat.reduceAdd, Nat.reduceLeDiff, Nat.add_zero, if_true, if_false, true_and, and_true, and_self, Int32.reduceToNatClampNeg]
  · by_cases c : p_side s = 0
    · simp only [zX4_recall_0, zX4_recall_1, zX4_recall_4, zX4_recall_7, zX4_recall_8, zX4_recall_9, zX4_recall_10, zX4_recall_13, zX4_recall_16, zX4_recall_18, r_M_isSide, c, e_k_int, e_k_ref, e_k_null, e_k_long, e_k_ret, e_cats_nil, e_cats_int, e_cats_ref, e_cats_ret, e_cats_long, Option.toList_some, Option.toList_none, List.nil_append, List.cons_append, Option.bind_some, Nat.reduceAdd, Nat.reduceLeDiff, Nat.add_zero, if_true, if_false, true_and, and_true, and_self, Int32.reduceToNatClampNeg]
    · simp only [zX4_recall_0, zX4_recall_1, zX4_recall_4, zX4_recall_7, zX4_recall_8, zX4_recall_9, zX4_recall_10, zX4_recall_13, zX4_recall_16, zX4_recall_18, r_M_isSide, c, r_M_arePair hS hM, q_pr_no hS hp, not_true_eq_false, e_k_int, e_k_ref, e_k_null, e_k_long, e_k_ret, e_cats_nil, e_cats_int, e_cats_ref, e_cats_ret, e_cats_long, Option.toList_some, Option.toList_none, List.nil_append, List.cons_append, Option.bind_some, Nat.reduceAdd, Nat.reduceLeDiff, Nat.add_zero, if_true, if_false, true_and, and_true, and_self, Int32.reduceToNatClampNeg]
set_option maxRecDepth 100000 in
theorem r_M_middle {d i j : Nat} {S h : e_H} {what : Int32} (hS : q_ok S) (hM : q_M S h) (hp : q_pr S i j) (hw : -1 ≤ what) : ∃ f, e_X e_pg (d + 8) 142 [.ref 40, .int (nI i), .int (nI j), .int what] h = some (some (.int (q_mid S i j what)), f) ∧ q_mr h f := by
  obtain ⟨hi, hj⟩ := q_pr5 hS hp
  have hn := hS.n
  have hn2 := hn.2
  have pr := q_pr_yes hS hp
  have h4 : e_gI h 40 4 = e_gI S 0 7 := hM.1.2.1
  obtain ⟨f, m1, m2⟩ := r_M_settleTwo (d := d) (a := nI i) (b := nI j) hS hM rfl rfl hi hj
  have hMf := hM.mf m2.1
  have f24 := m2.2.2.1
  have sh := q_res_sh hS (i := i) (j := j)
  rw [xX4_middle]
  unfold q_mid
  by_cases w : e_gI S 0 7 = 2
  · refine ⟨h, ?_, q_mr.refl h⟩
    rw [if_pos w]
    simp only [zX4_middle_0, zX4_middle_1, zX4_middle_2, zX4_middle_3, zX4_middle_6, zX4_middle_9, zX4_middle_10, zX4_middle_11, zX4_middle_14, zX4_middle_16, zX4_middle_17, zX4_middle_18, zX4_middle_21, zX4_middle_22, zX4_middle_25, zX4_middle_27, r_M_arePair hS hM, pr, h4, w, hw, ne_0_1, ne_0_2, ne_0_3, ne_1_0, ne_1_2, ne_1_3, ne_2_0, ne_2_1, ne_2_3, ne_3_0, ne_3_1, ne_3_2, not_true_eq_false, e_k_int, e_k_ref, e_k_null, e_k_long, e_k_ret, e_cats_nil, e_cats_int, e_cats_ref, e_cats_ret, e_cats_long, Option.toList_some, Option.toList_none, List.nil_append, List.cons_append, Option.bind_some, Nat.reduceAdd, Nat.reduceLeDiff, Nat.add_zero, if_true, if_false, true_and, and_true, and_self, Int32.reduceToNatClampNeg]
  · refine ⟨f, ?_, m2.1⟩
    rw [if_neg w]
    have eh0 : q_has S 0 i j = q_by S 0 i (q_res S i j).1 := by
      unfold q_has q_hd
      rw [if_neg w]
      rfl
    have eh1 : q_has S 1 i j = q_by S 1 j (q_res S i j).1 := by
      unfold q_has q_hd
      rw [if_neg w]
      rfl
    have h0 := r_M_hasBy (d := d + 3) (s := 0) (k := i) (a := 0) (b := nI i) hS hMf rfl rfl (by decide) hi sh.1
    have h1 := r_M_hasBy (d := d + 3) (s := 1) (k := j) (a := 1) (b := nI j) hS hMf rfl rfl (by decide) hj sh.1
    rw [← eh0] at h0
    rw [← eh1] at h1
    have g6 := hMf.n hS
    simp only [zX4_middle_0, zX4_middle_1, zX4_middle_2, zX4_middle_3, zX4_middle_6, zX4_middle_9, zX4_middle_10, zX4_middle_11, zX4_middle_14, zX4_middle_16, zX4_middle_17, zX4_middle_18, zX4_middle_21, zX4_middle_22, zX4_middle_25, zX4_middle_27, zX4_middle_28, zX4_middle_29, zX4_middle_30, zX4_middle_31, zX4_middle_34, zX4_middle_35, zX4_middle_36, zX4_middle_37, zX4_middle_38, zX4_middle_41, zX4_middle_44, zX4_middle_46, zX4_middle_47, zX4_middle_48, zX4_middle_49, zX4_middle_50, zX4_middle_53, zX4_middle_56, zX4_middle_58, zX4_middle_59, zX4_middle_61, zX4_middle_62, r_M_arePair hS hM, pr, h4, w, hw, m1, f24, h0, h1, ne_0_1, ne_0_2, ne_0_3, ne_1_0, ne_1_2, ne_1_3, ne_2_0, ne_2_1, ne_2_3, ne_3_0, ne_3_1, ne_3_2, not_false_eq_true, e_k_int, e_k_ref, e_k_null, e_k_long, e_k_ret, e_cats_nil, e_cats_int, e_cats_ref, e_cats_ret, e_cats_long, Option.toList_some, Option.toList_none, List.nil_append, List.cons_append, Option.bind_some, Nat.reduceAdd, Nat.reduceLeDiff, Nat.add_zero, if_true, if_false, true_and, and_true, and_self, Int32.reduceToNatClampNeg]
    refine f_lq (cd := kX4_middle) (O := e_X e_pg (d + 7)) (pc := 64) (fun k ls h => ls = [.ref 40, .int (nI i), .int (nI j), .int what, .int (q_has S 0 i j), .int (q_has S 1 i j), .int (q_mf (q_mP S i j) what k).1, .int (nI k)] ∧ h = f ∧ (q_mf (q_mP S i j) what k).2 = none) (fun x => x = some (some (.int (q_rend what (q_mf (q_mP S i j) what (q_n S + 1)))), f)) (Nat.zero_le (q_n S + 1)) ?_ ?_ (ls := [.ref 40, .int (nI i), .int (nI j), .int what, .int (q_has S 0 i j), .int (q_has S 1 i j), .int 0, .int 0]) (h := f) ⟨rfl, rfl, rfl⟩
    · rintro k ls h - hk ⟨rfl, rfl, hN⟩
      have hc : ¬ nI (q_n S) < nI k := nI_nlt (by omega) (by omega)
      have hib : e_inb (nI k) 25 = true := e_inb_nI (by omega) (by decide)
      have hcl : (nI k).toNatClampNeg = k := nI_clamp (by omega)
      have bt := m2.2.1 k (by omega)
      have k5 : ¬ nI k = -5 := nI_ne5 (by omega)
      have y0 := r_M_hasBy (d := d + 3) (k := i) (a := 0) (s := 0) (b := nI i) (x := nI k) hS hMf rfl rfl (by decide) hi (Or.inr ⟨k, by omega, rfl⟩)
      have y1 := r_M_hasBy (d := d + 3) (k := j) (a := 1) (s := 1) (b := nI j) (x := nI k) hS hMf rfl rfl (by decide) hj (Or.inr ⟨k, by omega, rfl⟩)
      rw [show q_by S 0 i (nI k) = q_byS S 0 i (nI k) from if_neg k5] at y0
      rw [show q_by S 1 j (nI k) = q_byS S 1 j (nI k) from if_neg k5] at y1
      have nx := q_mf_none hN
      have eP : q_mP S i j k = (decide (¬ q_bt S i j k = 0) && (decide (¬ q_byS S 0 i (nI k) ≤ q_has S 0 i j) && decide (¬ q_byS S 1 j (nI k) ≤ q_has S 1 i j))) := rfl
      rw [zX4_middle_64]
      have no : q_mP S i j k = false → q_mf (q_mP S i j) what (k + 1) = q_mf (q_mP S i j) what k := fun z => by rw [nx, z, if_neg (by decide)]
      by_cases c1 : q_bt S i j k = 0
      · have z := no (by rw [eP]; simp [c1])
        right
        simp only [zX4_middle_66, zX4_middle_67, zX4_middle_70, zX4_middle_73, zX4_middle_74, zX4_middle_77, zX4_middle_79, zX4_middle_80, zX4_middle_83, zX4_middle_84, zX4_middle_85, zX4_middle_86, zX4_middle_88, zX4_middle_91, zX4_middle_93, zX4_middle_96, zX4_middle_97, zX4_middle_98, zX4_middle_99, zX4_middle_101, zX4_middle_104, zX4_middle_106, zX4_middle_109, zX4_middle_111, zX4_middle_112, zX4_middle_115, zX4_middle_117, zX4_middle_118, zX4_middle_121, zX4_middle_124, g6, hc, hib, hcl, bt, c1, nI_1, e_k_int, e_k_ref, e_k_null, e_k_long, e_k_ret, e_cats_nil, e_cats_int, e_cats_ref, e_cats_ret, e_cats_long, Option.toList_some, Option.toList_none, List.nil_append, List.cons_append, Option.bind_some, Nat.reduceAdd, Nat.reduceLeDiff, Nat.add_zero, if_true, if_false, true_and, and_true, and_self, Int32.reduceToNatClampNeg, ok_1, ok_2, ok_3, ok_4, ok_5, ok_6, ok_7, ok_8, ok_9, ok_30, ok_31, ok_32, ok_33, ok_34, ok_35, ok_36, ok_37, ok_38, ok_39, ok_40, ok_41, ok_42, ok_43, ok_44, ok_45, ok_46, ok_47, ok_48, ok_49, ok_50, ok_51, ok_52, ln_1, ln_2, ln_4, ln_5, ln_6, ln_7, ln_8, ln_30, ln_31, ln_32, ln_33, ln_34, ln_35, ln_36, ln_37, ln_38, ln_39, ln_41, ln_42, ln_43, ln_44, ln_45, ln_46, ln_47, ln_48, ln_49, ln_50, ln_51, ln_52, ib_0_9, ib_1_9, ib_2_9, ib_3_9, ib_4_9, ib_5_9, ib_6_9, ib_7_9, ib_8_9, ib_0_2, ib_1_2, ib_0_5, ib_1_5, ib_2_5, ib_3_5, ib_4_5, ib_0_25, ib_0_10, ib_5_10, ib_0_90, ib_45_90, ib_0_64]
        exact ⟨_, _, rfl, by rw [z], rfl, by rw [z]; exact hN⟩
      · by_cases c2 : q_byS S 0 i (nI k) ≤ q_has S 0 i j
        · have z := no (by rw [eP]; simp [c2])
          right
          simp only [zX4_middle_66, zX4_middle_67, zX4_middle_70, zX4_middle_73, zX4_middle_74, zX4_middle_77, zX4_middle_79, zX4_middle_80, zX4_middle_83, zX4_middle_84, zX4_middle_85, zX4_middle_86, zX4_middle_88, zX4_middle_91, zX4_middle_93, zX4_middle_96, zX4_middle_97, zX4_middle_98, zX4_middle_99, zX4_middle_101, zX4_middle_104, zX4_middle_106, zX4_middle_109, zX4_middle_111, zX4_middle_112, zX4_middle_115, zX4_middle_117, zX4_middle_118, zX4_middle_121, zX4_middle_124, g6, hc, hib, hcl, bt, c1, y0, c2, nI_1, e_k_int, e_k_ref, e_k_null, e_k_long, e_k_ret, e_cats_nil, e_cats_int, e_cats_ref, e_cats_ret, e_cats_long, Option.toList_some, Option.toList_none, List.nil_append, List.cons_append, Option.bind_some, Nat.reduceAdd, Nat.reduceLeDiff, Nat.add_zero, if_true, if_false, true_and, and_true, and_self, Int32.reduceToNatClampNeg, ok_1, ok_2, ok_3, ok_4, ok_5, ok_6, ok_7, ok_8, ok_9, ok_30, ok_31, ok_32, ok_33, ok_34, ok_35, ok_36, ok_37, ok_38, ok_39, ok_40, ok_41, ok_42, ok_43, ok_44, ok_45, ok_46, ok_47, ok_48, ok_49, ok_50, ok_51, ok_52, ln_1, ln_2, ln_4, ln_5, ln_6, ln_7, ln_8, ln_30, ln_31, ln_32, ln_33, ln_34, ln_35, ln_36, ln_37, ln_38, ln_39, ln_41, ln_42, ln_43, ln_44, ln_45, ln_46, ln_47, ln_48, ln_49, ln_50, ln_51, ln_52, ib_0_9, ib_1_9, ib_2_9, ib_3_9, ib_4_9, ib_5_9, ib_6_9, ib_7_9, ib_8_9, ib_0_2, ib_1_2, ib_0_5, ib_1_5, ib_2_5, ib_3_5, ib_4_5, ib_0_25, ib_0_10, ib_5_10, ib_0_90, ib_45_90, ib_0_64]
          exact ⟨_, _, rfl, by rw [z], rfl, by rw [z]; exact hN⟩
        · by_cases c3 : q_byS S 1 j (nI k) ≤ q_has S 1 i j
          · have z := no (by rw [eP]; simp [c3])
            right
            simp only [zX4_middle_66, zX4_middle_67, zX4_middle_70, zX4_middle_73, zX4_middle_74, zX4_middle_77, zX4_middle_79, zX4_middle_80, zX4_middle_83, zX4_middle_84, zX4_middle_85, zX4_middle_86, zX4_middle_88, zX4_middle_91, zX4_middle_93, zX4_middle_96, zX4_middle_97, zX4_middle_98, zX4_middle_99, zX4_middle_101, zX4_middle_104, zX4_middle_106, zX4_middle_109, zX4_middle_111, zX4_middle_112, zX4_middle_115, zX4_middle_117, zX4_middle_118, zX4_middle_121, zX4_middle_124, g6, hc, hib, hcl, bt, c1, y0, y1, c2, c3, nI_1, e_k_int, e_k_ref, e_k_null, e_k_long, e_k_ret, e_cats_nil, e_cats_int, e_cats_ref, e_cats_ret, e_cats_long, Option.toList_some, Option.toList_none, List.nil_append, List.cons_append, Option.bind_some, Nat.reduceAdd, Nat.reduceLeDiff, Nat.add_zero, if_true, if_false, true_and, and_true, and_self, Int32.reduceToNatClampNeg, ok_1, ok_2, ok_3, ok_4, ok_5, ok_6, ok_7, ok_8, ok_9, ok_30, ok_31, ok_32, ok_33, ok_34, ok_35, ok_36, ok_37, ok_38, ok_39, ok_40, ok_41, ok_42, ok_43, ok_44, ok_45, ok_46, ok_47, ok_48, ok_49, ok_50, ok_51, ok_52, ln_1, ln_2, ln_4, ln_5, ln_6, ln_7, ln_8, ln_30, ln_31, ln_32, ln_33, ln_34, ln_35, ln_36, ln_37, ln_38, ln_39, ln_41, ln_42, ln_43, ln_44, ln_45, ln_46, ln_47, ln_48, ln_49, ln_50, ln_51, ln_52, ib_0_9, ib_1_9, ib_2_9, ib_3_9, ib_4_9, ib_5_9, ib_6_9, ib_7_9, ib_8_9, ib_0_2, ib_1_2, ib_0_5, ib_1_5, ib_2_5, ib_3_5, ib_4_5, ib_0_25, ib_0_10, ib_5_10, ib_0_90, ib_45_90, ib_0_64]
            exact ⟨_, _, rfl, by rw [z], rfl, by rw [z]; exact hN⟩
          · have yes : q_mP S i j k = true := by rw [eP]; simp only [c1, c2, c3, not_false_eq_true, decide_true, Bool.and_self]
            rw [yes, if_pos rfl] at nx
            by_cases cw : (q_mf (q_mP S i j) what k).1 = what
            · rw [if_pos cw] at nx
              left
              have q : q_rend what (q_mf (q_mP S i j) what (q_n S + 1)) = nI k := q_rend_some (q_mf_some (k := k + 1) (by omega) (by rw [nx]))
              rw [q]
              simp only [zX4_middle_66, zX4_middle_67, zX4_middle_70, zX4_middle_73, zX4_middle_74, zX4_middle_77, zX4_middle_79, zX4_middle_80, zX4_middle_83, zX4_middle_84, zX4_middle_85, zX4_middle_86, zX4_middle_88, zX4_middle_91, zX4_middle_93, zX4_middle_96, zX4_middle_97, zX4_middle_98, zX4_middle_99, zX4_middle_101, zX4_middle_104, zX4_middle_106, zX4_middle_109, zX4_middle_111, zX4_middle_112, zX4_middle_115, zX4_middle_117, zX4_middle_118, zX4_middle_121, zX4_middle_124, g6, hc, hib, hcl, bt, c1, y0, y1, c2, c3, cw, not_true_eq_false, nI_1, e_k_int, e_k_ref, e_k_null, e_k_long, e_k_ret, e_cats_nil, e_cats_int, e_cats_ref, e_cats_ret, e_cats_long, Option.toList_some, Option.toList_none, List.nil_append, List.cons_append, Option.bind_some, Nat.reduceAdd, Nat.reduceLeDiff, Nat.add_zero, if_true, if_false, true_and, and_true, and_self, Int32.reduceToNatClampNeg, ok_1, ok_2, ok_3, ok_4, ok_5, ok_6, ok_7, ok_8, ok_9, ok_30, ok_31, ok_32, ok_33, ok_34, ok_35, ok_36, ok_37, ok_38, ok_39, ok_40, ok_41, ok_42, ok_43, ok_44, ok_45, ok_46, ok_47, ok_48, ok_49, ok_50, ok_51, ok_52, ln_1, ln_2, ln_4, ln_5, ln_6, ln_7, ln_8, ln_30, ln_31, ln_32, ln_33, ln_34, ln_35, ln_36, ln_37, ln_38, ln_39, ln_41, ln_42, ln_43, ln_44, ln_45, ln_46, ln_47, ln_48, ln_49, ln_50, ln_51, ln_52, ib_0_9, ib_1_9, ib_2_9, ib_3_9, ib_4_9, ib_5_9, ib_6_9, ib_7_9, ib_8_9, ib_0_2, ib_1_2, ib_0_5, ib_1_5, ib_2_5, ib_3_5, ib_4_5, ib_0_25, ib_0_10, ib_5_10, ib_0_90, ib_45_90, ib_0_64]
            · rw [if_neg cw] at nx
              right
              simp only [zX4_middle_66, zX4_middle_67, zX4_middle_70, zX4_middle_73, zX4_middle_74, zX4_middle_77, zX4_middle_79, zX4_middle_80, zX4_middle_83, zX4_middle_84, zX4_middle_85, zX4_middle_86, zX4_middle_88, zX4_middle_91, zX4_middle_93, zX4_middle_96, zX4_middle_97, zX4_middle_98, zX4_middle_99, zX4_middle_101, zX4_middle_104, zX4_middle_106, zX4_middle_109, zX4_middle_111, zX4_middle_112, zX4_middle_115, zX4_middle_117, zX4_middle_118, zX4_middle_121, zX4_middle_124, g6, hc, hib, hcl, bt, c1, y0, y1, c2, c3, cw, not_false_eq_true, nI_1, e_k_int, e_k_ref, e_k_null, e_k_long, e_k_ret, e_cats_nil, e_cats_int, e_cats_ref, e_cats_ret, e_cats_long, Option.toList_some, Option.toList_none, List.nil_append, List.cons_append, Option.bind_some, Nat.reduceAdd, Nat.reduceLeDiff, Nat.add_zero, if_true, if_false, true_and, and_true, and_self, Int32.reduceToNatClampNeg, ok_1, ok_2, ok_3, ok_4, ok_5, ok_6, ok_7, ok_8, ok_9, ok_30, ok_31, ok_32, ok_33, ok_34, ok_35, ok_36, ok_37, ok_38, ok_39, ok_40, ok_41, ok_42, ok_43, ok_44, ok_45, ok_46, ok_47, ok_48, ok_49, ok_50, ok_51, ok_52, ln_1, ln_2, ln_4, ln_5, ln_6, ln_7, ln_8, ln_30, ln_31, ln_32, ln_33, ln_34, ln_35, ln_36, ln_37, ln_38, ln_39, ln_41, ln_42, ln_43, ln_44, ln_45, ln_46, ln_47, ln_48, ln_49, ln_50, ln_51, ln_52, ib_0_9, ib_1_9, ib_2_9, ib_3_9, ib_4_9, ib_5_9, ib_6_9, ib_7_9, ib_8_9, ib_0_2, ib_1_2, ib_0_5, ib_1_5, ib_2_5, ib_3_5, ib_4_5, ib_0_25, ib_0_10, ib_5_10, ib_0_90, ib_45_90, ib_0_64]
              exact ⟨_, _, rfl, by rw [nx], rfl, by rw [nx]⟩
    · rintro ls h ⟨rfl, rfl, hN⟩
      have hc : nI (q_n S) < nI (q_n S + 1) := nI_lt (by omega) (by omega)
      have q : q_rend what (q_mf (q_mP S i j) what (q_n S + 1)) = if what = -1 then (q_mf (q_mP S i j) what (q_n S + 1)).1 else -5 := by
        unfold q_rend
        rw [hN]
      rw [q, zX4_middle_64]
      by_cases cw : what = -1
      · simp only [zX4_middle_66, zX4_middle_67, zX4_middle_70, zX4_middle_127, zX4_middle_128, zX4_middle_129, zX4_middle_132, zX4_middle_134, zX4_middle_137, zX4_middle_139, g6, hc, cw, not_true_eq_false, e_k_int, e_k_ref, e_k_null, e_k_long, e_k_ret, e_cats_nil, e_cats_int, e_cats_ref, e_cats_ret, e_cats_long, Option.toList_some, Option.toList_none, List.nil_append, List.cons_append, Option.bind_some, Nat.reduceAdd, Nat.reduceLeDiff, Nat.add_zero, if_true, if_false, true_and, and_true, and_self, Int32.reduceToNatClampNeg, ok_1, ok_2, ok_3, ok_4, ok_5, ok_6, ok_7, ok_8, ok_9, ok_30, ok_31, ok_32, ok_33, ok_34, ok_35, ok_36, ok_37, ok_38, ok_39, ok_40, ok_41, ok_42, ok_43, ok_44, ok_45, ok_46, ok_47, ok_48, ok_49, ok_50, ok_51, ok_52, ln_1, ln_2, ln_4, ln_5, ln_6, ln_7, ln_8, ln_30, ln_31, ln_32, ln_33, ln_34, ln_35, ln_36, ln_37, ln_38, ln_39, ln_41, ln_42, ln_43, ln_44, ln_45, ln_46, ln_47, ln_48, ln_49, ln_50, ln_51, ln_52, ib_0_9, ib_1_9, ib_2_9, ib_3_9, ib_4_9, ib_5_9, ib_6_9, ib_7_9, ib_8_9, ib_0_2, ib_1_2, ib_0_5, ib_1_5, ib_2_5, ib_3_5, ib_4_5, ib_0_25, ib_0_10, ib_5_10, ib_0_90, ib_45_90, ib_0_64]
      · simp only [zX4_middle_66, zX4_middle_67, zX4_middle_70, zX4_middle_127, zX4_middle_128, zX4_middle_129, zX4_middle_132, zX4_middle_134, zX4_middle_137, zX4_middle_139, g6, hc, cw, not_false_eq_true, e_k_int, e_k_ref, e_k_null, e_k_long, e_k_ret, e_cats_nil, e_cats_int, e_cats_ref, e_cats_ret, e_cats_long, Option.toList_some, Option.toList_none, List.nil_append, List.cons_append, Option.bind_some, Nat.reduceAdd, Nat.reduceLeDiff, Nat.add_zero, if_true, if_false, true_and, and_true, and_self, Int32.reduceToNatClampNeg, ok_1, ok_2, ok_3, ok_4, ok_5, ok_6, ok_7, ok_8, ok_9, ok_30, ok_31, ok_32, ok_33, ok_34, ok_35, ok_36, ok_37, ok_38, ok_39, ok_40, ok_41, ok_42, ok_43, ok_44, ok_45, ok_46, ok_47, ok_48, ok_49, ok_50, ok_51, ok_52, ln_1, ln_2, ln_4, ln_5, ln_6, ln_7, ln_8, ln_30, ln_31, ln_32, ln_33, ln_34, ln_35, ln_36, ln_37, ln_38, ln_39, ln_41, ln_42, ln_43, ln_44, ln_45, ln_46, ln_47, ln_48, ln_49, ln_50, ln_51, ln_52, ib_0_9, ib_1_9, ib_2_9, ib_3_9, ib_4_9, ib_5_9, ib_6_9, ib_7_9, ib_8_9, ib_0_2, ib_1_2, ib_0_5, ib_1_5, ib_2_5, ib_3_5, ib_4_5, ib_0_25, ib_0_10, ib_5_10, ib_0_90, ib_45_90, ib_0_64]
theorem r_M_middle_no {d : Nat} {S h : e_H} {a b what : Int32} (hS : q_ok S) (hM : q_M S h) (hp : (¬ ∃ i j, q_pr S i j ∧ a = nI i ∧ b = nI j) ∨ ¬ -1 ≤ what) : e_X e_pg (d + 8) 142 [.ref 40, .int a, .int b, .int what] h = some (some (.int (-10)), h) := by
  rw [xX4_middle]
  by_cases c : (if p_isE (e_gI S 1) 0 a = 0 then (0 : Int32) else p_isE (e_gI S 1) 1 b) = 0
  · simp only [zX4_middle_0, zX4_middle_1, zX4_middle_2, zX4_middle_3, zX4_middle_6, zX4_middle_9, zX4_middle_10, zX4_middle_11, zX4_middle_14, zX4_middle_16, zX4_middle_17, zX4_middle_18, zX4_middle_21, zX4_middle_22, zX4_middle_25, zX4_middle_27, r_M_arePair hS hM, c, e_k_int, e_k_ref, e_k_null, e_k_long, e_k_ret, e_cats_nil, e_cats_int, e_cats_ref, e_cats_ret, e_cats_long, Option.toList_some, Option.toList_none, List.nil_append, List.cons_append, Option.bind_some, Nat.reduceAdd, Nat.reduceLeDiff, Nat.add_zero, if_true, if_false, true_and, and_true, and_self, Int32.reduceToNatClampNeg]
  · have c2 : ¬ -1 ≤ what := by
      rcases hp with z | z
      · exact absurd (q_pr_no hS z) c
      · exact z
    simp only [zX4_middle_0, zX4_middle_1, zX4_middle_2, zX4_middle_3, zX4_middle_6, zX4_middle_9, zX4_middle_10, zX4_middle_11, zX4_middle_14, zX4_middle_16, zX4_middle_17, zX4_middle_18, zX4_middle_21, zX4_middle_22, zX4_middle_25, zX4_middle_27, r_M_arePair hS hM, c, c2, e_k_int, e_k_ref, e_k_null, e_k_long, e_k_ret, e_cats_nil, e_cats_int, e_cats_ref, e_cats_ret, e_cats_long, Option.toList_some, Option.toList_none, List.nil_append, List.cons_append, Option.bind_some, Nat.reduceAdd, Nat.reduceLeDiff, Nat.add_zero, if_true, if_false, true_and, and_true, and_self, Int32.reduceToNatClampNeg]
