/-! the model: small methods -/
theorem lc_lt (x y : Int64) : (lg_cmp x y < 0) = (x < y) := propext (lg_cmp_lt x y)
theorem lc_gt (x y : Int64) : (0 < lg_cmp x y) = (y < x) := propext (lg_cmp_gt x y)
theorem lc_le (x y : Int64) : (lg_cmp x y ≤ 0) = (x ≤ y) := propext (lg_cmp_le x y)
theorem lc_ge (x y : Int64) : (0 ≤ lg_cmp x y) = (y ≤ x) := propext (lg_cmp_ge x y)
theorem lc_eq (x y : Int64) : (lg_cmp x y = 0) = (x = y) := propext (lg_cmp_eq x y)
theorem t64_lt {x y : Int32} : (x.toInt64 < y.toInt64) = (x < y) := by
  rw [Int64.lt_iff_toInt_lt, Int32.lt_iff_toInt_lt, Int32.toInt_toInt64, Int32.toInt_toInt64]
theorem t64_le {x y : Int32} : (x.toInt64 ≤ y.toInt64) = (x ≤ y) := by
  rw [Int64.le_iff_toInt_le, Int32.le_iff_toInt_le, Int32.toInt_toInt64, Int32.toInt_toInt64]
theorem r_in {d : Nat} {v a b : Int64} {h : e_H} : e_X e_pg (d + 1) 85 [.long v, .long a, .long b] h = some (some (.int (if v < a then 0 else if b < v then 0 else 1)), h) := by
  rw [xX4_in]
  simp only [zX4_in_0, zX4_in_1, zX4_in_2, zX4_in_3, zX4_in_6, zX4_in_7, zX4_in_9, zX4_in_10, zX4_in_13, zX4_in_14, zX4_in_17, zX4_in_18, lc_lt, lc_gt, lc_le, lc_ge, e_k_int, e_k_ref, e_k_null, e_k_long, e_k_ret, e_cats_nil, e_cats_int, e_cats_ref, e_cats_ret, e_cats_long, Option.toList_some, Option.toList_none, List.nil_append, List.cons_append, Option.bind_some, Nat.reduceAdd, Nat.reduceLeDiff, Nat.add_zero, if_true, if_false, true_and, and_true, and_self, Int32.reduceToNatClampNeg]
  repeat' split
  all_goals (first | (simp_all; done) | grind)
theorem r_in32 {d : Nat} {v k m : Int32} {a b : Int64} {h : e_H} (ha : k.toInt64 = a) (hb : m.toInt64 = b) : e_X e_pg (d + 1) 85 [.long v.toInt64, .long a, .long b] h = some (some (.int (if v < k then 0 else if m < v then 0 else 1)), h) := by
  subst ha; subst hb
  rw [r_in]
  simp only [t64_lt]
theorem p_side_in (s : Int32) : (if s < 0 then 0 else if 1 < s then 0 else 1) = p_side s := by
  unfold p_side
  by_cases h0 : s = 0
  · subst h0; rfl
  · by_cases h1 : s = 1
    · subst h1; rfl
    · rw [if_neg h0, if_pos h1]
      have e0 : s.toInt ≠ 0 := fun q => h0 (Int32.toInt_inj.mp q)
      have e1 : s.toInt ≠ 1 := fun q => h1 (Int32.toInt_inj.mp q)
      by_cases hl : s < 0
      · rw [if_pos hl]
      · rw [if_neg hl, if_pos]
        rw [Int32.lt_iff_toInt_lt] at hl ⊢
        have z0 : (0 : Int32).toInt = 0 := rfl
        have z1 : (1 : Int32).toInt = 1 := rfl
        omega
theorem r_M_isSide {d : Nat} {s : Int32} {h : e_H} : e_X e_pg (d + 2) 86 [.int s] h = some (some (.int (p_side s)), h) := by
  have h1 : p_side s = 0 ∨ p_side s = 1 := by
    unfold p_side
    repeat' split
    all_goals simp
  rw [xX4_isSide]
  simp only [zX4_isSide_0, zX4_isSide_1, zX4_isSide_2, zX4_isSide_3, zX4_isSide_4, zX4_isSide_7, r_in32 (k := 0) (m := 1) (a := 0) (b := 1) rfl rfl, p_side_in, h1, e_k_int, e_k_ref, e_k_null, e_k_long, e_k_ret, e_cats_nil, e_cats_int, e_cats_ref, e_cats_ret, e_cats_long, Option.toList_some, Option.toList_none, List.nil_append, List.cons_append, Option.bind_some, Nat.reduceAdd, Nat.reduceLeDiff, Nat.add_zero, if_true, if_false, true_and, and_true, and_self, Int32.reduceToNatClampNeg]
theorem r_M_of {d s k w : Nat} {a b c : Int32} {h : e_H} (ha : a = nI s) (hb : b = nI k) (hc : c = nI w) (hs : s < 2) (hk : k < 5) (hw : w < 9) : e_X e_pg (d + 1) 88 [.ref 40, .int a, .int b, .int c] h = some (some (.int (e_gI h 41 (9 * (5 * s + k) + w))), h) := by
  subst ha; subst hb; subst hc
  have h1 : 45 * nI s + 9 * nI k + nI w = nI (9 * (5 * s + k) + w) := by
    rw [show (45 : Int32) = nI 45 from rfl, show (9 : Int32) = nI 9 from rfl, pk_mul, pk_mul, nI_add, nI_add]
    congr 1
    omega
  rw [xX4_of]
  simp only [zX4_of_0, zX4_of_1, zX4_of_4, zX4_of_6, zX4_of_7, zX4_of_8, zX4_of_10, zX4_of_11, zX4_of_12, zX4_of_13, zX4_of_14, zX4_of_15, zX4_of_16, h1, e_inb_nI (show 9 * (5 * s + k) + w < 90 by omega) (by decide), nI_clamp (show 9 * (5 * s + k) + w < 2 ^ 31 by omega), e_k_int, e_k_ref, e_k_null, e_k_long, e_k_ret, e_cats_nil, e_cats_int, e_cats_ref, e_cats_ret, e_cats_long, Option.toList_some, Option.toList_none, List.nil_append, List.cons_append, Option.bind_some, Nat.reduceAdd, Nat.reduceLeDiff, Nat.add_zero, if_true, if_false, true_and, and_true, and_self, Int32.reduceToNatClampNeg, ok_1, ok_2, ok_3, ok_4, ok_5, ok_6, ok_7, ok_8, ok_9, ok_30, ok_31, ok_32, ok_33, ok_34, ok_35, ok_36, ok_37, ok_38, ok_39, ok_40, ok_41, ok_42, ok_43, ok_44, ok_45, ok_46, ok_47, ok_48, ok_49, ok_50, ok_51, ok_52, ln_1, ln_2, ln_4, ln_5, ln_6, ln_7, ln_8, ln_30, ln_31, ln_32, ln_33, ln_34, ln_35, ln_36, ln_37, ln_38, ln_39, ln_41, ln_42, ln_43, ln_44, ln_45, ln_46, ln_47, ln_48, ln_49, ln_50, ln_51, ln_52]
theorem r_M_steps {d : Nat} {v : Int32} {h : e_H} : e_X e_pg (d + 2) 89 [.ref 40, .int v] h = if v < 1 then some (some (.int (-2)), h) else if v ≤ 24 then some (some (.int (e_gI h 40 0)), e_pI h 40 0 v) else some (some (.int (-2)), h) := by
  rw [xX4_steps]
  simp only [zX4_steps_0, zX4_steps_1, zX4_steps_2, zX4_steps_3, zX4_steps_6, zX4_steps_9, zX4_steps_12, zX4_steps_14, zX4_steps_15, zX4_steps_16, zX4_steps_19, zX4_steps_20, zX4_steps_21, zX4_steps_22, zX4_steps_25, zX4_steps_26, r_in32 (k := 1) (m := 24) (a := 1) (b := 24) rfl rfl, e_k_int, e_k_ref, e_k_null, e_k_long, e_k_ret, e_cats_nil, e_cats_int, e_cats_ref, e_cats_ret, e_cats_long, Option.toList_some, Option.toList_none, List.nil_append, List.cons_append, Option.bind_some, Nat.reduceAdd, Nat.reduceLeDiff, Nat.add_zero, if_true, if_false, true_and, and_true, and_self, Int32.reduceToNatClampNeg]
  repeat' split
  all_goals (first | (simp_all; done) | grind)
theorem r_M_lot {d : Nat} {a b : Int32} {h : e_H} : e_X e_pg (d + 2) 99 [.ref 40, .int a, .int b] h = if b < 1 then some (some (.int (-2)), h) else if 9 < b then some (some (.int (-2)), h) else if a < 0 then some (some (.int (-2)), h) else if a ≤ b then some (some (.int 1), e_pI (e_pI h 40 7 a) 40 8 b) else some (some (.int (-2)), h) := by
  rw [xX4_lot]
  simp only [zX4_lot_0, zX4_lot_1, zX4_lot_2, zX4_lot_3, zX4_lot_6, zX4_lot_9, zX4_lot_12, zX4_lot_13, zX4_lot_14, zX4_lot_15, zX4_lot_16, zX4_lot_17, zX4_lot_20, zX4_lot_23, zX4_lot_25, zX4_lot_26, zX4_lot_27, zX4_lot_28, zX4_lot_31, zX4_lot_32, zX4_lot_33, zX4_lot_36, zX4_lot_37, r_in32 (k := 1) (m := 9) (a := 1) (b := 9) rfl rfl, r_in32 (v := a) (k := 0) (m := b) (a := 0) rfl rfl, e_k_int, e_k_ref, e_k_null, e_k_long, e_k_ret, e_cats_nil, e_cats_int, e_cats_ref, e_cats_ret, e_cats_long, Option.toList_some, Option.toList_none, List.nil_append, List.cons_append, Option.bind_some, Nat.reduceAdd, Nat.reduceLeDiff, Nat.add_zero, if_true, if_false, true_and, and_true, and_self, Int32.reduceToNatClampNeg]
  repeat' split
  all_goals (first | (simp_all; done) | grind)
theorem r_M_set0 {d : Nat} {v : Int32} {h : e_H} : e_X e_pg (d + 2) 98 [.ref 40, .int 0, .int v] h = if v < 0 then some (some (.int (-2)), h) else if v ≤ 3 then some (some (.int (e_gI h 40 4)), e_pI h 40 4 v) else some (some (.int (-2)), h) := by
  rw [xX4_set]
  simp only [zX4_set_0, zX4_set_1, zX4_set_4, zX4_set_5, zX4_set_6, zX4_set_7, zX4_set_10, zX4_set_13, zX4_set_16, zX4_set_17, zX4_set_18, zX4_set_21, zX4_set_22, zX4_set_23, zX4_set_24, zX4_set_27, zX4_set_30, zX4_set_33, zX4_set_34, zX4_set_35, zX4_set_38, zX4_set_39, zX4_set_40, zX4_set_41, zX4_set_44, zX4_set_47, zX4_set_50, zX4_set_51, zX4_set_54, zX4_set_55, zX4_set_56, zX4_set_57, zX4_set_60, zX4_set_62, zX4_set_63, zX4_set_64, zX4_set_67, zX4_set_68, zX4_set_71, zX4_set_74, zX4_set_75, zX4_set_76, zX4_set_79, zX4_set_80, zX4_set_83, zX4_set_86, zX4_set_87, zX4_set_90, zX4_set_92, zX4_set_93, zX4_set_96, zX4_set_97, zX4_set_98, zX4_set_101, zX4_set_104, zX4_set_105, zX4_set_106, zX4_set_109, zX4_set_110, zX4_set_111, zX4_set_114, zX4_set_117, zX4_set_118, zX4_set_119, zX4_set_122, zX4_set_124, r_in32 (k := 0) (m := 3) (a := 0) (b := 3) rfl rfl, ne_0_1, ne_0_2, ne_0_3, ne_1_0, ne_1_2, ne_1_3, ne_2_0, ne_2_1, ne_2_3, ne_3_0, ne_3_1, ne_3_2, e_k_int, e_k_ref, e_k_null, e_k_long, e_k_ret, e_cats_nil, e_cats_int, e_cats_ref, e_cats_ret, e_cats_long, Option.toList_some, Option.toList_none, List.nil_append, List.cons_append, Option.bind_some, Nat.reduceAdd, Nat.reduceLeDiff, Nat.add_zero, if_true, if_false, true_and, and_true, and_self, Int32.reduceToNatClampNeg]
  repeat' split
  all_goals (first | (simp_all; done) | grind)
theorem r_M_set1 {d : Nat} {v : Int32} {h : e_H} : e_X e_pg (d + 2) 98 [.ref 40, .int 1, .int v] h = if v < 1 then some (some (.int (-2)), h) else if v ≤ 9 then some (some (.int (e_gI h 40 5)), e_pI h 40 5 v) else some (some (.int (-2)), h) := by
  rw [xX4_set]
  simp only [zX4_set_0, zX4_set_1, zX4_set_4, zX4_set_5, zX4_set_6, zX4_set_7, zX4_set_10, zX4_set_13, zX4_set_16, zX4_set_17, zX4_set_18, zX4_set_21, zX4_set_22, zX4_set_23, zX4_set_24, zX4_set_27, zX4_set_30, zX4_set_33, zX4_set_34, zX4_set_35, zX4_set_38, zX4_set_39, zX4_set_40, zX4_set_41, zX4_set_44, zX4_set_47, zX4_set_50, zX4_set_51, zX4_set_54, zX4_set_55, zX4_set_56, zX4_set_57, zX4_set_60, zX4_set_62, zX4_set_63, zX4_set_64, zX4_set_67, zX4_set_68, zX4_set_71, zX4_set_74, zX4_set_75, zX4_set_76, zX4_set_79, zX4_set_80, zX4_set_83, zX4_set_86, zX4_set_87, zX4_set_90, zX4_set_92, zX4_set_93, zX4_set_96, zX4_set_97, zX4_set_98, zX4_set_101, zX4_set_104, zX4_set_105, zX4_set_106, zX4_set_109, zX4_set_110, zX4_set_111, zX4_set_114, zX4_set_117, zX4_set_118, zX4_set_119, zX4_set_122, zX4_set_124, r_in32 (k := 1) (m := 9) (a := 1) (b := 9) rfl rfl, ne_0_1, ne_0_2, ne_0_3, ne_1_0, ne_1_2, ne_1_3, ne_2_0, ne_2_1, ne_2_3, ne_3_0, ne_3_1, ne_3_2, not_false_eq_true, not_true_eq_false, e_k_int, e_k_ref, e_k_null, e_k_long, e_k_ret, e_cats_nil, e_cats_int, e_cats_ref, e_cats_ret, e_cats_long, Option.toList_some, Option.toList_none, List.nil_append, List.cons_append, Option.bind_some, Nat.reduceAdd, Nat.reduceLeDiff, Nat.add_zero, if_true, if_false, true_and, and_true, and_self, Int32.reduceToNatClampNeg]
  repeat' split
  all_goals (first | (simp_all; done) | grind)
theorem r_M_set2 {d : Nat} {v : Int32} {h : e_H} : e_X e_pg (d + 2) 98 [.ref 40, .int 2, .int v] h = if v < 0 then some (some (.int (-2)), h) else if v ≤ 50 then some (some (.int (e_gI h 40 6)), e_pI h 40 6 v) else some (some (.int (-2)), h) := by
  rw [xX4_set]
  simp only [zX4_set_0, zX4_set_1, zX4_set_4, zX4_set_5, zX4_set_6, zX4_set_7, zX4_set_10, zX4_set_13, zX4_set_16, zX4_set_17, zX4_set_18, zX4_set_21, zX4_set_22, zX4_set_23, zX4_set_24, zX4_set_27, zX4_set_30, zX4_set_33, zX4_set_34, zX4_set_35, zX4_set_38, zX4_set_39, zX4_set_40, zX4_set_41, zX4_set_44, zX4_set_47, zX4_set_50, zX4_set_51, zX4_set_54, zX4_set_55, zX4_set_56, zX4_set_57, zX4_set_60, zX4_set_62, zX4_set_63, zX4_set_64, zX4_set_67, zX4_set_68, zX4_set_71, zX4_set_74, zX4_set_75, zX4_set_76, zX4_set_79, zX4_set_80, zX4_set_83, zX4_set_86, zX4_set_87, zX4_set_90, zX4_set_92, zX4_set_93, zX4_set_96, zX4_set_97, zX4_set_98, zX4_set_101, zX4_set_104, zX4_set_105, zX4_set_106, zX4_set_109, zX4_set_110, zX4_set_111, zX4_set_114, zX4_set_117, zX4_set_118, zX4_set_119, zX4_set_122, zX4_set_124, r_in32 (k := 0) (m := 50) (a := 0) (b := 50) rfl rfl, ne_0_1, ne_0_2, ne_0_3, ne_1_0, ne_1_2, ne_1_3, ne_2_0, ne_2_1, ne_2_3, ne_3_0, ne_3_1, ne_3_2, not_false_eq_true, not_true_eq_false, e_k_int, e_k_ref, e_k_null, e_k_long, e_k_ret, e_cats_nil, e_cats_int, e_cats_ref, e_cats_ret, e_cats_long, Option.toList_some, Option.toList_none, List.nil_append, List.cons_append, Option.bind_some, Nat.reduceAdd, Nat.reduceLeDiff, Nat.add_zero, if_true, if_false, true_and, and_true, and_self, Int32.reduceToNatClampNeg]
  repeat' split
  all_goals (first | (simp_all; done) | grind)
theorem r_M_setX {d : Nat} {w v : Int32} {h : e_H} (h0 : ¬ w = 0) (h1 : ¬ w = 1) (h2 : ¬ w = 2) : e_X e_pg (d + 2) 98 [.ref 40, .int w, .int v] h = some (some (.int (-2)), h) := by
  rw [xX4_set]
  simp only [zX4_set_0, zX4_set_1, zX4_set_4, zX4_set_5, zX4_set_6, zX4_set_7, zX4_set_10, zX4_set_13, zX4_set_16, zX4_set_17, zX4_set_18, zX4_set_21, zX4_set_22, zX4_set_23, zX4_set_24, zX4_set_27, zX4_set_30, zX4_set_33, zX4_set_34, zX4_set_35, zX4_set_38, zX4_set_39, zX4_set_40, zX4_set_41, zX4_set_44, zX4_set_47, zX4_set_50, zX4_set_51, zX4_set_54, zX4_set_55, zX4_set_56, zX4_set_57, zX4_set_60, zX4_set_62, zX4_set_63, zX4_set_64, zX4_set_67, zX4_set_68, zX4_set_71, zX4_set_74, zX4_set_75, zX4_set_76, zX4_set_79, zX4_set_80, zX4_set_83, zX4_set_86, zX4_set_87, zX4_set_90, zX4_set_92, zX4_set_93, zX4_set_96, zX4_set_97, zX4_set_98, zX4_set_101, zX4_set_104, zX4_set_105, zX4_set_106, zX4_set_109, zX4_set_110, zX4_set_111, zX4_set_114, zX4_set_117, zX4_set_118, zX4_set_119, zX4_set_122, zX4_set_124, h0, h1, h2, not_false_eq_true, not_true_eq_false, e_k_int, e_k_ref, e_k_null, e_k_long, e_k_ret, e_cats_nil, e_cats_int, e_cats_ref, e_cats_ret, e_cats_long, Option.toList_some, Option.toList_none, List.nil_append, List.cons_append, Option.bind_some, Nat.reduceAdd, Nat.reduceLeDiff, Nat.add_zero, if_true, if_false, true_and, and_true, and_self, Int32.reduceToNatClampNeg]
theorem r_M_part {d : Nat} {w : Int32} {h : e_H} : e_X e_pg (d + 1) 144 [.ref 40, .int w] h = if w = 0 then some (some (.long (e_gJ h 40 11)), h) else if w = 1 then some (some (.long (e_gJ h 40 12)), h) else some (some (.long (-1000000)), h) := by
  rw [xX4_part]
  simp only [zX4_part_0, zX4_part_1, zX4_part_4, zX4_part_5, zX4_part_8, zX4_part_11, zX4_part_12, zX4_part_13, zX4_part_16, zX4_part_17, zX4_part_20, zX4_part_23, zX4_part_26, e_k_int, e_k_ref, e_k_null, e_k_long, e_k_ret, e_cats_nil, e_cats_int, e_cats_ref, e_cats_ret, e_cats_long, Option.toList_some, Option.toList_none, List.nil_append, List.cons_append, Option.bind_some, Nat.reduceAdd, Nat.reduceLeDiff, Nat.add_zero, if_true, if_false, true_and, and_true, and_self, Int32.reduceToNatClampNeg]
  repeat' split
  all_goals (first | (simp_all; done) | grind)
theorem r_M_count {d : Nat} {s : Int32} {h : e_H} : e_X e_pg (d + 3) 145 [.ref 40, .int s] h = if s = 0 then some (some (.int (e_gI h 43 0)), h) else if s = 1 then some (some (.int (e_gI h 43 1)), h) else some (some (.int (-2)), h) := by
  rw [xX4_count]
  by_cases h0 : s = 0
  · subst h0
    simp only [zX4_count_0, zX4_count_1, zX4_count_4, zX4_count_7, zX4_count_8, zX4_count_11, zX4_count_12, zX4_count_13, zX4_count_16, zX4_count_18, r_M_isSide, p_side, ne_0_1, ne_0_2, ne_0_3, ne_1_0, ne_1_2, ne_1_3, ne_2_0, ne_2_1, ne_2_3, ne_3_0, ne_3_1, ne_3_2, e_k_int, e_k_ref, e_k_null, e_k_long, e_k_ret, e_cats_nil, e_cats_int, e_cats_ref, e_cats_ret, e_cats_long, Option.toList_some, Option.toList_none, List.nil_append, List.cons_append, Option.bind_some, Nat.reduceAdd, Nat.reduceLeDiff, Nat.add_zero, if_true, if_false, true_and, and_true, and_self, Int32.reduceToNatClampNeg, ok_1, ok_2, ok_3, ok_4, ok_5, ok_6, ok_7, ok_8, ok_9, ok_30, ok_31, ok_32, ok_33, ok_34, ok_35, ok_36, ok_37, ok_38, ok_39, ok_40, ok_41, ok_42, ok_43, ok_44, ok_45, ok_46, ok_47, ok_48, ok_49, ok_50, ok_51, ok_52, ln_1, ln_2, ln_4, ln_5, ln_6, ln_7, ln_8, ln_30, ln_31, ln_32, ln_33, ln_34, ln_35, ln_36, ln_37, ln_38, ln_39, ln_41, ln_42, ln_43, ln_44, ln_45, ln_46, ln_47, ln_48, ln_49, ln_50, ln_51, ln_52, ib_0_9, ib_1_9, ib_2_9, ib_3_9, ib_4_9, ib_5_9, ib_6_9, ib_7_9, ib_8_9, ib_0_2, ib_1_2, ib_0_5, ib_1_5, ib_2_5, ib_3_5, ib_4_5, ib_0_25, ib_0_10, ib_5_10, ib_0_90, ib_45_90, ib_0_64]
  · by_cases h1 : s = 1
    · subst h1
      simp only [zX4_count_0, zX4_count_1, zX4_count_4, zX4_count_7, zX4_count_8, zX4_count_11, zX4_count_12, zX4_count_13, zX4_count_16, zX4_count_18, r_M_isSide, p_side, ne_0_1, ne_0_2, ne_0_3, ne_1_0, ne_1_2, ne_1_3, ne_2_0, ne_2_1, ne_2_3, ne_3_0, ne_3_1, ne_3_2, not_true_eq_false, e_k_int, e_k_ref, e_k_null, e_k_long, e_k_ret, e_cats_nil, e_cats_int, e_cats_ref, e_cats_ret, e_cats_long, Option.toList_some, Option.toList_none, List.nil_append, List.cons_append, Option.bind_some, Nat.reduceAdd, Nat.reduceLeDiff, Nat.add_zero, if_true, if_false, true_and, and_true, and_self, Int32.reduceToNatClampNeg, ok_1, ok_2, ok_3, ok_4, ok_5, ok_6, ok_7, ok_8, ok_9, ok_30, ok_31, ok_32, ok_33, ok_34, ok_35, ok_36, ok_37, ok_38, ok_39, ok_40, ok_41, ok_42, ok_43, ok_44, ok_45, ok_46, ok_47, ok_48, ok_49, ok_50, ok_51, ok_52, ln_1, ln_2, ln_4, ln_5, ln_6, ln_7, ln_8, ln_30, ln_31, ln_32, ln_33, ln_34, ln_35, ln_36, ln_37, ln_38, ln_39, ln_41, ln_42, ln_43, ln_44, ln_45, ln_46, ln_47, ln_48, ln_49, ln_50, ln_51, ln_52, ib_0_9, ib_1_9, ib_2_9, ib_3_9, ib_4_9, ib_5_9, ib_6_9, ib_7_9, ib_8_9, ib_0_2, ib_1_2, ib_0_5, ib_1_5, ib_2_5, ib_3_5, ib_4_5, ib_0_25, ib_0_10, ib_5_10, ib_0_90, ib_45_90, ib_0_64]
    · simp only [zX4_count_0, zX4_count_1, zX4_count_4, zX4_count_7, zX4_count_8, zX4_count_11, zX4_count_12, zX4_count_13, zX4_count_16, zX4_count_18, r_M_isSide, p_side, h0, h1, not_false_eq_true, e_k_int, e_k_ref, e_k_null, e_k_long, e_k_ret, e_cats_nil, e_cats_int, e_cats_ref, e_cats_ret, e_cats_long, Option.toList_some, Option.toList_none, List.nil_append, List.cons_append, Option.bind_some, Nat.reduceAdd, Nat.reduceLeDiff, Nat.add_zero, if_true, if_false, true_and, and_true, and_self, Int32.reduceToNatClampNeg]
theorem r_M_under {d : Nat} {h : e_H} : e_X e_pg (d + 1) 123 [.ref 40] h = some (some (.int (if e_gI h 40 4 = 2 then e_gI h 40 8 else 1)), h) := by
  rw [xX4_under]
  simp only [zX4_under_0, zX4_under_1, zX4_under_4, zX4_under_5, zX4_under_8, zX4_under_9, zX4_under_12, zX4_under_15, zX4_under_16, e_k_int, e_k_ref, e_k_null, e_k_long, e_k_ret, e_cats_nil, e_cats_int, e_cats_ref, e_cats_ret, e_cats_long, Option.toList_some, Option.toList_none, List.nil_append, List.cons_append, Option.bind_some, Nat.reduceAdd, Nat.reduceLeDiff, Nat.add_zero, if_true, if_false, true_and, and_true, and_self, Int32.reduceToNatClampNeg]
  repeat' split
  all_goals (first | (simp_all; done) | grind)
