theorem ib_0_9 : e_inb 0 9 = true := rfl
theorem ib_1_9 : e_inb 1 9 = true := rfl
theorem ib_2_9 : e_inb 2 9 = true := rfl
theorem ib_3_9 : e_inb 3 9 = true := rfl
theorem ib_4_9 : e_inb 4 9 = true := rfl
theorem ib_5_9 : e_inb 5 9 = true := rfl
theorem ib_6_9 : e_inb 6 9 = true := rfl
theorem ib_7_9 : e_inb 7 9 = true := rfl
theorem ib_8_9 : e_inb 8 9 = true := rfl
theorem ib_0_2 : e_inb 0 2 = true := rfl
theorem ib_1_2 : e_inb 1 2 = true := rfl
theorem ib_0_5 : e_inb 0 5 = true := rfl
theorem ib_1_5 : e_inb 1 5 = true := rfl
theorem ib_2_5 : e_inb 2 5 = true := rfl
theorem ib_3_5 : e_inb 3 5 = true := rfl
theorem ib_4_5 : e_inb 4 5 = true := rfl
theorem ib_0_25 : e_inb 0 25 = true := rfl
theorem ib_0_10 : e_inb 0 10 = true := rfl
theorem ib_5_10 : e_inb 5 10 = true := rfl
theorem ib_0_90 : e_inb 0 90 = true := rfl
theorem ib_45_90 : e_inb 45 90 = true := rfl
theorem ib_0_64 : e_inb 0 64 = true := rfl
theorem ok_1 : e_ok 1 0 = true := rfl
theorem ok_2 : e_ok 2 3 = true := rfl
theorem ok_3 : e_ok 3 12 = true := rfl
theorem ok_4 : e_ok 4 0 = true := rfl
theorem ok_5 : e_ok 5 0 = true := rfl
theorem ok_6 : e_ok 6 0 = true := rfl
theorem ok_7 : e_ok 7 1 = true := rfl
theorem ok_8 : e_ok 8 1 = true := rfl
theorem ok_9 : e_ok 9 11 = true := rfl
theorem ok_30 : e_ok 30 2 = true := rfl
theorem ok_31 : e_ok 31 4 = true := rfl
theorem ok_32 : e_ok 32 0 = true := rfl
theorem ok_33 : e_ok 33 0 = true := rfl
theorem ok_34 : e_ok 34 4 = true := rfl
theorem ok_35 : e_ok 35 0 = true := rfl
theorem ok_36 : e_ok 36 0 = true := rfl
theorem ok_37 : e_ok 37 5 = true := rfl
theorem ok_38 : e_ok 38 1 = true := rfl
theorem ok_39 : e_ok 39 1 = true := rfl
theorem ok_40 : e_ok 40 14 = true := rfl
theorem ok_41 : e_ok 41 0 = true := rfl
theorem ok_42 : e_ok 42 0 = true := rfl
theorem ok_43 : e_ok 43 0 = true := rfl
theorem ok_44 : e_ok 44 0 = true := rfl
theorem ok_45 : e_ok 45 1 = true := rfl
theorem ok_46 : e_ok 46 0 = true := rfl
theorem ok_47 : e_ok 47 1 = true := rfl
theorem ok_48 : e_ok 48 2 = true := rfl
theorem ok_49 : e_ok 49 0 = true := rfl
theorem ok_50 : e_ok 50 0 = true := rfl
theorem ok_51 : e_ok 51 0 = true := rfl
theorem ok_52 : e_ok 52 0 = true := rfl
theorem ln_1 : e_len 1 = 2 := rfl
theorem ln_2 : e_len 2 = 10 := rfl
theorem ln_4 : e_len 4 = 40 := rfl
theorem ln_5 : e_len 5 = 40 := rfl
theorem ln_6 : e_len 6 = 40 := rfl
theorem ln_7 : e_len 7 = 40 := rfl
theorem ln_8 : e_len 8 = 5 := rfl
theorem ln_30 : e_len 30 = 25 := rfl
theorem ln_31 : e_len 31 = 2 := rfl
theorem ln_32 : e_len 32 = 25 := rfl
theorem ln_33 : e_len 33 = 25 := rfl
theorem ln_34 : e_len 34 = 2 := rfl
theorem ln_35 : e_len 35 = 25 := rfl
theorem ln_36 : e_len 36 = 25 := rfl
theorem ln_37 : e_len 37 = 2 := rfl
theorem ln_38 : e_len 38 = 25 := rfl
theorem ln_39 : e_len 39 = 25 := rfl
theorem ln_41 : e_len 41 = 90 := rfl
theorem ln_42 : e_len 42 = 10 := rfl
theorem ln_43 : e_len 43 = 2 := rfl
theorem ln_44 : e_len 44 = 40 := rfl
theorem ln_45 : e_len 45 = 64 := rfl
theorem ln_46 : e_len 46 = 128 := rfl
theorem ln_47 : e_len 47 = 5 := rfl
theorem ln_48 : e_len 48 = 25 := rfl
theorem ln_49 : e_len 49 = 25 := rfl
theorem ln_50 : e_len 50 = 25 := rfl
theorem ln_51 : e_len 51 = 25 := rfl
theorem ln_52 : e_len 52 = 25 := rfl
theorem ne_0_1 : ((0 : Int32) = 1) = False := eq_false (by decide)
theorem ne_0_2 : ((0 : Int32) = 2) = False := eq_false (by decide)
theorem ne_0_3 : ((0 : Int32) = 3) = False := eq_false (by decide)
theorem ne_1_0 : ((1 : Int32) = 0) = False := eq_false (by decide)
theorem ne_1_2 : ((1 : Int32) = 2) = False := eq_false (by decide)
theorem ne_1_3 : ((1 : Int32) = 3) = False := eq_false (by decide)
theorem ne_2_0 : ((2 : Int32) = 0) = False := eq_false (by decide)
theorem ne_2_1 : ((2 : Int32) = 1) = False := eq_false (by decide)
theorem ne_2_3 : ((2 : Int32) = 3) = False := eq_false (by decide)
theorem ne_3_0 : ((3 : Int32) = 0) = False := eq_false (by decide)
theorem ne_3_1 : ((3 : Int32) = 1) = False := eq_false (by decide)
theorem ne_3_2 : ((3 : Int32) = 2) = False := eq_false (by decide)
theorem e_inb_nI {k n : Nat} (h : k < n) (hn : n < 2 ^ 31) : e_inb (nI k) n = true := e_inb_of (vp_in_nI h hn)
/-! the envoys of the class: their numbers N, by places 0 .. 8 -/
def p_wages (N : Nat → Int32) (own : Int32) : Int32 := if own ≤ N 6 then 0 else N 7 * (own - N 6)
def p_bonus (N : Nat → Int32) (own : Int32) : Int32 := if own < N 1 then 0 else N 2
def p_worth (N : Nat → Int32) (own wood : Int32) : Int32 := N 0 * own + p_bonus N own - N 3 * (wood - own) + p_wages N own
def p_acc (N : Nat → Int32) (own gain : Int32) : Int32 := if own < N 5 then 0 else if gain < 0 then 0 else 1
theorem r_wagesFor {d i : Nat} {own : Int32} {h : e_H} (hi : i < 10) : e_X e_pg (d + 1) 2 [.ref (i + 10), .int own] h = some (some (.int (p_wages (e_gI h (i + 20)) own)), h) := by
  rw [xX0_wagesFor]
  simp only [zX0_wagesFor_0, zX0_wagesFor_1, zX0_wagesFor_2, zX0_wagesFor_5, zX0_wagesFor_7, zX0_wagesFor_8, zX0_wagesFor_11, zX0_wagesFor_12, zX0_wagesFor_15, zX0_wagesFor_17, zX0_wagesFor_18, zX0_wagesFor_19, zX0_wagesFor_20, zX0_wagesFor_23, zX0_wagesFor_25, zX0_wagesFor_26, zX0_wagesFor_27, zX0_wagesFor_28, zX0_wagesFor_31, zX0_wagesFor_32, hi, e_ok_N hi, e_len_N hi, e_k_int, e_k_ref, e_k_null, e_k_long, e_k_ret, e_cats_nil, e_cats_int, e_cats_ref, e_cats_ret, e_cats_long, Option.toList_some, Option.toList_none, List.nil_append, List.cons_append, Option.bind_some, Nat.reduceAdd, Nat.reduceLeDiff, Nat.add_zero, if_true, if_false, true_and, and_true, and_self, Int32.reduceToNatClampNeg, ib_0_9, ib_1_9, ib_2_9, ib_3_9, ib_4_9, ib_5_9, ib_6_9, ib_7_9, ib_8_9, ib_0_2, ib_1_2, ib_0_5, ib_1_5, ib_2_5, ib_3_5, ib_4_5, ib_0_25, ib_0_10, ib_5_10, ib_0_90, ib_45_90, ib_0_64]
  unfold p_wages
  split <;> rfl
theorem r_worthOf {d i : Nat} {own wood : Int32} {h : e_H} (hi : i < 10) : e_X e_pg (d + 2) 1 [.ref (i + 10), .int own, .int wood] h = some (some (.int (p_worth (e_gI h (i + 20)) own wood)), h) := by
  rw [xX0_worthOf]
  simp only [zX0_worthOf_0, zX0_worthOf_1, zX0_worthOf_2, zX0_worthOf_5, zX0_worthOf_6, zX0_worthOf_7, zX0_worthOf_10, zX0_worthOf_11, zX0_worthOf_14, zX0_worthOf_15, zX0_worthOf_16, zX0_worthOf_19, zX0_worthOf_20, zX0_worthOf_21, zX0_worthOf_22, zX0_worthOf_25, zX0_worthOf_26, zX0_worthOf_27, zX0_worthOf_28, zX0_worthOf_29, zX0_worthOf_30, zX0_worthOf_31, zX0_worthOf_32, zX0_worthOf_35, zX0_worthOf_36, zX0_worthOf_37, zX0_worthOf_38, zX0_worthOf_39, zX0_worthOf_40, zX0_worthOf_41, zX0_worthOf_42, zX0_worthOf_43, zX0_worthOf_44, zX0_worthOf_47, zX0_worthOf_48, hi, e_ok_N hi, e_len_N hi, r_wagesFor hi, e_k_int, e_k_ref, e_k_null, e_k_long, e_k_ret, e_cats_nil, e_cats_int, e_cats_ref, e_cats_ret, e_cats_long, Option.toList_some, Option.toList_none, List.nil_append, List.cons_append, Option.bind_some, Nat.reduceAdd, Nat.reduceLeDiff, Nat.add_zero, if_true, if_false, true_and, and_true, and_self, Int32.reduceToNatClampNeg, ib_0_9, ib_1_9, ib_2_9, ib_3_9, ib_4_9, ib_5_9, ib_6_9, ib_7_9, ib_8_9, ib_0_2, ib_1_2, ib_0_5, ib_1_5, ib_2_5, ib_3_5, ib_4_5, ib_0_25, ib_0_10, ib_5_10, ib_0_90, ib_45_90, ib_0_64]
  unfold p_worth p_bonus
  split <;> rfl
theorem r_gainBy {d i : Nat} {own wood : Int32} {h : e_H} (hi : i < 10) : e_X e_pg (d + 3) 3 [.ref (i + 10), .int own, .int wood] h = some (some (.int (p_worth (e_gI h (i + 20)) own wood - e_gI h (i + 20) 4)), h) := by
  rw [xX0_gainBy]
  simp only [zX0_gainBy_0, zX0_gainBy_1, zX0_gainBy_2, zX0_gainBy_3, zX0_gainBy_6, zX0_gainBy_7, zX0_gainBy_10, zX0_gainBy_11, zX0_gainBy_12, zX0_gainBy_13, hi, e_ok_N hi, e_len_N hi, r_worthOf hi, e_k_int, e_k_ref, e_k_null, e_k_long, e_k_ret, e_cats_nil, e_cats_int, e_cats_ref, e_cats_ret, e_cats_long, Option.toList_some, Option.toList_none, List.nil_append, List.cons_append, Option.bind_some, Nat.reduceAdd, Nat.reduceLeDiff, Nat.add_zero, if_true, if_false, true_and, and_true, and_self, Int32.reduceToNatClampNeg, ib_0_9, ib_1_9, ib_2_9, ib_3_9, ib_4_9, ib_5_9, ib_6_9, ib_7_9, ib_8_9, ib_0_2, ib_1_2, ib_0_5, ib_1_5, ib_2_5, ib_3_5, ib_4_5, ib_0_25, ib_0_10, ib_5_10, ib_0_90, ib_45_90, ib_0_64]
theorem r_accepts {d i : Nat} {own gain : Int32} {h : e_H} (hi : i < 10) : e_X e_pg (d + 1) 4 [.ref (i + 10), .int own, .int gain] h = some (some (.int (p_acc (e_gI h (i + 20)) own gain)), h) := by
  rw [xX0_accepts]
  simp only [zX0_accepts_0, zX0_accepts_1, zX0_accepts_2, zX0_accepts_5, zX0_accepts_6, zX0_accepts_7, zX0_accepts_10, zX0_accepts_11, zX0_accepts_14, zX0_accepts_15, zX0_accepts_18, zX0_accepts_19, hi, e_ok_N hi, e_len_N hi, e_k_int, e_k_ref, e_k_null, e_k_long, e_k_ret, e_cats_nil, e_cats_int, e_cats_ref, e_cats_ret, e_cats_long, Option.toList_some, Option.toList_none, List.nil_append, List.cons_append, Option.bind_some, Nat.reduceAdd, Nat.reduceLeDiff, Nat.add_zero, if_true, if_false, true_and, and_true, and_self, Int32.reduceToNatClampNeg, ib_0_9, ib_1_9, ib_2_9, ib_3_9, ib_4_9, ib_5_9, ib_6_9, ib_7_9, ib_8_9, ib_0_2, ib_1_2, ib_0_5, ib_1_5, ib_2_5, ib_3_5, ib_4_5, ib_0_25, ib_0_10, ib_5_10, ib_0_90, ib_45_90, ib_0_64]
  unfold p_acc
  split
  · simp
  · split <;> simp
