/-! letters, digits -/
def c_let (c : Int32) : Int32 := if c = 108 then 0 else if c = 117 then 1 else if c = 110 then 2 else if c = 119 then 3 else if c = 118 then 4 else -1
theorem r_J_isLatin1 {d : Nat} {h : e_H} : e_X e_pg (d + 1) 149 [.retAddr 3] h = some (some (.int 1), h) := by
  rw [xJ0_isLatin1_aae02]
  simp only [zJ0_isLatin1_aae02_0, zJ0_isLatin1_aae02_3, zJ0_isLatin1_aae02_6, zJ0_isLatin1_aae02_7, zJ0_isLatin1_aae02_10, zJ0_isLatin1_aae02_13, zJ0_isLatin1_aae02_14, zJ0_isLatin1_aae02_17, zJ0_isLatin1_aae02_18, ne_0_1, ne_0_2, ne_0_3, ne_1_0, ne_1_2, ne_1_3, ne_2_0, ne_2_1, ne_2_3, ne_3_0, ne_3_1, ne_3_2, not_true_eq_false, or_true, true_or, e_k_int, e_k_ref, e_k_null, e_k_long, e_k_ret, e_cats_nil, e_cats_int, e_cats_ref, e_cats_ret, e_cats_long, Option.toList_some, Option.toList_none, List.nil_append, List.cons_append, Option.bind_some, Nat.reduceAdd, Nat.reduceLeDiff, Nat.add_zero, if_true, if_false, true_and, and_true, and_self, Int32.reduceToNatClampNeg]
theorem r_J_coder {d : Nat} {h : e_H} : e_X e_pg (d + 1) 151 [.retAddr 3] h = some (some (.int 0), h) := by
  rw [xJ0_coder_7d493]
  simp only [zJ0_coder_7d493_0, zJ0_coder_7d493_3, zJ0_coder_7d493_6, zJ0_coder_7d493_7, zJ0_coder_7d493_10, zJ0_coder_7d493_13, zJ0_coder_7d493_14, ne_0_1, ne_0_2, ne_0_3, ne_1_0, ne_1_2, ne_1_3, ne_2_0, ne_2_1, ne_2_3, ne_3_0, ne_3_1, ne_3_2, not_true_eq_false, or_true, true_or, e_k_int, e_k_ref, e_k_null, e_k_long, e_k_ret, e_cats_nil, e_cats_int, e_cats_ref, e_cats_ret, e_cats_long, Option.toList_some, Option.toList_none, List.nil_append, List.cons_append, Option.bind_some, Nat.reduceAdd, Nat.reduceLeDiff, Nat.add_zero, if_true, if_false, true_and, and_true, and_self, Int32.reduceToNatClampNeg]
theorem r_J_length {d : Nat} {h : e_H} : e_X e_pg (d + 2) 150 [.retAddr 3] h = some (some (.int 5), h) := by
  rw [xJ0_length_8abf5]
  simp only [zJ0_length_8abf5_0, zJ0_length_8abf5_1, zJ0_length_8abf5_4, zJ0_length_8abf5_5, zJ0_length_8abf5_6, zJ0_length_8abf5_9, zJ0_length_8abf5_10, r_J_coder, show (5 : Int32) >>> (0 &&& 31) = 5 from by decide, e_k_int, e_k_ref, e_k_null, e_k_long, e_k_ret, e_cats_nil, e_cats_int, e_cats_ref, e_cats_ret, e_cats_long, Option.toList_some, Option.toList_none, List.nil_append, List.cons_append, Option.bind_some, Nat.reduceAdd, Nat.reduceLeDiff, Nat.add_zero, if_true, if_false, true_and, and_true, and_self, Int32.reduceToNatClampNeg]
theorem r_J_canEncode {d : Nat} {c : Int32} {h : e_H} (h1 : ¬ c < 0) (h2 : ¬ 255 < c) : e_X e_pg (d + 1) 152 [.int c] h = some (some (.int 1), h) := by
  rw [xJ1_canEncode_9a6ad]
  simp only [zJ1_canEncode_9a6ad_0, zJ1_canEncode_9a6ad_1, zJ1_canEncode_9a6ad_4, zJ1_canEncode_9a6ad_5, zJ1_canEncode_9a6ad_8, zJ1_canEncode_9a6ad_11, zJ1_canEncode_9a6ad_12, zJ1_canEncode_9a6ad_15, zJ1_canEncode_9a6ad_16, h1, h2, or_true, e_k_int, e_k_ref, e_k_null, e_k_long, e_k_ret, e_cats_nil, e_cats_int, e_cats_ref, e_cats_ret, e_cats_long, Option.toList_some, Option.toList_none, List.nil_append, List.cons_append, Option.bind_some, Nat.reduceAdd, Nat.reduceLeDiff, Nat.add_zero, if_true, if_false, true_and, and_true, and_self, Int32.reduceToNatClampNeg]
theorem tb_k (k : Nat) (hk : k < 5) : e_inb (nI k) 5 = true := e_inb_nI hk (by decide)
set_option maxRecDepth 100000 in
theorem r_J_indexOfChar {d : Nat} {c b : Int32} {h : e_H} (hb : c.toInt8.toInt32 = b) : e_X e_pg (d + 1) 154 [.retAddr 4, .int c, .int 0, .int 5] h = some (some (.int (c_let b)), h) := by
  have i0 : e_inb 0 5 = true := rfl
  have i1 : e_inb 1 5 = true := rfl
  have i2 : e_inb 2 5 = true := rfl
  have i3 : e_inb 3 5 = true := rfl
  have i4 : e_inb 4 5 = true := rfl
  have b0 : e_by 0 = 108 := rfl
  have b1 : e_by 1 = 117 := rfl
  have b2 : e_by 2 = 110 := rfl
  have b3 : e_by 3 = 119 := rfl
  have b4 : e_by 4 = 118 := rfl
  have n0 : ¬ (5 : Int32) ≤ 0 := by decide
  have n1 : ¬ (5 : Int32) ≤ 1 := by decide
  have n2 : ¬ (5 : Int32) ≤ 2 := by decide
  have n3 : ¬ (5 : Int32) ≤ 3 := by decide
  have n4 : ¬ (5 : Int32) ≤ 4 := by decide
  have n5 : (5 : Int32) ≤ 5 := by decide
  have a1 : (0 : Int32) + 1 = 1 := rfl
  have a2 : (1 : Int32) + 1 = 2 := rfl
  have a3 : (2 : Int32) + 1 = 3 := rfl
  have a4 : (3 : Int32) + 1 = 4 := rfl
  have a5 : (4 : Int32) + 1 = 5 := rfl
  rw [xJ1_indexOfChar_4cfef]
  unfold c_let
  simp only [zJ1_indexOfChar_4cfef_0, zJ1_indexOfChar_4cfef_1, zJ1_indexOfChar_4cfef_2, zJ1_indexOfChar_4cfef_4, zJ1_indexOfChar_4cfef_5, hb, e_k_int, e_k_ref, e_k_null, e_k_long, e_k_ret, e_cats_nil, e_cats_int, e_cats_ref, e_cats_ret, e_cats_long, Option.toList_some, Option.toList_none, List.nil_append, List.cons_append, Option.bind_some, Nat.reduceAdd, Nat.reduceLeDiff, Nat.add_zero, if_true, if_false, true_and, and_true, and_self, Int32.reduceToNatClampNeg]
  rw [zJ1_indexOfChar_4cfef_7]
  simp only [zJ1_indexOfChar_4cfef_9, zJ1_indexOfChar_4cfef_10, zJ1_indexOfChar_4cfef_13, zJ1_indexOfChar_4cfef_14, zJ1_indexOfChar_4cfef_16, zJ1_indexOfChar_4cfef_17, zJ1_indexOfChar_4cfef_19, zJ1_indexOfChar_4cfef_22, zJ1_indexOfChar_4cfef_24, zJ1_indexOfChar_4cfef_25, zJ1_indexOfChar_4cfef_28, zJ1_indexOfChar_4cfef_31, zJ1_indexOfChar_4cfef_32, n0, i0, b0, a1, e_k_int, e_k_ref, e_k_null, e_k_long, e_k_ret, e_cats_nil, e_cats_int, e_cats_ref, e_cats_ret, e_cats_long, Option.toList_some, Option.toList_none, List.nil_append, List.cons_append, Option.bind_some, Nat.reduceAdd, Nat.reduceLeDiff, Nat.add_zero, if_true, if_false, true_and, and_true, and_self, Int32.reduceToNatClampNeg]
  by_cases c0 : b = 108
  · simp only [c0, not_true_eq_false, e_k_int, e_k_ref, e_k_null, e_k_long, e_k_ret, e_cats_nil, e_cats_int, e_cats_ref, e_cats_ret, e_cats_long, Option.toList_some, Option.toList_none, List.nil_append, List.cons_append, Option.bind_some, Nat.reduceAdd, Nat.reduceLeDiff, Nat.add_zero, if_true, if_false, true_and, and_true, and_self, Int32.reduceToNatClampNeg]
  · have c0' : ¬ (108 : Int32) = b := fun z => c0 z.symm
    simp only [c0, c0', not_false_eq_true, e_k_int, e_k_ref, e_k_null, e_k_long, e_k_ret, e_cats_nil, e_cats_int, e_cats_ref, e_cats_ret, e_cats_long, Option.toList_some, Option.toList_none, List.nil_append, List.cons_append, Option.bind_some, Nat.reduceAdd, Nat.reduceLeDiff, Nat.add_zero, if_true, if_false, true_and, and_true, and_self, Int32.reduceToNatClampNeg]
    rw [zJ1_indexOfChar_4cfef_7]
    simp only [zJ1_indexOfChar_4cfef_9, zJ1_indexOfChar_4cfef_10, zJ1_indexOfChar_4cfef_13, zJ1_indexOfChar_4cfef_14, zJ1_indexOfChar_4cfef_16, zJ1_indexOfChar_4cfef_17, zJ1_indexOfChar_4cfef_19, zJ1_indexOfChar_4cfef_22, zJ1_indexOfChar_4cfef_24, zJ1_indexOfChar_4cfef_25, zJ1_indexOfChar_4cfef_28, zJ1_indexOfChar_4cfef_31, zJ1_indexOfChar_4cfef_32, n1, i1, b1, a2, e_k_int, e_k_ref, e_k_null, e_k_long, e_k_ret, e_cats_nil, e_cats_int, e_cats_ref, e_cats_ret, e_cats_long, Option.toList_some, Option.toList_none, List.nil_append, List.cons_append, Option.bind_some, Nat.reduceAdd, Nat.reduceLeDiff, Nat.add_zero, if_true, if_false, true_and, and_true, and_self, Int32.reduceToNatClampNeg]
    by_cases c1 : b = 117
    · simp only [c1, not_true_eq_false, e_k_int, e_k_ref, e_k_null, e_k_long, e_k_ret, e_cats_nil, e_cats_int, e_cats_ref, e_cats_ret, e_cats_long, Option.toList_some, Option.toList_none, List.nil_append, List.cons_append, Option.bind_some, Nat.reduceAdd, Nat.reduceLeDiff, Nat.add_zero, if_true, if_false, true_and, and_true, and_self, Int32.reduceToNatClampNeg]
    · have c1' : ¬ (117 : Int32) = b := fun z => c1 z.symm
      simp only [c1, c1', not_false_eq_true, e_k_int, e_k_ref, e_k_null, e_k_long, e_k_ret, e_cats_nil, e_cats_int, e_cats_ref, e_cats_ret, e_cats_long, Option.toList_some, Option.toList_none, List.nil_append, List.cons_append, Option.bind_some, Nat.reduceAdd, Nat.reduceLeDiff, Nat.add_zero, if_true, if_false, true_and, and_true, and_self, Int32.reduceToNatClampNeg]
      rw [zJ1_indexOfChar_4cfef_7]
      simp only [zJ1_indexOfChar_4cfef_9, zJ1_indexOfChar_4cfef_10, zJ1_indexOfChar_4cfef_13, zJ1_indexOfChar_4cfef_14, zJ1_indexOfChar_4cfef_16, zJ1_indexOfChar_4cfef_17, zJ1_indexOfChar_4cfef_19, zJ1_indexOfChar_4cfef_22, zJ1_indexOfChar_4cfef_24, zJ1_indexOfChar_4cfef_25, zJ1_indexOfChar_4cfef_28, zJ1_indexOfChar_4cfef_31, zJ1_indexOfChar_4cfef_32, n2, i2, b2, a3, e_k_int, e_k_ref, e_k_null, e_k_long, e_k_ret, e_cats_nil, e_cats_int, e_cats_ref, e_cats_ret, e_cats_long, Option.toList_some, Option.toList_none, List.nil_append, List.cons_append, Option.bind_some, Nat.reduceAdd, Nat.reduceLeDiff, Nat.add_zero, if_true, if_false, true_and, and_true, and_self, Int32.reduceToNatClampNeg]
      by_cases c2 : b = 110
      · simp only [c2, not_true_eq_false, e_k_int, e_k_ref, e_k_null, e_k_long, e_k_ret, e_cats_nil, e_cats_int, e_cats_ref, e_cats_ret, e_cats_long, Option.toList_some, Option.toList_none, List.nil_append, List.cons_append, Option.bind_some, Nat.reduceAdd, Nat.reduceLeDiff, Nat.add_zero, if_true, if_false, true_and, and_true, and_self, Int32.reduceToNatClampNeg]
      · have c2' : ¬ (110 : Int32) = b := fun z => c2 z.symm
        simp only [c2, c2', not_false_eq_true, e_k_int, e_k_ref, e_k_null, e_k_long, e_k_ret, e_cats_nil, e_cats_int, e_cats_ref, e_cats_ret, e_cats_long, Option.toList_some, Option.toList_none, List.nil_append, List.cons_append, Option.bind_some, Nat.reduceAdd, Nat.reduceLeDiff, Nat.add_zero, if_true, if_false, true_and, and_true, and_self, Int32.reduceToNatClampNeg]
        rw [zJ1_indexOfChar_4cfef_7]
        simp only [zJ1_indexOfChar_4cfef_9, zJ1_indexOfChar_4cfef_10, zJ1_indexOfChar_4cfef_13, zJ1_indexOfChar_4cfef_14, zJ1_indexOfChar_4cfef_16, zJ1_indexOfChar_4cfef_17, zJ1_indexOfChar_4cfef_19, zJ1_indexOfChar_4cfef_22, zJ1_indexOfChar_4cfef_24, zJ1_indexOfChar_4cfef_25, zJ1_indexOfChar_4cfef_28, zJ1_indexOfChar_4cfef_31, zJ1_indexOfChar_4cfef_32, n3, i3, b3, a4, e_k_int, e_k_ref, e_k_null, e_k_long, e_k_ret, e_cats_nil, e_cats_int, e_cats_ref, e_cats_ret, e_cats_long, Option.toList_some, Option.toList_none, List.nil_append, List.cons_append, Option.bind_some, Nat.reduceAdd, Nat.reduceLeDiff, Nat.add_zero, if_true, if_false, true_and, and_true, and_self, Int32.reduceToNatClampNeg]
        by_cases c3 : b = 119
        · simp only [c3, not_true_eq_false, e_k_int, e_k_ref, e_k_null, e_k_long, e_k_ret, e_cats_nil, e_cats_int, e_cats_ref, e_cats_ret, e_cats_long, Option.toList_some, Option.toList_none, List.nil_append, List.cons_append, Option.bind_some, Nat.reduceAdd, Nat.reduceLeDiff, Nat.add_zero, if_true, if_false, true_and, and_true, and_self, Int32.reduceToNatClampNeg]
        · have c3' : ¬ (119 : Int32) = b := fun z => c3 z.symm
          simp only [c3, c3', not_false_eq_true, e_k_int, e_k_ref, e_k_null, e_k_long, e_k_ret, e_cats_nil, e_cats_int, e_cats_ref, e_cats_ret, e_cats_long, Option.toList_some, Option.toList_none, List.nil_append, List.cons_append, Option.bind_some, Nat.reduceAdd, Nat.reduceLeDiff, Nat.add_zero, if_true, if_false, true_and, and_true, and_self, Int32.reduceToNatClampNeg]
          rw [zJ1_indexOfChar_4cfef_7]
          simp only [zJ1_indexOfChar_4cfef_9, zJ1_indexOfChar_4cfef_10, zJ1_indexOfChar_4cfef_13, zJ1_indexOfChar_4cfef_14, zJ1_indexOfChar_4cfef_16, zJ1_indexOfChar_4cfef_17, zJ1_indexOfChar_4cfef_19, zJ1_indexOfChar_4cfef_22, zJ1_indexOfChar_4cfef_24, zJ1_indexOfChar_4cfef_25, zJ1_indexOfChar_4cfef_28, zJ1_indexOfChar_4cfef_31, zJ1_indexOfChar_4cfef_32, n4, i4, b4, a5, e_k_int, e_k_ref, e_k_null, e_k_long, e_k_ret, e_cats_nil, e_cats_int, e_cats_ref, e_cats_ret, e_cats_long, Option.toList_some, Option.toList_none, List.nil_append, List.cons_append, Option.bind_some, Nat.reduceAdd, Nat.reduceLeDiff, Nat.add_zero, if_true, if_false, true_and, and_true, and_self, Int32.reduceToNatClampNeg]
          by_cases c4 : b = 118
          · simp only [c4, not_true_eq_false, e_k_int, e_k_ref, e_k_null, e_k_long, e_k_ret, e_cats_nil, e_cats_int, e_cats_ref, e_cats_ret, e_cats_long, Option.toList_some, Option.toList_none, List.nil_append, List.cons_append, Option.bind_some, Nat.reduceAdd, Nat.reduceLeDiff, Nat.add_zero, if_true, if_false, true_and, and_true, and_self, Int32.reduceToNatClampNeg]
          · have c4' : ¬ (118 : Int32) = b := fun z => c4 z.symm
            simp only [c4, c4', not_false_eq_true, e_k_int, e_k_ref, e_k_null, e_k_long, e_k_ret, e_cats_nil, e_cats_int, e_cats_ref, e_cats_ret, e_cats_long, Option.toList_some, Option.toList_none, List.nil_append, List.cons_append, Option.bind_some, Nat.reduceAdd, Nat.reduceLeDiff, Nat.add_zero, if_true, if_false, true_and, and_true, and_self, Int32.reduceToNatClampNeg]
            rw [zJ1_indexOfChar_4cfef_7]
            simp only [zJ1_indexOfChar_4cfef_9, zJ1_indexOfChar_4cfef_10, zJ1_indexOfChar_4cfef_13, zJ1_indexOfChar_4cfef_14, zJ1_indexOfChar_4cfef_16, zJ1_indexOfChar_4cfef_17, zJ1_indexOfChar_4cfef_19, zJ1_indexOfChar_4cfef_22, zJ1_indexOfChar_4cfef_24, zJ1_indexOfChar_4cfef_25, zJ1_indexOfChar_4cfef_28, zJ1_indexOfChar_4cfef_31, zJ1_indexOfChar_4cfef_32, n5, e_k_int, e_k_ref, e_k_null, e_k_long, e_k_ret, e_cats_nil, e_cats_int, e_cats_ref, e_cats_ret, e_cats_long, Option.toList_some, Option.toList_none, List.nil_append, List.cons_append, Option.bind_some, Nat.reduceAdd, Nat.reduceLeDiff, Nat.add_zero, if_true, if_false, true_and, and_true, and_self, Int32.reduceToNatClampNeg]
theorem c_byte {c : Int32} (h1 : 0 ≤ c.toInt) (h2 : c.toInt < 128) : c.toInt8.toInt32 = c := by
  rw [← Int32.toInt_inj, Int8.toInt_toInt32, Int32.toInt_toInt8]
  rw [Int.bmod_def]
  have : c.toInt % ((2 ^ 8 : Nat) : Int) = c.toInt := Int.emod_eq_of_lt h1 (by omega)
  rw [this]
  split <;> omega
theorem c_char {c : Int32} (h1 : 0 ≤ c.toInt) (h2 : c.toInt < 128) : (c.toUInt32 % 65536).toInt32 = c := lg_i2c_word h1 (by omega)
theorem r_J_indexOf {d : Nat} {c : Int32} {h : e_H} (h1 : 0 ≤ c.toInt) (h2 : c.toInt < 128) : e_X e_pg (d + 4) 147 [.retAddr 3, .int c] h = some (some (.int (c_let c)), h) := by
  have n1 : ¬ c < 0 := by rw [Int32.lt_iff_toInt_lt]; show ¬ c.toInt < 0; omega
  have n2 : ¬ 255 < c := by rw [Int32.lt_iff_toInt_lt]; show ¬ (255 : Int) < c.toInt; omega
  have m1 : (if (0 : Int32) < 0 then (0 : Int32) else 0) = 0 := rfl
  have m2 : (if (5 : Int32) < 5 then (5 : Int32) else 5) = 5 := rfl
  have m3 : (0 : Int32) < 5 := by decide
  rw [xJ0_indexOf_0f7a4]
  simp only [zJ0_indexOf_0f7a4_0, zJ0_indexOf_0f7a4_1, zJ0_indexOf_0f7a4_2, zJ0_indexOf_0f7a4_3, zJ0_indexOf_0f7a4_6, e_k_int, e_k_ref, e_k_null, e_k_long, e_k_ret, e_cats_nil, e_cats_int, e_cats_ref, e_cats_ret, e_cats_long, Option.toList_some, Option.toList_none, List.nil_append, List.cons_append, Option.bind_some, Nat.reduceAdd, Nat.reduceLeDiff, Nat.add_zero, if_true, if_false, true_and, and_true, and_self, Int32.reduceToNatClampNeg]
  rw [xJ0_indexOf_7cf53]
  simp only [zJ0_indexOf_7cf53_0, zJ0_indexOf_7cf53_1, zJ0_indexOf_7cf53_4, zJ0_indexOf_7cf53_7, zJ0_indexOf_7cf53_8, zJ0_indexOf_7cf53_11, zJ0_indexOf_7cf53_12, zJ0_indexOf_7cf53_13, zJ0_indexOf_7cf53_14, zJ0_indexOf_7cf53_17, zJ0_indexOf_7cf53_20, zJ0_indexOf_7cf53_23, zJ0_indexOf_7cf53_24, zJ0_indexOf_7cf53_27, zJ0_indexOf_7cf53_28, zJ0_indexOf_7cf53_29, zJ0_indexOf_7cf53_30, zJ0_indexOf_7cf53_36, r_J_isLatin1, r_J_length, ne_0_1, ne_0_2, ne_0_3, ne_1_0, ne_1_2, ne_1_3, ne_2_0, ne_2_1, ne_2_3, ne_3_0, ne_3_1, ne_3_2, e_k_int, e_k_ref, e_k_null, e_k_long, e_k_ret, e_cats_nil, e_cats_int, e_cats_ref, e_cats_ret, e_cats_long, Option.toList_some, Option.toList_none, List.nil_append, List.cons_append, Option.bind_some, Nat.reduceAdd, Nat.reduceLeDiff, Nat.add_zero, if_true, if_false, true_and, and_true, and_self, Int32.reduceToNatClampNeg]
  rw [xJ1_indexOf_4cfef]
  simp only [zJ1_indexOf_4cfef_0, zJ1_indexOf_4cfef_1, zJ1_indexOf_4cfef_4, zJ1_indexOf_4cfef_7, zJ1_indexOf_4cfef_8, zJ1_indexOf_4cfef_9, zJ1_indexOf_4cfef_10, zJ1_indexOf_4cfef_11, zJ1_indexOf_4cfef_14, zJ1_indexOf_4cfef_15, zJ1_indexOf_4cfef_16, zJ1_indexOf_4cfef_17, zJ1_indexOf_4cfef_18, zJ1_indexOf_4cfef_21, zJ1_indexOf_4cfef_22, zJ1_indexOf_4cfef_23, zJ1_indexOf_4cfef_24, zJ1_indexOf_4cfef_27, zJ1_indexOf_4cfef_28, zJ1_indexOf_4cfef_29, zJ1_indexOf_4cfef_30, zJ1_indexOf_4cfef_31, zJ1_indexOf_4cfef_32, zJ1_indexOf_4cfef_33, zJ1_indexOf_4cfef_36, r_J_canEncode n1 n2, r_J_indexOfChar (c_byte h1 h2), m1, m2, m3, ne_0_1, ne_0_2, ne_0_3, ne_1_0, ne_1_2, ne_1_3, ne_2_0, ne_2_1, ne_2_3, ne_3_0, ne_3_1, ne_3_2, not_false_eq_true, e_k_int, e_k_ref, e_k_null, e_k_long, e_k_ret, e_cats_nil, e_cats_int, e_cats_ref, e_cats_ret, e_cats_long, Option.toList_some, Option.toList_none, List.nil_append, List.cons_append, Option.bind_some, Nat.reduceAdd, Nat.reduceLeDiff, Nat.add_zero, if_true, if_false, true_and, and_true, and_self, Int32.reduceToNatClampNeg]
  simp only [zJ0_indexOf_7cf53_0, zJ0_indexOf_7cf53_1, zJ0_indexOf_7cf53_4, zJ0_indexOf_7cf53_7, zJ0_indexOf_7cf53_8, zJ0_indexOf_7cf53_11, zJ0_indexOf_7cf53_12, zJ0_indexOf_7cf53_13, zJ0_indexOf_7cf53_14, zJ0_indexOf_7cf53_17, zJ0_indexOf_7cf53_20, zJ0_indexOf_7cf53_23, zJ0_indexOf_7cf53_24, zJ0_indexOf_7cf53_27, zJ0_indexOf_7cf53_28, zJ0_indexOf_7cf53_29, zJ0_indexOf_7cf53_30, zJ0_indexOf_7cf53_36, zJ0_indexOf_0f7a4_0, zJ0_indexOf_0f7a4_1, zJ0_indexOf_0f7a4_2, zJ0_indexOf_0f7a4_3, zJ0_indexOf_0f7a4_6, e_k_int, e_k_ref, e_k_null, e_k_long, e_k_ret, e_cats_nil, e_cats_int, e_cats_ref, e_cats_ret, e_cats_long, Option.toList_some, Option.toList_none, List.nil_append, List.cons_append, Option.bind_some, Nat.reduceAdd, Nat.reduceLeDiff, Nat.add_zero, if_true, if_false, true_and, and_true, and_self, Int32.reduceToNatClampNeg]
def c_nm (T : Nat → Int32) (n first : Nat) : Nat → c_S → Int32 → c_S
  | 0, s, v => c_emit s 1 v
  | f + 1, s, v => if n ≤ s.2.1 then c_emit s 1 v else if c_dig (T s.2.1) = 0 then c_emit s 1 v else if first + 6 ≤ s.2.1 then c_spoil s first 2 else c_nm T n first f (s.1, s.2.1 + 1, s.2.2) (10 * v + T s.2.1 - 48)
set_option maxRecDepth 100000 in
theorem r_number_loop {d n first : Nat} (hn : n ≤ 40) {T : Nat → Int32} {h : e_H} : ∀ (f : Nat) (g : e_H) (s : c_S) (v : Int32), c_P T n h g s → first ≤ s.2.1 → first + 7 ≤ s.2.1 + f → s.2.1 ≤ first + 6 → ∃ g2, e_F kX2_readNumber (e_X e_pg (d + 1)) 7 [.ref 3, .int (nI first), .int v] [] g = some (none, g2) ∧ c_P T n h g2 (c_nm T n first f s v) := by
  intro f
  induction f with
  | zero => intro g s v hP h1 h2 h3; omega
  | succ f ih =>
    intro g s v hP hf1 hf2 hf3
    have hP0 := hP
    obtain ⟨h1, h2, h3, h4, h5, h6, h7, h8, h9⟩ := hP
    rw [c_nm, zX2_readNumber_7]
    by_cases c1 : n ≤ s.2.1
    · have hc : nI n ≤ nI s.2.1 := nI_le c1 (by omega)
      obtain ⟨g2, e1, e2⟩ := r_emit (d := d) (c := 1) (o := v) hP0
      refine ⟨g2, ?_, by rw [if_pos c1]; exact e2⟩
      simp only [zX2_readNumber_8, zX2_readNumber_11, zX2_readNumber_12, zX2_readNumber_15, zX2_readNumber_18, zX2_readNumber_19, zX2_readNumber_22, zX2_readNumber_23, zX2_readNumber_26, zX2_readNumber_27, zX2_readNumber_30, zX2_readNumber_33, zX2_readNumber_34, zX2_readNumber_37, zX2_readNumber_38, zX2_readNumber_39, zX2_readNumber_41, zX2_readNumber_44, zX2_readNumber_45, zX2_readNumber_46, zX2_readNumber_47, zX2_readNumber_50, zX2_readNumber_51, zX2_readNumber_53, zX2_readNumber_54, zX2_readNumber_55, zX2_readNumber_56, zX2_readNumber_59, zX2_readNumber_60, zX2_readNumber_63, zX2_readNumber_64, zX2_readNumber_65, zX2_readNumber_67, zX2_readNumber_68, zX2_readNumber_69, zX2_readNumber_70, zX2_readNumber_71, zX2_readNumber_74, zX2_readNumber_75, zX2_readNumber_76, zX2_readNumber_79, zX2_readNumber_82, zX2_readNumber_83, zX2_readNumber_84, zX2_readNumber_85, zX2_readNumber_88, h1, h3, hc, e1, e_k_int, e_k_ref, e_k_null, e_k_long, e_k_ret, e_cats_nil, e_cats_int, e_cats_ref, e_cats_ret, e_cats_long, Option.toList_some, Option.toList_none, List.nil_append, List.cons_append, Option.bind_some, Nat.reduceAdd, Nat.reduceLeDiff, Nat.add_zero, if_true, if_false, true_and, and_true, and_self, Int32.reduceToNatClampNeg]
    · have hc : ¬ nI n ≤ nI s.2.1 := nI_ge (by omega) (by omega)
      have hb : e_inb (nI s.2.1) 40 = true := e_inb_nI (by omega) (by decide)
      have hcl : (nI s.2.1).toNatClampNeg = s.2.1 := nI_clamp (by omega)
      rw [if_neg c1]
      by_cases c2 : c_dig (T s.2.1) = 0
      · obtain ⟨g2, e1, e2⟩ := r_emit (d := d) (c := 1) (o := v) hP0
        refine ⟨g2, ?_, by rw [if_pos c2]; exact e2⟩
        simp only [zX2_readNumber_8, zX2_readNumber_11, zX2_readNumber_12, zX2_readNumber_15, zX2_readNumber_18, zX2_readNumber_19, zX2_readNumber_22, zX2_readNumber_23, zX2_readNumber_26, zX2_readNumber_27, zX2_readNumber_30, zX2_readNumber_33, zX2_readNumber_34, zX2_readNumber_37, zX2_readNumber_38, zX2_readNumber_39, zX2_readNumber_41, zX2_readNumber_44, zX2_readNumber_45, zX2_readNumber_46, zX2_readNumber_47, zX2_readNumber_50, zX2_readNumber_51, zX2_readNumber_53, zX2_readNumber_54, zX2_readNumber_55, zX2_readNumber_56, zX2_readNumber_59, zX2_readNumber_60, zX2_readNumber_63, zX2_readNumber_64, zX2_readNumber_65, zX2_readNumber_67, zX2_readNumber_68, zX2_readNumber_69, zX2_readNumber_70, zX2_readNumber_71, zX2_readNumber_74, zX2_readNumber_75, zX2_readNumber_76, zX2_readNumber_79, zX2_readNumber_82, zX2_readNumber_83, zX2_readNumber_84, zX2_readNumber_85, zX2_readNumber_88, h1, h3, hc, hb, hcl, h9, r_isDigit, c2, e1, e_k_int, e_k_ref, e_k_null, e_k_long, e_k_ret, e_cats_nil, e_cats_int, e_cats_ref, e_cats_ret, e_cats_long, Option.toList_some, Option.toList_none, List.nil_append, List.cons_append, Option.bind_some, Nat.reduceAdd, Nat.reduceLeDiff, Nat.add_zero, if_true, if_false, true_and, and_true, and_self, Int32.reduceToNatClampNeg, ok_1, ok_2, ok_3, ok_4, ok_5, ok_6, ok_7, ok_8, ok_9, ok_30, ok_31, ok_32, ok_33, ok_34, ok_35, ok_36, ok_37, ok_38, ok_39, ok_40, ok_41, ok_42, ok_43, ok_44, ok_45, ok_46, ok_47, ok_48, ok_49, ok_50, ok_51, ok_52, ln_1, ln_2, ln_4, ln_5, ln_6, ln_7, ln_8, ln_30, ln_31, ln_32, ln_33, ln_34, ln_35, ln_36, ln_37, ln_38, ln_39, ln_41, ln_42, ln_43, ln_44, ln_45, ln_46, ln_47, ln_48, ln_49, ln_50, ln_51, ln_52]
      · rw [if_neg c2]
        have hsub : nI s.2.1 - nI first = nI (s.2.1 - first) := pk_sub hf1
        by_cases c3 : first + 6 ≤ s.2.1
        · have h6c : ¬ nI (s.2.1 - first) < 6 := by
            rw [show (6 : Int32) = nI 6 from rfl]
            exact nI_nlt (by omega) (by omega)
          obtain ⟨g2, e1, e2⟩ := r_spoil (d := d) (k := 2) (w := first) rfl hP0
          refine ⟨g2, ?_, by rw [if_pos c3]; exact e2⟩
          simp only [zX2_readNumber_8, zX2_readNumber_11, zX2_readNumber_12, zX2_readNumber_15, zX2_readNumber_18, zX2_readNumber_19, zX2_readNumber_22, zX2_readNumber_23, zX2_readNumber_26, zX2_readNumber_27, zX2_readNumber_30, zX2_readNumber_33, zX2_readNumber_34, zX2_readNumber_37, zX2_readNumber_38, zX2_readNumber_39, zX2_readNumber_41, zX2_readNumber_44, zX2_readNumber_45, zX2_readNumber_46, zX2_readNumber_47, zX2_readNumber_50, zX2_readNumber_51, zX2_readNumber_53, zX2_readNumber_54, zX2_readNumber_55, zX2_readNumber_56, zX2_readNumber_59, zX2_readNumber_60, zX2_readNumber_63, zX2_readNumber_64, zX2_readNumber_65, zX2_readNumber_67, zX2_readNumber_68, zX2_readNumber_69, zX2_readNumber_70, zX2_readNumber_71, zX2_readNumber_74, zX2_readNumber_75, zX2_readNumber_76, zX2_readNumber_79, zX2_readNumber_82, zX2_readNumber_83, zX2_readNumber_84, zX2_readNumber_85, zX2_readNumber_88, h1, h3, hc, hb, hcl, h9, r_isDigit, c2, hsub, h6c, e1, e_k_int, e_k_ref, e_k_null, e_k_long, e_k_ret, e_cats_nil, e_cats_int, e_cats_ref, e_cats_ret, e_cats_long, Option.toList_some, Option.toList_none, List.nil_append, List.cons_append, Option.bind_some, Nat.reduceAdd, Nat.reduceLeDiff, Nat.add_zero, if_true, if_false, true_and, and_true, and_self, Int32.reduceToNatClampNeg, ok_1, ok_2, ok_3, ok_4, ok_5, ok_6, ok_7, ok_8, ok_9, ok_30, ok_31, ok_32, ok_33, ok_34, ok_35, ok_36, ok_37, ok_38, ok_39, ok_40, ok_41, ok_42, ok_43, ok_44, ok_45, ok_46, ok_47, ok_48, ok_49, ok_50, ok_51, ok_52, ln_1, ln_2, ln_4, ln_5, ln_6, ln_7, ln_8, ln_30, ln_31, ln_32, ln_33, ln_34, ln_35, ln_36, ln_37, ln_38, ln_39, ln_41, ln_42, ln_43, ln_44, ln_45, ln_46, ln_47, ln_48, ln_49, ln_50, ln_51, ln_52]
        · have h6c : nI (s.2.1 - first) < 6 := by
            rw [show (6 : Int32) = nI 6 from rfl]
            exact nI_lt (by omega) (by omega)
          rw [if_neg c3]
          have q := ih (e_pI g 3 8 (nI (s.2.1 + 1))) (s.1, s.2.1 + 1, s.2.2) (10 * v + T s.2.1 - 48) (hP0.place (by omega)) (by show first ≤ s.2.1 + 1; omega) (by show first + 7 ≤ s.2.1 + 1 + f; omega) (by show s.2.1 + 1 ≤ first + 6; omega)
          simp only [zX2_readNumber_8, zX2_readNumber_11, zX2_readNumber_12, zX2_readNumber_15, zX2_readNumber_18, zX2_readNumber_19, zX2_readNumber_22, zX2_readNumber_23, zX2_readNumber_26, zX2_readNumber_27, zX2_readNumber_30, zX2_readNumber_33, zX2_readNumber_34, zX2_readNumber_37, zX2_readNumber_38, zX2_readNumber_39, zX2_readNumber_41, zX2_readNumber_44, zX2_readNumber_45, zX2_readNumber_46, zX2_readNumber_47, zX2_readNumber_50, zX2_readNumber_51, zX2_readNumber_53, zX2_readNumber_54, zX2_readNumber_55, zX2_readNumber_56, zX2_readNumber_59, zX2_readNumber_60, zX2_readNumber_63, zX2_readNumber_64, zX2_readNumber_65, zX2_readNumber_67, zX2_readNumber_68, zX2_readNumber_69, zX2_readNumber_70, zX2_readNumber_71, zX2_readNumber_74, zX2_readNumber_75, zX2_readNumber_76, zX2_readNumber_79, zX2_readNumber_82, zX2_readNumber_83, zX2_readNumber_84, zX2_readNumber_85, zX2_readNumber_88, h1, h3, hc, hb, hcl, h9, r_isDigit, c2, hsub, h6c, nI_1, e_k_int, e_k_ref, e_k_null, e_k_long, e_k_ret, e_cats_nil, e_cats_int, e_cats_ref, e_cats_ret, e_cats_long, Option.toList_some, Option.toList_none, List.nil_append, List.cons_append, Option.bind_some, Nat.reduceAdd, Nat.reduceLeDiff, Nat.add_zero, if_true, if_false, true_and, and_true, and_self, Int32.reduceToNatClampNeg, ok_1, ok_2, ok_3, ok_4, ok_5, ok_6, ok_7, ok_8, ok_9, ok_30, ok_31, ok_32, ok_33, ok_34, ok_35, ok_36, ok_37, ok_38, ok_39, ok_40, ok_41, ok_42, ok_43, ok_44, ok_45, ok_46, ok_47, ok_48, ok_49, ok_50, ok_51, ok_52, ln_1, ln_2, ln_4, ln_5, ln_6, ln_7, ln_8, ln_30, ln_31, ln_32, ln_33, ln_34, ln_35, ln_36, ln_37, ln_38, ln_39, ln_41, ln_42, ln_43, ln_44, ln_45, ln_46, ln_47, ln_48, ln_49, ln_50, ln_51, ln_52]
          exact q
theorem r_readNumber {d n : Nat} (hn : n ≤ 40) {T : Nat → Int32} {h g : e_H} {s : c_S} (hP : c_P T n h g s) : ∃ g2, e_X e_pg (d + 2) 27 [.ref 3] g = some (none, g2) ∧ c_P T n h g2 (c_nm T n s.2.1 7 s 0) := by
  rw [xX2_readNumber]
  simp only [zX2_readNumber_0, zX2_readNumber_1, zX2_readNumber_4, zX2_readNumber_5, zX2_readNumber_6, hP.2.2.1, e_k_int, e_k_ref, e_k_null, e_k_long, e_k_ret, e_cats_nil, e_cats_int, e_cats_ref, e_cats_ret, e_cats_long, Option.toList_some, Option.toList_none, List.nil_append, List.cons_append, Option.bind_some, Nat.reduceAdd, Nat.reduceLeDiff, Nat.add_zero, if_true, if_false, true_and, and_true, and_self, Int32.reduceToNatClampNeg]
  exact r_number_loop hn 7 g s 0 hP (Nat.le_refl _) (by omega) (by omega)
