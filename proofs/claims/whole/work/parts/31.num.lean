/-! numbers: no overflow where the ranges are kept -/
theorem ti_bm {a : Int} (h1 : -2147483648 ≤ a) (h2 : a < 2147483648) : a.bmod (2 ^ 32) = a := by
  rw [Int.bmod_def]
  have h3 : (a % (2 ^ 32 : Nat) : Int) = if 0 ≤ a then a else a + 4294967296 := by
    split
    · rw [Int.emod_eq_of_lt (by omega) (by omega)]
    · have : a % ((2 ^ 32 : Nat) : Int) = (a + 4294967296) % ((2 ^ 32 : Nat) : Int) := by
        rw [show (4294967296 : Int) = ((2 ^ 32 : Nat) : Int) from rfl, Int.add_emod_right]
      rw [this, Int.emod_eq_of_lt (by omega) (by omega)]
  rw [h3]
  split <;> split <;> omega
theorem ti_add {x y : Int32} (h1 : -2147483648 ≤ x.toInt + y.toInt) (h2 : x.toInt + y.toInt < 2147483648) : (x + y).toInt = x.toInt + y.toInt := by
  rw [Int32.toInt_add, ti_bm h1 h2]
theorem ti_sub {x y : Int32} (h1 : -2147483648 ≤ x.toInt - y.toInt) (h2 : x.toInt - y.toInt < 2147483648) : (x - y).toInt = x.toInt - y.toInt := by
  rw [Int32.toInt_sub, ti_bm h1 h2]
theorem ti_mul {x y : Int32} (h1 : -2147483648 ≤ x.toInt * y.toInt) (h2 : x.toInt * y.toInt < 2147483648) : (x * y).toInt = x.toInt * y.toInt := by
  rw [Int32.toInt_mul, ti_bm h1 h2]
theorem mul_rg {a b A B : Int} (h1 : 0 ≤ a) (h2 : a ≤ A) (h3 : 0 ≤ b) (h4 : b ≤ B) : 0 ≤ a * b ∧ a * b ≤ A * B := ⟨Int.mul_nonneg h1 h3, Int.mul_le_mul h2 h4 h3 (by omega)⟩
def e_rgl (w : Nat) : Int := [0, 0, 0, 0, -500, 0, 0, 0, 0].getD w 0
def e_rgh (w : Nat) : Int := [90, 24, 200, 60, 500, 24, 24, 60, 200].getD w 0
/-- an envoy's numbers are in their ranges (the slope up to 90: edge tries so much) -/
def e_Rg (N : Nat → Int32) : Prop := ∀ w, w < 9 → e_rgl w ≤ (N w).toInt ∧ (N w).toInt ≤ e_rgh w
theorem e_Rg.at0 {N : Nat → Int32} (h : e_Rg N) : 0 ≤ (N 0).toInt ∧ (N 0).toInt ≤ 90 := h 0 (by decide)
theorem e_Rg.at1 {N : Nat → Int32} (h : e_Rg N) : 0 ≤ (N 1).toInt ∧ (N 1).toInt ≤ 24 := h 1 (by decide)
theorem e_Rg.at2 {N : Nat → Int32} (h : e_Rg N) : 0 ≤ (N 2).toInt ∧ (N 2).toInt ≤ 200 := h 2 (by decide)
theorem e_Rg.at3 {N : Nat → Int32} (h : e_Rg N) : 0 ≤ (N 3).toInt ∧ (N 3).toInt ≤ 60 := h 3 (by decide)
theorem e_Rg.at4 {N : Nat → Int32} (h : e_Rg N) : -500 ≤ (N 4).toInt ∧ (N 4).toInt ≤ 500 := h 4 (by decide)
theorem e_Rg.at5 {N : Nat → Int32} (h : e_Rg N) : 0 ≤ (N 5).toInt ∧ (N 5).toInt ≤ 24 := h 5 (by decide)
theorem e_Rg.at6 {N : Nat → Int32} (h : e_Rg N) : 0 ≤ (N 6).toInt ∧ (N 6).toInt ≤ 24 := h 6 (by decide)
theorem e_Rg.at7 {N : Nat → Int32} (h : e_Rg N) : 0 ≤ (N 7).toInt ∧ (N 7).toInt ≤ 60 := h 7 (by decide)
theorem e_Rg.at8 {N : Nat → Int32} (h : e_Rg N) : 0 ≤ (N 8).toInt ∧ (N 8).toInt ≤ 200 := h 8 (by decide)
theorem ti_0 : (0 : Int32).toInt = 0 := rfl
theorem nI_ti {x : Nat} (h : x ≤ 100) : (nI x).toInt = (x : Int) := nI_toInt (by omega)
theorem p_wages_rg {N : Nat → Int32} (hN : e_Rg N) {x : Nat} (hx : x ≤ 24) : 0 ≤ (p_wages N (nI x)).toInt ∧ (p_wages N (nI x)).toInt ≤ 1440 := by
  have h6 := hN.at6
  have h7 := hN.at7
  have hxi := nI_ti (x := x) (by omega)
  unfold p_wages
  split
  · rw [ti_0]; omega
  · rename_i hc
    rw [Int32.le_iff_toInt_le] at hc
    have e1 : (nI x - N 6).toInt = (x : Int) - (N 6).toInt := by rw [ti_sub] <;> omega
    have hm := mul_rg h7.1 h7.2 (show (0 : Int) ≤ (nI x - N 6).toInt by omega) (show (nI x - N 6).toInt ≤ 24 by omega)
    rw [ti_mul (by omega) (by omega)]
    omega
theorem p_bonus_rg {N : Nat → Int32} (hN : e_Rg N) (own : Int32) : 0 ≤ (p_bonus N own).toInt ∧ (p_bonus N own).toInt ≤ 200 := by
  have h2 := hN.at2
  unfold p_bonus
  split
  · rw [ti_0]; omega
  · exact h2
theorem p_worth_rg {N : Nat → Int32} (hN : e_Rg N) {x n : Nat} (hx : x ≤ n) (hn : n ≤ 24) : -1440 ≤ (p_worth N (nI x) (nI n)).toInt ∧ (p_worth N (nI x) (nI n)).toInt ≤ 3800 := by
  have hb := p_bonus_rg hN (nI x)
  have hw := p_wages_rg hN (x := x) (by omega)
  have h0 := hN.at0
  have h3 := hN.at3
  have hxi := nI_ti (x := x) (by omega)
  have hni := nI_ti (x := n) (by omega)
  have m0 := mul_rg h0.1 h0.2 (show (0 : Int) ≤ (nI x).toInt by omega) (show (nI x).toInt ≤ 24 by omega)
  have e0 := ti_mul (x := N 0) (y := nI x) (by omega) (by omega)
  have e1 : (nI n - nI x).toInt = (n : Int) - (x : Int) := by rw [ti_sub] <;> omega
  have m3 := mul_rg h3.1 h3.2 (show (0 : Int) ≤ (nI n - nI x).toInt by omega) (show (nI n - nI x).toInt ≤ 24 by omega)
  have e3 := ti_mul (x := N 3) (y := nI n - nI x) (by omega) (by omega)
  unfold p_worth
  have a1 := ti_add (x := N 0 * nI x) (y := p_bonus N (nI x)) (by omega) (by omega)
  have a2 := ti_sub (x := N 0 * nI x + p_bonus N (nI x)) (y := N 3 * (nI n - nI x)) (by omega) (by omega)
  have a3 := ti_add (x := N 0 * nI x + p_bonus N (nI x) - N 3 * (nI n - nI x)) (y := p_wages N (nI x)) (by omega) (by omega)
  omega
/-! the model's words for the same -/
def p_Mpaid (N : Nat → Int32) (own : Int32) : Int32 := if own - N 6 ≤ 0 then 0 else N 7 * (own - N 6)
theorem p_Mpaid_eq {N : Nat → Int32} (hN : e_Rg N) {x : Nat} (hx : x ≤ 24) : p_Mpaid N (nI x) = p_wages N (nI x) := by
  have h6 := hN.at6
  have hxi := nI_ti (x := x) (by omega)
  have e1 : (nI x - N 6).toInt = (x : Int) - (N 6).toInt := by rw [ti_sub] <;> omega
  unfold p_Mpaid p_wages
  have hc : (nI x - N 6 ≤ 0) ↔ (nI x ≤ N 6) := by
    rw [Int32.le_iff_toInt_le, Int32.le_iff_toInt_le, ti_0]
    omega
  simp only [hc]
def p_Mworth (N : Nat → Int32) (own wood : Int32) : Int32 := N 0 * own - N 3 * (wood - own) + p_bonus N own + p_Mpaid N own
theorem p_Mworth_eq {N : Nat → Int32} (hN : e_Rg N) {x : Nat} (hx : x ≤ 24) (wood : Int32) : p_Mworth N (nI x) wood = p_worth N (nI x) wood := by
  unfold p_Mworth p_worth
  rw [p_Mpaid_eq hN hx]
  grind
def p_Mtake (N : Nat → Int32) (own wood : Int32) : Int32 := if own < N 5 then 0 else if p_Mworth N own wood < N 4 then 0 else 1
theorem p_Mtake_eq {N : Nat → Int32} (hN : e_Rg N) {x n : Nat} (hx : x ≤ n) (hn : n ≤ 24) : p_Mtake N (nI x) (nI n) = p_acc N (nI x) (p_worth N (nI x) (nI n) - N 4) := by
  unfold p_Mtake p_acc
  rw [p_Mworth_eq hN (by omega)]
  have hw := p_worth_rg hN hx hn
  have h4 := hN.at4
  have e1 : (p_worth N (nI x) (nI n) - N 4).toInt = (p_worth N (nI x) (nI n)).toInt - (N 4).toInt := by rw [ti_sub] <;> omega
  have hc : (p_worth N (nI x) (nI n) < N 4) ↔ (p_worth N (nI x) (nI n) - N 4 < 0) := by
    rw [Int32.lt_iff_toInt_lt, Int32.lt_iff_toInt_lt, ti_0]
    omega
  simp only [hc]
/-! the model's methods -/
abbrev e_Mn (h : e_H) (e : Nat) : Nat → Int32 := fun w => e_gI h 41 (9 * e + w)
theorem r_M_paidTo {d s k : Nat} {a b own : Int32} {h : e_H} (ha : a = nI s) (hb : b = nI k) (hs : s < 2) (hk : k < 5) : e_X e_pg (d + 2) 94 [.ref 40, .int a, .int b, .int own] h = some (some (.int (p_Mpaid (e_Mn h (5 * s + k)) own)), h) := by
  rw [xX4_paidTo]
  simp only [zX4_paidTo_0, zX4_paidTo_1, zX4_paidTo_2, zX4_paidTo_3, zX4_paidTo_4, zX4_paidTo_6, zX4_paidTo_9, zX4_paidTo_10, zX4_paidTo_12, zX4_paidTo_14, zX4_paidTo_17, zX4_paidTo_18, zX4_paidTo_19, zX4_paidTo_20, zX4_paidTo_22, zX4_paidTo_25, zX4_paidTo_27, zX4_paidTo_28, zX4_paidTo_31, zX4_paidTo_32, r_M_of ha hb (show (6 : Int32) = nI 6 from rfl) hs hk (by decide), r_M_of ha hb (show (7 : Int32) = nI 7 from rfl) hs hk (by decide), p_Mpaid, e_k_int, e_k_ref, e_k_null, e_k_long, e_k_ret, e_cats_nil, e_cats_int, e_cats_ref, e_cats_ret, e_cats_long, Option.toList_some, Option.toList_none, List.nil_append, List.cons_append, Option.bind_some, Nat.reduceAdd, Nat.reduceLeDiff, Nat.add_zero, if_true, if_false, true_and, and_true, and_self, Int32.reduceToNatClampNeg]
  repeat' split
  all_goals (first | (simp_all; done) | grind)
theorem r_M_worthOf {d s k : Nat} {a b own : Int32} {h : e_H} (ha : a = nI s) (hb : b = nI k) (hs : s < 2) (hk : k < 5) : e_X e_pg (d + 3) 93 [.ref 40, .int a, .int b, .int own] h = some (some (.int (p_Mworth (e_Mn h (5 * s + k)) own (e_gI h 40 0))), h) := by
  rw [xX4_worthOf]
  simp only [zX4_worthOf_0, zX4_worthOf_1, zX4_worthOf_2, zX4_worthOf_3, zX4_worthOf_4, zX4_worthOf_7, zX4_worthOf_8, zX4_worthOf_9, zX4_worthOf_10, zX4_worthOf_11, zX4_worthOf_12, zX4_worthOf_13, zX4_worthOf_16, zX4_worthOf_17, zX4_worthOf_20, zX4_worthOf_21, zX4_worthOf_22, zX4_worthOf_23, zX4_worthOf_24, zX4_worthOf_26, zX4_worthOf_28, zX4_worthOf_29, zX4_worthOf_30, zX4_worthOf_31, zX4_worthOf_32, zX4_worthOf_33, zX4_worthOf_36, zX4_worthOf_39, zX4_worthOf_40, zX4_worthOf_41, zX4_worthOf_42, zX4_worthOf_43, zX4_worthOf_46, zX4_worthOf_49, zX4_worthOf_50, zX4_worthOf_51, zX4_worthOf_53, zX4_worthOf_55, zX4_worthOf_56, zX4_worthOf_57, zX4_worthOf_58, zX4_worthOf_59, zX4_worthOf_62, zX4_worthOf_63, r_M_of ha hb (show (0 : Int32) = nI 0 from rfl) hs hk (by decide), r_M_of ha hb (show (1 : Int32) = nI 1 from rfl) hs hk (by decide), r_M_of ha hb (show (2 : Int32) = nI 2 from rfl) hs hk (by decide), r_M_of ha hb (show (3 : Int32) = nI 3 from rfl) hs hk (by decide), r_M_paidTo ha hb hs hk, p_Mworth, p_bonus, e_k_int, e_k_ref, e_k_null, e_k_long, e_k_ret, e_cats_nil, e_cats_int, e_cats_ref, e_cats_ret, e_cats_long, Option.toList_some, Option.toList_none, List.nil_append, List.cons_append, Option.bind_some, Nat.reduceAdd, Nat.reduceLeDiff, Nat.add_zero, if_true, if_false, true_and, and_true, and_self, Int32.reduceToNatClampNeg]
  repeat' split
  all_goals (first | (simp_all; done) | grind)
theorem r_M_doesTake {d s k : Nat} {a b own : Int32} {h : e_H} (ha : a = nI s) (hb : b = nI k) (hs : s < 2) (hk : k < 5) : e_X e_pg (d + 4) 95 [.ref 40, .int a, .int b, .int own] h = some (some (.int (p_Mtake (e_Mn h (5 * s + k)) own (e_gI h 40 0))), h) := by
  rw [xX4_doesTake]
  simp only [zX4_doesTake_0, zX4_doesTake_1, zX4_doesTake_2, zX4_doesTake_3, zX4_doesTake_4, zX4_doesTake_5, zX4_doesTake_8, zX4_doesTake_11, zX4_doesTake_12, zX4_doesTake_13, zX4_doesTake_14, zX4_doesTake_15, zX4_doesTake_18, zX4_doesTake_19, zX4_doesTake_20, zX4_doesTake_21, zX4_doesTake_22, zX4_doesTake_25, zX4_doesTake_28, zX4_doesTake_29, zX4_doesTake_32, zX4_doesTake_33, r_M_of ha hb (show (4 : Int32) = nI 4 from rfl) hs hk (by decide), r_M_of ha hb (show (5 : Int32) = nI 5 from rfl) hs hk (by decide), r_M_worthOf ha hb hs hk, p_Mtake, e_k_int, e_k_ref, e_k_null, e_k_long, e_k_ret, e_cats_nil, e_cats_int, e_cats_ref, e_cats_ret, e_cats_long, Option.toList_some, Option.toList_none, List.nil_append, List.cons_append, Option.bind_some, Nat.reduceAdd, Nat.reduceLeDiff, Nat.add_zero, if_true, if_false, true_and, and_true, and_self, Int32.reduceToNatClampNeg]
  repeat' split
  all_goals (first | (simp_all; done) | grind)
