/-! committees -/
theorem q_shl {c : Nat} (hc : c ≤ 5) : (1 : Int32) <<< (nI c &&& 31) = nI (2 ^ c) := by
  have : ∀ c, c < 6 → (1 : Int32) <<< (nI c &&& 31) = nI (2 ^ c) := by decide +kernel
  exact this c (by omega)
theorem q_bit {a k : Nat} (ha : a < 32) (hk : k < 5) : nI a >>> (nI k &&& 31) &&& 1 = nI (a / 2 ^ k % 2) := by
  have : ∀ a, a < 32 → ∀ k, k < 5 → nI a >>> (nI k &&& 31) &&& 1 = nI (a / 2 ^ k % 2) := by decide +kernel
  exact this a ha k hk
def q_pc (a : Nat) : Nat → Nat
  | 0 => 0
  | k + 1 => q_pc a k + a / 2 ^ k % 2
theorem q_pc_le (a : Nat) : ∀ k, q_pc a k ≤ k := by
  intro k
  induction k with
  | zero => exact Nat.le_refl _
  | succ k ih =>
    have := Nat.mod_lt (a / 2 ^ k) (show 0 < 2 by decide)
    show q_pc a k + a / 2 ^ k % 2 ≤ k + 1
    omega
def q_us (x y : Int32) : Int32 := (x.toUInt32 >>> (y.toUInt32 &&& Int32.toUInt32 31)).toInt32
def q_b1' (x : Int32) : Int32 := x - (q_us x 1 &&& 1431655765)
def q_b2' (x : Int32) : Int32 := (x &&& 858993459) + (q_us x 2 &&& 858993459)
def q_b3' (x : Int32) : Int32 := x + q_us x 4 &&& 252645135
def q_b4' (x : Int32) : Int32 := x + q_us x 8
def q_b5' (x : Int32) : Int32 := x + q_us x 16
def q_bcnt (x : Int32) : Int32 := q_b5' (q_b4' (q_b3' (q_b2' (q_b1' x)))) &&& 63
theorem r_bitCount {d : Nat} {x : Int32} {g : e_H} : e_X e_pg (d + 1) 155 [.int x] g = some (some (.int (q_bcnt x)), g) := by
  rw [xJ6_bitCount_0f7a4]
  simp only [zJ6_bitCount_0f7a4_0, zJ6_bitCount_0f7a4_1, zJ6_bitCount_0f7a4_2, zJ6_bitCount_0f7a4_3, zJ6_bitCount_0f7a4_4, zJ6_bitCount_0f7a4_7, zJ6_bitCount_0f7a4_8, zJ6_bitCount_0f7a4_9, zJ6_bitCount_0f7a4_10, zJ6_bitCount_0f7a4_11, zJ6_bitCount_0f7a4_14, zJ6_bitCount_0f7a4_15, zJ6_bitCount_0f7a4_16, zJ6_bitCount_0f7a4_17, zJ6_bitCount_0f7a4_18, zJ6_bitCount_0f7a4_21, zJ6_bitCount_0f7a4_22, zJ6_bitCount_0f7a4_23, zJ6_bitCount_0f7a4_24, zJ6_bitCount_0f7a4_25, zJ6_bitCount_0f7a4_26, zJ6_bitCount_0f7a4_27, zJ6_bitCount_0f7a4_28, zJ6_bitCount_0f7a4_29, zJ6_bitCount_0f7a4_32, zJ6_bitCount_0f7a4_33, zJ6_bitCount_0f7a4_34, zJ6_bitCount_0f7a4_35, zJ6_bitCount_0f7a4_36, zJ6_bitCount_0f7a4_38, zJ6_bitCount_0f7a4_39, zJ6_bitCount_0f7a4_40, zJ6_bitCount_0f7a4_41, zJ6_bitCount_0f7a4_42, zJ6_bitCount_0f7a4_43, zJ6_bitCount_0f7a4_45, zJ6_bitCount_0f7a4_46, zJ6_bitCount_0f7a4_47, zJ6_bitCount_0f7a4_48, zJ6_bitCount_0f7a4_49, zJ6_bitCount_0f7a4_51, zJ6_bitCount_0f7a4_52, e_k_int, e_k_ref, e_k_null, e_k_long, e_k_ret, e_cats_nil, e_cats_int, e_cats_ref, e_cats_ret, e_cats_long, Option.toList_some, Option.toList_none, List.nil_append, List.cons_append, Option.bind_some, Nat.reduceAdd, Nat.reduceLeDiff, Nat.add_zero, if_true, if_false, true_and, and_true, and_self, Int32.reduceToNatClampNeg]
  rfl
theorem q_bcnt_eq {a c : Nat} (hc : c ≤ 5) (ha : a < 2 ^ c) : q_bcnt (nI a) = nI (q_pc a c) := by
  have : ∀ c, c < 6 → ∀ a, a < 2 ^ c → q_bcnt (nI a) = nI (q_pc a c) := by decide +kernel
  exact this c (by omega) a ha
/-- those of a committee who take a share -/
def q_tk (S : e_H) (k x : Nat) : Int32 := p_acc (q_N S 0 k) (nI x) (s_g0 (q_N S 0 k) (q_n S) x)
def q_vt (S : e_H) (a x : Nat) : Nat → Nat
  | 0 => 0
  | k + 1 => q_vt S a x k + (if a / 2 ^ k % 2 = 1 ∧ ¬ q_tk S k x = 0 then 1 else 0)
theorem q_vt_le (S : e_H) (a x : Nat) : ∀ k, q_vt S a x k ≤ k := by
  intro k
  induction k with
  | zero => exact Nat.le_refl _
  | succ k ih =>
    show q_vt S a x k + _ ≤ k + 1
    split <;> omega
theorem q_C.n {S g : e_H} (hS : q_ok S) (h : q_C S g) : e_gI g 0 6 = nI (q_n S) := by rw [h.at (by simp)]; exact hS.n.1
set_option maxRecDepth 100000 in
theorem r_votesFor {d a x : Nat} {S g : e_H} (hS : q_ok S) (hC : q_C S g) (ha : a < 32) : e_X e_pg (d + 4) 68 [.ref 0, .int (nI a), .int (nI x)] g = some (some (.int (nI (q_vt S a x (q_c S 0)))), g) := by
  have c0 := (hS.c (show 0 < 2 by decide)).2
  have e0 := hC.c hS (show 0 < 2 by decide)
  have g6 := hC.n hS
  rw [xX3_votesFor]
  simp only [zX3_votesFor_0, zX3_votesFor_1, zX3_votesFor_2, zX3_votesFor_3, e_k_int, e_k_ref, e_k_null, e_k_long, e_k_ret, e_cats_nil, e_cats_int, e_cats_ref, e_cats_ret, e_cats_long, Option.toList_some, Option.toList_none, List.nil_append, List.cons_append, Option.bind_some, Nat.reduceAdd, Nat.reduceLeDiff, Nat.add_zero, if_true, if_false, true_and, and_true, and_self, Int32.reduceToNatClampNeg]
  obtain ⟨ls2, f, e, ⟨v, rfl⟩, rfl⟩ := f_lp (cd := kX3_votesFor) (O := e_X e_pg (d + 3)) (pc := 5) (fun k ls h => (∃ v, ls = [.ref 0, .int (nI a), .int (nI x), .int (nI (q_vt S a x k)), .int (nI k), v]) ∧ h = g) (Nat.zero_le (q_c S 0)) (by
    rintro k ls h - hk ⟨⟨v, rfl⟩, rfl⟩
    have hc : ¬ nI (q_c S 0) ≤ nI k := nI_ge hk (by omega)
    have hk5 : k < 5 := by omega
    have hx := q_x_lt (show 0 < 2 by decide) hk5
    have eN := hC.N (show 0 < 2 by decide) hk5
    have gb := r_gainBy (d := d) (own := nI x) (wood := nI (q_n S)) (h := h) hx
    have ac := r_accepts (d := d + 2) (own := nI x) (gain := p_worth (q_N S 0 k) (nI x) (nI (q_n S)) - q_N S 0 k 4) (h := h) hx
    rw [eN] at gb ac
    change _ = some (some (Value.int (q_tk S k x)), h) at ac
    have nx : q_vt S a x (k + 1) = q_vt S a x k + (if a / 2 ^ k % 2 = 1 ∧ ¬ q_tk S k x = 0 then 1 else 0) := rfl
    rw [zX3_votesFor_5, nx]
    have b2 := Nat.mod_lt (a / 2 ^ k) (show 0 < 2 by decide)
    by_cases c1 : a / 2 ^ k % 2 = 1
    · have q1 : ¬ ¬ nI 1 = 1 := by decide
      by_cases c2 : q_tk S k x = 0
      · simp only [zX3_votesFor_7, zX3_votesFor_8, zX3_votesFor_11, zX3_votesFor_12, zX3_votesFor_13, zX3_votesFor_16, zX3_votesFor_17, zX3_votesFor_18, zX3_votesFor_20, zX3_votesFor_23, zX3_votesFor_25, zX3_votesFor_26, zX3_votesFor_28, zX3_votesFor_29, zX3_votesFor_30, zX3_votesFor_31, zX3_votesFor_32, zX3_votesFor_35, zX3_votesFor_37, zX3_votesFor_38, zX3_votesFor_40, zX3_votesFor_41, zX3_votesFor_42, zX3_votesFor_45, zX3_votesFor_48, zX3_votesFor_51, zX3_votesFor_54, zX3_votesFor_57, zX3_votesFor_60, e0, hc, r_eAt (s := 0) (k := k) (a := 0) rfl rfl (by decide) hk5, q_bit ha hk5, c1, c2, q1, g6, hx, gb, ac, nI_1, not_true_eq_false, and_false, e_k_int, e_k_ref, e_k_null, e_k_long, e_k_ret, e_cats_nil, e_cats_int, e_cats_ref, e_cats_ret, e_cats_long, Option.toList_some, Option.toList_none, List.nil_append, List.cons_append, Option.bind_some, Nat.reduceAdd, Nat.reduceLeDiff, Nat.add_zero, if_true, if_false, true_and, and_true, and_self, Int32.reduceToNatClampNeg, ok_1, ok_2, ok_3, ok_4, ok_5, ok_6, ok_7, ok_8, ok_9, ok_30, ok_31, ok_32, ok_33, ok_34, ok_35, ok_36, ok_37, ok_38, ok_39, ok_40, ok_41, ok_42, ok_43, ok_44, ok_45, ok_46, ok_47, ok_48, ok_49, ok_50, ok_51, ok_52, ln_1, ln_2, ln_4, ln_5, ln_6, ln_7, ln_8, ln_30, ln_31, ln_32, ln_33, ln_34, ln_35, ln_36, ln_37, ln_38, ln_39, ln_41, ln_42, ln_43, ln_44, ln_45, ln_46, ln_47, ln_48, ln_49, ln_50, ln_51, ln_52, ib_0_9, ib_1_9, ib_2_9, ib_3_9, ib_4_9, ib_5_9, ib_6_9, ib_7_9, ib_8_9, ib_0_2, ib_1_2, ib_0_5, ib_1_5, ib_2_5, ib_3_5, ib_4_5, ib_0_25, ib_0_10, ib_5_10, ib_0_90, ib_45_90, ib_0_64]
        exact ⟨_, _, rfl, ⟨_, rfl⟩, rfl⟩
      · simp only [zX3_votesFor_7, zX3_votesFor_8, zX3_votesFor_11, zX3_votesFor_12, zX3_votesFor_13, zX3_votesFor_16, zX3_votesFor_17, zX3_votesFor_18, zX3_votesFor_20, zX3_votesFor_23, zX3_votesFor_25, zX3_votesFor_26, zX3_votesFor_28, zX3_votesFor_29, zX3_votesFor_30, zX3_votesFor_31, zX3_votesFor_32, zX3_votesFor_35, zX3_votesFor_37, zX3_votesFor_38, zX3_votesFor_40, zX3_votesFor_41, zX3_votesFor_42, zX3_votesFor_45, zX3_votesFor_48, zX3_votesFor_51, zX3_votesFor_54, zX3_votesFor_57, zX3_votesFor_60, e0, hc, r_eAt (s := 0) (k := k) (a := 0) rfl rfl (by decide) hk5, q_bit ha hk5, c1, c2, q1, g6, hx, gb, ac, nI_1, not_false_eq_true, e_k_int, e_k_ref, e_k_null, e_k_long, e_k_ret, e_cats_nil, e_cats_int, e_cats_ref, e_cats_ret, e_cats_long, Option.toList_some, Option.toList_none, List.nil_append, List.cons_append, Option.bind_some, Nat.reduceAdd, Nat.reduceLeDiff, Nat.add_zero, if_true, if_false, true_and, and_true, and_self, Int32.reduceToNatClampNeg, ok_1, ok_2, ok_3, ok_4, ok_5, ok_6, ok_7, ok_8, ok_9, ok_30, ok_31, ok_32, ok_33, ok_34, ok_35, ok_36, ok_37, ok_38, ok_39, ok_40, ok_41, ok_42, ok_43, ok_44, ok_45, ok_46, ok_47, ok_48, ok_49, ok_50, ok_51, ok_52, ln_1, ln_2, ln_4, ln_5, ln_6, ln_7, ln_8, ln_30, ln_31, ln_32, ln_33, ln_34, ln_35, ln_36, ln_37, ln_38, ln_39, ln_41, ln_42, ln_43, ln_44, ln_45, ln_46, ln_47, ln_48, ln_49, ln_50, ln_51, ln_52, ib_0_9, ib_1_9, ib_2_9, ib_3_9, ib_4_9, ib_5_9, ib_6_9, ib_7_9, ib_8_9, ib_0_2, ib_1_2, ib_0_5, ib_1_5, ib_2_5, ib_3_5, ib_4_5, ib_0_25, ib_0_10, ib_5_10, ib_0_90, ib_45_90, ib_0_64]
        exact ⟨_, _, rfl, ⟨_, rfl⟩, rfl⟩
    · have c1' : a / 2 ^ k % 2 = 0 := by omega
      have q1 : ¬ nI 0 = 1 := by decide
      have q2 : ¬ 0 = 1 := by decide
      simp only [zX3_votesFor_7, zX3_votesFor_8, zX3_votesFor_11, zX3_votesFor_12, zX3_votesFor_13, zX3_votesFor_16, zX3_votesFor_17, zX3_votesFor_18, zX3_votesFor_20, zX3_votesFor_23, zX3_votesFor_25, zX3_votesFor_26, zX3_votesFor_28, zX3_votesFor_29, zX3_votesFor_30, zX3_votesFor_31, zX3_votesFor_32, zX3_votesFor_35, zX3_votesFor_37, zX3_votesFor_38, zX3_votesFor_40, zX3_votesFor_41, zX3_votesFor_42, zX3_votesFor_45, zX3_votesFor_48, zX3_votesFor_51, zX3_votesFor_54, zX3_votesFor_57, zX3_votesFor_60, e0, hc, r_eAt (s := 0) (k := k) (a := 0) rfl rfl (by decide) hk5, q_bit ha hk5, c1', q1, q2, nI_1, not_false_eq_true, false_and, e_k_int, e_k_ref, e_k_null, e_k_long, e_k_ret, e_cats_nil, e_cats_int, e_cats_ref, e_cats_ret, e_cats_long, Option.toList_some, Option.toList_none, List.nil_append, List.cons_append, Option.bind_some, Nat.reduceAdd, Nat.reduceLeDiff, Nat.add_zero, if_true, if_false, true_and, and_true, and_self, Int32.reduceToNatClampNeg, ok_1, ok_2, ok_3, ok_4, ok_5, ok_6, ok_7, ok_8, ok_9, ok_30, ok_31, ok_32, ok_33, ok_34, ok_35, ok_36, ok_37, ok_38, ok_39, ok_40, ok_41, ok_42, ok_43, ok_44, ok_45, ok_46, ok_47, ok_48, ok_49, ok_50, ok_51, ok_52, ln_1, ln_2, ln_4, ln_5, ln_6, ln_7, ln_8, ln_30, ln_31, ln_32, ln_33, ln_34, ln_35, ln_36, ln_37, ln_38, ln_39, ln_41, ln_42, ln_43, ln_44, ln_45, ln_46, ln_47, ln_48, ln_49, ln_50, ln_51, ln_52, ib_0_9, ib_1_9, ib_2_9, ib_3_9, ib_4_9, ib_5_9, ib_6_9, ib_7_9, ib_8_9, ib_0_2, ib_1_2, ib_0_5, ib_1_5, ib_2_5, ib_3_5, ib_4_5, ib_0_25, ib_0_10, ib_5_10, ib_0_90, ib_45_90, ib_0_64]
      exact ⟨_, _, rfl, ⟨_, rfl⟩, rfl⟩) (ls := [.ref 0, .int (nI a), .int (nI x), .int 0, .int 0, .null]) (h := g) ⟨⟨_, rfl⟩, rfl⟩
  have hc : nI (q_c S 0) ≤ nI (q_c S 0) := nI_le (Nat.le_refl _) (by omega)
  rw [e, zX3_votesFor_5]
  simp only [zX3_votesFor_7, zX3_votesFor_8, zX3_votesFor_11, zX3_votesFor_12, zX3_votesFor_13, zX3_votesFor_16, zX3_votesFor_17, zX3_votesFor_18, zX3_votesFor_20, zX3_votesFor_23, zX3_votesFor_25, zX3_votesFor_26, zX3_votesFor_28, zX3_votesFor_29, zX3_votesFor_30, zX3_votesFor_31, zX3_votesFor_32, zX3_votesFor_35, zX3_votesFor_37, zX3_votesFor_38, zX3_votesFor_40, zX3_votesFor_41, zX3_votesFor_42, zX3_votesFor_45, zX3_votesFor_48, zX3_votesFor_51, zX3_votesFor_54, zX3_votesFor_57, zX3_votesFor_60, zX3_votesFor_63, zX3_votesFor_64, e0, hc, e_k_int, e_k_ref, e_k_null, e_k_long, e_k_ret, e_cats_nil, e_cats_int, e_cats_ref, e_cats_ret, e_cats_long, Option.toList_some, Option.toList_none, List.nil_append, List.cons_append, Option.bind_some, Nat.reduceAdd, Nat.reduceLeDiff, Nat.add_zero, if_true, if_false, true_and, and_true, and_self, Int32.reduceToNatClampNeg, ok_1, ok_2, ok_3, ok_4, ok_5, ok_6, ok_7, ok_8, ok_9, ok_30, ok_31, ok_32, ok_33, ok_34, ok_35, ok_36, ok_37, ok_38, ok_39, ok_40, ok_41, ok_42, ok_43, ok_44, ok_45, ok_46, ok_47, ok_48, ok_49, ok_50, ok_51, ok_52, ln_1, ln_2, ln_4, ln_5, ln_6, ln_7, ln_8, ln_30, ln_31, ln_32, ln_33, ln_34, ln_35, ln_36, ln_37, ln_38, ln_39, ln_41, ln_42, ln_43, ln_44, ln_45, ln_46, ln_47, ln_48, ln_49, ln_50, ln_51, ln_52, ib_0_9, ib_1_9, ib_2_9, ib_3_9, ib_4_9, ib_5_9, ib_6_9, ib_7_9, ib_8_9, ib_0_2, ib_1_2, ib_0_5, ib_1_5, ib_2_5, ib_3_5, ib_4_5, ib_0_25, ib_0_10, ib_5_10, ib_0_90, ib_45_90, ib_0_64]
def q_cB (S : e_H) (a v j x : Nat) : Int32 := if p_acc (q_N S 1 j) (nI (q_n S - x)) (s_g1 (q_N S 1 j) (q_n S) x) = 0 then 0 else if q_vt S a x (q_c S 0) < v then 0 else 1
def q_com (S : e_H) (a v j : Nat) : Int32 := (q_rB S (q_N S 0 0) (q_N S 1 j) (q_cB S a v j)).1
/-- a committee that may be -/
def q_cok (S : e_H) (a v j : Nat) : Prop := 1 ≤ a ∧ a < 2 ^ q_c S 0 ∧ 1 ≤ v ∧ v ≤ q_pc a (q_c S 0) ∧ j < q_c S 1
theorem pow_le32 {c : Nat} (h : c ≤ 5) : 2 ^ c ≤ 32 := by
  have := Nat.pow_le_pow_right (show 0 < 2 by decide) h
  omega
set_option maxRecDepth 100000 in
theorem r_committee {d a v j : Nat} {S : e_H} (hS : q_ok S) (hk : q_cok S a v j) : ∃ f, e_X e_pg (d + 5) 51 [.ref 0, .int (nI a), .int (nI v), .int (nI j)] S = some (some (.int (q_com S a v j)), f) ∧ q_C S f := by
  obtain ⟨k1, k2, k3, k4, k5⟩ := hk
  have c0 := (hS.c (show 0 < 2 by decide)).2
  have c1 := (hS.c (show 1 < 2 by decide)).2
  have e0 := (hS.c (show 0 < 2 by decide)).1
  have hn := hS.n
  have hn2 := hn.2
  have p32 := pow_le32 c0.2
  have hj5 : j < 5 := by omega
  have pl := q_pc_le a (q_c S 0)
  have u1 : ¬ nI a < 1 := by rw [show (1 : Int32) = nI 1 from rfl]; exact nI_nlt k1 (by omega)
  have u2 : ¬ nI (2 ^ q_c S 0) ≤ nI a := nI_ge k2 (by omega)
  have u3 : ¬ nI v < 1 := by rw [show (1 : Int32) = nI 1 from rfl]; exact nI_nlt k3 (by omega)
  have u4 : ¬ nI (q_pc a (q_c S 0)) < nI v := nI_nlt k4 (by omega)
  have ie := p_isE_yes hS (show 1 < 2 by decide) k5
  rw [show nI 1 = (1 : Int32) from rfl] at ie
  obtain ⟨g, s1, s2⟩ := r_seat (d := d) (i := q_x 0 0) (j := q_x 1 j) (q_x_lt (by decide) (by decide)) (q_x_lt (by decide) hj5) hn.2.2 (h := S)
  rw [(q_C.refl S).N (by decide) (by decide), (q_C.refl S).N (by decide) hj5] at s2
  obtain ⟨⟨t1, t2, t3, t4, t5⟩, t6, t7, t8⟩ := s2
  have hC1 : q_C S g := (q_C.refl S).fr t5 (fun o ho => by simp at ho ⊢; omega)
  rw [xX3_committee]
  simp only [zX3_committee_0, zX3_committee_1, zX3_committee_2, zX3_committee_5, zX3_committee_6, zX3_committee_7, zX3_committee_8, zX3_committee_11, zX3_committee_12, zX3_committee_13, zX3_committee_14, zX3_committee_17, zX3_committee_18, zX3_committee_19, zX3_committee_22, zX3_committee_23, zX3_committee_24, zX3_committee_27, zX3_committee_30, zX3_committee_31, zX3_committee_32, zX3_committee_33, zX3_committee_36, zX3_committee_39, zX3_committee_41, zX3_committee_42, zX3_committee_43, zX3_committee_46, zX3_committee_47, zX3_committee_50, zX3_committee_51, zX3_committee_52, zX3_committee_53, zX3_committee_56, zX3_committee_57, zX3_committee_58, zX3_committee_59, zX3_committee_62, zX3_committee_65, zX3_committee_66, e0, q_shl c0.2, u1, u2, u3, r_bitCount, q_bcnt_eq c0.2 k2, u4, r_isEnvoy, ie, hn.1, r_eAt (s := 0) (k := 0) (a := 0) (b := 0) rfl rfl (by decide) (by decide), r_eAt (s := 1) (k := j) (a := 1) (b := nI j) rfl rfl (by decide) hj5, s1, ne_0_1, ne_0_2, ne_0_3, ne_1_0, ne_1_2, ne_1_3, ne_2_0, ne_2_1, ne_2_3, ne_3_0, ne_3_1, ne_3_2, not_false_eq_true, e_k_int, e_k_ref, e_k_null, e_k_long, e_k_ret, e_cats_nil, e_cats_int, e_cats_ref, e_cats_ret, e_cats_long, Option.toList_some, Option.toList_none, List.nil_append, List.cons_append, Option.bind_some, Nat.reduceAdd, Nat.reduceLeDiff, Nat.add_zero, if_true, if_false, true_and, and_true, and_self, Int32.reduceToNatClampNeg, ok_1, ok_2, ok_3, ok_4, ok_5, ok_6, ok_7, ok_8, ok_9, ok_30, ok_31, ok_32, ok_33, ok_34, ok_35, ok_36, ok_37, ok_38, ok_39, ok_40, ok_41, ok_42, ok_43, ok_44, ok_45, ok_46, ok_47, ok_48, ok_49, ok_50, ok_51, ok_52, ln_1, ln_2, ln_4, ln_5, ln_6, ln_7, ln_8, ln_30, ln_31, ln_32, ln_33, ln_34, ln_35, ln_36, ln_37, ln_38, ln_39, ln_41, ln_42, ln_43, ln_44, ln_45, ln_46, ln_47, ln_48, ln_49, ln_50, ln_51, ln_52, ib_0_9, ib_1_9, ib_2_9, ib_3_9, ib_4_9, ib_5_9, ib_6_9, ib_7_9, ib_8_9, ib_0_2, ib_1_2, ib_0_5, ib_1_5, ib_2_5, ib_3_5, ib_4_5, ib_0_25, ib_0_10, ib_5_10, ib_0_90, ib_45_90, ib_0_64]
  have toC : ∀ h, e_fr [30] g h → q_C S h := fun h hf => hC1.fr hf (fun o ho => by simp at ho ⊢; omega)
  obtain ⟨ls2, f, e, ⟨w, rfl⟩, hF, hB⟩ := f_lp (cd := kX3_committee) (O := e_X e_pg (d + 4)) (pc := 68) (fun x ls h => (∃ w, ls = [.ref 0, .int (nI a), .int (nI v), .int (nI j), .int (nI x), w]) ∧ e_fr [30] g h ∧ ∀ y, y < x → e_gI h 30 y = q_cB S a v j y) (Nat.zero_le (q_n S + 1)) (by
    rintro x ls h - hx ⟨⟨w, rfl⟩, hF, hB⟩
    have hc : ¬ nI (q_n S) < nI x := nI_nlt (by omega) (by omega)
    have hib : e_inb (nI x) 25 = true := e_inb_nI (by omega) (by decide)
    have hcl : (nI x).toNatClampNeg = x := nI_clamp (by omega)
    have hsub : nI (q_n S) - nI x = nI (q_n S - x) := pk_sub (by omega)
    have hCh := toC h hF
    have g6 := hCh.n hS
    have hxj := q_x_lt (show 1 < 2 by decide) hj5
    have g33 : e_gI h 33 x = s_g1 (q_N S 1 j) (q_n S) x := by rw [hF.1 33 x (by simp)]; exact (t4 x (by omega)).2.1
    have ac := r_accepts (d := d + 3) (own := nI (q_n S - x)) (gain := s_g1 (q_N S 1 j) (q_n S) x) (h := h) hxj
    rw [hCh.N (by decide) hj5] at ac
    have vf := r_votesFor (d := d) (x := x) hS hCh (show a < 32 by omega)
    have vl := q_vt_le S a x (q_c S 0)
    have fin : ∀ z, z = q_cB S a v j x → ∀ y, y < x + 1 → e_gI (e_pI h 30 x z) 30 y = q_cB S a v j y := fun z hz y hy => by
      rw [e_gI_pI]
      split
      · rename_i c; rw [c.2]; exact hz
      · rename_i c
        exact hB y (by omega)
    rw [zX3_committee_68]
    by_cases z1 : p_acc (q_N S 1 j) (nI (q_n S - x)) (s_g1 (q_N S 1 j) (q_n S) x) = 0
    · have ez : (0 : Int32) = q_cB S a v j x := by unfold q_cB; rw [if_pos z1]
      simp only [zX3_committee_70, zX3_committee_71, zX3_committee_74, zX3_committee_77, zX3_committee_78, zX3_committee_79, zX3_committee_80, zX3_committee_83, zX3_committee_84, zX3_committee_87, zX3_committee_89, zX3_committee_90, zX3_committee_91, zX3_committee_94, zX3_committee_97, zX3_committee_98, zX3_committee_99, zX3_committee_101, zX3_committee_102, zX3_committee_105, zX3_committee_107, zX3_committee_108, zX3_committee_111, zX3_committee_114, zX3_committee_116, zX3_committee_118, zX3_committee_121, zX3_committee_122, zX3_committee_123, zX3_committee_125, zX3_committee_128, zX3_committee_129, zX3_committee_132, zX3_committee_133, zX3_committee_136, zX3_committee_137, zX3_committee_138, zX3_committee_141, g6, hc, hxj, r_eAt (s := 1) (k := j) (a := 1) (b := nI j) rfl rfl (by decide) hj5, hsub, hib, hcl, g33, ac, z1, bn_0, nI_1, e_k_int, e_k_ref, e_k_null, e_k_long, e_k_ret, e_cats_nil, e_cats_int, e_cats_ref, e_cats_ret, e_cats_long, Option.toList_some, Option.toList_none, List.nil_append, List.cons_append, Option.bind_some, Nat.reduceAdd, Nat.reduceLeDiff, Nat.add_zero, if_true, if_false, true_and, and_true, and_self, Int32.reduceToNatClampNeg, ok_1, ok_2, ok_3, ok_4, ok_5, ok_6, ok_7, ok_8, ok_9, ok_30, ok_31, ok_32, ok_33, ok_34, ok_35, ok_36, ok_37, ok_38, ok_39, ok_40, ok_41, ok_42, ok_43, ok_44, ok_45, ok_46, ok_47, ok_48, ok_49, ok_50, ok_51, ok_52, ln_1, ln_2, ln_4, ln_5, ln_6, ln_7, ln_8, ln_30, ln_31, ln_32, ln_33, ln_34, ln_35, ln_36, ln_37, ln_38, ln_39, ln_41, ln_42, ln_43, ln_44, ln_45, ln_46, ln_47, ln_48, ln_49, ln_50, ln_51, ln_52, ib_0_9, ib_1_9, ib_2_9, ib_3_9, ib_4_9, ib_5_9, ib_6_9, ib_7_9, ib_8_9, ib_0_2, ib_1_2, ib_0_5, ib_1_5, ib_2_5, ib_3_5, ib_4_5, ib_0_25, ib_0_10, ib_5_10, ib_0_90, ib_45_90, ib_0_64]
      exact ⟨_, _, rfl, ⟨_, rfl⟩, hF.pI (by simp), fin _ ez⟩
    · by_cases z2 : q_vt S a x (q_c S 0) < v
      · have z3 : nI (q_vt S a x (q_c S 0)) < nI v := nI_lt z2 (by omega)
        have ez : (0 : Int32) = q_cB S a v j x := by unfold q_cB; rw [if_neg z1, if_pos z2]
        simp only [zX3_committee_70, zX3_committee_71, zX3_committee_74, zX3_committee_77, zX3_committee_78, zX3_committee_79, zX3_committee_80, zX3_committee_83, zX3_committee_84, zX3_committee_87, zX3_committee_89, zX3_committee_90, zX3_committee_91, zX3_committee_94, zX3_committee_97, zX3_committee_98, zX3_committee_99, zX3_committee_101, zX3_committee_102, zX3_committee_105, zX3_committee_107, zX3_committee_108, zX3_committee_111, zX3_committee_114, zX3_committee_116, zX3_committee_118, zX3_committee_121, zX3_committee_122, zX3_committee_123, zX3_committee_125, zX3_committee_128, zX3_committee_129, zX3_committee_132, zX3_committee_133, zX3_committee_136, zX3_committee_137, zX3_committee_138, zX3_committee_141, g6, hc, hxj, r_eAt (s := 1) (k := j) (a := 1) (b := nI j) rfl rfl (by decide) hj5, hsub, hib, hcl, g33, ac, z1, vf, z3, bn_0, nI_1, e_k_int, e_k_ref, e_k_null, e_k_long, e_k_ret, e_cats_nil, e_cats_int, e_cats_ref, e_cats_ret, e_cats_long, Option.toList_some, Option.toList_none, List.nil_append, List.cons_append, Option.bind_some, Nat.reduceAdd, Nat.reduceLeDiff, Nat.add_zero, if_true, if_false, true_and, and_true, and_self, Int32.reduceToNatClampNeg, ok_1, ok_2, ok_3, ok_4, ok_5, ok_6, ok_7, ok_8, ok_9, ok_30, ok_31, ok_32, ok_33, ok_34, ok_35, ok_36, ok_37, ok_38, ok_39, ok_40, ok_41, ok_42, ok_43, ok_44, ok_45, ok_46, ok_47, ok_48, ok_49, ok_50, ok_51, ok_52, ln_1, ln_2, ln_4, ln_5, ln_6, ln_7, ln_8, ln_30, ln_31, ln_32, ln_33, ln_34, ln_35, ln_36, ln_37, ln_38, ln_39, ln_41, ln_42, ln_43, ln_44, ln_45, ln_46, ln_47, ln_48, ln_49, ln_50, ln_51, ln_52, ib_0_9, ib_1_9, ib_2_9, ib_3_9, ib_4_9, ib_5_9, ib_6_9, ib_7_9, ib_8_9, ib_0_2, ib_1_2, ib_0_5, ib_1_5, ib_2_5, ib_3_5, ib_4_5, ib_0_25, ib_0_10, ib_5_10, ib_0_90, ib_45_90, ib_0_64]
        exact ⟨_, _, rfl, ⟨_, rfl⟩, hF.pI (by simp), fin _ ez⟩
      · have z3 : ¬ nI (q_vt S a x (q_c S 0)) < nI v := nI_nlt (by omega) (by omega)
        have ez : (1 : Int32) = q_cB S a v j x := by unfold q_cB; rw [if_neg z1, if_neg z2]
        simp only [zX3_committee_70, zX3_committee_71, zX3_committee_74, zX3_committee_77, zX3_committee_78, zX3_committee_79, zX3_committee_80, zX3_committee_83, zX3_committee_84, zX3_committee_87, zX3_committee_89, zX3_committee_90, zX3_committee_91, zX3_committee_94, zX3_committee_97, zX3_committee_98, zX3_committee_99, zX3_committee_101, zX3_committee_102, zX3_committee_105, zX3_committee_107, zX3_committee_108, zX3_committee_111, zX3_committee_114, zX3_committee_116, zX3_committee_118, zX3_committee_121, zX3_committee_122, zX3_committee_123, zX3_committee_125, zX3_committee_128, zX3_committee_129, zX3_committee_132, zX3_committee_133, zX3_committee_136, zX3_committee_137, zX3_committee_138, zX3_committee_141, g6, hc, hxj, r_eAt (s := 1) (k := j) (a := 1) (b := nI j) rfl rfl (by decide) hj5, hsub, hib, hcl, g33, ac, z1, vf, z3, bn_1, nI_1, e_k_int, e_k_ref, e_k_null, e_k_long, e_k_ret, e_cats_nil, e_cats_int, e_cats_ref, e_cats_ret, e_cats_long, Option.toList_some, Option.toList_none, List.nil_append, List.cons_append, Option.bind_some, Nat.reduceAdd, Nat.reduceLeDiff, Nat.add_zero, if_true, if_false, true_and, and_true, and_self, Int32.reduceToNatClampNeg, ok_1, ok_2, ok_3, ok_4, ok_5, ok_6, ok_7, ok_8, ok_9, ok_30, ok_31, ok_32, ok_33, ok_34, ok_35, ok_36, ok_37, ok_38, ok_39, ok_40, ok_41, ok_42, ok_43, ok_44, ok_45, ok_46, ok_47, ok_48, ok_49, ok_50, ok_51, ok_52, ln_1, ln_2, ln_4, ln_5, ln_6, ln_7, ln_8, ln_30, ln_31, ln_32, ln_33, ln_34, ln_35, ln_36, ln_37, ln_38, ln_39, ln_41, ln_42, ln_43, ln_44, ln_45, ln_46, ln_47, ln_48, ln_49, ln_50, ln_51, ln_52, ib_0_9, ib_1_9, ib_2_9, ib_3_9, ib_4_9, ib_5_9, ib_6_9, ib_7_9, ib_8_9, ib_0_2, ib_1_2, ib_0_5, ib_1_5, ib_2_5, ib_3_5, ib_4_5, ib_0_25, ib_0_10, ib_5_10, ib_0_90, ib_45_90, ib_0_64]
        exact ⟨_, _, rfl, ⟨_, rfl⟩, hF.pI (by simp), fin _ ez⟩) (ls := [.ref 0, .int (nI a), .int (nI v), .int (nI j), .int 0, .null]) (h := g) ⟨⟨_, rfl⟩, e_fr.refl _ _, fun y hy => by omega⟩
  have hc2 : nI (q_n S) < nI (q_n S + 1) := nI_lt (by omega) (by omega)
  have hCf := toC f hF
  have f9 : e_gI f 9 = e_gI g 9 := hF.I (by simp)
  obtain ⟨f2, r1, r2⟩ := r_concl (d := d) (B := q_cB S a v j) (Ni := q_N S 0 0) (Nj := q_N S 1 j) hS hCf (by rw [f9]; exact t1) (by rw [f9]; exact t2) (by rw [f9]; exact t3) (by rw [f9]; exact t6) (by rw [f9]; exact t7) (by rw [f9]; exact t8) (fun x hx => ⟨by rw [hF.1 32 x (by simp)]; exact (t4 x (by omega)).1, by rw [hF.1 33 x (by simp)]; exact (t4 x (by omega)).2.1, hB x (by omega)⟩)
  refine ⟨f2, ?_, hCf.fr r2.1 (fun o ho => by simp at ho ⊢; omega)⟩
  rw [e, zX3_committee_68]
  simp only [zX3_committee_70, zX3_committee_71, zX3_committee_74, zX3_committee_144, zX3_committee_145, zX3_committee_148, hCf.n hS, hc2, r1, q_com, e_k_int, e_k_ref, e_k_null, e_k_long, e_k_ret, e_cats_nil, e_cats_int, e_cats_ref, e_cats_ret, e_cats_long, Option.toList_some, Option.toList_none, List.nil_append, List.cons_append, Option.bind_some, Nat.reduceAdd, Nat.reduceLeDiff, Nat.add_zero, if_true, if_false, true_and, and_true, and_self, Int32.reduceToNatClampNeg, ok_1, ok_2, ok_3, ok_4, ok_5, ok_6, ok_7, ok_8, ok_9, ok_30, ok_31, ok_32, ok_33, ok_34, ok_35, ok_36, ok_37, ok_38, ok_39, ok_40, ok_41, ok_42, ok_43, ok_44, ok_45, ok_46, ok_47, ok_48, ok_49, ok_50, ok_51, ok_52, ln_1, ln_2, ln_4, ln_5, ln_6, ln_7, ln_8, ln_30, ln_31, ln_32, ln_33, ln_34, ln_35, ln_36, ln_37, ln_38, ln_39, ln_41, ln_42, ln_43, ln_44, ln_45, ln_46, ln_47, ln_48, ln_49, ln_50, ln_51, ln_52, ib_0_9, ib_1_9, ib_2_9, ib_3_9, ib_4_9, ib_5_9, ib_6_9, ib_7_9, ib_8_9, ib_0_2, ib_1_2, ib_0_5, ib_1_5, ib_2_5, ib_3_5, ib_4_5, ib_0_25, ib_0_10, ib_5_10, ib_0_90, ib_45_90, ib_0_64]
theorem r_committee_no {d : Nat} {S : e_H} {a v j : Int32} (hS : q_ok S) (h : ¬ ∃ x y z, q_cok S x y z ∧ a = nI x ∧ v = nI y ∧ j = nI z) : e_X e_pg (d + 5) 51 [.ref 0, .int a, .int v, .int j] S = some (some (.int (-2)), S) := by
  have c0 := (hS.c (show 0 < 2 by decide)).2
  have e0 := (hS.c (show 0 < 2 by decide)).1
  have p32 := pow_le32 c0.2
  rw [xX3_committee]
  by_cases u1 : a < 1
  · simp only [zX3_committee_0, zX3_committee_1, zX3_committee_2, zX3_committee_5, zX3_committee_6, zX3_committee_7, zX3_committee_8, zX3_committee_11, zX3_committee_12, zX3_committee_13, zX3_committee_14, zX3_committee_17, zX3_committee_18, zX3_committee_19, zX3_committee_22, zX3_committee_23, zX3_committee_24, zX3_committee_27, zX3_committee_30, zX3_committee_31, zX3_committee_32, zX3_committee_33, zX3_committee_36, zX3_committee_39, zX3_committee_41, u1, e_k_int, e_k_ref, e_k_null, e_k_long, e_k_ret, e_cats_nil, e_cats_int, e_cats_ref, e_cats_ret, e_cats_long, Option.toList_some, Option.toList_none, List.nil_append, List.cons_append, Option.bind_some, Nat.reduceAdd, Nat.reduceLeDiff, Nat.add_zero, if_true, if_false, true_and, and_true, and_self, Int32.reduceToNatClampNeg, ok_1, ok_2, ok_3, ok_4, ok_5, ok_6, ok_7, ok_8, ok_9, ok_30, ok_31, ok_32, ok_33, ok_34, ok_35, ok_36, ok_37, ok_38, ok_39, ok_40, ok_41, ok_42, ok_43, ok_44, ok_45, ok_46, ok_47, ok_48, ok_49, ok_50, ok_51, ok_52, ln_1, ln_2, ln_4, ln_5, ln_6, ln_7, ln_8, ln_30, ln_31, ln_32, ln_33, ln_34, ln_35, ln_36, ln_37, ln_38, ln_39, ln_41, ln_42, ln_43, ln_44, ln_45, ln_46, ln_47, ln_48, ln_49, ln_50, ln_51, ln_52, ib_0_9, ib_1_9, ib_2_9, ib_3_9, ib_4_9, ib_5_9, ib_6_9, ib_7_9, ib_8_9, ib_0_2, ib_1_2, ib_0_5, ib_1_5, ib_2_5, ib_3_5, ib_4_5, ib_0_25, ib_0_10, ib_5_10, ib_0_90, ib_45_90, ib_0_64]
  · by_cases u2 : nI (2 ^ q_c S 0) ≤ a
    · simp only [zX3_committee_0, zX3_committee_1, zX3_committee_2, zX3_committee_5, zX3_committee_6, zX3_committee_7, zX3_committee_8, zX3_committee_11, zX3_committee_12, zX3_committee_13, zX3_committee_14, zX3_committee_17, zX3_committee_18, zX3_committee_19, zX3_committee_22, zX3_committee_23, zX3_committee_24, zX3_committee_27, zX3_committee_30, zX3_committee_31, zX3_committee_32, zX3_committee_33, zX3_committee_36, zX3_committee_39, zX3_committee_41, u1, e0, q_shl c0.2, u2, e_k_int, e_k_ref, e_k_null, e_k_long, e_k_ret, e_cats_nil, e_cats_int, e_cats_ref, e_cats_ret, e_cats_long, Option.toList_some, Option.toList_none, List.nil_append, List.cons_append, Option.bind_some, Nat.reduceAdd, Nat.reduceLeDiff, Nat.add_zero, if_true, if_false, true_and, and_true, and_self, Int32.reduceToNatClampNeg, ok_1, ok_2, ok_3, ok_4, ok_5, ok_6, ok_7, ok_8, ok_9, ok_30, ok_31, ok_32, ok_33, ok_34, ok_35, ok_36, ok_37, ok_38, ok_39, ok_40, ok_41, ok_42, ok_43, ok_44, ok_45, ok_46, ok_47, ok_48, ok_49, ok_50, ok_51, ok_52, ln_1, ln_2, ln_4, ln_5, ln_6, ln_7, ln_8, ln_30, ln_31, ln_32, ln_33, ln_34, ln_35, ln_36, ln_37, ln_38, ln_39, ln_41, ln_42, ln_43, ln_44, ln_45, ln_46, ln_47, ln_48, ln_49, ln_50, ln_51, ln_52, ib_0_9, ib_1_9, ib_2_9, ib_3_9, ib_4_9, ib_5_9, ib_6_9, ib_7_9, ib_8_9, ib_0_2, ib_1_2, ib_0_5, ib_1_5, ib_2_5, ib_3_5, ib_4_5, ib_0_25, ib_0_10, ib_5_10, ib_0_90, ib_45_90, ib_0_64]
    · by_cases u3 : v < 1
      · simp only [zX3_committee_0, zX3_committee_1, zX3_committee_2, zX3_committee_5, zX3_committee_6, zX3_committee_7, zX3_committee_8, zX3_committee_11, zX3_committee_12, zX3_committee_13, zX3_committee_14, zX3_committee_17, zX3_committee_18, zX3_committee_19, zX3_committee_22, zX3_committee_23, zX3_committee_24, zX3_committee_27, zX3_committee_30, zX3_committee_31, zX3_committee_32, zX3_committee_33, zX3_committee_36, zX3_committee_39, zX3_committee_41, u1, e0, q_shl c0.2, u2, u3, e_k_int, e_k_ref, e_k_null, e_k_long, e_k_ret, e_cats_nil, e_cats_int, e_cats_ref, e_cats_ret, e_cats_long, Option.toList_some, Option.toList_none, List.nil_append, List.cons_append, Option.bind_some, Nat.reduceAdd, Nat.reduceLeDiff, Nat.add_zero, if_true, if_false, true_and, and_true, and_self, Int32.reduceToNatClampNeg, ok_1, ok_2, ok_3, ok_4, ok_5, ok_6, ok_7, ok_8, ok_9, ok_30, ok_31, ok_32, ok_33, ok_34, ok_35, ok_36, ok_37, ok_38, ok_39, ok_40, ok_41, ok_42, ok_43, ok_44, ok_45, ok_46, ok_47, ok_48, ok_49, ok_50, ok_51, ok_52, ln_1, ln_2, ln_4, ln_5, ln_6, ln_7, ln_8, ln_30, ln_31, ln_32, ln_33, ln_34, ln_35, ln_36, ln_37, ln_38, ln_39, ln_41, ln_42, ln_43, ln_44, ln_45, ln_46, ln_47, ln_48, ln_49, ln_50, ln_51, ln_52, ib_0_9, ib_1_9, ib_2_9, ib_3_9, ib_4_9, ib_5_9, ib_6_9, ib_7_9, ib_8_9, ib_0_2, ib_1_2, ib_0_5, ib_1_5, ib_2_5, ib_3_5, ib_4_5, ib_0_25, ib_0_10, ib_5_10, ib_0_90, ib_45_90, ib_0_64]
      · obtain ⟨x, hx, rfl⟩ := nI_of (x := a) (fun q => u1 (Int32.lt_trans q (by decide)))
        obtain ⟨y, hy, rfl⟩ := nI_of (x := v) (fun q => u3 (Int32.lt_trans q (by decide)))
        have x1 : 1 ≤ x := Nat.not_lt.mp (fun q => u1 (by rw [show (1 : Int32) = nI 1 from rfl]; exact nI_lt q (by decide)))
        have y1 : 1 ≤ y := Nat.not_lt.mp (fun q => u3 (by rw [show (1 : Int32) = nI 1 from rfl]; exact nI_lt q (by decide)))
        have x2 : x < 2 ^ q_c S 0 := Nat.not_le.mp (fun q => u2 (nI_le q hx))
        have pl := q_pc_le x (q_c S 0)
        by_cases u4 : nI (q_pc x (q_c S 0)) < nI y
        · simp only [zX3_committee_0, zX3_committee_1, zX3_committee_2, zX3_committee_5, zX3_committee_6, zX3_committee_7, zX3_committee_8, zX3_committee_11, zX3_committee_12, zX3_committee_13, zX3_committee_14, zX3_committee_17, zX3_committee_18, zX3_committee_19, zX3_committee_22, zX3_committee_23, zX3_committee_24, zX3_committee_27, zX3_committee_30, zX3_committee_31, zX3_committee_32, zX3_committee_33, zX3_committee_36, zX3_committee_39, zX3_committee_41, u1, e0, q_shl c0.2, u2, u3, r_bitCount, q_bcnt_eq c0.2 x2, u4, e_k_int, e_k_ref, e_k_null, e_k_long, e_k_ret, e_cats_nil, e_cats_int, e_cats_ref, e_cats_ret, e_cats_long, Option.toList_some, Option.toList_none, List.nil_append, List.cons_append, Option.bind_some, Nat.reduceAdd, Nat.reduceLeDiff, Nat.add_zero, if_true, if_false, true_and, and_true, and_self, Int32.reduceToNatClampNeg, ok_1, ok_2, ok_3, ok_4, ok_5, ok_6, ok_7, ok_8, ok_9, ok_30, ok_31, ok_32, ok_33, ok_34, ok_35, ok_36, ok_37, ok_38, ok_39, ok_40, ok_41, ok_42, ok_43, ok_44, ok_45, ok_46, ok_47, ok_48, ok_49, ok_50, ok_51, ok_52, ln_1, ln_2, ln_4, ln_5, ln_6, ln_7, ln_8, ln_30, ln_31, ln_32, ln_33, ln_34, ln_35, ln_36, ln_37, ln_38, ln_39, ln_41, ln_42, ln_43, ln_44, ln_45, ln_46, ln_47, ln_48, ln_49, ln_50, ln_51, ln_52, ib_0_9, ib_1_9, ib_2_9, ib_3_9, ib_4_9, ib_5_9, ib_6_9, ib_7_9, ib_8_9, ib_0_2, ib_1_2, ib_0_5, ib_1_5, ib_2_5, ib_3_5, ib_4_5, ib_0_25, ib_0_10, ib_5_10, ib_0_90, ib_45_90, ib_0_64]
        · have y2 : y ≤ q_pc x (q_c S 0) := Nat.not_lt.mp (fun q => u4 (nI_lt q hy))
          have ie : p_isE (e_gI S 1) 1 j = 0 := p_isE_no hS (by
            rintro ⟨s2, k2, g1, g2, g3, rfl⟩
            have hs : s2 = 1 := by rcases (show s2 = 0 ∨ s2 = 1 by omega) with rfl | rfl; exact absurd g3 (by decide); rfl
            subst hs
            exact h ⟨x, y, k2, ⟨x1, x2, y1, y2, g2⟩, rfl, rfl, rfl⟩)
          simp only [zX3_committee_0, zX3_committee_1, zX3_committee_2, zX3_committee_5, zX3_committee_6, zX3_committee_7, zX3_committee_8, zX3_committee_11, zX3_committee_12, zX3_committee_13, zX3_committee_14, zX3_committee_17, zX3_committee_18, zX3_committee_19, zX3_committee_22, zX3_committee_23, zX3_committee_24, zX3_committee_27, zX3_committee_30, zX3_committee_31, zX3_committee_32, zX3_committee_33, zX3_committee_36, zX3_committee_39, zX3_committee_41, u1, e0, q_shl c0.2, u2, u3, r_bitCount, q_bcnt_eq c0.2 x2, u4, r_isEnvoy, ie, not_true_eq_false, e_k_int, e_k_ref, e_k_null, e_k_long, e_k_ret, e_cats_nil, e_cats_int, e_cats_ref, e_cats_ret, e_cats_long, Option.toList_some, Option.toList_none, List.nil_append, List.cons_append, Option.bind_some, Nat.reduceAdd, Nat.reduceLeDiff, Nat.add_zero, if_true, if_false, true_and, and_true, and_self, Int32.reduceToNatClampNeg, ok_1, ok_2, ok_3, ok_4, ok_5, ok_6, ok_7, ok_8, ok_9, ok_30, ok_31, ok_32, ok_33, ok_34, ok_35, ok_36, ok_37, ok_38, ok_39, ok_40, ok_41, ok_42, ok_43, ok_44, ok_45, ok_46, ok_47, ok_48, ok_49, ok_50, ok_51, ok_52, ln_1, ln_2, ln_4, ln_5, ln_6, ln_7, ln_8, ln_30, ln_31, ln_32, ln_33, ln_34, ln_35, ln_36, ln_37, ln_38, ln_39, ln_41, ln_42, ln_43, ln_44, ln_45, ln_46, ln_47, ln_48, ln_49, ln_50, ln_51, ln_52, ib_0_9, ib_1_9, ib_2_9, ib_3_9, ib_4_9, ib_5_9, ib_6_9, ib_7_9, ib_8_9, ib_0_2, ib_1_2, ib_0_5, ib_1_5, ib_2_5, ib_3_5, ib_4_5, ib_0_25, ib_0_10, ib_5_10, ib_0_90, ib_45_90, ib_0_64]
