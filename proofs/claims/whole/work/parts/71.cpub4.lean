/-! the hardest orders -/
def q_hup (P : Nat → Bool) : Nat → Int32
  | 0 => -1
  | k + 1 => if P k = true then nI k else q_hup P k
def q_pi (s k m : Nat) : Nat := if s = 0 then k else m
def q_pj (s k m : Nat) : Nat := if s = 0 then m else k
def q_hP (S : e_H) (s k m t : Nat) : Bool := decide (¬ (q_res (e_pI S (q_x s k + 20) 5 (nI t)) (q_pi s k m) (q_pj s k m)).1 = -5)
def q_hard (S : e_H) (s k m : Nat) : Int32 := q_hup (q_hP S s k m) (q_n S + 1)
theorem rg5 {t : Nat} (ht : t ≤ 24) : e_rgl 5 ≤ (nI t).toInt ∧ (nI t).toInt ≤ e_rgh 5 := by
  rw [nI_ti (by omega)]
  show (0 : Int) ≤ t ∧ (t : Int) ≤ 24
  omega
set_option maxRecDepth 100000 in
theorem r_hard_loop {d s k m : Nat} {S : e_H} (hS : q_ok S) (hs : s < 2) (hk : k < 5) (hm : m < 5) : ∀ (t : Nat) (h : e_H) (v : Int32), t ≤ 25 → q_C (e_pI S (q_x s k + 20) 5 v) h → ∃ f, e_F kX3_hard (e_X e_pg (d + 5)) 49 [.ref 0, .int (nI s), .int (nI k), .int (nI m), .ref (q_x s k + 20), .int (q_N S s k 5), .int (-1), .int (nI t - 1)] [] h = some (some (.int (q_hup (q_hP S s k m) t)), f) ∧ q_C S f := by
  have hx := q_x_lt hs hk
  intro t
  induction t with
  | zero =>
    intro h v _ hC
    refine ⟨_, ?_, hC.back⟩
    rw [zX3_hard_49]
    simp only [zX3_hard_51, zX3_hard_54, zX3_hard_56, zX3_hard_57, zX3_hard_60, zX3_hard_62, zX3_hard_63, zX3_hard_65, zX3_hard_66, zX3_hard_67, zX3_hard_68, zX3_hard_71, zX3_hard_72, zX3_hard_75, zX3_hard_76, zX3_hard_77, zX3_hard_80, zX3_hard_81, zX3_hard_84, zX3_hard_85, zX3_hard_88, zX3_hard_90, zX3_hard_93, zX3_hard_95, zX3_hard_97, zX3_hard_100, zX3_hard_103, zX3_hard_105, zX3_hard_106, zX3_hard_108, zX3_hard_109, zX3_hard_111, show nI 0 - 1 < 0 from by decide, e_ok_N hx, e_len_N hx, e_k_int, e_k_ref, e_k_null, e_k_long, e_k_ret, e_cats_nil, e_cats_int, e_cats_ref, e_cats_ret, e_cats_long, Option.toList_some, Option.toList_none, List.nil_append, List.cons_append, Option.bind_some, Nat.reduceAdd, Nat.reduceLeDiff, Nat.add_zero, if_true, if_false, true_and, and_true, and_self, Int32.reduceToNatClampNeg, ib_0_9, ib_1_9, ib_2_9, ib_3_9, ib_4_9, ib_5_9, ib_6_9, ib_7_9, ib_8_9, ib_0_2, ib_1_2, ib_0_5, ib_1_5, ib_2_5, ib_3_5, ib_4_5, ib_0_25, ib_0_10, ib_5_10, ib_0_90, ib_45_90, ib_0_64]
    rfl
  | succ t ih =>
    intro h v ht hC
    have e1 : nI (t + 1) - 1 = nI t := nI_pred t
    have hc : ¬ nI t < 0 := nI_pos (by omega)
    have hS2 := hS.putN hs hk (w := 5) (rg5 (t := t) (by omega))
    have hC2 : q_C (e_pI S (q_x s k + 20) 5 (nI t)) (e_pI h (q_x s k + 20) 5 (nI t)) := hC.put
    have nx : q_hup (q_hP S s k m) (t + 1) = if q_hP S s k m t = true then nI t else q_hup (q_hP S s k m) t := rfl
    have hi : q_pi s k m < 5 := by unfold q_pi; split <;> assumption
    have hj : q_pj s k m < 5 := by unfold q_pj; split <;> assumption
    obtain ⟨f, m1, m2⟩ := r_meet (d := d) hS2 hC2 (a := nI (q_pi s k m)) (b := nI (q_pj s k m)) rfl rfl hi hj
    have hC3 := hC2.met m2
    rw [e1, nx, zX3_hard_49]
    unfold q_hP
    have n1 : ¬ nI t = -1 := nI_nem1 (by omega)
    by_cases c : (q_res (e_pI S (q_x s k + 20) 5 (nI t)) (q_pi s k m) (q_pj s k m)).1 = -5
    · obtain ⟨f2, i1, i2⟩ := ih f _ (by omega) hC3
      refine ⟨f2, ?_, i2⟩
      rcases (show s = 0 ∨ s = 1 by omega) with rfl | rfl
      · simp only [q_pi, q_pj, show nI 0 = (0 : Int32) from rfl, if_true] at m1 c i1 ⊢
        simp only [zX3_hard_51, zX3_hard_54, zX3_hard_56, zX3_hard_57, zX3_hard_60, zX3_hard_62, zX3_hard_63, zX3_hard_65, zX3_hard_66, zX3_hard_67, zX3_hard_68, zX3_hard_71, zX3_hard_72, zX3_hard_75, zX3_hard_76, zX3_hard_77, zX3_hard_80, zX3_hard_81, zX3_hard_84, zX3_hard_85, zX3_hard_88, zX3_hard_90, zX3_hard_93, zX3_hard_95, zX3_hard_97, zX3_hard_100, hc, e_ok_N hx, e_len_N hx, m1, c, i32_m1, not_true_eq_false, decide_false, Bool.false_eq_true, e_k_int, e_k_ref, e_k_null, e_k_long, e_k_ret, e_cats_nil, e_cats_int, e_cats_ref, e_cats_ret, e_cats_long, Option.toList_some, Option.toList_none, List.nil_append, List.cons_append, Option.bind_some, Nat.reduceAdd, Nat.reduceLeDiff, Nat.add_zero, if_true, if_false, true_and, and_true, and_self, Int32.reduceToNatClampNeg, ib_0_9, ib_1_9, ib_2_9, ib_3_9, ib_4_9, ib_5_9, ib_6_9, ib_7_9, ib_8_9, ib_0_2, ib_1_2, ib_0_5, ib_1_5, ib_2_5, ib_3_5, ib_4_5, ib_0_25, ib_0_10, ib_5_10, ib_0_90, ib_45_90, ib_0_64]
        exact i1
      · simp only [q_pi, q_pj, show nI 1 = (1 : Int32) from rfl, Nat.one_ne_zero, if_false] at m1 c i1 ⊢
        simp only [zX3_hard_51, zX3_hard_54, zX3_hard_56, zX3_hard_57, zX3_hard_60, zX3_hard_62, zX3_hard_63, zX3_hard_65, zX3_hard_66, zX3_hard_67, zX3_hard_68, zX3_hard_71, zX3_hard_72, zX3_hard_75, zX3_hard_76, zX3_hard_77, zX3_hard_80, zX3_hard_81, zX3_hard_84, zX3_hard_85, zX3_hard_88, zX3_hard_90, zX3_hard_93, zX3_hard_95, zX3_hard_97, zX3_hard_100, hc, e_ok_N hx, e_len_N hx, m1, c, i32_m1, not_true_eq_false, not_false_eq_true, decide_false, Bool.false_eq_true, ne_0_1, ne_0_2, ne_0_3, ne_1_0, ne_1_2, ne_1_3, ne_2_0, ne_2_1, ne_2_3, ne_3_0, ne_3_1, ne_3_2, e_k_int, e_k_ref, e_k_null, e_k_long, e_k_ret, e_cats_nil, e_cats_int, e_cats_ref, e_cats_ret, e_cats_long, Option.toList_some, Option.toList_none, List.nil_append, List.cons_append, Option.bind_some, Nat.reduceAdd, Nat.reduceLeDiff, Nat.add_zero, if_true, if_false, true_and, and_true, and_self, Int32.reduceToNatClampNeg, ib_0_9, ib_1_9, ib_2_9, ib_3_9, ib_4_9, ib_5_9, ib_6_9, ib_7_9, ib_8_9, ib_0_2, ib_1_2, ib_0_5, ib_1_5, ib_2_5, ib_3_5, ib_4_5, ib_0_25, ib_0_10, ib_5_10, ib_0_90, ib_45_90, ib_0_64]
        exact i1
    · refine ⟨_, ?_, hC3.back⟩
      have last : ∀ (a b c : Value), e_F kX3_hard (e_X e_pg (d + 5)) 49 [a, b, c, .int (nI m), .ref (q_x s k + 20), .int (q_N S s k 5), .int (nI t), .int (nI t - 1)] [] f = some (some (.int (nI t)), e_pI f (q_x s k + 20) 5 (e_gI S (q_x s k + 20) 5)) := by
        intro a b c
        rw [zX3_hard_49]
        by_cases cn : nI t - 1 < 0
        · simp only [zX3_hard_51, zX3_hard_54, zX3_hard_56, zX3_hard_57, zX3_hard_60, zX3_hard_62, zX3_hard_63, zX3_hard_65, zX3_hard_66, zX3_hard_67, zX3_hard_68, zX3_hard_71, zX3_hard_72, zX3_hard_75, zX3_hard_76, zX3_hard_77, zX3_hard_80, zX3_hard_81, zX3_hard_84, zX3_hard_85, zX3_hard_88, zX3_hard_90, zX3_hard_93, zX3_hard_95, zX3_hard_97, zX3_hard_100, zX3_hard_103, zX3_hard_105, zX3_hard_106, zX3_hard_108, zX3_hard_109, zX3_hard_111, cn, e_ok_N hx, e_len_N hx, e_k_int, e_k_ref, e_k_null, e_k_long, e_k_ret, e_cats_nil, e_cats_int, e_cats_ref, e_cats_ret, e_cats_long, Option.toList_some, Option.toList_none, List.nil_append, List.cons_append, Option.bind_some, Nat.reduceAdd, Nat.reduceLeDiff, Nat.add_zero, if_true, if_false, true_and, and_true, and_self, Int32.reduceToNatClampNeg, ib_0_9, ib_1_9, ib_2_9, ib_3_9, ib_4_9, ib_5_9, ib_6_9, ib_7_9, ib_8_9, ib_0_2, ib_1_2, ib_0_5, ib_1_5, ib_2_5, ib_3_5, ib_4_5, ib_0_25, ib_0_10, ib_5_10, ib_0_90, ib_45_90, ib_0_64]
          rfl
        · simp only [zX3_hard_51, zX3_hard_54, zX3_hard_56, zX3_hard_57, zX3_hard_60, zX3_hard_62, zX3_hard_63, zX3_hard_65, zX3_hard_66, zX3_hard_67, zX3_hard_68, zX3_hard_71, zX3_hard_72, zX3_hard_75, zX3_hard_76, zX3_hard_77, zX3_hard_80, zX3_hard_81, zX3_hard_84, zX3_hard_85, zX3_hard_88, zX3_hard_90, zX3_hard_93, zX3_hard_95, zX3_hard_97, zX3_hard_100, zX3_hard_103, zX3_hard_105, zX3_hard_106, zX3_hard_108, zX3_hard_109, zX3_hard_111, cn, n1, e_ok_N hx, e_len_N hx, not_false_eq_true, e_k_int, e_k_ref, e_k_null, e_k_long, e_k_ret, e_cats_nil, e_cats_int, e_cats_ref, e_cats_ret, e_cats_long, Option.toList_some, Option.toList_none, List.nil_append, List.cons_append, Option.bind_some, Nat.reduceAdd, Nat.reduceLeDiff, Nat.add_zero, if_true, if_false, true_and, and_true, and_self, Int32.reduceToNatClampNeg, ib_0_9, ib_1_9, ib_2_9, ib_3_9, ib_4_9, ib_5_9, ib_6_9, ib_7_9, ib_8_9, ib_0_2, ib_1_2, ib_0_5, ib_1_5, ib_2_5, ib_3_5, ib_4_5, ib_0_25, ib_0_10, ib_5_10, ib_0_90, ib_45_90, ib_0_64]
          rfl
      rcases (show s = 0 ∨ s = 1 by omega) with rfl | rfl
      · simp only [q_pi, q_pj, show nI 0 = (0 : Int32) from rfl, if_true] at m1 c last ⊢
        simp only [zX3_hard_51, zX3_hard_54, zX3_hard_56, zX3_hard_57, zX3_hard_60, zX3_hard_62, zX3_hard_63, zX3_hard_65, zX3_hard_66, zX3_hard_67, zX3_hard_68, zX3_hard_71, zX3_hard_72, zX3_hard_75, zX3_hard_76, zX3_hard_77, zX3_hard_80, zX3_hard_81, zX3_hard_84, zX3_hard_85, zX3_hard_88, zX3_hard_90, zX3_hard_93, zX3_hard_95, zX3_hard_97, zX3_hard_100, hc, e_ok_N hx, e_len_N hx, m1, c, i32_m1, not_true_eq_false, not_false_eq_true, decide_true, e_k_int, e_k_ref, e_k_null, e_k_long, e_k_ret, e_cats_nil, e_cats_int, e_cats_ref, e_cats_ret, e_cats_long, Option.toList_some, Option.toList_none, List.nil_append, List.cons_append, Option.bind_some, Nat.reduceAdd, Nat.reduceLeDiff, Nat.add_zero, if_true, if_false, true_and, and_true, and_self, Int32.reduceToNatClampNeg, ib_0_9, ib_1_9, ib_2_9, ib_3_9, ib_4_9, ib_5_9, ib_6_9, ib_7_9, ib_8_9, ib_0_2, ib_1_2, ib_0_5, ib_1_5, ib_2_5, ib_3_5, ib_4_5, ib_0_25, ib_0_10, ib_5_10, ib_0_90, ib_45_90, ib_0_64]
        exact last _ _ _
      · simp only [q_pi, q_pj, show nI 1 = (1 : Int32) from rfl, Nat.one_ne_zero, if_false] at m1 c last ⊢
        simp only [zX3_hard_51, zX3_hard_54, zX3_hard_56, zX3_hard_57, zX3_hard_60, zX3_hard_62, zX3_hard_63, zX3_hard_65, zX3_hard_66, zX3_hard_67, zX3_hard_68, zX3_hard_71, zX3_hard_72, zX3_hard_75, zX3_hard_76, zX3_hard_77, zX3_hard_80, zX3_hard_81, zX3_hard_84, zX3_hard_85, zX3_hard_88, zX3_hard_90, zX3_hard_93, zX3_hard_95, zX3_hard_97, zX3_hard_100, hc, e_ok_N hx, e_len_N hx, m1, c, i32_m1, not_true_eq_false, not_false_eq_true, decide_true, ne_0_1, ne_0_2, ne_0_3, ne_1_0, ne_1_2, ne_1_3, ne_2_0, ne_2_1, ne_2_3, ne_3_0, ne_3_1, ne_3_2, e_k_int, e_k_ref, e_k_null, e_k_long, e_k_ret, e_cats_nil, e_cats_int, e_cats_ref, e_cats_ret, e_cats_long, Option.toList_some, Option.toList_none, List.nil_append, List.cons_append, Option.bind_some, Nat.reduceAdd, Nat.reduceLeDiff, Nat.add_zero, if_true, if_false, true_and, and_true, and_self, Int32.reduceToNatClampNeg, ib_0_9, ib_1_9, ib_2_9, ib_3_9, ib_4_9, ib_5_9, ib_6_9, ib_7_9, ib_8_9, ib_0_2, ib_1_2, ib_0_5, ib_1_5, ib_2_5, ib_3_5, ib_4_5, ib_0_25, ib_0_10, ib_5_10, ib_0_90, ib_45_90, ib_0_64]
        exact last _ _ _
theorem q_C_self {S : e_H} {a w : Nat} : q_C (e_pI S a w (e_gI S a w)) S := by
  refine ⟨fun o k ho => ?_, fun o k ho => ?_⟩
  · rw [e_gI_pI]
    split
    · rename_i c
      rw [c.1, c.2]
    · rfl
  · rw [e_gJ_pI]
theorem r_hard {d s k m : Nat} {S : e_H} (hS : q_ok S) (hs : s < 2) (hk : k < q_c S s) (hm : m < q_c S (1 - s)) : ∃ f, e_X e_pg (d + 6) 50 [.ref 0, .int (nI s), .int (nI k), .int (nI m)] S = some (some (.int (q_hard S s k m)), f) ∧ q_C S f := by
  have cs := (hS.c hs).2
  have co := (hS.c (show 1 - s < 2 by omega)).2
  have hn := hS.n
  have hn2 := hn.2
  have hx := q_x_lt hs (show k < 5 by omega)
  obtain ⟨f, a1, a2⟩ := r_hard_loop (d := d) hS hs (show k < 5 by omega) (show m < 5 by omega) (q_n S + 1) S (e_gI S (q_x s k + 20) 5) (by omega) q_C_self
  refine ⟨f, ?_, a2⟩
  rw [nI_pred] at a1
  rw [xX3_hard]
  simp only [zX3_hard_0, zX3_hard_1, zX3_hard_2, zX3_hard_3, zX3_hard_6, zX3_hard_9, zX3_hard_10, zX3_hard_11, zX3_hard_12, zX3_hard_13, zX3_hard_14, zX3_hard_17, zX3_hard_20, zX3_hard_22, zX3_hard_23, zX3_hard_24, zX3_hard_25, zX3_hard_26, zX3_hard_29, zX3_hard_32, zX3_hard_34, zX3_hard_36, zX3_hard_37, zX3_hard_38, zX3_hard_40, zX3_hard_41, zX3_hard_43, zX3_hard_44, zX3_hard_47, r_isEnvoy, p_isE_yes hS hs hk, nI_1s hs, p_isE_yes hS (show 1 - s < 2 by omega) hm, r_eAt (s := s) (k := k) (a := nI s) (b := nI k) rfl rfl hs (show k < 5 by omega), hx, e_ok_N hx, e_len_N hx, hn.1, ne_0_1, ne_0_2, ne_0_3, ne_1_0, ne_1_2, ne_1_3, ne_2_0, ne_2_1, ne_2_3, ne_3_0, ne_3_1, ne_3_2, not_false_eq_true, e_k_int, e_k_ref, e_k_null, e_k_long, e_k_ret, e_cats_nil, e_cats_int, e_cats_ref, e_cats_ret, e_cats_long, Option.toList_some, Option.toList_none, List.nil_append, List.cons_append, Option.bind_some, Nat.reduceAdd, Nat.reduceLeDiff, Nat.add_zero, if_true, if_false, true_and, and_true, and_self, Int32.reduceToNatClampNeg, ib_0_9, ib_1_9, ib_2_9, ib_3_9, ib_4_9, ib_5_9, ib_6_9, ib_7_9, ib_8_9, ib_0_2, ib_1_2, ib_0_5, ib_1_5, ib_2_5, ib_3_5, ib_4_5, ib_0_25, ib_0_10, ib_5_10, ib_0_90, ib_45_90, ib_0_64]
  exact a1
def q_two (S : e_H) (a b c : Int32) : Prop := ∃ s k m, s < 2 ∧ k < q_c S s ∧ m < q_c S (1 - s) ∧ a = nI s ∧ b = nI k ∧ c = nI m
theorem q_two_no {S : e_H} (hS : q_ok S) {a b c : Int32} (h : ¬ q_two S a b c) : p_isE (e_gI S 1) a b = 0 ∨ p_isE (e_gI S 1) (1 - a) c = 0 := by
  by_cases h1 : ∃ s k, s < 2 ∧ k < q_c S s ∧ a = nI s ∧ b = nI k
  · right
    obtain ⟨s, k, hs, hk, rfl, rfl⟩ := h1
    rw [nI_1s hs]
    refine p_isE_no hS ?_
    rintro ⟨s2, k2, g1, g2, g3, rfl⟩
    rw [nI_eq (by omega) (by omega)] at g3
    subst g3
    exact h ⟨s, k, k2, hs, hk, g2, rfl, rfl, rfl⟩
  · left
    exact p_isE_no hS h1
theorem r_hard_no {d : Nat} {S : e_H} {a b c : Int32} (hS : q_ok S) (h : ¬ q_two S a b c) : e_X e_pg (d + 6) 50 [.ref 0, .int a, .int b, .int c] S = some (some (.int (-2)), S) := by
  rw [xX3_hard]
  by_cases z : p_isE (e_gI S 1) a b = 0
  · simp only [zX3_hard_0, zX3_hard_1, zX3_hard_2, zX3_hard_3, zX3_hard_6, zX3_hard_9, zX3_hard_10, zX3_hard_11, zX3_hard_12, zX3_hard_13, zX3_hard_14, zX3_hard_17, zX3_hard_20, zX3_hard_22, zX3_hard_23, zX3_hard_24, zX3_hard_25, zX3_hard_26, zX3_hard_29, zX3_hard_32, zX3_hard_34, zX3_hard_36, zX3_hard_37, zX3_hard_38, zX3_hard_40, zX3_hard_41, zX3_hard_43, zX3_hard_44, zX3_hard_47, r_isEnvoy, z, e_k_int, e_k_ref, e_k_null, e_k_long, e_k_ret, e_cats_nil, e_cats_int, e_cats_ref, e_cats_ret, e_cats_long, Option.toList_some, Option.toList_none, List.nil_append, List.cons_append, Option.bind_some, Nat.reduceAdd, Nat.reduceLeDiff, Nat.add_zero, if_true, if_false, true_and, and_true, and_self, Int32.reduceToNatClampNeg]
  · have z2 : p_isE (e_gI S 1) (1 - a) c = 0 := (q_two_no hS h).resolve_left z
    simp only [zX3_hard_0, zX3_hard_1, zX3_hard_2, zX3_hard_3, zX3_hard_6, zX3_hard_9, zX3_hard_10, zX3_hard_11, zX3_hard_12, zX3_hard_13, zX3_hard_14, zX3_hard_17, zX3_hard_20, zX3_hard_22, zX3_hard_23, zX3_hard_24, zX3_hard_25, zX3_hard_26, zX3_hard_29, zX3_hard_32, zX3_hard_34, zX3_hard_36, zX3_hard_37, zX3_hard_38, zX3_hard_40, zX3_hard_41, zX3_hard_43, zX3_hard_44, zX3_hard_47, r_isEnvoy, z, z2, not_true_eq_false, e_k_int, e_k_ref, e_k_null, e_k_long, e_k_ret, e_cats_nil, e_cats_int, e_cats_ref, e_cats_ret, e_cats_long, Option.toList_some, Option.toList_none, List.nil_append, List.cons_append, Option.bind_some, Nat.reduceAdd, Nat.reduceLeDiff, Nat.add_zero, if_true, if_false, true_and, and_true, and_self, Int32.reduceToNatClampNeg]
/-! the best pay -/
def q_pst (V : Nat → Nat → Int32) (p y : Nat) (st : Int32 × Int32) : Int32 × Int32 := if st.1 = -1 then (100 * nI p + nI y, V p y) else if V p y ≤ st.2 then st else (100 * nI p + nI y, V p y)
def q_pin (V : Nat → Nat → Int32) (p : Nat) (st : Int32 × Int32) : Nat → Int32 × Int32
  | 0 => st
  | k + 1 => q_pst V p k (q_pin V p st k)
def q_pou (V : Nat → Nat → Int32) : Nat → Int32 × Int32
  | 0 => (-1, 0)
  | k + 1 => q_pin V k (q_pou V k) 21
def q_pS (S : e_H) (s k p y : Nat) : e_H := e_pI (e_pI S (q_x s k + 20) 6 (nI p)) (q_x s k + 20) 7 (nI y)
def q_pV (S : e_H) (s k m p y : Nat) : Int32 := q_ag (q_pS S s k p y) s k m
def q_paid (S : e_H) (s k m : Nat) : Int32 := (q_pou (q_pV S s k m) (q_n S + 1)).1
theorem rg6 {t : Nat} (ht : t ≤ 24) : e_rgl 6 ≤ (nI t).toInt ∧ (nI t).toInt ≤ e_rgh 6 := by
  rw [nI_ti (by omega)]
  show (0 : Int) ≤ t ∧ (t : Int) ≤ 24
  omega
theorem rg7 {t : Nat} (ht : t ≤ 24) : e_rgl 7 ≤ (nI t).toInt ∧ (nI t).toInt ≤ e_rgh 7 := by
  rw [nI_ti (by omega)]
  show (0 : Int) ≤ t ∧ (t : Int) ≤ 60
  omega
theorem q_pS_ok {S : e_H} (hS : q_ok S) {s k p y : Nat} (hs : s < 2) (hk : k < 5) (hp : p ≤ 24) (hy : y ≤ 24) : q_ok (q_pS S s k p y) := (hS.putN hs hk (w := 6) (rg6 hp)).putN hs hk (w := 7) (rg7 hy)
/-- h is S but for those two numbers of one envoy -/
def q_C2 (S : e_H) (a : Nat) (h : e_H) : Prop := ∃ u v, q_C (e_pI (e_pI S a 6 u) a 7 v) h
theorem q_C2.put {S h : e_H} {a : Nat} {u v : Int32} (hC : q_C2 S a h) : q_C (e_pI (e_pI S a 6 u) a 7 v) (e_pI (e_pI h a 6 u) a 7 v) := by
  obtain ⟨u0, v0, hC⟩ := hC
  refine ⟨fun o k ho => ?_, fun o k ho => ?_⟩
  · simp only [e_gI_pI]
    split
    · rfl
    · split
      · rfl
      · rename_i c1 c2
        rw [hC.1 o k ho]
        simp only [e_gI_pI, c1, c2, if_false]
  · simp only [e_gJ_pI]
    rw [hC.2 o k ho]
    simp only [e_gJ_pI]
theorem q_C2.back {S h : e_H} {a : Nat} (hC : q_C2 S a h) : q_C S (e_pI (e_pI h a 6 (e_gI S a 6)) a 7 (e_gI S a 7)) := by
  obtain ⟨u0, v0, hC⟩ := hC
  refine ⟨fun o k ho => ?_, fun o k ho => ?_⟩
  · simp only [e_gI_pI]
    split
    · rename_i c; rw [c.1, c.2]
    · split
      · rename_i c; rw [c.1, c.2]
      · rename_i c1 c2
        rw [hC.1 o k ho]
        simp only [e_gI_pI, c1, c2, if_false]
  · simp only [e_gJ_pI]
    rw [hC.2 o k ho]
    simp only [e_gJ_pI]
set_option maxRecDepth 100000 in
theorem r_paid {d s k m : Nat} {S : e_H} (hS : q_ok S) (hs : s < 2) (hk : k < q_c S s) (hk0 : k ≠ 0) (hm : m < q_c S (1 - s)) : ∃ f, e_X e_pg (d + 7) 49 [.ref 0, .int (nI s), .int (nI k), .int (nI m)] S = some (some (.int (q_paid S s k m)), f) ∧ q_C S f := by
  have cs := (hS.c hs).2
  have co := (hS.c (show 1 - s < 2 by omega)).2
  have hn := hS.n
  have hn2 := hn.2
  have hk5 : k < 5 := by omega
  have hm5 : m < 5 := by omega
  have hx := q_x_lt hs hk5
  have kn : ¬ nI k = 0 := nI_ne0 (by omega) (by omega)
  have six : ∀ h, q_C2 S (q_x s k + 20) h → e_gI h 0 6 = nI (q_n S) := by
    rintro h ⟨u, v, hC⟩
    rw [hC.at (by simp), e_pI_o (by omega), e_pI_o (by omega)]
    exact hn.1
  rw [xX3_paid]
  simp only [zX3_paid_0, zX3_paid_1, zX3_paid_2, zX3_paid_3, zX3_paid_6, zX3_paid_9, zX3_paid_10, zX3_paid_13, zX3_paid_14, zX3_paid_15, zX3_paid_16, zX3_paid_17, zX3_paid_18, zX3_paid_21, zX3_paid_24, zX3_paid_26, zX3_paid_27, zX3_paid_28, zX3_paid_29, zX3_paid_30, zX3_paid_33, zX3_paid_36, zX3_paid_38, zX3_paid_40, zX3_paid_42, zX3_paid_43, zX3_paid_45, zX3_paid_47, zX3_paid_49, zX3_paid_50, zX3_paid_52, zX3_paid_53, zX3_paid_55, zX3_paid_56, zX3_paid_58, zX3_paid_59, r_isEnvoy, p_isE_yes hS hs hk, kn, nI_1s hs, p_isE_yes hS (show 1 - s < 2 by omega) hm, r_eAt (s := s) (k := k) (a := nI s) (b := nI k) rfl rfl hs hk5, hx, e_ok_N hx, e_len_N hx, ne_0_1, ne_0_2, ne_0_3, ne_1_0, ne_1_2, ne_1_3, ne_2_0, ne_2_1, ne_2_3, ne_3_0, ne_3_1, ne_3_2, not_false_eq_true, e_k_int, e_k_ref, e_k_null, e_k_long, e_k_ret, e_cats_nil, e_cats_int, e_cats_ref, e_cats_ret, e_cats_long, Option.toList_some, Option.toList_none, List.nil_append, List.cons_append, Option.bind_some, Nat.reduceAdd, Nat.reduceLeDiff, Nat.add_zero, if_true, if_false, true_and, and_true, and_self, Int32.reduceToNatClampNeg, ib_0_9, ib_1_9, ib_2_9, ib_3_9, ib_4_9, ib_5_9, ib_6_9, ib_7_9, ib_8_9, ib_0_2, ib_1_2, ib_0_5, ib_1_5, ib_2_5, ib_3_5, ib_4_5, ib_0_25, ib_0_10, ib_5_10, ib_0_90, ib_45_90, ib_0_64]
  obtain ⟨ls2, f, e, ⟨v, w1, w2, rfl⟩, hC⟩ := f_lp (cd := kX3_paid) (O := e_X e_pg (d + 6)) (pc := 61) (fun p ls h => (∃ v w1 w2, ls = [.ref 0, .int (nI s), .int (nI k), .int (nI m), .ref (q_x s k + 20), .int (e_gI S (q_x s k + 20) 6), .int (e_gI S (q_x s k + 20) 7), .int (q_pou (q_pV S s k m) p).1, .long (q_pou (q_pV S s k m) p).2.toInt64, .null, .int (nI p), v, w1, w2]) ∧ q_C2 S (q_x s k + 20) h) (Nat.zero_le (q_n S + 1)) (by
    rintro p ls h - hp ⟨⟨v, w1, w2, rfl⟩, hC⟩
    have hc : ¬ nI (q_n S) < nI p := nI_nlt (by omega) (by omega)
    rw [zX3_paid_61]
    simp only [zX3_paid_63, zX3_paid_64, zX3_paid_67, zX3_paid_70, zX3_paid_71, six h hC, hc, e_k_int, e_k_ref, e_k_null, e_k_long, e_k_ret, e_cats_nil, e_cats_int, e_cats_ref, e_cats_ret, e_cats_long, Option.toList_some, Option.toList_none, List.nil_append, List.cons_append, Option.bind_some, Nat.reduceAdd, Nat.reduceLeDiff, Nat.add_zero, if_true, if_false, true_and, and_true, and_self, Int32.reduceToNatClampNeg]
    obtain ⟨ls2, f, e, ⟨w1, w2, rfl⟩, hC⟩ := f_lp (cd := kX3_paid) (O := e_X e_pg (d + 6)) (pc := 73) (fun y ls h => (∃ w1 w2, ls = [.ref 0, .int (nI s), .int (nI k), .int (nI m), .ref (q_x s k + 20), .int (e_gI S (q_x s k + 20) 6), .int (e_gI S (q_x s k + 20) 7), .int (q_pin (q_pV S s k m) p (q_pou (q_pV S s k m) p) y).1, .long (q_pin (q_pV S s k m) p (q_pou (q_pV S s k m) p) y).2.toInt64, .null, .int (nI p), .int (nI y), w1, w2]) ∧ q_C2 S (q_x s k + 20) h) (Nat.zero_le 21) (by
      rintro y ls h - hy ⟨⟨w1, w2, rfl⟩, hC⟩
      have hc : ¬ 20 < nI y := by rw [show (20 : Int32) = nI 20 from rfl]; exact nI_nlt (by omega) (by omega)
      have hS2 := q_pS_ok hS (p := p) (y := y) hs hk5 (by omega) (by omega)
      have hC2 : q_C (q_pS S s k p y) (e_pI (e_pI h (q_x s k + 20) 6 (nI p)) (q_x s k + 20) 7 (nI y)) := hC.put
      obtain ⟨f, m1, m2⟩ := r_holdsAgainst (d := d) hS2 hC2 (a := nI s) (b := nI k) (c := nI m) rfl rfl rfl hs hk5 hm5
      have hC3 : q_C2 S (q_x s k + 20) f := ⟨_, _, hC2.fr m2 (fun o ho => by simp at ho ⊢; omega)⟩
      change _ = some (some (Value.long (q_pV S s k m p y).toInt64), f) at m1
      have nx : q_pin (q_pV S s k m) p (q_pou (q_pV S s k m) p) (y + 1) = q_pst (q_pV S s k m) p y (q_pin (q_pV S s k m) p (q_pou (q_pV S s k m) p) y) := rfl
      rw [zX3_paid_73, nx]
      unfold q_pst
      by_cases c1 : (q_pin (q_pV S s k m) p (q_pou (q_pV S s k m) p) y).1 = -1
      · simp only [zX3_paid_75, zX3_paid_77, zX3_paid_80, zX3_paid_82, zX3_paid_84, zX3_paid_86, zX3_paid_87, zX3_paid_89, zX3_paid_91, zX3_paid_93, zX3_paid_94, zX3_paid_95, zX3_paid_96, zX3_paid_97, zX3_paid_98, zX3_paid_101, zX3_paid_103, zX3_paid_105, zX3_paid_106, zX3_paid_109, zX3_paid_111, zX3_paid_113, zX3_paid_114, zX3_paid_117, zX3_paid_119, zX3_paid_121, zX3_paid_123, zX3_paid_125, zX3_paid_126, zX3_paid_128, zX3_paid_129, zX3_paid_131, zX3_paid_134, hc, e_ok_N hx, e_len_N hx, m1, c1, nI_1, e_k_int, e_k_ref, e_k_null, e_k_long, e_k_ret, e_cats_nil, e_cats_int, e_cats_ref, e_cats_ret, e_cats_long, Option.toList_some, Option.toList_none, List.nil_append, List.cons_append, Option.bind_some, Nat.reduceAdd, Nat.reduceLeDiff, Nat.add_zero, if_true, if_false, true_and, and_true, and_self, Int32.reduceToNatClampNeg, ib_0_9, ib_1_9, ib_2_9, ib_3_9, ib_4_9, ib_5_9, ib_6_9, ib_7_9, ib_8_9, ib_0_2, ib_1_2, ib_0_5, ib_1_5, ib_2_5, ib_3_5, ib_4_5, ib_0_25, ib_0_10, ib_5_10, ib_0_90, ib_45_90, ib_0_64]
        exact ⟨_, _, rfl, ⟨_, _, rfl⟩, hC3⟩
      · by_cases c2 : q_pV S s k m p y ≤ (q_pin (q_pV S s k m) p (q_pou (q_pV S s k m) p) y).2
        · simp only [zX3_paid_75, zX3_paid_77, zX3_paid_80, zX3_paid_82, zX3_paid_84, zX3_paid_86, zX3_paid_87, zX3_paid_89, zX3_paid_91, zX3_paid_93, zX3_paid_94, zX3_paid_95, zX3_paid_96, zX3_paid_97, zX3_paid_98, zX3_paid_101, zX3_paid_103, zX3_paid_105, zX3_paid_106, zX3_paid_109, zX3_paid_111, zX3_paid_113, zX3_paid_114, zX3_paid_117, zX3_paid_119, zX3_paid_121, zX3_paid_123, zX3_paid_125, zX3_paid_126, zX3_paid_128, zX3_paid_129, zX3_paid_131, zX3_paid_134, hc, e_ok_N hx, e_len_N hx, m1, c1, c2, lc_le, t64_le, nI_1, e_k_int, e_k_ref, e_k_null, e_k_long, e_k_ret, e_cats_nil, e_cats_int, e_cats_ref, e_cats_ret, e_cats_long, Option.toList_some, Option.toList_none, List.nil_append, List.cons_append, Option.bind_some, Nat.reduceAdd, Nat.reduceLeDiff, Nat.add_zero, if_true, if_false, true_and, and_true, and_self, Int32.reduceToNatClampNeg, ib_0_9, ib_1_9, ib_2_9, ib_3_9, ib_4_9, ib_5_9, ib_6_9, ib_7_9, ib_8_9, ib_0_2, ib_1_2, ib_0_5, ib_1_5, ib_2_5, ib_3_5, ib_4_5, ib_0_25, ib_0_10, ib_5_10, ib_0_90, ib_45_90, ib_0_64]
          exact ⟨_, _, rfl, ⟨_, _, rfl⟩, hC3⟩
        · simp only [zX3_paid_75, zX3_paid_77, zX3_paid_80, zX3_paid_82, zX3_paid_84, zX3_paid_86, zX3_paid_87, zX3_paid_89, zX3_paid_91, zX3_paid_93, zX3_paid_94, zX3_paid_95, zX3_paid_96, zX3_paid_97, zX3_paid_98, zX3_paid_101, zX3_paid_103, zX3_paid_105, zX3_paid_106, zX3_paid_109, zX3_paid_111, zX3_paid_113, zX3_paid_114, zX3_paid_117, zX3_paid_119, zX3_paid_121, zX3_paid_123, zX3_paid_125, zX3_paid_126, zX3_paid_128, zX3_paid_129, zX3_paid_131, zX3_paid_134, hc, e_ok_N hx, e_len_N hx, m1, c1, c2, lc_le, t64_le, nI_1, e_k_int, e_k_ref, e_k_null, e_k_long, e_k_ret, e_cats_nil, e_cats_int, e_cats_ref, e_cats_ret, e_cats_long, Option.toList_some, Option.toList_none, List.nil_append, List.cons_append, Option.bind_some, Nat.reduceAdd, Nat.reduceLeDiff, Nat.add_zero, if_true, if_false, true_and, and_true, and_self, Int32.reduceToNatClampNeg, ib_0_9, ib_1_9, ib_2_9, ib_3_9, ib_4_9, ib_5_9, ib_6_9, ib_7_9, ib_8_9, ib_0_2, ib_1_2, ib_0_5, ib_1_5, ib_2_5, ib_3_5, ib_4_5, ib_0_25, ib_0_10, ib_5_10, ib_0_90, ib_45_90, ib_0_64]
          exact ⟨_, _, rfl, ⟨_, _, rfl⟩, hC3⟩) (ls := [.ref 0, .int (nI s), .int (nI k), .int (nI m), .ref (q_x s k + 20), .int (e_gI S (q_x s k + 20) 6), .int (e_gI S (q_x s k + 20) 7), .int (q_pou (q_pV S s k m) p).1, .long (q_pou (q_pV S s k m) p).2.toInt64, .null, .int (nI p), .int 0, w1, w2]) (h := h) ⟨⟨_, _, rfl⟩, hC⟩
    have hc2 : (20 : Int32) < nI 21 := by decide
    rw [e, zX3_paid_73]
    simp only [zX3_paid_75, zX3_paid_77, zX3_paid_137, zX3_paid_140, hc2, nI_1, e_k_int, e_k_ref, e_k_null, e_k_long, e_k_ret, e_cats_nil, e_cats_int, e_cats_ref, e_cats_ret, e_cats_long, Option.toList_some, Option.toList_none, List.nil_append, List.cons_append, Option.bind_some, Nat.reduceAdd, Nat.reduceLeDiff, Nat.add_zero, if_true, if_false, true_and, and_true, and_self, Int32.reduceToNatClampNeg]
    exact ⟨_, _, rfl, ⟨_, _, _, rfl⟩, hC⟩) (ls := [.ref 0, .int (nI s), .int (nI k), .int (nI m), .ref (q_x s k + 20), .int (e_gI S (q_x s k + 20) 6), .int (e_gI S (q_x s k + 20) 7), .int (-1), .long 0, .null, .int 0, .null, .null, .null]) (h := S) ⟨⟨_, _, _, rfl⟩, e_gI S (q_x s k + 20) 6, e_gI S (q_x s k + 20) 7, by
      refine ⟨fun o j ho => ?_, fun o j ho => ?_⟩
      · simp only [e_gI_pI]
        split
        · rename_i c; rw [c.1, c.2]
        · split
          · rename_i c; rw [c.1, c.2]
          · rfl
      · simp only [e_gJ_pI]⟩
  have hc2 : nI (q_n S) < nI (q_n S + 1) := nI_lt (by omega) (by omega)
  refine ⟨_, ?_, hC.back⟩
  rw [e, zX3_paid_61]
  simp only [zX3_paid_63, zX3_paid_64, zX3_paid_67, zX3_paid_143, zX3_paid_145, zX3_paid_147, zX3_paid_149, zX3_paid_150, zX3_paid_152, zX3_paid_154, zX3_paid_156, zX3_paid_157, zX3_paid_159, six f hC, hc2, e_ok_N hx, e_len_N hx, q_paid, e_k_int, e_k_ref, e_k_null, e_k_long, e_k_ret, e_cats_nil, e_cats_int, e_cats_ref, e_cats_ret, e_cats_long, Option.toList_some, Option.toList_none, List.nil_append, List.cons_append, Option.bind_some, Nat.reduceAdd, Nat.reduceLeDiff, Nat.add_zero, if_true, if_false, true_and, and_true, and_self, Int32.reduceToNatClampNeg, ib_0_9, ib_1_9, ib_2_9, ib_3_9, ib_4_9, ib_5_9, ib_6_9, ib_7_9, ib_8_9, ib_0_2, ib_1_2, ib_0_5, ib_1_5, ib_2_5, ib_3_5, ib_4_5, ib_0_25, ib_0_10, ib_5_10, ib_0_90, ib_45_90, ib_0_64]
theorem r_paid_no {d : Nat} {S : e_H} {a b c : Int32} (hS : q_ok S) (h : ¬ q_two S a b c ∨ b = 0) : e_X e_pg (d + 7) 49 [.ref 0, .int a, .int b, .int c] S = some (some (.int (-2)), S) := by
  rw [xX3_paid]
  by_cases z : p_isE (e_gI S 1) a b = 0
  · simp only [zX3_paid_0, zX3_paid_1, zX3_paid_2, zX3_paid_3, zX3_paid_6, zX3_paid_9, zX3_paid_10, zX3_paid_13, zX3_paid_14, zX3_paid_15, zX3_paid_16, zX3_paid_17, zX3_paid_18, zX3_paid_21, zX3_paid_24, zX3_paid_26, r_isEnvoy, z, e_k_int, e_k_ref, e_k_null, e_k_long, e_k_ret, e_cats_nil, e_cats_int, e_cats_ref, e_cats_ret, e_cats_long, Option.toList_some, Option.toList_none, List.nil_append, List.cons_append, Option.bind_some, Nat.reduceAdd, Nat.reduceLeDiff, Nat.add_zero, if_true, if_false, true_and, and_true, and_self, Int32.reduceToNatClampNeg]
  · by_cases b0 : b = 0
    · subst b0
      simp only [zX3_paid_0, zX3_paid_1, zX3_paid_2, zX3_paid_3, zX3_paid_6, zX3_paid_9, zX3_paid_10, zX3_paid_13, zX3_paid_14, zX3_paid_15, zX3_paid_16, zX3_paid_17, zX3_paid_18, zX3_paid_21, zX3_paid_24, zX3_paid_26, r_isEnvoy, z, e_k_int, e_k_ref, e_k_null, e_k_long, e_k_ret, e_cats_nil, e_cats_int, e_cats_ref, e_cats_ret, e_cats_long, Option.toList_some, Option.toList_none, List.nil_append, List.cons_append, Option.bind_some, Nat.reduceAdd, Nat.reduceLeDiff, Nat.add_zero, if_true, if_false, true_and, and_true, and_self, Int32.reduceToNatClampNeg]
    · have h := h.resolve_right b0
      have z2 : p_isE (e_gI S 1) (1 - a) c = 0 := (q_two_no hS h).resolve_left z
      simp only [zX3_paid_0, zX3_paid_1, zX3_paid_2, zX3_paid_3, zX3_paid_6, zX3_paid_9, zX3_paid_10, zX3_paid_13, zX3_paid_14, zX3_paid_15, zX3_paid_16, zX3_paid_17, zX3_paid_18, zX3_paid_21, zX3_paid_24, zX3_paid_26, r_isEnvoy, z, z2, b0, not_true_eq_false, e_k_int, e_k_ref, e_k_null, e_k_long, e_k_ret, e_cats_nil, e_cats_int, e_cats_ref, e_cats_ret, e_cats_long, Option.toList_some, Option.toList_none, List.nil_append, List.cons_append, Option.bind_some, Nat.reduceAdd, Nat.reduceLeDiff, Nat.add_zero, if_true, if_false, true_and, and_true, and_self, Int32.reduceToNatClampNeg]
/-! the least change -/
def q_edg (R : Nat → Int32) (first : Int32) : Nat → Int32
  | 0 => -1
  | k + 1 => if q_edg R first k = -1 then (if R (k + 1) = first then -1 else nI (k + 1)) else q_edg R first k
theorem q_edg_stay {R : Nat → Int32} {first : Int32} {k m : Nat} (h : k ≤ m) (hn : ¬ q_edg R first k = -1) : q_edg R first m = q_edg R first k := by
  induction m with
  | zero =>
    have : k = 0 := by omega
    subst this
    rfl
  | succ m ih =>
    by_cases e : k = m + 1
    · rw [e]
    · have q := ih (by omega)
      show (if q_edg R first m = -1 then _ else q_edg R first m) = _
      rw [q, if_neg hn]
def q_eS (S : e_H) (s t : Nat) : e_H := e_pI S (q_x s 0 + 20) 0 (q_N S s 0 0 + nI t)
def q_edge (S : e_H) (s : Nat) : Int32 := q_edg (fun t => q_rest (q_eS S s t) 0) (q_rest S 0) 30
theorem q_res_cg {A B : e_H} {i j : Nat} (h0 : e_gI B 0 = e_gI A 0) (h3 : e_gI B 3 = e_gI A 3) (h5 : e_gI B 5 = e_gI A 5) (h6 : e_gI B 6 = e_gI A 6) (hi : q_N B 0 i = q_N A 0 i) (hj : q_N B 1 j = q_N A 1 j) : q_res B i j = q_res A i j := by
  have en : q_n B = q_n A := by unfold q_n; rw [h0]
  have eR : q_R B = q_R A := by unfold q_R; rw [h0]
  have eZ : q_Z B = q_Z A := by unfold q_Z; rw [h3]
  have et : ∀ w0 w1, q_tl B w0 w1 = q_tl A w0 w1 := fun w0 w1 => by funext l u; unfold q_tl; rw [h5, h6, en, eZ]
  unfold q_res q_rB q_bt
  rw [hi, hj, en, eR, h0, h3, et]
/-- slopes of those who go themselves are at most 60 -/
def q_sl (S : e_H) : Prop := ∀ s, s < 2 → (q_N S s 0 0).toInt ≤ 60
theorem q_eS_ok {S : e_H} (hS : q_ok S) (hl : q_sl S) {s t : Nat} (hs : s < 2) (ht : t ≤ 30) : q_ok (q_eS S s t) := by
  refine hS.putN hs (by decide) (w := 0) ?_
  have a := (hS.N hs (show 0 < 5 by decide)).at0
  have b := hl s hs
  have c := nI_ti (x := t) (by omega)
  rw [ti_add (by omega) (by omega)]
  show (0 : Int) ≤ _ ∧ _ ≤ (90 : Int)
  omega
theorem q_eS_res {S : e_H} {s t u i j : Nat} (hs : s < 2) (hi : i < 5) (hj : j < 5) (h : if s = 0 then i ≠ 0 else j ≠ 0) : q_res (q_eS S s t) i j = q_res (q_eS S s u) i j := by
  have z : ∀ v w : Int32, ∀ o, o ≠ q_x s 0 + 20 → e_gI (e_pI S (q_x s 0 + 20) 0 v) o = e_gI (e_pI S (q_x s 0 + 20) 0 w) o := fun v w o ho => by rw [e_pI_o ho, e_pI_o ho]
  refine q_res_cg (z _ _ 0 (by omega)) (z _ _ 3 (by omega)) (z _ _ 5 (by omega)) (z _ _ 6 (by omega)) (z _ _ _ ?_) (z _ _ _ ?_)
  · intro q
    have q2 : q_x 0 i = q_x s 0 := by omega
    rw [q_x_inj hi (by decide)] at q2
    rw [if_pos q2.1.symm] at h
    exact h q2.2
  · intro q
    have q2 : q_x 1 j = q_x s 0 := by omega
    rw [q_x_inj hj (by decide)] at q2
    rw [if_neg (by omega)] at h
    exact h q2.2
theorem q_eS_c {S : e_H} {s t : Nat} (x : Nat) : q_c (q_eS S s t) x = q_c S x := by
  unfold q_c q_eS
  rw [e_pI_o (by omega)]
set_option maxRecDepth 100000 in
theorem r_edge {d s : Nat} {S : e_H} (hS : q_ok S) (hl : q_sl S) (hs : s < 2) : ∃ f, e_X e_pg (d + 7) 54 [.ref 0, .int (nI s)] S = some (some (.int (q_edge S s)), f) ∧ q_C S f := by
  have hx := q_x_lt hs (show 0 < 5 by decide)
  obtain ⟨f1, a1, a2, a3⟩ := r_settleAll (d := d) hS (q_C.refl S)
  obtain ⟨f2, b1, b2, b3⟩ := r_holdAll (d := d + 1) hS a2 a3
  have hC2 := a2.fr b2 (fun o ho => by simp at ho ⊢; omega)
  have ra := r_restAt (d := d + 3) (what := 0) hS hC2 b3
  have z0 : ∀ x : Int32, x + nI 0 = x := fun x => by rw [show nI 0 = (0 : Int32) from rfl]; grind
  have hT2 : q_Tb S f2 (q_all S) := fun p q hp hq hh => by rw [b2.1 35 _ (by simp), b2.1 36 _ (by simp)]; exact a3 p q hp hq hh
  have e0 : q_eS S s 0 = e_pI S (q_x s 0 + 20) 0 (e_gI S (q_x s 0 + 20) 0) := by unfold q_eS q_N; rw [z0]
  have res0 : ∀ i j, i < 5 → j < 5 → q_res (q_eS S s 0) i j = q_res S i j := fun i j hi hj => by
    have zz : ∀ o, e_gI (q_eS S s 0) o = e_gI S o := fun o => funext fun k => by
      rw [e0, e_gI_pI]
      split
      · rename_i c; rw [c.1, c.2]
      · rfl
    exact q_res_cg (zz 0) (zz 3) (zz 5) (zz 6) (zz _) (zz _)
  rw [xX3_edge]
  simp only [zX3_edge_0, zX3_edge_1, zX3_edge_4, zX3_edge_7, zX3_edge_9, zX3_edge_10, zX3_edge_11, zX3_edge_12, zX3_edge_13, zX3_edge_16, zX3_edge_19, zX3_edge_20, zX3_edge_21, zX3_edge_22, zX3_edge_23, zX3_edge_24, zX3_edge_25, zX3_edge_28, zX3_edge_29, zX3_edge_32, zX3_edge_33, zX3_edge_34, zX3_edge_37, zX3_edge_39, zX3_edge_40, zX3_edge_42, zX3_edge_43, r_isSide, p_side_yes hs, r_eAt (s := s) (k := 0) (a := nI s) (b := 0) rfl rfl hs (by decide), hx, e_ok_N hx, e_len_N hx, a1, b1, ra, ne_0_1, ne_0_2, ne_0_3, ne_1_0, ne_1_2, ne_1_3, ne_2_0, ne_2_1, ne_2_3, ne_3_0, ne_3_1, ne_3_2, not_false_eq_true, e_k_int, e_k_ref, e_k_null, e_k_long, e_k_ret, e_cats_nil, e_cats_int, e_cats_ref, e_cats_ret, e_cats_long, Option.toList_some, Option.toList_none, List.nil_append, List.cons_append, Option.bind_some, Nat.reduceAdd, Nat.reduceLeDiff, Nat.add_zero, if_true, if_false, true_and, and_true, and_self, Int32.reduceToNatClampNeg, ib_0_9, ib_1_9, ib_2_9, ib_3_9, ib_4_9, ib_5_9, ib_6_9, ib_7_9, ib_8_9, ib_0_2, ib_1_2, ib_0_5, ib_1_5, ib_2_5, ib_3_5, ib_4_5, ib_0_25, ib_0_10, ib_5_10, ib_0_90, ib_45_90, ib_0_64]
  have fin : ∀ (k : Nat) (h : e_H) (a : Int32), q_C (q_eS S s k) h → ∃ f, e_F kX3_edge (e_X e_pg (d + 6)) 94 [.ref 0, .int (nI s), .ref (q_x s 0 + 20), .int (e_gI S (q_x s 0 + 20) 0), .int (q_rest S 0), .int a, .int (nI (k + 1))] [] h = some (some (.int a), f) ∧ q_C S f := by
    intro k h a hC
    refine ⟨_, ?_, hC.back⟩
    simp only [zX3_edge_94, zX3_edge_95, zX3_edge_96, zX3_edge_97, zX3_edge_98, zX3_edge_100, e_ok_N hx, e_len_N hx, e_k_int, e_k_ref, e_k_null, e_k_long, e_k_ret, e_cats_nil, e_cats_int, e_cats_ref, e_cats_ret, e_cats_long, Option.toList_some, Option.toList_none, List.nil_append, List.cons_append, Option.bind_some, Nat.reduceAdd, Nat.reduceLeDiff, Nat.add_zero, if_true, if_false, true_and, and_true, and_self, Int32.reduceToNatClampNeg, ib_0_9, ib_1_9, ib_2_9, ib_3_9, ib_4_9, ib_5_9, ib_6_9, ib_7_9, ib_8_9, ib_0_2, ib_1_2, ib_0_5, ib_1_5, ib_2_5, ib_3_5, ib_4_5, ib_0_25, ib_0_10, ib_5_10, ib_0_90, ib_45_90, ib_0_64]
  refine f_lq (cd := kX3_edge) (O := e_X e_pg (d + 6)) (pc := 45) (fun k ls h => ls = [.ref 0, .int (nI s), .ref (q_x s 0 + 20), .int (e_gI S (q_x s 0 + 20) 0), .int (q_rest S 0), .int (q_edg (fun t => q_rest (q_eS S s t) 0) (q_rest S 0) k), .int (nI (k + 1))] ∧ q_C (q_eS S s k) h ∧ q_Tb (q_eS S s k) h (q_all S)) (fun x => ∃ f, x = some (some (.int (q_edge S s)), f) ∧ q_C S f) (Nat.zero_le 30) ?_ ?_ (ls := [.ref 0, .int (nI s), .ref (q_x s 0 + 20), .int (e_gI S (q_x s 0 + 20) 0), .int (q_rest S 0), .int (-1), .int 1]) (h := f2) ⟨rfl, by rw [e0]; exact e_fr.trans q_C_self hC2, fun p q hp hq hh => by rw [res0 p q hp hq]; exact hT2 p q hp hq hh⟩
  · rintro k ls h - hk ⟨rfl, hC, hT⟩
    have hc : ¬ 30 < nI (k + 1) := by rw [show (30 : Int32) = nI 30 from rfl]; exact nI_nlt (by omega) (by omega)
    rw [zX3_edge_45]
    by_cases ca : q_edg (fun t => q_rest (q_eS S s t) 0) (q_rest S 0) k = -1
    · right
      have hS3 := q_eS_ok hS hl hs (show k + 1 ≤ 30 by omega)
      have hC3 : q_C (q_eS S s (k + 1)) (e_pI h (q_x s 0 + 20) 0 (e_gI S (q_x s 0 + 20) 0 + nI (k + 1))) := hC.put
      have hT3 : q_Tb (q_eS S s (k + 1)) (e_pI h (q_x s 0 + 20) 0 (e_gI S (q_x s 0 + 20) 0 + nI (k + 1))) (fun p q => q_all S p q ∧ if s = 0 then p ≠ 0 else q ≠ 0) := fun p q hp hq hh => by
        rw [q_eS_res (u := k) hs hp hq hh.2, e_pI_o (by omega), e_pI_o (by omega)]
        exact hT p q hp hq hh.1
      obtain ⟨g1, c1, c2, c3⟩ := r_settleItself (d := d) (a := nI s) hS3 hC3 rfl hs hT3
      have hT4 : q_Tb (q_eS S s (k + 1)) g1 (q_all (q_eS S s (k + 1))) := fun p q hp hq hh => c3 p q hp hq (by
        simp only [q_all, q_eS_c] at hh ⊢
        rcases (show s = 0 ∨ s = 1 by omega) with rfl | rfl
        · by_cases z : p = 0
          · exact Or.inr (by rw [if_pos rfl]; exact ⟨z, hh.2⟩)
          · exact Or.inl ⟨hh, by rw [if_pos rfl]; exact z⟩
        · by_cases z : q = 0
          · exact Or.inr (by rw [if_neg (by decide)]; exact ⟨z, hh.1⟩)
          · exact Or.inl ⟨hh, by rw [if_neg (by decide)]; exact z⟩)
      obtain ⟨g2, d1, d2, d3⟩ := r_holdAll (d := d + 1) hS3 c2 hT4
      have hC4 := c2.fr d2 (fun o ho => by simp at ho ⊢; omega)
      have rb := r_restAt (d := d + 3) (what := 0) hS3 hC4 d3
      have hT5 : q_Tb (q_eS S s (k + 1)) g2 (q_all S) := fun p q hp hq hh => by
        rw [d2.1 35 _ (by simp), d2.1 36 _ (by simp)]
        exact hT4 p q hp hq (by simp only [q_all, q_eS_c]; exact hh)
      have nx : q_edg (fun t => q_rest (q_eS S s t) 0) (q_rest S 0) (k + 1) = if q_rest (q_eS S s (k + 1)) 0 = q_rest S 0 then -1 else nI (k + 1) := by
        show (if q_edg (fun t => q_rest (q_eS S s t) 0) (q_rest S 0) k = -1 then _ else _) = _
        rw [if_pos ca]
      by_cases cr : q_rest (q_eS S s (k + 1)) 0 = q_rest S 0
      · rw [if_pos cr] at nx
        simp only [zX3_edge_47, zX3_edge_49, zX3_edge_52, zX3_edge_54, zX3_edge_55, zX3_edge_58, zX3_edge_59, zX3_edge_60, zX3_edge_61, zX3_edge_63, zX3_edge_64, zX3_edge_65, zX3_edge_66, zX3_edge_67, zX3_edge_70, zX3_edge_71, zX3_edge_74, zX3_edge_75, zX3_edge_76, zX3_edge_79, zX3_edge_81, zX3_edge_84, zX3_edge_86, zX3_edge_88, zX3_edge_91, hc, ca, e_ok_N hx, e_len_N hx, c1, d1, rb, cr, nI_1, not_true_eq_false, e_k_int, e_k_ref, e_k_null, e_k_long, e_k_ret, e_cats_nil, e_cats_int, e_cats_ref, e_cats_ret, e_cats_long, Option.toList_some, Option.toList_none, List.nil_append, List.cons_append, Option.bind_some, Nat.reduceAdd, Nat.reduceLeDiff, Nat.add_zero, if_true, if_false, true_and, and_true, and_self, Int32.reduceToNatClampNeg, ib_0_9, ib_1_9, ib_2_9, ib_3_9, ib_4_9, ib_5_9, ib_6_9, ib_7_9, ib_8_9, ib_0_2, ib_1_2, ib_0_5, ib_1_5, ib_2_5, ib_3_5, ib_4_5, ib_0_25, ib_0_10, ib_5_10, ib_0_90, ib_45_90, ib_0_64]
        exact ⟨_, _, rfl, by rw [nx], hC4, hT5⟩
      · rw [if_neg cr] at nx
        simp only [zX3_edge_47, zX3_edge_49, zX3_edge_52, zX3_edge_54, zX3_edge_55, zX3_edge_58, zX3_edge_59, zX3_edge_60, zX3_edge_61, zX3_edge_63, zX3_edge_64, zX3_edge_65, zX3_edge_66, zX3_edge_67, zX3_edge_70, zX3_edge_71, zX3_edge_74, zX3_edge_75, zX3_edge_76, zX3_edge_79, zX3_edge_81, zX3_edge_84, zX3_edge_86, zX3_edge_88, zX3_edge_91, hc, ca, e_ok_N hx, e_len_N hx, c1, d1, rb, cr, nI_1, not_true_eq_false, e_k_int, e_k_ref, e_k_null, e_k_long, e_k_ret, e_cats_nil, e_cats_int, e_cats_ref, e_cats_ret, e_cats_long, Option.toList_some, Option.toList_none, List.nil_append, List.cons_append, Option.bind_some, Nat.reduceAdd, Nat.reduceLeDiff, Nat.add_zero, if_true, if_false, true_and, and_true, and_self, Int32.reduceToNatClampNeg, ib_0_9, ib_1_9, ib_2_9, ib_3_9, ib_4_9, ib_5_9, ib_6_9, ib_7_9, ib_8_9, ib_0_2, ib_1_2, ib_0_5, ib_1_5, ib_2_5, ib_3_5, ib_4_5, ib_0_25, ib_0_10, ib_5_10, ib_0_90, ib_45_90, ib_0_64]
        exact ⟨_, _, rfl, by rw [nx], hC4, hT5⟩
    · left
      have q : q_edge S s = q_edg (fun t => q_rest (q_eS S s t) 0) (q_rest S 0) k := q_edg_stay (by omega) ca
      rw [q]
      simp only [zX3_edge_47, zX3_edge_49, zX3_edge_52, zX3_edge_54, zX3_edge_55, hc, ca, not_false_eq_true, e_k_int, e_k_ref, e_k_null, e_k_long, e_k_ret, e_cats_nil, e_cats_int, e_cats_ref, e_cats_ret, e_cats_long, Option.toList_some, Option.toList_none, List.nil_append, List.cons_append, Option.bind_some, Nat.reduceAdd, Nat.reduceLeDiff, Nat.add_zero, if_true, if_false, true_and, and_true, and_self, Int32.reduceToNatClampNeg, ib_0_9, ib_1_9, ib_2_9, ib_3_9, ib_4_9, ib_5_9, ib_6_9, ib_7_9, ib_8_9, ib_0_2, ib_1_2, ib_0_5, ib_1_5, ib_2_5, ib_3_5, ib_4_5, ib_0_25, ib_0_10, ib_5_10, ib_0_90, ib_45_90, ib_0_64]
      exact fin k h _ hC
  · rintro ls h ⟨rfl, hC, hT⟩
    have hc : (30 : Int32) < nI (30 + 1) := by decide
    rw [zX3_edge_45]
    simp only [zX3_edge_47, zX3_edge_49, hc, e_k_int, e_k_ref, e_k_null, e_k_long, e_k_ret, e_cats_nil, e_cats_int, e_cats_ref, e_cats_ret, e_cats_long, Option.toList_some, Option.toList_none, List.nil_append, List.cons_append, Option.bind_some, Nat.reduceAdd, Nat.reduceLeDiff, Nat.add_zero, if_true, if_false, true_and, and_true, and_self, Int32.reduceToNatClampNeg, ib_0_9, ib_1_9, ib_2_9, ib_3_9, ib_4_9, ib_5_9, ib_6_9, ib_7_9, ib_8_9, ib_0_2, ib_1_2, ib_0_5, ib_1_5, ib_2_5, ib_3_5, ib_4_5, ib_0_25, ib_0_10, ib_5_10, ib_0_90, ib_45_90, ib_0_64]
    exact fin 30 h _ hC
theorem r_edge_no {d : Nat} {S : e_H} {a : Int32} (h : ¬ ∃ s, s < 2 ∧ a = nI s) : e_X e_pg (d + 7) 54 [.ref 0, .int a] S = some (some (.int (-2)), S) := by
  rw [xX3_edge]
  simp only [zX3_edge_0, zX3_edge_1, zX3_edge_4, zX3_edge_7, zX3_edge_9, zX3_edge_10, zX3_edge_11, zX3_edge_12, zX3_edge_13, zX3_edge_16, zX3_edge_19, zX3_edge_20, zX3_edge_21, zX3_edge_22, zX3_edge_23, zX3_edge_24, zX3_edge_25, zX3_edge_28, zX3_edge_29, zX3_edge_32, zX3_edge_33, zX3_edge_34, zX3_edge_37, zX3_edge_39, zX3_edge_40, zX3_edge_42, zX3_edge_43, r_isSide, p_side_no h, not_true_eq_false, e_k_int, e_k_ref, e_k_null, e_k_long, e_k_ret, e_cats_nil, e_cats_int, e_cats_ref, e_cats_ret, e_cats_long, Option.toList_some, Option.toList_none, List.nil_append, List.cons_append, Option.bind_some, Nat.reduceAdd, Nat.reduceLeDiff, Nat.add_zero, if_true, if_false, true_and, and_true, and_self, Int32.reduceToNatClampNeg]
