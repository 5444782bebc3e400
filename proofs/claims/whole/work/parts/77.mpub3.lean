/-! the model: one number of an envoy is another -/
theorem e_pI_pI {S : e_H} {a w : Nat} {u v : Int32} : e_pI (e_pI S a w u) a w v = e_pI S a w v := by
  refine e_H_ext (fun o f => ?_) (fun o f => by simp only [e_gJ_pI])
  simp only [e_gI_pI]
  by_cases c : o = a ∧ f = w
  · rw [if_pos c, if_pos c]
  · rw [if_neg c, if_neg c, if_neg c]
theorem e_pI_self {S : e_H} {a w : Nat} : e_pI S a w (e_gI S a w) = S := by
  refine e_H_ext (fun o f => ?_) (fun o f => by simp only [e_gJ_pI])
  simp only [e_gI_pI]
  by_cases c : o = a ∧ f = w
  · rw [if_pos c, c.1, c.2]
  · rw [if_neg c]
theorem e_pI_67 {S : e_H} {a : Nat} {u v p y : Int32} : e_pI (e_pI (e_pI (e_pI S a 6 u) a 7 v) a 6 p) a 7 y = e_pI (e_pI S a 6 p) a 7 y := by
  refine e_H_ext (fun o f => ?_) (fun o f => by simp only [e_gJ_pI])
  simp only [e_gI_pI]
  by_cases c : o = a ∧ f = 7
  · rw [if_pos c, if_pos c]
  · by_cases c2 : o = a ∧ f = 6
    · simp only [if_neg c, if_pos c2]
    · simp only [if_neg c, if_neg c2]
theorem e_pI_s67 {S : e_H} {a : Nat} : e_pI (e_pI S a 6 (e_gI S a 6)) a 7 (e_gI S a 7) = S := by
  rw [e_pI_self, e_pI_self]
abbrev q_c5 (S : e_H) : Prop := ∀ t, t < 2 → q_c S t ≤ 5
theorem q_ok.c5 {S : e_H} (hS : q_ok S) : q_c5 S := fun t ht => (hS.c ht).2.2
theorem q_c5_pI {S : e_H} {a w : Nat} {v : Int32} (ha : 1 ≠ a) (h : q_c5 S) : q_c5 (e_pI S a w v) := fun t ht => by
  unfold q_c
  rw [e_pI_o ha]
  exact h t ht
theorem q_M.putN {S h : e_H} (m : q_M S h) (h5 : q_c5 S) {s k w : Nat} (hs : s < 2) (hk : k < 5) (hw : w < 9) (v : Int32) : q_M (e_pI S (q_x s k + 20) w v) (e_pI h 41 (9 * q_x s k + w) v) := by
  obtain ⟨a, b1, c1, e1, g1⟩ := m
  have hx := q_x_lt hs hk
  refine ⟨?_, ?_, ?_, ?_, ?_⟩
  · rw [e_pI_o (show 40 ≠ 41 by decide), e_pI_o (show 0 ≠ q_x s k + 20 by omega), e_pI_o (show 3 ≠ q_x s k + 20 by omega)]
    simp only [e_gJ_pI]
    exact a
  · rw [e_pI_o (show 43 ≠ 41 by decide), e_pI_o (show 1 ≠ q_x s k + 20 by omega)]
    exact b1
  · intro t n x ht hn hx2
    unfold q_N
    rw [e_gI_pI, e_gI_pI]
    by_cases c : q_x t n + 20 = q_x s k + 20 ∧ x = w
    · rw [if_pos c, if_pos ⟨rfl, by omega⟩]
    · rw [if_neg c, if_neg (by omega)]
      exact c1 t n x ht hn hx2
  · intro t n ht hn
    unfold q_c at hn
    rw [e_pI_o (show 1 ≠ q_x s k + 20 by omega)] at hn
    have hn5 : q_x t n < 10 := q_x_lt ht (by have := h5 t ht; unfold q_c at this; omega)
    rw [e_pI_o (show 42 ≠ 41 by decide), e1 t n ht hn, e_gI_pI]
    by_cases c : q_x t n + 10 = q_x s k + 20 ∧ 1 = w
    · exfalso
      have := c.1
      omega
    · rw [if_neg c]
  · intro n
    rw [e_pI_o (show 44 ≠ 41 by decide), e_pI_o (show 4 ≠ q_x s k + 20 by omega)]
    exact g1 n
theorem q_at {s k : Nat} : 45 * nI s + 9 * nI k = nI (9 * q_x s k) := by
  rw [show (45 : Int32) = nI 45 from rfl, show (9 : Int32) = nI 9 from rfl, pk_mul, pk_mul, nI_add]
  congr 1
  unfold q_x
  omega
theorem q_nlit6 (a : Nat) : nI a + 6 = nI (a + 6) := nI_add a 6
theorem q_nlit7 (a : Nat) : nI a + 7 = nI (a + 7) := nI_add a 7
theorem q_nlit5 (a : Nat) : nI a + 5 = nI (a + 5) := nI_add a 5
theorem q_nlit0 (a : Nat) : nI a + 0 = nI a := nI_add a 0
/-- h tells S but for those two numbers of one envoy -/
def q_M2 (S : e_H) (a : Nat) (h : e_H) : Prop := ∃ u v, q_M (e_pI (e_pI S a 6 u) a 7 v) h
theorem q_M2.put {S h : e_H} (h5 : q_c5 S) {s k : Nat} (hs : s < 2) (hk : k < 5) (m : q_M2 S (q_x s k + 20) h) (p y : Int32) : q_M (e_pI (e_pI S (q_x s k + 20) 6 p) (q_x s k + 20) 7 y) (e_pI (e_pI h 41 (9 * q_x s k + 6) p) 41 (9 * q_x s k + 7) y) := by
  obtain ⟨u, v, m⟩ := m
  have m2 := (m.putN (q_c5_pI (by omega) (q_c5_pI (by omega) h5)) hs hk (w := 6) (by decide) p).putN (q_c5_pI (by omega) (q_c5_pI (by omega) (q_c5_pI (by omega) h5))) hs hk (w := 7) (by decide) y
  rw [e_pI_67] at m2
  exact m2
theorem q_M2.back {S h : e_H} (h5 : q_c5 S) {s k : Nat} (hs : s < 2) (hk : k < 5) (m : q_M2 S (q_x s k + 20) h) : q_M S (e_pI (e_pI h 41 (9 * q_x s k + 6) (q_N S s k 6)) 41 (9 * q_x s k + 7) (q_N S s k 7)) := by
  have m2 := m.put h5 hs hk (q_N S s k 6) (q_N S s k 7)
  unfold q_N at m2
  rw [e_pI_s67] at m2
  exact m2
set_option maxRecDepth 100000 in
theorem r_M_paid {d s k m : Nat} {S h : e_H} (hS : q_ok S) (hM : q_M S h) (hs : s < 2) (hk : k < q_c S s) (hk0 : k ≠ 0) (hm : m < q_c S (1 - s)) : ∃ f, e_X e_pg (d + 10) 138 [.ref 40, .int (nI s), .int (nI k), .int (nI m)] h = some (some (.int (q_paid S s k m)), f) ∧ q_M S f ∧ e_fr q_lM h f := by
  have cs := (hS.c hs).2
  have co := (hS.c (show 1 - s < 2 by omega)).2
  have hn := hS.n
  have hn2 := hn.2
  have hk5 : k < 5 := by omega
  have hm5 : m < 5 := by omega
  have hx := q_x_lt hs hk5
  have kn : ¬ nI k = 0 := nI_ne0 (by omega) (by omega)
  have b6 : e_inb (nI (9 * q_x s k + 6)) 90 = true := e_inb_nI (by omega) (by decide)
  have b7 : e_inb (nI (9 * q_x s k + 7)) 90 = true := e_inb_nI (by omega) (by decide)
  have l6 : (nI (9 * q_x s k + 6)).toNatClampNeg = 9 * q_x s k + 6 := nI_clamp (by omega)
  have l7 : (nI (9 * q_x s k + 7)).toNatClampNeg = 9 * q_x s k + 7 := nI_clamp (by omega)
  have n6 := hM.N hs hk5 (show 6 < 9 by decide)
  have n7 := hM.N hs hk5 (show 7 < 9 by decide)
  have six : ∀ g, q_M2 S (q_x s k + 20) g → e_gI g 40 0 = nI (q_n S) := by
    rintro g ⟨u, v, hC⟩
    rw [hC.1.1, e_pI_o (by omega), e_pI_o (by omega)]
    exact hn.1
  rw [xX4_paid]
  simp only [zX4_paid_0, zX4_paid_1, zX4_paid_2, zX4_paid_3, zX4_paid_6, zX4_paid_9, zX4_paid_10, zX4_paid_13, zX4_paid_14, zX4_paid_15, zX4_paid_16, zX4_paid_17, zX4_paid_18, zX4_paid_21, zX4_paid_24, zX4_paid_26, zX4_paid_27, zX4_paid_29, zX4_paid_30, zX4_paid_31, zX4_paid_33, zX4_paid_34, zX4_paid_35, zX4_paid_36, zX4_paid_38, zX4_paid_39, zX4_paid_42, zX4_paid_44, zX4_paid_46, zX4_paid_47, zX4_paid_48, zX4_paid_50, zX4_paid_51, zX4_paid_54, zX4_paid_56, zX4_paid_58, zX4_paid_59, zX4_paid_60, zX4_paid_62, zX4_paid_63, zX4_paid_65, zX4_paid_66, zX4_paid_68, zX4_paid_69, r_M_isMan hS hM, p_isE_yes hS hs hk, kn, nI_1s hs, p_isE_yes hS (show 1 - s < 2 by omega) hm, q_at, q_nlit6, q_nlit7, b6, b7, l6, l7, n6, n7, ne_0_1, ne_0_2, ne_0_3, ne_1_0, ne_1_2, ne_1_3, ne_2_0, ne_2_1, ne_2_3, ne_3_0, ne_3_1, ne_3_2, not_false_eq_true, e_k_int, e_k_ref, e_k_null, e_k_long, e_k_ret, e_cats_nil, e_cats_int, e_cats_ref, e_cats_ret, e_cats_long, Option.toList_some, Option.toList_none, List.nil_append, List.cons_append, Option.bind_some, Nat.reduceAdd, Nat.reduceLeDiff, Nat.add_zero, if_true, if_false, true_and, and_true, and_self, Int32.reduceToNatClampNeg, ok_1, ok_2, ok_3, ok_4, ok_5, ok_6, ok_7, ok_8, ok_9, ok_30, ok_31, ok_32, ok_33, ok_34, ok_35, ok_36, ok_37, ok_38, ok_39, ok_40, ok_41, ok_42, ok_43, ok_44, ok_45, ok_46, ok_47, ok_48, ok_49, ok_50, ok_51, ok_52, ln_1, ln_2, ln_4, ln_5, ln_6, ln_7, ln_8, ln_30, ln_31, ln_32, ln_33, ln_34, ln_35, ln_36, ln_37, ln_38, ln_39, ln_41, ln_42, ln_43, ln_44, ln_45, ln_46, ln_47, ln_48, ln_49, ln_50, ln_51, ln_52]
  obtain ⟨ls2, f, e, ⟨w1, w2, rfl⟩, hC, hFr⟩ := f_lp (cd := kX4_paid) (O := e_X e_pg (d + 9)) (pc := 71) (fun p ls g => (∃ w1 w2, ls = [.ref 40, .int (nI s), .int (nI k), .int (nI m), .int (nI (9 * q_x s k)), .int (q_N S s k 6), .int (q_N S s k 7), .int (q_pou (q_pV S s k m) p).1, .int (q_pou (q_pV S s k m) p).2, .int (nI p), w1, w2]) ∧ q_M2 S (q_x s k + 20) g ∧ e_fr q_lM h g) (Nat.zero_le (q_n S + 1)) (by
    rintro p ls g - hp ⟨⟨w1, w2, rfl⟩, hC, hFr⟩
    have hc : ¬ nI (q_n S) < nI p := nI_nlt (by omega) (by omega)
    rw [zX4_paid_71]
    simp only [zX4_paid_73, zX4_paid_74, zX4_paid_77, zX4_paid_80, zX4_paid_81, six g hC, hc, e_k_int, e_k_ref, e_k_null, e_k_long, e_k_ret, e_cats_nil, e_cats_int, e_cats_ref, e_cats_ret, e_cats_long, Option.toList_some, Option.toList_none, List.nil_append, List.cons_append, Option.bind_some, Nat.reduceAdd, Nat.reduceLeDiff, Nat.add_zero, if_true, if_false, true_and, and_true, and_self, Int32.reduceToNatClampNeg]
    obtain ⟨ls2, f, e, ⟨w2, rfl⟩, hC, hFr⟩ := f_lp (cd := kX4_paid) (O := e_X e_pg (d + 9)) (pc := 83) (fun y ls g => (∃ w2, ls = [.ref 40, .int (nI s), .int (nI k), .int (nI m), .int (nI (9 * q_x s k)), .int (q_N S s k 6), .int (q_N S s k 7), .int (q_pin (q_pV S s k m) p (q_pou (q_pV S s k m) p) y).1, .int (q_pin (q_pV S s k m) p (q_pou (q_pV S s k m) p) y).2, .int (nI p), .int (nI y), w2]) ∧ q_M2 S (q_x s k + 20) g ∧ e_fr q_lM h g) (Nat.zero_le 21) (by
      rintro y ls g - hy ⟨⟨w2, rfl⟩, hC, hFr⟩
      have hc : ¬ 20 < nI y := by rw [show (20 : Int32) = nI 20 from rfl]; exact nI_nlt (by omega) (by omega)
      have hS2 := q_pS_ok hS (p := p) (y := y) hs hk5 (by omega) (by omega)
      have hC2 : q_M (q_pS S s k p y) (e_pI (e_pI g 41 (9 * q_x s k + 6) (nI p)) 41 (9 * q_x s k + 7) (nI y)) := hC.put hS.c5 hs hk5 _ _
      obtain ⟨f, m1, m2⟩ := r_M_hasAgainst (d := d) hS2 hC2 (a := nI s) (b := nI k) (c := nI m) rfl rfl rfl hs hk5 hm5
      have hC3 : q_M2 S (q_x s k + 20) f := ⟨_, _, hC2.mf m2⟩
      have hFr3 : e_fr q_lM h f := (((hFr.pI (by simp)).pI (by simp))).trans m2.fr
      change _ = some (some (Value.int (q_pV S s k m p y)), f) at m1
      have nx : q_pin (q_pV S s k m) p (q_pou (q_pV S s k m) p) (y + 1) = q_pst (q_pV S s k m) p y (q_pin (q_pV S s k m) p (q_pou (q_pV S s k m) p) y) := rfl
      rw [zX4_paid_83, nx]
      unfold q_pst
      by_cases c1 : (q_pin (q_pV S s k m) p (q_pou (q_pV S s k m) p) y).1 = -1
      · simp only [zX4_paid_85, zX4_paid_87, zX4_paid_90, zX4_paid_91, zX4_paid_94, zX4_paid_96, zX4_paid_98, zX4_paid_99, zX4_paid_101, zX4_paid_102, zX4_paid_103, zX4_paid_106, zX4_paid_108, zX4_paid_110, zX4_paid_111, zX4_paid_113, zX4_paid_114, zX4_paid_115, zX4_paid_116, zX4_paid_117, zX4_paid_118, zX4_paid_121, zX4_paid_123, zX4_paid_125, zX4_paid_126, zX4_paid_129, zX4_paid_131, zX4_paid_133, zX4_paid_136, zX4_paid_138, zX4_paid_140, zX4_paid_141, zX4_paid_143, zX4_paid_144, zX4_paid_146, zX4_paid_148, zX4_paid_150, zX4_paid_153, hc, q_nlit6, q_nlit7, b6, b7, l6, l7, m1, c1, nI_1, e_k_int, e_k_ref, e_k_null, e_k_long, e_k_ret, e_cats_nil, e_cats_int, e_cats_ref, e_cats_ret, e_cats_long, Option.toList_some, Option.toList_none, List.nil_append, List.cons_append, Option.bind_some, Nat.reduceAdd, Nat.reduceLeDiff, Nat.add_zero, if_true, if_false, true_and, and_true, and_self, Int32.reduceToNatClampNeg, ok_1, ok_2, ok_3, ok_4, ok_5, ok_6, ok_7, ok_8, ok_9, ok_30, ok_31, ok_32, ok_33, ok_34, ok_35, ok_36, ok_37, ok_38, ok_39, ok_40, ok_41, ok_42, ok_43, ok_44, ok_45, ok_46, ok_47, ok_48, ok_49, ok_50, ok_51, ok_52, ln_1, ln_2, ln_4, ln_5, ln_6, ln_7, ln_8, ln_30, ln_31, ln_32, ln_33, ln_34, ln_35, ln_36, ln_37, ln_38, ln_39, ln_41, ln_42, ln_43, ln_44, ln_45, ln_46, ln_47, ln_48, ln_49, ln_50, ln_51, ln_52]
        exact ⟨_, _, rfl, ⟨_, rfl⟩, hC3, hFr3⟩
      · by_cases c2 : q_pV S s k m p y ≤ (q_pin (q_pV S s k m) p (q_pou (q_pV S s k m) p) y).2
        · simp only [zX4_paid_85, zX4_paid_87, zX4_paid_90, zX4_paid_91, zX4_paid_94, zX4_paid_96, zX4_paid_98, zX4_paid_99, zX4_paid_101, zX4_paid_102, zX4_paid_103, zX4_paid_106, zX4_paid_108, zX4_paid_110, zX4_paid_111, zX4_paid_113, zX4_paid_114, zX4_paid_115, zX4_paid_116, zX4_paid_117, zX4_paid_118, zX4_paid_121, zX4_paid_123, zX4_paid_125, zX4_paid_126, zX4_paid_129, zX4_paid_131, zX4_paid_133, zX4_paid_136, zX4_paid_138, zX4_paid_140, zX4_paid_141, zX4_paid_143, zX4_paid_144, zX4_paid_146, zX4_paid_148, zX4_paid_150, zX4_paid_153, hc, q_nlit6, q_nlit7, b6, b7, l6, l7, m1, c1, c2, nI_1, e_k_int, e_k_ref, e_k_null, e_k_long, e_k_ret, e_cats_nil, e_cats_int, e_cats_ref, e_cats_ret, e_cats_long, Option.toList_some, Option.toList_none, List.nil_append, List.cons_append, Option.bind_some, Nat.reduceAdd, Nat.reduceLeDiff, Nat.add_zero, if_true, if_false, true_and, and_true, and_self, Int32.reduceToNatClampNeg, ok_1, ok_2, ok_3, ok_4, ok_5, ok_6, ok_7, ok_8, ok_9, ok_30, ok_31, ok_32, ok_33, ok_34, ok_35, ok_36, ok_37, ok_38, ok_39, ok_40, ok_41, ok_42, ok_43, ok_44, ok_45, ok_46, ok_47, ok_48, ok_49, ok_50, ok_51, ok_52, ln_1, ln_2, ln_4, ln_5, ln_6, ln_7, ln_8, ln_30, ln_31, ln_32, ln_33, ln_34, ln_35, ln_36, ln_37, ln_38, ln_39, ln_41, ln_42, ln_43, ln_44, ln_45, ln_46, ln_47, ln_48, ln_49, ln_50, ln_51, ln_52]
          exact ⟨_, _, rfl, ⟨_, rfl⟩, hC3, hFr3⟩
        · simp only [zX4_paid_85, zX4_paid_87, zX4_paid_90, zX4_paid_91, zX4_paid_94, zX4_paid_96, zX4_paid_98, zX4_paid_99, zX4_paid_101, zX4_paid_102, zX4_paid_103, zX4_paid_106, zX4_paid_108, zX4_paid_110, zX4_paid_111, zX4_paid_113, zX4_paid_114, zX4_paid_115, zX4_paid_116, zX4_paid_117, zX4_paid_118, zX4_paid_121, zX4_paid_123, zX4_paid_125, zX4_paid_126, zX4_paid_129, zX4_paid_131, zX4_paid_133, zX4_paid_136, zX4_paid_138, zX4_paid_140, zX4_paid_141, zX4_paid_143, zX4_paid_144, zX4_paid_146, zX4_paid_148, zX4_paid_150, zX4_paid_153, hc, q_nlit6, q_nlit7, b6, b7, l6, l7, m1, c1, c2, nI_1, e_k_int, e_k_ref, e_k_null, e_k_long, e_k_ret, e_cats_nil, e_cats_int, e_cats_ref, e_cats_ret, e_cats_long, Option.toList_some, Option.toList_none, List.nil_append, List.cons_append, Option.bind_some, Nat.reduceAdd, Nat.reduceLeDiff, Nat.add_zero, if_true, if_false, true_and, and_true, and_self, Int32.reduceToNatClampNeg, ok_1, ok_2, ok_3, ok_4, ok_5, ok_6, ok_7, ok_8, ok_9, ok_30, ok_31, ok_32, ok_33, ok_34, ok_35, ok_36, ok_37, ok_38, ok_39, ok_40, ok_41, ok_42, ok_43, ok_44, ok_45, ok_46, ok_47, ok_48, ok_49, ok_50, ok_51, ok_52, ln_1, ln_2, ln_4, ln_5, ln_6, ln_7, ln_8, ln_30, ln_31, ln_32, ln_33, ln_34, ln_35, ln_36, ln_37, ln_38, ln_39, ln_41, ln_42, ln_43, ln_44, ln_45, ln_46, ln_47, ln_48, ln_49, ln_50, ln_51, ln_52]
          exact ⟨_, _, rfl, ⟨_, rfl⟩, hC3, hFr3⟩) (ls := [.ref 40, .int (nI s), .int (nI k), .int (nI m), .int (nI (9 * q_x s k)), .int (q_N S s k 6), .int (q_N S s k 7), .int (q_pou (q_pV S s k m) p).1, .int (q_pou (q_pV S s k m) p).2, .int (nI p), .int 0, w2]) (h := g) ⟨⟨_, rfl⟩, hC, hFr⟩
    have hc2 : (20 : Int32) < nI 21 := by decide
    rw [e, zX4_paid_83]
    simp only [zX4_paid_85, zX4_paid_87, zX4_paid_156, zX4_paid_159, hc2, nI_1, e_k_int, e_k_ref, e_k_null, e_k_long, e_k_ret, e_cats_nil, e_cats_int, e_cats_ref, e_cats_ret, e_cats_long, Option.toList_some, Option.toList_none, List.nil_append, List.cons_append, Option.bind_some, Nat.reduceAdd, Nat.reduceLeDiff, Nat.add_zero, if_true, if_false, true_and, and_true, and_self, Int32.reduceToNatClampNeg]
    exact ⟨_, _, rfl, ⟨_, _, rfl⟩, hC, hFr⟩) (ls := [.ref 40, .int (nI s), .int (nI k), .int (nI m), .int (nI (9 * q_x s k)), .int (q_N S s k 6), .int (q_N S s k 7), .int (-1), .int 0, .int 0, .null, .null]) (h := h) ⟨⟨_, _, rfl⟩, ⟨e_gI S (q_x s k + 20) 6, e_gI S (q_x s k + 20) 7, by rw [e_pI_s67]; exact hM⟩, e_fr.refl _ _⟩
  have hc2 : nI (q_n S) < nI (q_n S + 1) := nI_lt (by omega) (by omega)
  refine ⟨_, ?_, hC.back hS.c5 hs hk5, (hFr.pI (by simp)).pI (by simp)⟩
  rw [e, zX4_paid_71]
  simp only [zX4_paid_73, zX4_paid_74, zX4_paid_77, zX4_paid_162, zX4_paid_163, zX4_paid_166, zX4_paid_168, zX4_paid_170, zX4_paid_171, zX4_paid_173, zX4_paid_174, zX4_paid_175, zX4_paid_178, zX4_paid_180, zX4_paid_182, zX4_paid_183, zX4_paid_185, zX4_paid_186, zX4_paid_188, six f hC, hc2, q_nlit6, q_nlit7, b6, b7, l6, l7, q_paid, e_k_int, e_k_ref, e_k_null, e_k_long, e_k_ret, e_cats_nil, e_cats_int, e_cats_ref, e_cats_ret, e_cats_long, Option.toList_some, Option.toList_none, List.nil_append, List.cons_append, Option.bind_some, Nat.reduceAdd, Nat.reduceLeDiff, Nat.add_zero, if_true, if_false, true_and, and_true, and_self, Int32.reduceToNatClampNeg, ok_1, ok_2, ok_3, ok_4, ok_5, ok_6, ok_7, ok_8, ok_9, ok_30, ok_31, ok_32, ok_33, ok_34, ok_35, ok_36, ok_37, ok_38, ok_39, ok_40, ok_41, ok_42, ok_43, ok_44, ok_45, ok_46, ok_47, ok_48, ok_49, ok_50, ok_51, ok_52, ln_1, ln_2, ln_4, ln_5, ln_6, ln_7, ln_8, ln_30, ln_31, ln_32, ln_33, ln_34, ln_35, ln_36, ln_37, ln_38, ln_39, ln_41, ln_42, ln_43, ln_44, ln_45, ln_46, ln_47, ln_48, ln_49, ln_50, ln_51, ln_52]
theorem r_M_paid_no {d : Nat} {S h : e_H} {a b c : Int32} (hS : q_ok S) (hM : q_M S h) (hh : ¬ q_two S a b c ∨ b = 0) : e_X e_pg (d + 10) 138 [.ref 40, .int a, .int b, .int c] h = some (some (.int (-2)), h) := by
  rw [xX4_paid]
  by_cases z : p_isE (e_gI S 1) a b = 0
  · simp only [zX4_paid_0, zX4_paid_1, zX4_paid_2, zX4_paid_3, zX4_paid_6, zX4_paid_9, zX4_paid_10, zX4_paid_13, zX4_paid_14, zX4_paid_15, zX4_paid_16, zX4_paid_17, zX4_paid_18, zX4_paid_21, zX4_paid_24, zX4_paid_26, r_M_isMan hS hM, z, e_k_int, e_k_ref, e_k_null, e_k_long, e_k_ret, e_cats_nil, e_cats_int, e_cats_ref, e_cats_ret, e_cats_long, Option.toList_some, Option.toList_none, List.nil_append, List.cons_append, Option.bind_some, Nat.reduceAdd, Nat.reduceLeDiff, Nat.add_zero, if_true, if_false, true_and, and_true, and_self, Int32.reduceToNatClampNeg]
  · by_cases b0 : b = 0
    · subst b0
      simp only [zX4_paid_0, zX4_paid_1, zX4_paid_2, zX4_paid_3, zX4_paid_6, zX4_paid_9, zX4_paid_10, zX4_paid_13, zX4_paid_14, zX4_paid_15, zX4_paid_16, zX4_paid_17, zX4_paid_18, zX4_paid_21, zX4_paid_24, zX4_paid_26, r_M_isMan hS hM, z, e_k_int, e_k_ref, e_k_null, e_k_long, e_k_ret, e_cats_nil, e_cats_int, e_cats_ref, e_cats_ret, e_cats_long, Option.toList_some, Option.toList_none, List.nil_append, List.cons_append, Option.bind_some, Nat.reduceAdd, Nat.reduceLeDiff, Nat.add_zero, if_true, if_false, true_and, and_true, and_self, Int32.reduceToNatClampNeg]
    · have hh := hh.resolve_right b0
      have z2 : p_isE (e_gI S 1) (1 - a) c = 0 := (q_two_no hS hh).resolve_left z
      simp only [zX4_paid_0, zX4_paid_1, zX4_paid_2, zX4_paid_3, zX4_paid_6, zX4_paid_9, zX4_paid_10, zX4_paid_13, zX4_paid_14, zX4_paid_15, zX4_paid_16, zX4_paid_17, zX4_paid_18, zX4_paid_21, zX4_paid_24, zX4_paid_26, r_M_isMan hS hM, z, z2, b0, not_true_eq_false, e_k_int, e_k_ref, e_k_null, e_k_long, e_k_ret, e_cats_nil, e_cats_int, e_cats_ref, e_cats_ret, e_cats_long, Option.toList_some, Option.toList_none, List.nil_append, List.cons_append, Option.bind_some, Nat.reduceAdd, Nat.reduceLeDiff, Nat.add_zero, if_true, if_false, true_and, and_true, and_self, Int32.reduceToNatClampNeg]
set_option maxRecDepth 100000 in
theorem r_M_hard {d s k m : Nat} {S h : e_H} (hS : q_ok S) (hM : q_M S h) (hs : s < 2) (hk : k < q_c S s) (hm : m < q_c S (1 - s)) : ∃ f, e_X e_pg (d + 8) 139 [.ref 40, .int (nI s), .int (nI k), .int (nI m)] h = some (some (.int (q_hard S s k m)), f) ∧ q_M S f ∧ e_fr q_lM h f := by
  have cs := (hS.c hs).2
  have co := (hS.c (show 1 - s < 2 by omega)).2
  have hn := hS.n
  have hn2 := hn.2
  have hk5 : k < 5 := by omega
  have hm5 : m < 5 := by omega
  have hx := q_x_lt hs hk5
  have b5 : e_inb (nI (9 * q_x s k + 5)) 90 = true := e_inb_nI (by omega) (by decide)
  have l5 : (nI (9 * q_x s k + 5)).toNatClampNeg = 9 * q_x s k + 5 := nI_clamp (by omega)
  have n5 := hM.N hs hk5 (show 5 < 9 by decide)
  have six : ∀ g u, q_M (e_pI S (q_x s k + 20) 5 u) g → e_gI g 40 0 = nI (q_n S) := by
    rintro g u hC
    rw [hC.1.1, e_pI_o (by omega)]
    exact hn.1
  have hi : q_pi s k m < 5 := by unfold q_pi; split <;> assumption
  have hj : q_pj s k m < 5 := by unfold q_pj; split <;> assumption
  rw [xX4_hard]
  simp only [zX4_hard_0, zX4_hard_1, zX4_hard_2, zX4_hard_3, zX4_hard_6, zX4_hard_9, zX4_hard_10, zX4_hard_11, zX4_hard_12, zX4_hard_13, zX4_hard_14, zX4_hard_17, zX4_hard_20, zX4_hard_22, zX4_hard_23, zX4_hard_25, zX4_hard_26, zX4_hard_27, zX4_hard_29, zX4_hard_30, zX4_hard_31, zX4_hard_32, zX4_hard_33, zX4_hard_34, zX4_hard_36, zX4_hard_37, zX4_hard_40, zX4_hard_42, zX4_hard_43, zX4_hard_45, zX4_hard_46, zX4_hard_48, zX4_hard_49, r_M_isMan hS hM, p_isE_yes hS hs hk, nI_1s hs, p_isE_yes hS (show 1 - s < 2 by omega) hm, q_at, q_nlit5, b5, l5, n5, ne_0_1, ne_0_2, ne_0_3, ne_1_0, ne_1_2, ne_1_3, ne_2_0, ne_2_1, ne_2_3, ne_3_0, ne_3_1, ne_3_2, not_false_eq_true, e_k_int, e_k_ref, e_k_null, e_k_long, e_k_ret, e_cats_nil, e_cats_int, e_cats_ref, e_cats_ret, e_cats_long, Option.toList_some, Option.toList_none, List.nil_append, List.cons_append, Option.bind_some, Nat.reduceAdd, Nat.reduceLeDiff, Nat.add_zero, if_true, if_false, true_and, and_true, and_self, Int32.reduceToNatClampNeg, ok_1, ok_2, ok_3, ok_4, ok_5, ok_6, ok_7, ok_8, ok_9, ok_30, ok_31, ok_32, ok_33, ok_34, ok_35, ok_36, ok_37, ok_38, ok_39, ok_40, ok_41, ok_42, ok_43, ok_44, ok_45, ok_46, ok_47, ok_48, ok_49, ok_50, ok_51, ok_52, ln_1, ln_2, ln_4, ln_5, ln_6, ln_7, ln_8, ln_30, ln_31, ln_32, ln_33, ln_34, ln_35, ln_36, ln_37, ln_38, ln_39, ln_41, ln_42, ln_43, ln_44, ln_45, ln_46, ln_47, ln_48, ln_49, ln_50, ln_51, ln_52]
  obtain ⟨ls2, f, e, ⟨rfl⟩, ⟨u, hC⟩, hFr⟩ := f_lp (cd := kX4_hard) (O := e_X e_pg (d + 7)) (pc := 51) (fun t ls g => ls = [.ref 40, .int (nI s), .int (nI k), .int (nI m), .int (nI (9 * q_x s k + 5)), .int (q_N S s k 5), .int (q_hup (q_hP S s k m) t), .int (nI t)] ∧ (∃ u, q_M (e_pI S (q_x s k + 20) 5 u) g) ∧ e_fr q_lM h g) (Nat.zero_le (q_n S + 1)) (by
    rintro t ls g - ht ⟨rfl, ⟨u, hC⟩, hFr⟩
    have hc : ¬ nI (q_n S) < nI t := nI_nlt (by omega) (by omega)
    have hS2 := hS.putN hs hk5 (w := 5) (rg5 (t := t) (by omega))
    have hC2 : q_M (e_pI S (q_x s k + 20) 5 (nI t)) (e_pI g 41 (9 * q_x s k + 5) (nI t)) := by
      have := hC.putN (q_c5_pI (by omega) hS.c5) hs hk5 (w := 5) (by decide) (nI t)
      rw [e_pI_pI] at this
      exact this
    have nx : q_hup (q_hP S s k m) (t + 1) = if q_hP S s k m t = true then nI t else q_hup (q_hP S s k m) t := rfl
    obtain ⟨f, m1, m2⟩ := r_M_settleTwo (d := d) hS2 hC2 (a := nI (q_pi s k m)) (b := nI (q_pj s k m)) rfl rfl hi hj
    have f24 := m2.2.2.1
    have hC3 := hC2.mf m2.1
    have hFr3 : e_fr q_lM h f := (hFr.pI (by simp)).trans m2.1.fr
    rw [nx, zX4_hard_51]
    unfold q_hP
    by_cases c : (q_res (e_pI S (q_x s k + 20) 5 (nI t)) (q_pi s k m) (q_pj s k m)).1 = -5
    · rcases (show s = 0 ∨ s = 1 by omega) with rfl | rfl
      · simp only [q_pi, q_pj, show nI 0 = (0 : Int32) from rfl, if_true] at m1 c f24 ⊢
        simp only [zX4_hard_53, zX4_hard_54, zX4_hard_57, zX4_hard_60, zX4_hard_61, zX4_hard_64, zX4_hard_66, zX4_hard_68, zX4_hard_69, zX4_hard_70, zX4_hard_71, zX4_hard_74, zX4_hard_75, zX4_hard_78, zX4_hard_79, zX4_hard_80, zX4_hard_83, zX4_hard_84, zX4_hard_87, zX4_hard_88, zX4_hard_91, zX4_hard_92, zX4_hard_95, zX4_hard_97, zX4_hard_100, zX4_hard_102, zX4_hard_105, zX4_hard_107, zX4_hard_109, zX4_hard_112, six g u hC, hc, b5, l5, m1, f24, c, nI_1, not_true_eq_false, decide_false, Bool.false_eq_true, e_k_int, e_k_ref, e_k_null, e_k_long, e_k_ret, e_cats_nil, e_cats_int, e_cats_ref, e_cats_ret, e_cats_long, Option.toList_some, Option.toList_none, List.nil_append, List.cons_append, Option.bind_some, Nat.reduceAdd, Nat.reduceLeDiff, Nat.add_zero, if_true, if_false, true_and, and_true, and_self, Int32.reduceToNatClampNeg, ok_1, ok_2, ok_3, ok_4, ok_5, ok_6, ok_7, ok_8, ok_9, ok_30, ok_31, ok_32, ok_33, ok_34, ok_35, ok_36, ok_37, ok_38, ok_39, ok_40, ok_41, ok_42, ok_43, ok_44, ok_45, ok_46, ok_47, ok_48, ok_49, ok_50, ok_51, ok_52, ln_1, ln_2, ln_4, ln_5, ln_6, ln_7, ln_8, ln_30, ln_31, ln_32, ln_33, ln_34, ln_35, ln_36, ln_37, ln_38, ln_39, ln_41, ln_42, ln_43, ln_44, ln_45, ln_46, ln_47, ln_48, ln_49, ln_50, ln_51, ln_52]
        exact ⟨_, _, rfl, rfl, ⟨_, hC3⟩, hFr3⟩
      · simp only [q_pi, q_pj, show nI 1 = (1 : Int32) from rfl, Nat.one_ne_zero, if_false] at m1 c f24 ⊢
        simp only [zX4_hard_53, zX4_hard_54, zX4_hard_57, zX4_hard_60, zX4_hard_61, zX4_hard_64, zX4_hard_66, zX4_hard_68, zX4_hard_69, zX4_hard_70, zX4_hard_71, zX4_hard_74, zX4_hard_75, zX4_hard_78, zX4_hard_79, zX4_hard_80, zX4_hard_83, zX4_hard_84, zX4_hard_87, zX4_hard_88, zX4_hard_91, zX4_hard_92, zX4_hard_95, zX4_hard_97, zX4_hard_100, zX4_hard_102, zX4_hard_105, zX4_hard_107, zX4_hard_109, zX4_hard_112, six g u hC, hc, b5, l5, m1, f24, c, nI_1, not_true_eq_false, not_false_eq_true, decide_false, Bool.false_eq_true, ne_0_1, ne_0_2, ne_0_3, ne_1_0, ne_1_2, ne_1_3, ne_2_0, ne_2_1, ne_2_3, ne_3_0, ne_3_1, ne_3_2, e_k_int, e_k_ref, e_k_null, e_k_long, e_k_ret, e_cats_nil, e_cats_int, e_cats_ref, e_cats_ret, e_cats_long, Option.toList_some, Option.toList_none, List.nil_append, List.cons_append, Option.bind_some, Nat.reduceAdd, Nat.reduceLeDiff, Nat.add_zero, if_true, if_false, true_and, and_true, and_self, Int32.reduceToNatClampNeg, ok_1, ok_2, ok_3, ok_4, ok_5, ok_6, ok_7, ok_8, ok_9, ok_30, ok_31, ok_32, ok_33, ok_34, ok_35, ok_36, ok_37, ok_38, ok_39, ok_40, ok_41, ok_42, ok_43, ok_44, ok_45, ok_46, ok_47, ok_48, ok_49, ok_50, ok_51, ok_52, ln_1, ln_2, ln_4, ln_5, ln_6, ln_7, ln_8, ln_30, ln_31, ln_32, ln_33, ln_34, ln_35, ln_36, ln_37, ln_38, ln_39, ln_41, ln_42, ln_43, ln_44, ln_45, ln_46, ln_47, ln_48, ln_49, ln_50, ln_51, ln_52]
        exact ⟨_, _, rfl, rfl, ⟨_, hC3⟩, hFr3⟩
    · rcases (show s = 0 ∨ s = 1 by omega) with rfl | rfl
      · simp only [q_pi, q_pj, show nI 0 = (0 : Int32) from rfl, if_true] at m1 c f24 ⊢
        simp only [zX4_hard_53, zX4_hard_54, zX4_hard_57, zX4_hard_60, zX4_hard_61, zX4_hard_64, zX4_hard_66, zX4_hard_68, zX4_hard_69, zX4_hard_70, zX4_hard_71, zX4_hard_74, zX4_hard_75, zX4_hard_78, zX4_hard_79, zX4_hard_80, zX4_hard_83, zX4_hard_84, zX4_hard_87, zX4_hard_88, zX4_hard_91, zX4_hard_92, zX4_hard_95, zX4_hard_97, zX4_hard_100, zX4_hard_102, zX4_hard_105, zX4_hard_107, zX4_hard_109, zX4_hard_112, six g u hC, hc, b5, l5, m1, f24, c, nI_1, not_true_eq_false, not_false_eq_true, decide_true, e_k_int, e_k_ref, e_k_null, e_k_long, e_k_ret, e_cats_nil, e_cats_int, e_cats_ref, e_cats_ret, e_cats_long, Option.toList_some, Option.toList_none, List.nil_append, List.cons_append, Option.bind_some, Nat.reduceAdd, Nat.reduceLeDiff, Nat.add_zero, if_true, if_false, true_and, and_true, and_self, Int32.reduceToNatClampNeg, ok_1, ok_2, ok_3, ok_4, ok_5, ok_6, ok_7, ok_8, ok_9, ok_30, ok_31, ok_32, ok_33, ok_34, ok_35, ok_36, ok_37, ok_38, ok_39, ok_40, ok_41, ok_42, ok_43, ok_44, ok_45, ok_46, ok_47, ok_48, ok_49, ok_50, ok_51, ok_52, ln_1, ln_2, ln_4, ln_5, ln_6, ln_7, ln_8, ln_30, ln_31, ln_32, ln_33, ln_34, ln_35, ln_36, ln_37, ln_38, ln_39, ln_41, ln_42, ln_43, ln_44, ln_45, ln_46, ln_47, ln_48, ln_49, ln_50, ln_51, ln_52]
        exact ⟨_, _, rfl, rfl, ⟨_, hC3⟩, hFr3⟩
      · simp only [q_pi, q_pj, show nI 1 = (1 : Int32) from rfl, Nat.one_ne_zero, if_false] at m1 c f24 ⊢
        simp only [zX4_hard_53, zX4_hard_54, zX4_hard_57, zX4_hard_60, zX4_hard_61, zX4_hard_64, zX4_hard_66, zX4_hard_68, zX4_hard_69, zX4_hard_70, zX4_hard_71, zX4_hard_74, zX4_hard_75, zX4_hard_78, zX4_hard_79, zX4_hard_80, zX4_hard_83, zX4_hard_84, zX4_hard_87, zX4_hard_88, zX4_hard_91, zX4_hard_92, zX4_hard_95, zX4_hard_97, zX4_hard_100, zX4_hard_102, zX4_hard_105, zX4_hard_107, zX4_hard_109, zX4_hard_112, six g u hC, hc, b5, l5, m1, f24, c, nI_1, not_true_eq_false, not_false_eq_true, decide_true, ne_0_1, ne_0_2, ne_0_3, ne_1_0, ne_1_2, ne_1_3, ne_2_0, ne_2_1, ne_2_3, ne_3_0, ne_3_1, ne_3_2, e_k_int, e_k_ref, e_k_null, e_k_long, e_k_ret, e_cats_nil, e_cats_int, e_cats_ref, e_cats_ret, e_cats_long, Option.toList_some, Option.toList_none, List.nil_append, List.cons_append, Option.bind_some, Nat.reduceAdd, Nat.reduceLeDiff, Nat.add_zero, if_true, if_false, true_and, and_true, and_self, Int32.reduceToNatClampNeg, ok_1, ok_2, ok_3, ok_4, ok_5, ok_6, ok_7, ok_8, ok_9, ok_30, ok_31, ok_32, ok_33, ok_34, ok_35, ok_36, ok_37, ok_38, ok_39, ok_40, ok_41, ok_42, ok_43, ok_44, ok_45, ok_46, ok_47, ok_48, ok_49, ok_50, ok_51, ok_52, ln_1, ln_2, ln_4, ln_5, ln_6, ln_7, ln_8, ln_30, ln_31, ln_32, ln_33, ln_34, ln_35, ln_36, ln_37, ln_38, ln_39, ln_41, ln_42, ln_43, ln_44, ln_45, ln_46, ln_47, ln_48, ln_49, ln_50, ln_51, ln_52]
        exact ⟨_, _, rfl, rfl, ⟨_, hC3⟩, hFr3⟩) (ls := [.ref 40, .int (nI s), .int (nI k), .int (nI m), .int (nI (9 * q_x s k + 5)), .int (q_N S s k 5), .int (-1), .int 0]) (h := h) ⟨rfl, ⟨e_gI S (q_x s k + 20) 5, by rw [e_pI_self]; exact hM⟩, e_fr.refl _ _⟩
  have hc2 : nI (q_n S) < nI (q_n S + 1) := nI_lt (by omega) (by omega)
  refine ⟨e_pI f 41 (9 * q_x s k + 5) (q_N S s k 5), ?_, ?_, hFr.pI (by simp)⟩
  · rw [e, zX4_hard_51]
    simp only [zX4_hard_53, zX4_hard_54, zX4_hard_57, zX4_hard_115, zX4_hard_116, zX4_hard_119, zX4_hard_121, zX4_hard_123, zX4_hard_124, zX4_hard_126, six f u hC, hc2, b5, l5, q_hard, e_k_int, e_k_ref, e_k_null, e_k_long, e_k_ret, e_cats_nil, e_cats_int, e_cats_ref, e_cats_ret, e_cats_long, Option.toList_some, Option.toList_none, List.nil_append, List.cons_append, Option.bind_some, Nat.reduceAdd, Nat.reduceLeDiff, Nat.add_zero, if_true, if_false, true_and, and_true, and_self, Int32.reduceToNatClampNeg, ok_1, ok_2, ok_3, ok_4, ok_5, ok_6, ok_7, ok_8, ok_9, ok_30, ok_31, ok_32, ok_33, ok_34, ok_35, ok_36, ok_37, ok_38, ok_39, ok_40, ok_41, ok_42, ok_43, ok_44, ok_45, ok_46, ok_47, ok_48, ok_49, ok_50, ok_51, ok_52, ln_1, ln_2, ln_4, ln_5, ln_6, ln_7, ln_8, ln_30, ln_31, ln_32, ln_33, ln_34, ln_35, ln_36, ln_37, ln_38, ln_39, ln_41, ln_42, ln_43, ln_44, ln_45, ln_46, ln_47, ln_48, ln_49, ln_50, ln_51, ln_52]
  · have := hC.putN (q_c5_pI (by omega) hS.c5) hs hk5 (w := 5) (by decide) (q_N S s k 5)
    rw [e_pI_pI] at this
    unfold q_N at this ⊢
    rw [e_pI_self] at this
    exact this
theorem r_M_hard_no {d : Nat} {S h : e_H} {a b c : Int32} (hS : q_ok S) (hM : q_M S h) (hh : ¬ q_two S a b c) : e_X e_pg (d + 8) 139 [.ref 40, .int a, .int b, .int c] h = some (some (.int (-2)), h) := by
  rw [xX4_hard]
  by_cases z : p_isE (e_gI S 1) a b = 0
  · simp only [zX4_hard_0, zX4_hard_1, zX4_hard_2, zX4_hard_3, zX4_hard_6, zX4_hard_9, zX4_hard_10, zX4_hard_11, zX4_hard_12, zX4_hard_13, zX4_hard_14, zX4_hard_17, zX4_hard_20, zX4_hard_22, r_M_isMan hS hM, z, e_k_int, e_k_ref, e_k_null, e_k_long, e_k_ret, e_cats_nil, e_cats_int, e_cats_ref, e_cats_ret, e_cats_long, Option.toList_some, Option.toList_none, List.nil_append, List.cons_append, Option.bind_some, Nat.reduceAdd, Nat.reduceLeDiff, Nat.add_zero, if_true, if_false, true_and, and_true, and_self, Int32.reduceToNatClampNeg]
  · have z2 : p_isE (e_gI S 1) (1 - a) c = 0 := (q_two_no hS hh).resolve_left z
    simp only [zX4_hard_0, zX4_hard_1, zX4_hard_2, zX4_hard_3, zX4_hard_6, zX4_hard_9, zX4_hard_10, zX4_hard_11, zX4_hard_12, zX4_hard_13, zX4_hard_14, zX4_hard_17, zX4_hard_20, zX4_hard_22, r_M_isMan hS hM, z, z2, not_true_eq_false, e_k_int, e_k_ref, e_k_null, e_k_long, e_k_ret, e_cats_nil, e_cats_int, e_cats_ref, e_cats_ret, e_cats_long, Option.toList_some, Option.toList_none, List.nil_append, List.cons_append, Option.bind_some, Nat.reduceAdd, Nat.reduceLeDiff, Nat.add_zero, if_true, if_false, true_and, and_true, and_self, Int32.reduceToNatClampNeg]
