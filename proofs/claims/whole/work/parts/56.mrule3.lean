/-! the steps of the model's reader -/
noncomputable def m_H (d op : Nat) (w : Int32) (a4 : Value) (g : e_H) : Option e_R := e_F kX4_reads (e_X e_pg (d + 3)) 26 [.ref 40, .int (nI op), .int w, .int 1, a4] [] g
def m_E (h g : e_H) (fl : Int32) (told : Int64) : Prop := m_Fr h g ∧ e_gI g 40 14 = fl ∧ e_gJ g 40 20 = told
theorem m_Fr.p20 {h g : e_H} (a : m_Fr h g) {v : Int64} : m_Fr h (e_pJ g 40 20 v) := by
  refine ⟨a.1.pJ (by simp), fun j h1 h2 h3 h4 => a.2.1 j h1 h2 h3 h4, fun j hj => ?_⟩
  rw [e_gJ_pJ, if_neg (by omega)]
  exact a.2.2 j hj
theorem m_end {d op n : Nat} {w : Int32} {a4 : Value} {T : Nat → Int32} {h g : e_H} {fl : Int32} {p : Nat} {vs : List Int64} {ss : List Int32} (hP : m_P T n h g fl p vs ss) (hf : ¬ fl = -1) : ∃ g2, m_H d op w a4 g = some (some (.int 0), g2) ∧ m_E h g2 fl 0 := by
  have h4 := hP.2.2.2.1
  refine ⟨e_pJ g 40 20 0, ?_, hP.2.2.1.p20, by rw [e_gI_pJ]; exact h4, by rw [e_gJ_pJ, if_pos ⟨rfl, rfl⟩]⟩
  unfold m_H
  rw [zX4_reads_26]
  simp only [zX4_reads_27, zX4_reads_30, zX4_reads_31, zX4_reads_34, zX4_reads_35, zX4_reads_488, zX4_reads_489, zX4_reads_490, zX4_reads_493, zX4_reads_494, zX4_reads_497, zX4_reads_498, zX4_reads_501, zX4_reads_502, zX4_reads_503, zX4_reads_506, zX4_reads_507, zX4_reads_510, zX4_reads_511, zX4_reads_514, zX4_reads_515, zX4_reads_518, zX4_reads_519, zX4_reads_522, zX4_reads_523, h4, hf, e_gI_pJ, ne_0_1, ne_0_2, ne_0_3, ne_1_0, ne_1_2, ne_1_3, ne_2_0, ne_2_1, ne_2_3, ne_3_0, ne_3_1, ne_3_2, not_false_eq_true, true_or, e_k_int, e_k_ref, e_k_null, e_k_long, e_k_ret, e_cats_nil, e_cats_int, e_cats_ref, e_cats_ret, e_cats_long, Option.toList_some, Option.toList_none, List.nil_append, List.cons_append, Option.bind_some, Nat.reduceAdd, Nat.reduceLeDiff, Nat.add_zero, if_true, if_false, true_and, and_true, and_self, Int32.reduceToNatClampNeg]
/-- 1, 2: digits -/
theorem m_s_dig {d op n : Nat} (hn : n ≤ 40) {a4 : Value} {T : Nat → Int32} {h g : e_H} {p : Nat} {V : List Int64} {U S : List Int32} (hP : m_P T n h g (-1) p V (U ++ S)) (hc : ¬ c_dig (c_ch T n (c_skip T n p)) = 0) (hV : V.length < 64) (hS : ∀ c R, S = c :: R → c ≤ 1000) (hU : ∀ u ∈ U, u = 1001 ∨ u = 1002) :
    (m_nd T n (c_skip T n p) 7 (c_skip T n p) 0 = none ∧ ∃ g2, m_H d op 1 a4 g = some (some (.int 0), g2) ∧ m_E h g2 (10 * nI (c_skip T n p) + 2) 0) ∨ (∃ g2 p2 w a5, m_nd T n (c_skip T n p) 7 (c_skip T n p) 0 = some (p2, w) ∧ m_H d op 1 a4 g = m_H d op 0 a5 g2 ∧ m_P T n h g2 (-1) p2 (m_un U w.toInt64 :: V) S) := by
  obtain ⟨g1, a1, a2⟩ := r_M_ahead (d := d + 2) hn hP
  have hin := r_in32 (d := d + 2) (v := c_ch T n (c_skip T n p)) (k := 48) (m := 57) (a := 48) (b := 57) (h := g1) rfl rfl
  rw [c_dig_in] at hin
  have f0 := hP.2.2.2.1
  have hle := (c_skip_le (T := T) hP.2.2.2.2.2.1).2
  rcases r_M_digits (d := d + 1) hn a2 with ⟨g2, q1, q2, p2, q3⟩ | ⟨g2, p2, w, q1, q2, q3, q4⟩
  · obtain ⟨g3, s1, s2⟩ := r_M_stands (d := d + 2) (w := 0) hV hS hU q3
    have hne : ¬ 10 * nI (c_skip T n p) + 2 = -1 := by
      intro z
      have hh : (10 * nI (c_skip T n p) + 2).toInt = -1 := by rw [z]; rfl
      rw [show (10 : Int32) = nI 10 from rfl, show (2 : Int32) = nI 2 from rfl, pk_mul, nI_add, nI_toInt (by omega)] at hh
      omega
    obtain ⟨g4, e1, e2⟩ := m_end (d := d) (op := op) (w := 0) (a4 := .int (c_ch T n (c_skip T n p))) s2 hne
    refine Or.inl ⟨q1, g4, ?_, e2⟩
    unfold m_H at e1 ⊢
    rw [zX4_reads_26]
    simp only [zX4_reads_27, zX4_reads_30, zX4_reads_31, zX4_reads_34, zX4_reads_35, zX4_reads_38, zX4_reads_39, zX4_reads_42, zX4_reads_44, zX4_reads_45, zX4_reads_48, zX4_reads_50, zX4_reads_51, zX4_reads_54, zX4_reads_57, zX4_reads_60, zX4_reads_63, zX4_reads_64, zX4_reads_65, zX4_reads_68, zX4_reads_71, zX4_reads_72, zX4_reads_73, zX4_reads_485, f0, a1, hin, hc, q2, s1, ne_0_1, ne_0_2, ne_0_3, ne_1_0, ne_1_2, ne_1_3, ne_2_0, ne_2_1, ne_2_3, ne_3_0, ne_3_1, ne_3_2, not_true_eq_false, e_k_int, e_k_ref, e_k_null, e_k_long, e_k_ret, e_cats_nil, e_cats_int, e_cats_ref, e_cats_ret, e_cats_long, Option.toList_some, Option.toList_none, List.nil_append, List.cons_append, Option.bind_some, Nat.reduceAdd, Nat.reduceLeDiff, Nat.add_zero, if_true, if_false, true_and, and_true, and_self, Int32.reduceToNatClampNeg]
    exact e1
  · obtain ⟨g3, s1, s2⟩ := r_M_stands (d := d + 2) (w := w.toInt64) hV hS hU q4
    refine Or.inr ⟨g3, p2, w, .int (c_ch T n (c_skip T n p)), q1, ?_, s2⟩
    unfold m_H
    rw [zX4_reads_26]
    simp only [zX4_reads_27, zX4_reads_30, zX4_reads_31, zX4_reads_34, zX4_reads_35, zX4_reads_38, zX4_reads_39, zX4_reads_42, zX4_reads_44, zX4_reads_45, zX4_reads_48, zX4_reads_50, zX4_reads_51, zX4_reads_54, zX4_reads_57, zX4_reads_60, zX4_reads_63, zX4_reads_64, zX4_reads_65, zX4_reads_68, zX4_reads_71, zX4_reads_72, zX4_reads_73, zX4_reads_485, f0, a1, hin, hc, q3, s1, ne_0_1, ne_0_2, ne_0_3, ne_1_0, ne_1_2, ne_1_3, ne_2_0, ne_2_1, ne_2_3, ne_3_0, ne_3_1, ne_3_2, not_true_eq_false, e_k_int, e_k_ref, e_k_null, e_k_long, e_k_ret, e_cats_nil, e_cats_int, e_cats_ref, e_cats_ret, e_cats_long, Option.toList_some, Option.toList_none, List.nil_append, List.cons_append, Option.bind_some, Nat.reduceAdd, Nat.reduceLeDiff, Nat.add_zero, if_true, if_false, true_and, and_true, and_self, Int32.reduceToNatClampNeg]
/-- 3: a letter -/
theorem m_s_let {d op n : Nat} (hn : n ≤ 40) {a4 : Value} {T : Nat → Int32} {h g : e_H} {p : Nat} {V : List Int64} {U S : List Int32} (hP : m_P T n h g (-1) p V (U ++ S)) (hc : c_dig (c_ch T n (c_skip T n p)) = 0) (hl : ¬ c_let (c_ch T n (c_skip T n p)) = -1) (hV : V.length < 64) (hS : ∀ c R, S = c :: R → c ≤ 1000) (hU : ∀ u ∈ U, u = 1001 ∨ u = 1002) :
    ∃ g2 a5, m_H d op 1 a4 g = m_H d op 0 a5 g2 ∧ m_P T n h g2 (-1) (c_skip T n p + 1) (m_un U (e_gJ h 47 (c_let (c_ch T n (c_skip T n p))).toNatClampNeg) :: V) S := by
  obtain ⟨g1, a1, a2⟩ := r_M_ahead (d := d + 2) hn hP
  have hin := r_in32 (d := d + 2) (v := c_ch T n (c_skip T n p)) (k := 48) (m := 57) (a := 48) (b := 57) (h := g1) rfl rfl
  rw [c_dig_in] at hin
  have f0 := hP.2.2.2.1
  have hlt : c_skip T n p < n := c_ch_lt (by
    intro z
    rw [z] at hl
    exact hl rfl)
  have hP2 := a2.inc hlt
  obtain ⟨g3, s1, s2⟩ := r_M_stands (d := d + 2) (w := e_gJ h 47 (c_let (c_ch T n (c_skip T n p))).toNatClampNeg) hV hS hU hP2
  have hib : e_inb (c_let (c_ch T n (c_skip T n p))) 5 = true := by
    revert hl
    unfold c_let
    repeat' split
    all_goals first | (intro _; rfl) | (intro z; exact absurd rfl z)
  have n47 : ∀ k, e_gJ g1 47 k = e_gJ h 47 k := fun k => a2.2.2.1.1.2 47 k (by simp)
  refine ⟨g3, .int (c_ch T n (c_skip T n p)), ?_, s2⟩
  unfold m_H
  rw [zX4_reads_26]
  simp only [zX4_reads_27, zX4_reads_30, zX4_reads_31, zX4_reads_34, zX4_reads_35, zX4_reads_38, zX4_reads_39, zX4_reads_42, zX4_reads_44, zX4_reads_45, zX4_reads_48, zX4_reads_50, zX4_reads_51, zX4_reads_54, zX4_reads_57, zX4_reads_60, zX4_reads_63, zX4_reads_64, zX4_reads_65, zX4_reads_68, zX4_reads_71, zX4_reads_72, zX4_reads_73, zX4_reads_76, zX4_reads_78, zX4_reads_81, zX4_reads_82, zX4_reads_85, zX4_reads_86, zX4_reads_87, zX4_reads_90, zX4_reads_91, zX4_reads_92, zX4_reads_95, zX4_reads_96, zX4_reads_97, zX4_reads_100, zX4_reads_102, zX4_reads_105, zX4_reads_106, zX4_reads_109, zX4_reads_110, zX4_reads_111, zX4_reads_485, f0, a1, hin, hc, r_M_nameOf, hl, hib, e_gJ_pI, n47, s1, ne_0_1, ne_0_2, ne_0_3, ne_1_0, ne_1_2, ne_1_3, ne_2_0, ne_2_1, ne_2_3, ne_3_0, ne_3_1, ne_3_2, not_true_eq_false, e_k_int, e_k_ref, e_k_null, e_k_long, e_k_ret, e_cats_nil, e_cats_int, e_cats_ref, e_cats_ret, e_cats_long, Option.toList_some, Option.toList_none, List.nil_append, List.cons_append, Option.bind_some, Nat.reduceAdd, Nat.reduceLeDiff, Nat.add_zero, if_true, if_false, true_and, and_true, and_self, Int32.reduceToNatClampNeg, ok_1, ok_2, ok_3, ok_4, ok_5, ok_6, ok_7, ok_8, ok_9, ok_30, ok_31, ok_32, ok_33, ok_34, ok_35, ok_36, ok_37, ok_38, ok_39, ok_40, ok_41, ok_42, ok_43, ok_44, ok_45, ok_46, ok_47, ok_48, ok_49, ok_50, ok_51, ok_52, ln_1, ln_2, ln_4, ln_5, ln_6, ln_7, ln_8, ln_30, ln_31, ln_32, ln_33, ln_34, ln_35, ln_36, ln_37, ln_38, ln_39, ln_41, ln_42, ln_43, ln_44, ln_45, ln_46, ln_47, ln_48, ln_49, ln_50, ln_51, ln_52]
/-- 4: a sign of a unit -/
theorem m_s_un {d op n : Nat} (hn : n ≤ 40) {a4 : Value} {T : Nat → Int32} {h g : e_H} {p : Nat} {V : List Int64} {ss : List Int32} (hP : m_P T n h g (-1) p V ss) (hc : c_ch T n (c_skip T n p) = 33 ∨ c_ch T n (c_skip T n p) = 45) (hs : ss.length < 128) :
    ∃ g2 a5, m_H d op 1 a4 g = m_H d op 1 a5 g2 ∧ m_P T n h g2 (-1) (c_skip T n p + 1) V ((if c_ch T n (c_skip T n p) = 33 then 1001 else 1002) :: ss) := by
  obtain ⟨g1, a1, a2⟩ := r_M_ahead (d := d + 2) hn hP
  have hin := r_in32 (d := d + 2) (v := c_ch T n (c_skip T n p)) (k := 48) (m := 57) (a := 48) (b := 57) (h := g1) rfl rfl
  rw [c_dig_in] at hin
  have f0 := hP.2.2.2.1
  have hlt : c_skip T n p < n := c_ch_lt (by rcases hc with hc | hc <;> rw [hc] <;> decide)
  have hP2 := a2.inc hlt
  have h10 := a2.2.2.2.2.2.2.2.2.2.1
  have ib : e_inb (nI ss.length) 128 = true := e_inb_nI hs (by decide)
  have ic : (nI ss.length).toNatClampNeg = ss.length := nI_clamp (by omega)
  rcases hc with hc | hc
  · have hP3 := hP2.pushS 1001 hs
    refine ⟨_, .int 33, ?_, by rw [if_pos hc]; exact hP3⟩
    unfold m_H
    rw [hc] at a1 hin
    rw [zX4_reads_26]
    simp only [zX4_reads_27, zX4_reads_30, zX4_reads_31, zX4_reads_34, zX4_reads_35, zX4_reads_38, zX4_reads_39, zX4_reads_42, zX4_reads_44, zX4_reads_45, zX4_reads_48, zX4_reads_50, zX4_reads_51, zX4_reads_54, zX4_reads_57, zX4_reads_60, zX4_reads_63, zX4_reads_64, zX4_reads_65, zX4_reads_68, zX4_reads_71, zX4_reads_72, zX4_reads_73, zX4_reads_76, zX4_reads_78, zX4_reads_81, zX4_reads_82, zX4_reads_85, zX4_reads_86, zX4_reads_87, zX4_reads_90, zX4_reads_91, zX4_reads_92, zX4_reads_95, zX4_reads_96, zX4_reads_97, zX4_reads_100, zX4_reads_102, zX4_reads_105, zX4_reads_106, zX4_reads_109, zX4_reads_110, zX4_reads_111, zX4_reads_114, zX4_reads_116, zX4_reads_118, zX4_reads_121, zX4_reads_123, zX4_reads_125, zX4_reads_128, zX4_reads_129, zX4_reads_130, zX4_reads_133, zX4_reads_134, zX4_reads_135, zX4_reads_138, zX4_reads_139, zX4_reads_142, zX4_reads_143, zX4_reads_146, zX4_reads_148, zX4_reads_150, zX4_reads_153, zX4_reads_156, zX4_reads_159, zX4_reads_162, zX4_reads_163, zX4_reads_164, zX4_reads_165, zX4_reads_168, zX4_reads_169, zX4_reads_170, zX4_reads_173, zX4_reads_485, f0, a1, hin, show c_dig 33 = 0 from rfl, r_M_nameOf, show c_let 33 = -1 from rfl, h10, ib, ic, e_gI_pI, Nat.reduceEqDiff, and_false, false_and, nI_1, ne_0_1, ne_0_2, ne_0_3, ne_1_0, ne_1_2, ne_1_3, ne_2_0, ne_2_1, ne_2_3, ne_3_0, ne_3_1, ne_3_2, not_true_eq_false, e_k_int, e_k_ref, e_k_null, e_k_long, e_k_ret, e_cats_nil, e_cats_int, e_cats_ref, e_cats_ret, e_cats_long, Option.toList_some, Option.toList_none, List.nil_append, List.cons_append, Option.bind_some, Nat.reduceAdd, Nat.reduceLeDiff, Nat.add_zero, if_true, if_false, true_and, and_true, and_self, Int32.reduceToNatClampNeg, ok_1, ok_2, ok_3, ok_4, ok_5, ok_6, ok_7, ok_8, ok_9, ok_30, ok_31, ok_32, ok_33, ok_34, ok_35, ok_36, ok_37, ok_38, ok_39, ok_40, ok_41, ok_42, ok_43, ok_44, ok_45, ok_46, ok_47, ok_48, ok_49, ok_50, ok_51, ok_52, ln_1, ln_2, ln_4, ln_5, ln_6, ln_7, ln_8, ln_30, ln_31, ln_32, ln_33, ln_34, ln_35, ln_36, ln_37, ln_38, ln_39, ln_41, ln_42, ln_43, ln_44, ln_45, ln_46, ln_47, ln_48, ln_49, ln_50, ln_51, ln_52]
  · have hP3 := hP2.pushS 1002 hs
    refine ⟨_, .int 45, ?_, by rw [if_neg (by rw [hc]; decide)]; exact hP3⟩
    unfold m_H
    rw [hc] at a1 hin
    rw [zX4_reads_26]
    simp only [zX4_reads_27, zX4_reads_30, zX4_reads_31, zX4_reads_34, zX4_reads_35, zX4_reads_38, zX4_reads_39, zX4_reads_42, zX4_reads_44, zX4_reads_45, zX4_reads_48, zX4_reads_50, zX4_reads_51, zX4_reads_54, zX4_reads_57, zX4_reads_60, zX4_reads_63, zX4_reads_64, zX4_reads_65, zX4_reads_68, zX4_reads_71, zX4_reads_72, zX4_reads_73, zX4_reads_76, zX4_reads_78, zX4_reads_81, zX4_reads_82, zX4_reads_85, zX4_reads_86, zX4_reads_87, zX4_reads_90, zX4_reads_91, zX4_reads_92, zX4_reads_95, zX4_reads_96, zX4_reads_97, zX4_reads_100, zX4_reads_102, zX4_reads_105, zX4_reads_106, zX4_reads_109, zX4_reads_110, zX4_reads_111, zX4_reads_114, zX4_reads_116, zX4_reads_118, zX4_reads_121, zX4_reads_123, zX4_reads_125, zX4_reads_128, zX4_reads_129, zX4_reads_130, zX4_reads_133, zX4_reads_134, zX4_reads_135, zX4_reads_138, zX4_reads_139, zX4_reads_142, zX4_reads_143, zX4_reads_146, zX4_reads_148, zX4_reads_150, zX4_reads_153, zX4_reads_156, zX4_reads_159, zX4_reads_162, zX4_reads_163, zX4_reads_164, zX4_reads_165, zX4_reads_168, zX4_reads_169, zX4_reads_170, zX4_reads_173, zX4_reads_485, f0, a1, hin, show c_dig 45 = 0 from rfl, r_M_nameOf, show c_let 45 = -1 from rfl, show ¬ (45 : Int32) = 33 from by decide, h10, ib, ic, e_gI_pI, Nat.reduceEqDiff, and_false, false_and, nI_1, ne_0_1, ne_0_2, ne_0_3, ne_1_0, ne_1_2, ne_1_3, ne_2_0, ne_2_1, ne_2_3, ne_3_0, ne_3_1, ne_3_2, not_true_eq_false, not_false_eq_true, e_k_int, e_k_ref, e_k_null, e_k_long, e_k_ret, e_cats_nil, e_cats_int, e_cats_ref, e_cats_ret, e_cats_long, Option.toList_some, Option.toList_none, List.nil_append, List.cons_append, Option.bind_some, Nat.reduceAdd, Nat.reduceLeDiff, Nat.add_zero, if_true, if_false, true_and, and_true, and_self, Int32.reduceToNatClampNeg, ok_1, ok_2, ok_3, ok_4, ok_5, ok_6, ok_7, ok_8, ok_9, ok_30, ok_31, ok_32, ok_33, ok_34, ok_35, ok_36, ok_37, ok_38, ok_39, ok_40, ok_41, ok_42, ok_43, ok_44, ok_45, ok_46, ok_47, ok_48, ok_49, ok_50, ok_51, ok_52, ln_1, ln_2, ln_4, ln_5, ln_6, ln_7, ln_8, ln_30, ln_31, ln_32, ln_33, ln_34, ln_35, ln_36, ln_37, ln_38, ln_39, ln_41, ln_42, ln_43, ln_44, ln_45, ln_46, ln_47, ln_48, ln_49, ln_50, ln_51, ln_52]
/-- 5: ( -/
theorem m_s_open {d op n : Nat} (hn : n ≤ 40) {a4 : Value} {T : Nat → Int32} {h g : e_H} {p : Nat} {V : List Int64} {ss : List Int32} (hP : m_P T n h g (-1) p V ss) (hc : c_ch T n (c_skip T n p) = 40) (hop : op < 8) (hs : ss.length < 128) :
    ∃ g2 a5, m_H d op 1 a4 g = m_H d (op + 1) 1 a5 g2 ∧ m_P T n h g2 (-1) (c_skip T n p + 1) V (1000 :: ss) := by
  obtain ⟨g1, a1, a2⟩ := r_M_ahead (d := d + 2) hn hP
  have hin := r_in32 (d := d + 2) (v := c_ch T n (c_skip T n p)) (k := 48) (m := 57) (a := 48) (b := 57) (h := g1) rfl rfl
  rw [c_dig_in] at hin
  have f0 := hP.2.2.2.1
  have hlt : c_skip T n p < n := c_ch_lt (by rw [hc]; decide)
  have hP2 := a2.inc hlt
  have h10 := a2.2.2.2.2.2.2.2.2.2.1
  have ib : e_inb (nI ss.length) 128 = true := e_inb_nI hs (by decide)
  have ic : (nI ss.length).toNatClampNeg = ss.length := nI_clamp (by omega)
  have h8 : ¬ 8 ≤ nI op := by rw [show (8 : Int32) = nI 8 from rfl]; exact nI_ge hop (by decide)
  have hP3 := hP2.pushS 1000 hs
  refine ⟨_, .int 40, ?_, hP3⟩
  unfold m_H
  rw [hc] at a1 hin
  rw [zX4_reads_26]
  simp only [zX4_reads_27, zX4_reads_30, zX4_reads_31, zX4_reads_34, zX4_reads_35, zX4_reads_38, zX4_reads_39, zX4_reads_42, zX4_reads_44, zX4_reads_45, zX4_reads_48, zX4_reads_50, zX4_reads_51, zX4_reads_54, zX4_reads_57, zX4_reads_60, zX4_reads_63, zX4_reads_64, zX4_reads_65, zX4_reads_68, zX4_reads_71, zX4_reads_72, zX4_reads_73, zX4_reads_76, zX4_reads_78, zX4_reads_81, zX4_reads_82, zX4_reads_85, zX4_reads_86, zX4_reads_87, zX4_reads_90, zX4_reads_91, zX4_reads_92, zX4_reads_95, zX4_reads_96, zX4_reads_97, zX4_reads_100, zX4_reads_102, zX4_reads_105, zX4_reads_106, zX4_reads_109, zX4_reads_110, zX4_reads_111, zX4_reads_114, zX4_reads_116, zX4_reads_118, zX4_reads_121, zX4_reads_123, zX4_reads_125, zX4_reads_128, zX4_reads_129, zX4_reads_130, zX4_reads_133, zX4_reads_134, zX4_reads_135, zX4_reads_138, zX4_reads_139, zX4_reads_142, zX4_reads_143, zX4_reads_146, zX4_reads_148, zX4_reads_150, zX4_reads_153, zX4_reads_156, zX4_reads_159, zX4_reads_162, zX4_reads_163, zX4_reads_164, zX4_reads_165, zX4_reads_168, zX4_reads_169, zX4_reads_170, zX4_reads_173, zX4_reads_176, zX4_reads_178, zX4_reads_180, zX4_reads_183, zX4_reads_184, zX4_reads_186, zX4_reads_189, zX4_reads_190, zX4_reads_191, zX4_reads_194, zX4_reads_195, zX4_reads_196, zX4_reads_199, zX4_reads_202, zX4_reads_203, zX4_reads_206, zX4_reads_207, zX4_reads_210, zX4_reads_213, zX4_reads_214, zX4_reads_215, zX4_reads_216, zX4_reads_219, zX4_reads_220, zX4_reads_221, zX4_reads_224, zX4_reads_485, f0, a1, hin, show c_dig 40 = 0 from rfl, r_M_nameOf, show c_let 40 = -1 from rfl, show ¬ (40 : Int32) = 33 from by decide, show ¬ (40 : Int32) = 45 from by decide, h8, h10, ib, ic, e_gI_pI, Nat.reduceEqDiff, and_false, false_and, nI_1, ne_0_1, ne_0_2, ne_0_3, ne_1_0, ne_1_2, ne_1_3, ne_2_0, ne_2_1, ne_2_3, ne_3_0, ne_3_1, ne_3_2, not_true_eq_false, not_false_eq_true, e_k_int, e_k_ref, e_k_null, e_k_long, e_k_ret, e_cats_nil, e_cats_int, e_cats_ref, e_cats_ret, e_cats_long, Option.toList_some, Option.toList_none, List.nil_append, List.cons_append, Option.bind_some, Nat.reduceAdd, Nat.reduceLeDiff, Nat.add_zero, if_true, if_false, true_and, and_true, and_self, Int32.reduceToNatClampNeg, ok_1, ok_2, ok_3, ok_4, ok_5, ok_6, ok_7, ok_8, ok_9, ok_30, ok_31, ok_32, ok_33, ok_34, ok_35, ok_36, ok_37, ok_38, ok_39, ok_40, ok_41, ok_42, ok_43, ok_44, ok_45, ok_46, ok_47, ok_48, ok_49, ok_50, ok_51, ok_52, ln_1, ln_2, ln_4, ln_5, ln_6, ln_7, ln_8, ln_30, ln_31, ln_32, ln_33, ln_34, ln_35, ln_36, ln_37, ln_38, ln_39, ln_41, ln_42, ln_43, ln_44, ln_45, ln_46, ln_47, ln_48, ln_49, ln_50, ln_51, ln_52]
/-- 6: none of these -/
theorem m_s_bad {d op n : Nat} (hn : n ≤ 40) {a4 : Value} {T : Nat → Int32} {h g : e_H} {p : Nat} {V : List Int64} {ss : List Int32} (hP : m_P T n h g (-1) p V ss) (hop : op ≤ 8) (h1 : c_dig (c_ch T n (c_skip T n p)) = 0) (h2 : c_let (c_ch T n (c_skip T n p)) = -1) (h3 : ¬ c_ch T n (c_skip T n p) = 33) (h4 : ¬ c_ch T n (c_skip T n p) = 45) (h5 : c_ch T n (c_skip T n p) = 40 → 8 ≤ op) :
    ∃ g2, m_H d op 1 a4 g = some (some (.int 0), g2) ∧ m_E h g2 (10 * nI (c_skip T n p) + (if c_ch T n (c_skip T n p) = 40 then 3 else 1)) 0 := by
  obtain ⟨g1, a1, a2⟩ := r_M_ahead (d := d + 2) hn hP
  have hin := r_in32 (d := d + 2) (v := c_ch T n (c_skip T n p)) (k := 48) (m := 57) (a := 48) (b := 57) (h := g1) rfl rfl
  rw [c_dig_in] at hin
  have f0 := hP.2.2.2.1
  have hle := (c_skip_le (T := T) hP.2.2.2.2.2.1).2
  have p13 := a2.2.2.2.2.1
  have hne : ∀ k : Nat, k ≤ 3 → ¬ 10 * nI (c_skip T n p) + nI k = -1 := by
    intro k hk z
    have hh : (10 * nI (c_skip T n p) + nI k).toInt = -1 := by rw [z]; rfl
    rw [show (10 : Int32) = nI 10 from rfl, pk_mul, nI_add, nI_toInt (by omega)] at hh
    omega
  by_cases h40 : c_ch T n (c_skip T n p) = 40
  · have h8 : 8 ≤ nI op := by rw [show (8 : Int32) = nI 8 from rfl]; exact nI_le (h5 h40) (by omega)
    obtain ⟨g4, e1, e2⟩ := m_end (d := d) (op := op) (w := 1) (a4 := .int 40) (a2.fault (10 * nI (c_skip T n p) + 3)) (hne 3 (by decide))
    refine ⟨g4, ?_, by rw [if_pos h40]; exact e2⟩
    unfold m_H at e1 ⊢
    rw [h40] at a1 hin
    rw [zX4_reads_26]
    simp only [zX4_reads_27, zX4_reads_30, zX4_reads_31, zX4_reads_34, zX4_reads_35, zX4_reads_38, zX4_reads_39, zX4_reads_42, zX4_reads_44, zX4_reads_45, zX4_reads_48, zX4_reads_50, zX4_reads_51, zX4_reads_54, zX4_reads_57, zX4_reads_60, zX4_reads_63, zX4_reads_64, zX4_reads_65, zX4_reads_68, zX4_reads_71, zX4_reads_72, zX4_reads_73, zX4_reads_76, zX4_reads_78, zX4_reads_81, zX4_reads_82, zX4_reads_85, zX4_reads_86, zX4_reads_87, zX4_reads_90, zX4_reads_91, zX4_reads_92, zX4_reads_95, zX4_reads_96, zX4_reads_97, zX4_reads_100, zX4_reads_102, zX4_reads_105, zX4_reads_106, zX4_reads_109, zX4_reads_110, zX4_reads_111, zX4_reads_114, zX4_reads_116, zX4_reads_118, zX4_reads_121, zX4_reads_123, zX4_reads_125, zX4_reads_128, zX4_reads_129, zX4_reads_130, zX4_reads_133, zX4_reads_134, zX4_reads_135, zX4_reads_138, zX4_reads_139, zX4_reads_142, zX4_reads_143, zX4_reads_146, zX4_reads_148, zX4_reads_150, zX4_reads_153, zX4_reads_156, zX4_reads_159, zX4_reads_162, zX4_reads_163, zX4_reads_164, zX4_reads_165, zX4_reads_168, zX4_reads_169, zX4_reads_170, zX4_reads_173, zX4_reads_176, zX4_reads_178, zX4_reads_180, zX4_reads_183, zX4_reads_184, zX4_reads_186, zX4_reads_189, zX4_reads_190, zX4_reads_191, zX4_reads_194, zX4_reads_195, zX4_reads_196, zX4_reads_199, zX4_reads_202, zX4_reads_203, zX4_reads_206, zX4_reads_207, zX4_reads_210, zX4_reads_213, zX4_reads_214, zX4_reads_215, zX4_reads_216, zX4_reads_219, zX4_reads_220, zX4_reads_221, zX4_reads_224, zX4_reads_227, zX4_reads_228, zX4_reads_230, zX4_reads_231, zX4_reads_234, zX4_reads_235, zX4_reads_237, zX4_reads_239, zX4_reads_242, zX4_reads_243, zX4_reads_246, zX4_reads_247, zX4_reads_248, zX4_reads_251, zX4_reads_485, f0, a1, hin, show c_dig 40 = 0 from rfl, r_M_nameOf, show c_let 40 = -1 from rfl, show ¬ (40 : Int32) = 33 from by decide, show ¬ (40 : Int32) = 45 from by decide, h8, p13, ne_0_1, ne_0_2, ne_0_3, ne_1_0, ne_1_2, ne_1_3, ne_2_0, ne_2_1, ne_2_3, ne_3_0, ne_3_1, ne_3_2, not_true_eq_false, not_false_eq_true, e_k_int, e_k_ref, e_k_null, e_k_long, e_k_ret, e_cats_nil, e_cats_int, e_cats_ref, e_cats_ret, e_cats_long, Option.toList_some, Option.toList_none, List.nil_append, List.cons_append, Option.bind_some, Nat.reduceAdd, Nat.reduceLeDiff, Nat.add_zero, if_true, if_false, true_and, and_true, and_self, Int32.reduceToNatClampNeg]
    exact e1
  · obtain ⟨g4, e1, e2⟩ := m_end (d := d) (op := op) (w := 1) (a4 := .int (c_ch T n (c_skip T n p))) (a2.fault (10 * nI (c_skip T n p) + 1)) (hne 1 (by decide))
    refine ⟨g4, ?_, by rw [if_neg h40]; exact e2⟩
    unfold m_H at e1 ⊢
    rw [zX4_reads_26]
    simp only [zX4_reads_27, zX4_reads_30, zX4_reads_31, zX4_reads_34, zX4_reads_35, zX4_reads_38, zX4_reads_39, zX4_reads_42, zX4_reads_44, zX4_reads_45, zX4_reads_48, zX4_reads_50, zX4_reads_51, zX4_reads_54, zX4_reads_57, zX4_reads_60, zX4_reads_63, zX4_reads_64, zX4_reads_65, zX4_reads_68, zX4_reads_71, zX4_reads_72, zX4_reads_73, zX4_reads_76, zX4_reads_78, zX4_reads_81, zX4_reads_82, zX4_reads_85, zX4_reads_86, zX4_reads_87, zX4_reads_90, zX4_reads_91, zX4_reads_92, zX4_reads_95, zX4_reads_96, zX4_reads_97, zX4_reads_100, zX4_reads_102, zX4_reads_105, zX4_reads_106, zX4_reads_109, zX4_reads_110, zX4_reads_111, zX4_reads_114, zX4_reads_116, zX4_reads_118, zX4_reads_121, zX4_reads_123, zX4_reads_125, zX4_reads_128, zX4_reads_129, zX4_reads_130, zX4_reads_133, zX4_reads_134, zX4_reads_135, zX4_reads_138, zX4_reads_139, zX4_reads_142, zX4_reads_143, zX4_reads_146, zX4_reads_148, zX4_reads_150, zX4_reads_153, zX4_reads_156, zX4_reads_159, zX4_reads_162, zX4_reads_163, zX4_reads_164, zX4_reads_165, zX4_reads_168, zX4_reads_169, zX4_reads_170, zX4_reads_173, zX4_reads_176, zX4_reads_178, zX4_reads_180, zX4_reads_183, zX4_reads_184, zX4_reads_186, zX4_reads_189, zX4_reads_190, zX4_reads_191, zX4_reads_194, zX4_reads_195, zX4_reads_196, zX4_reads_199, zX4_reads_202, zX4_reads_203, zX4_reads_206, zX4_reads_207, zX4_reads_210, zX4_reads_213, zX4_reads_214, zX4_reads_215, zX4_reads_216, zX4_reads_219, zX4_reads_220, zX4_reads_221, zX4_reads_224, zX4_reads_227, zX4_reads_228, zX4_reads_230, zX4_reads_231, zX4_reads_234, zX4_reads_235, zX4_reads_237, zX4_reads_239, zX4_reads_242, zX4_reads_243, zX4_reads_246, zX4_reads_247, zX4_reads_248, zX4_reads_251, zX4_reads_485, f0, a1, hin, h1, r_M_nameOf, h2, h3, h4, h40, p13, ne_0_1, ne_0_2, ne_0_3, ne_1_0, ne_1_2, ne_1_3, ne_2_0, ne_2_1, ne_2_3, ne_3_0, ne_3_1, ne_3_2, not_true_eq_false, not_false_eq_true, e_k_int, e_k_ref, e_k_null, e_k_long, e_k_ret, e_cats_nil, e_cats_int, e_cats_ref, e_cats_ret, e_cats_long, Option.toList_some, Option.toList_none, List.nil_append, List.cons_append, Option.bind_some, Nat.reduceAdd, Nat.reduceLeDiff, Nat.add_zero, if_true, if_false, true_and, and_true, and_self, Int32.reduceToNatClampNeg]
    exact e1
