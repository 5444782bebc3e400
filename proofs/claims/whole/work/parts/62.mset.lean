/-! the model's settling, whatever the way -/
def s_MF2 (g f : e_H) (a b c : Int32) : Prop := e_fr [40, 45, 46, 47] g f ∧ (∀ k, k ≠ 13 → k ≠ 14 → k ≠ 16 → k ≠ 18 → k ≠ 24 → k ≠ 25 → k ≠ 26 → e_gI f 40 k = e_gI g 40 k) ∧ (∀ k, k ≠ 20 → e_gJ f 40 k = e_gJ g 40 k) ∧ e_gI f 40 24 = a ∧ e_gI f 40 25 = b ∧ e_gI f 40 26 = c
theorem s_MFin.two {g f : e_H} {a b c : Int32} (h : s_MFin g f a b c) : s_MF2 g f a b c := ⟨h.1.mono (fun o ho => by simp at ho ⊢; omega), fun k _ _ _ _ h5 h6 h7 => h.2.1 k h5 h6 h7, fun k _ => h.2.2.1 k, h.2.2.2⟩
set_option maxRecDepth 100000 in
theorem r_M_byRule {d n nT : Nat} {w0 w1 b0 c0 : Int32} (hn : n ≤ 24) (hnT : nT ≤ 40) {g f : e_H} (hF : s_MFin g f (-5) b0 c0) (hg : e_gI g 40 0 = nI n) {T : Nat → Int32} (h10 : e_gI g 40 10 = nI nT) (hT : ∀ k, e_gI g 44 k = T k) {tl : Int32 → Int32 → Int64} (htl : (c_comp T nT).1 = -1 → ∀ l u v, v_pu (s_lt l u (nI n) w0 w1) (c_comp T nT).2.2 v → tl l u = v) : ∃ f2, e_X e_pg (d + 5) 118 [.ref 40, .int w0, .int w1] f = some (none, f2) ∧ s_MF2 g f2 (s_rul (e_gI g 48) n (c_comp T nT).1 tl) b0 c0 := by
  have f0 : e_gI f 40 0 = nI n := by rw [hF.2.1 0 (by decide) (by decide) (by decide)]; exact hg
  have f10 : e_gI f 40 10 = nI nT := by rw [hF.2.1 10 (by decide) (by decide) (by decide)]; exact h10
  have f48 : e_gI f 48 = e_gI g 48 := hF.arr (by decide)
  have f44 : e_gI f 44 = e_gI g 44 := hF.arr (by decide)
  rw [xX4_byRule]
  simp only [zX4_byRule_0, zX4_byRule_1, zX4_byRule_2, zX4_byRule_3, zX4_byRule_5, zX4_byRule_6, e_k_int, e_k_ref, e_k_null, e_k_long, e_k_ret, e_cats_nil, e_cats_int, e_cats_ref, e_cats_ret, e_cats_long, Option.toList_some, Option.toList_none, List.nil_append, List.cons_append, Option.bind_some, Nat.reduceAdd, Nat.reduceLeDiff, Nat.add_zero, if_true, if_false, true_and, and_true, and_self, Int32.reduceToNatClampNeg]
  have hl := r_M_lu_loop (d := d + 4) (w0 := w0) (w1 := w1) (a6 := .null) (a7 := .null) (a8 := .null) hn f0 (n + 1) 0 (by omega)
  rw [show s_luM (e_gI f 48) 0 = (-1, -1) from rfl] at hl
  rw [show (0 : Int32) = nI 0 from rfl, hl, f48]
  unfold s_rul
  rcases s_lu_in (e_gI g 48) (n + 1) (by omega) with ⟨h1, h2, h3⟩ | ⟨l, u, h1, h2, h3, h4, h5, h6, h7⟩
  · have e : s_luM (e_gI g 48) (n + 1) = (-1, -1) := by unfold s_luM; rw [if_pos h1]
    rw [e, h1, if_pos rfl]
    refine ⟨f, ?_, hF.two⟩
    simp only [zX4_byRule_64, zX4_byRule_65, zX4_byRule_66, zX4_byRule_69, not_true_eq_false, e_k_int, e_k_ref, e_k_null, e_k_long, e_k_ret, e_cats_nil, e_cats_int, e_cats_ref, e_cats_ret, e_cats_long, Option.toList_some, Option.toList_none, List.nil_append, List.cons_append, Option.bind_some, Nat.reduceAdd, Nat.reduceLeDiff, Nat.add_zero, if_true, if_false, true_and, and_true, and_self, Int32.reduceToNatClampNeg]
  · have hl5 : ¬ nI l = -5 := nI_ne5 (by omega)
    have hl1 : ¬ nI l = -1 := nI_nem1 (by omega)
    have e : s_luM (e_gI g 48) (n + 1) = (nI l, nI u) := by unfold s_luM; rw [h3, if_neg hl5]
    rw [e, h3]
    rw [if_neg hl5]
    obtain ⟨N, hN⟩ : ∃ N, N = e_pJ (e_pJ (e_pJ (e_pJ (e_pJ f 47 0 (nI l).toInt64) 47 1 (nI u).toInt64) 47 2 (nI n).toInt64) 47 3 w0.toInt64) 47 4 w1.toInt64 := ⟨_, rfl⟩
    have nI_N : ∀ o k, e_gI N o k = e_gI f o k := fun o k => by rw [hN]; simp only [e_gI_pJ]
    have nJ_N : ∀ o k, o ≠ 47 → e_gJ N o k = e_gJ f o k := fun o k ho => by rw [hN]; simp only [e_gJ_pJ, ho, false_and, if_false]
    have nLt : ∀ k, k < 5 → e_gJ N 47 k = s_lt (nI l) (nI u) (nI n) w0 w1 k := fun k hk => by
      rw [hN]
      rcases (show k = 0 ∨ k = 1 ∨ k = 2 ∨ k = 3 ∨ k = 4 by omega) with rfl | rfl | rfl | rfl | rfl <;> simp [e_gJ_pJ, s_lt]
    obtain ⟨g2, told, r1, r2, r3⟩ := r_M_reads (d := d) (n := nT) (T := T) (h := N) hnT (by rw [nI_N]; exact f10) (fun k => by rw [nI_N, f44]; exact hT k)
    obtain ⟨m1, m2, m3⟩ := r2
    have g20 : e_gI g2 40 0 = nI n := by rw [m1.2.1 0 (by decide) (by decide) (by decide) (by decide), nI_N]; exact f0
    have g248 : e_gI g2 48 = e_gI g 48 := funext fun k => by rw [m1.1.1 48 k (by simp), nI_N, f48]
    -- the second loop, whatever is told
    have two : ∀ (to : Int64) (nr : Int32), ∃ f2, e_F kX4_byRule (e_X e_pg (d + 4)) 183 [.ref 40, .int w0, .int w1, .int (nI l), .int (nI u), .long to, .null, .int nr, .int (nI l)] [] (e_pI g2 40 24 (nI l)) = some (none, f2) ∧ s_MFin (e_pI g2 40 24 (nI l)) f2 (s_l2 (e_gI g 48) nr l (u + 1 - l)) (e_gI g2 40 25) (e_gI g2 40 26) := by
      intro to nr
      have lp := r_M_l2_loop (n := n) (d := d + 3) (l := l) (u := u) (w0 := w0) (w1 := w1) (nr := nr) (to := to) (b0 := e_gI g2 40 25) (c0 := e_gI g2 40 26) (by omega) (g := e_pI g2 40 24 (nI l)) (u + 1 - l) 0 (e_pI g2 40 24 (nI l)) (by omega) ⟨e_fr.refl _ _, fun _ _ _ _ => rfl, fun _ => rfl, by simp [e_gI_pI, s_l2], by simp [e_gI_pI], by simp [e_gI_pI]⟩
      have e48 : e_gI (e_pI g2 40 24 (nI l)) 48 = e_gI g 48 := funext fun k => by rw [e_gI_pI, if_neg (by omega), g248]
      rw [e48, Nat.add_zero] at lp
      exact lp
    have fin : ∀ (f2 : e_H) (a : Int32), s_MFin (e_pI g2 40 24 (nI l)) f2 a (e_gI g2 40 25) (e_gI g2 40 26) → s_MF2 g f2 a b0 c0 := by
      intro f2 a k
      obtain ⟨k1, k2, k3, k4, k5, k6⟩ := k
      refine ⟨⟨fun o j ho => ?_, fun o j ho => ?_⟩, fun j j1 j2 j3 j4 j5 j6 j7 => ?_, fun j hj => ?_, k4, ?_, ?_⟩
      · simp at ho
        rw [k1.1 o j (by simp; omega), e_gI_pI, if_neg (by omega), m1.1.1 o j (by simp; omega), nI_N]
        exact hF.1.1 o j (by simp; omega)
      · simp at ho
        rw [k1.2 o j (by simp; omega), e_gJ_pI, m1.1.2 o j (by simp; omega), nJ_N o j (by omega)]
        exact hF.1.2 o j (by simp; omega)
      · rw [k2 j j5 j6 j7, e_gI_pI, if_neg (by omega), m1.2.1 j j1 j2 j3 j4, nI_N]
        exact hF.2.1 j j5 j6 j7
      · rw [k3, e_gJ_pI, m1.2.2 j hj, nJ_N _ _ (by decide)]
        exact hF.2.2.1 j
      · rw [k5, m1.2.1 25 (by decide) (by decide) (by decide) (by decide), nI_N]
        exact hF.2.2.2.2.1
      · rw [k6, m1.2.1 26 (by decide) (by decide) (by decide) (by decide), nI_N]
        exact hF.2.2.2.2.2
    have b0' : e_inb 0 5 = true := rfl
    have b1' : e_inb 1 5 = true := rfl
    have b2' : e_inb 2 5 = true := rfl
    have b3' : e_inb 3 5 = true := rfl
    have b4' : e_inb 4 5 = true := rfl
    by_cases cf : (c_comp T nT).1 = -1
    · rw [if_neg (not_not_intro cf)]
      have htv := htl cf (nI l) (nI u) told (v_pu_congr nLt (r3 cf))
      obtain ⟨f2, q1, q2⟩ := two told (s_clM (nI n) told)
      rw [s_near_eq hn h1 (by omega) h4 h6 h7] at q2
      refine ⟨f2, ?_, by rw [htv]; exact fin f2 _ q2⟩
      rw [if_pos cf, hN] at r1
      rw [s_clM] at q1
      by_cases t1 : told < -1
      · rw [if_pos t1] at q1
        have t1' : ¬ -1 ≤ told := Int64.not_le.mpr t1
        simp only [zX4_byRule_64, zX4_byRule_65, zX4_byRule_66, zX4_byRule_69, zX4_byRule_70, zX4_byRule_71, zX4_byRule_74, zX4_byRule_75, zX4_byRule_76, zX4_byRule_77, zX4_byRule_78, zX4_byRule_79, zX4_byRule_82, zX4_byRule_83, zX4_byRule_85, zX4_byRule_86, zX4_byRule_87, zX4_byRule_88, zX4_byRule_91, zX4_byRule_92, zX4_byRule_93, zX4_byRule_96, zX4_byRule_97, zX4_byRule_98, zX4_byRule_99, zX4_byRule_102, zX4_byRule_103, zX4_byRule_104, zX4_byRule_105, zX4_byRule_106, zX4_byRule_107, zX4_byRule_110, zX4_byRule_111, zX4_byRule_112, zX4_byRule_113, zX4_byRule_114, zX4_byRule_115, zX4_byRule_118, zX4_byRule_121, zX4_byRule_122, zX4_byRule_125, zX4_byRule_128, zX4_byRule_129, zX4_byRule_130, zX4_byRule_132, zX4_byRule_134, zX4_byRule_137, zX4_byRule_138, zX4_byRule_141, zX4_byRule_144, zX4_byRule_147, zX4_byRule_149, zX4_byRule_150, zX4_byRule_153, zX4_byRule_154, zX4_byRule_155, zX4_byRule_156, zX4_byRule_157, zX4_byRule_160, zX4_byRule_161, zX4_byRule_164, zX4_byRule_165, zX4_byRule_166, zX4_byRule_167, zX4_byRule_170, zX4_byRule_172, zX4_byRule_173, zX4_byRule_175, zX4_byRule_176, zX4_byRule_177, zX4_byRule_180, zX4_byRule_181, hl1, f0, e_gI_pJ, r1, m3, g20, lc_ge, lc_le, t1', not_false_eq_true, ne_0_1, ne_0_2, ne_0_3, ne_1_0, ne_1_2, ne_1_3, ne_2_0, ne_2_1, ne_2_3, ne_3_0, ne_3_1, ne_3_2, e_k_int, e_k_ref, e_k_null, e_k_long, e_k_ret, e_cats_nil, e_cats_int, e_cats_ref, e_cats_ret, e_cats_long, Option.toList_some, Option.toList_none, List.nil_append, List.cons_append, Option.bind_some, Nat.reduceAdd, Nat.reduceLeDiff, Nat.add_zero, if_true, if_false, true_and, and_true, and_self, Int32.reduceToNatClampNeg, ok_1, ok_2, ok_3, ok_4, ok_5, ok_6, ok_7, ok_8, ok_9, ok_30, ok_31, ok_32, ok_33, ok_34, ok_35, ok_36, ok_37, ok_38, ok_39, ok_40, ok_41, ok_42, ok_43, ok_44, ok_45, ok_46, ok_47, ok_48, ok_49, ok_50, ok_51, ok_52, ln_1, ln_2, ln_4, ln_5, ln_6, ln_7, ln_8, ln_30, ln_31, ln_32, ln_33, ln_34, ln_35, ln_36, ln_37, ln_38, ln_39, ln_41, ln_42, ln_43, ln_44, ln_45, ln_46, ln_47, ln_48, ln_49, ln_50, ln_51, ln_52, ib_0_9, ib_1_9, ib_2_9, ib_3_9, ib_4_9, ib_5_9, ib_6_9, ib_7_9, ib_8_9, ib_0_2, ib_1_2, ib_0_5, ib_1_5, ib_2_5, ib_3_5, ib_4_5, ib_0_25, ib_0_10, ib_5_10, ib_0_90, ib_45_90, ib_0_64]
        exact q1
      · rw [if_neg t1] at q1
        have t1' : -1 ≤ told := Int64.not_lt.mp t1
        by_cases t2 : (nI n).toInt64 + 1 < told
        · rw [if_pos t2] at q1
          have t2' : ¬ told ≤ (nI n).toInt64 + 1 := Int64.not_le.mpr t2
          simp only [zX4_byRule_64, zX4_byRule_65, zX4_byRule_66, zX4_byRule_69, zX4_byRule_70, zX4_byRule_71, zX4_byRule_74, zX4_byRule_75, zX4_byRule_76, zX4_byRule_77, zX4_byRule_78, zX4_byRule_79, zX4_byRule_82, zX4_byRule_83, zX4_byRule_85, zX4_byRule_86, zX4_byRule_87, zX4_byRule_88, zX4_byRule_91, zX4_byRule_92, zX4_byRule_93, zX4_byRule_96, zX4_byRule_97, zX4_byRule_98, zX4_byRule_99, zX4_byRule_102, zX4_byRule_103, zX4_byRule_104, zX4_byRule_105, zX4_byRule_106, zX4_byRule_107, zX4_byRule_110, zX4_byRule_111, zX4_byRule_112, zX4_byRule_113, zX4_byRule_114, zX4_byRule_115, zX4_byRule_118, zX4_byRule_121, zX4_byRule_122, zX4_byRule_125, zX4_byRule_128, zX4_byRule_129, zX4_byRule_130, zX4_byRule_132, zX4_byRule_134, zX4_byRule_137, zX4_byRule_138, zX4_byRule_141, zX4_byRule_144, zX4_byRule_147, zX4_byRule_149, zX4_byRule_150, zX4_byRule_153, zX4_byRule_154, zX4_byRule_155, zX4_byRule_156, zX4_byRule_157, zX4_byRule_160, zX4_byRule_161, zX4_byRule_164, zX4_byRule_165, zX4_byRule_166, zX4_byRule_167, zX4_byRule_170, zX4_byRule_172, zX4_byRule_173, zX4_byRule_175, zX4_byRule_176, zX4_byRule_177, zX4_byRule_180, zX4_byRule_181, hl1, f0, e_gI_pJ, r1, m3, g20, lc_ge, lc_le, t1', t2', not_false_eq_true, ne_0_1, ne_0_2, ne_0_3, ne_1_0, ne_1_2, ne_1_3, ne_2_0, ne_2_1, ne_2_3, ne_3_0, ne_3_1, ne_3_2, e_k_int, e_k_ref, e_k_null, e_k_long, e_k_ret, e_cats_nil, e_cats_int, e_cats_ref, e_cats_ret, e_cats_long, Option.toList_some, Option.toList_none, List.nil_append, List.cons_append, Option.bind_some, Nat.reduceAdd, Nat.reduceLeDiff, Nat.add_zero, if_true, if_false, true_and, and_true, and_self, Int32.reduceToNatClampNeg, ok_1, ok_2, ok_3, ok_4, ok_5, ok_6, ok_7, ok_8, ok_9, ok_30, ok_31, ok_32, ok_33, ok_34, ok_35, ok_36, ok_37, ok_38, ok_39, ok_40, ok_41, ok_42, ok_43, ok_44, ok_45, ok_46, ok_47, ok_48, ok_49, ok_50, ok_51, ok_52, ln_1, ln_2, ln_4, ln_5, ln_6, ln_7, ln_8, ln_30, ln_31, ln_32, ln_33, ln_34, ln_35, ln_36, ln_37, ln_38, ln_39, ln_41, ln_42, ln_43, ln_44, ln_45, ln_46, ln_47, ln_48, ln_49, ln_50, ln_51, ln_52, ib_0_9, ib_1_9, ib_2_9, ib_3_9, ib_4_9, ib_5_9, ib_6_9, ib_7_9, ib_8_9, ib_0_2, ib_1_2, ib_0_5, ib_1_5, ib_2_5, ib_3_5, ib_4_5, ib_0_25, ib_0_10, ib_5_10, ib_0_90, ib_45_90, ib_0_64]
          exact q1
        · rw [if_neg t2] at q1
          have t2' : told ≤ (nI n).toInt64 + 1 := Int64.not_lt.mp t2
          simp only [zX4_byRule_64, zX4_byRule_65, zX4_byRule_66, zX4_byRule_69, zX4_byRule_70, zX4_byRule_71, zX4_byRule_74, zX4_byRule_75, zX4_byRule_76, zX4_byRule_77, zX4_byRule_78, zX4_byRule_79, zX4_byRule_82, zX4_byRule_83, zX4_byRule_85, zX4_byRule_86, zX4_byRule_87, zX4_byRule_88, zX4_byRule_91, zX4_byRule_92, zX4_byRule_93, zX4_byRule_96, zX4_byRule_97, zX4_byRule_98, zX4_byRule_99, zX4_byRule_102, zX4_byRule_103, zX4_byRule_104, zX4_byRule_105, zX4_byRule_106, zX4_byRule_107, zX4_byRule_110, zX4_byRule_111, zX4_byRule_112, zX4_byRule_113, zX4_byRule_114, zX4_byRule_115, zX4_byRule_118, zX4_byRule_121, zX4_byRule_122, zX4_byRule_125, zX4_byRule_128, zX4_byRule_129, zX4_byRule_130, zX4_byRule_132, zX4_byRule_134, zX4_byRule_137, zX4_byRule_138, zX4_byRule_141, zX4_byRule_144, zX4_byRule_147, zX4_byRule_149, zX4_byRule_150, zX4_byRule_153, zX4_byRule_154, zX4_byRule_155, zX4_byRule_156, zX4_byRule_157, zX4_byRule_160, zX4_byRule_161, zX4_byRule_164, zX4_byRule_165, zX4_byRule_166, zX4_byRule_167, zX4_byRule_170, zX4_byRule_172, zX4_byRule_173, zX4_byRule_175, zX4_byRule_176, zX4_byRule_177, zX4_byRule_180, zX4_byRule_181, hl1, f0, e_gI_pJ, r1, m3, g20, lc_ge, lc_le, t1', t2', not_false_eq_true, ne_0_1, ne_0_2, ne_0_3, ne_1_0, ne_1_2, ne_1_3, ne_2_0, ne_2_1, ne_2_3, ne_3_0, ne_3_1, ne_3_2, e_k_int, e_k_ref, e_k_null, e_k_long, e_k_ret, e_cats_nil, e_cats_int, e_cats_ref, e_cats_ret, e_cats_long, Option.toList_some, Option.toList_none, List.nil_append, List.cons_append, Option.bind_some, Nat.reduceAdd, Nat.reduceLeDiff, Nat.add_zero, if_true, if_false, true_and, and_true, and_self, Int32.reduceToNatClampNeg, ok_1, ok_2, ok_3, ok_4, ok_5, ok_6, ok_7, ok_8, ok_9, ok_30, ok_31, ok_32, ok_33, ok_34, ok_35, ok_36, ok_37, ok_38, ok_39, ok_40, ok_41, ok_42, ok_43, ok_44, ok_45, ok_46, ok_47, ok_48, ok_49, ok_50, ok_51, ok_52, ln_1, ln_2, ln_4, ln_5, ln_6, ln_7, ln_8, ln_30, ln_31, ln_32, ln_33, ln_34, ln_35, ln_36, ln_37, ln_38, ln_39, ln_41, ln_42, ln_43, ln_44, ln_45, ln_46, ln_47, ln_48, ln_49, ln_50, ln_51, ln_52, ib_0_9, ib_1_9, ib_2_9, ib_3_9, ib_4_9, ib_5_9, ib_6_9, ib_7_9, ib_8_9, ib_0_2, ib_1_2, ib_0_5, ib_1_5, ib_2_5, ib_3_5, ib_4_5, ib_0_25, ib_0_10, ib_5_10, ib_0_90, ib_45_90, ib_0_64]
          exact q1
    · rw [if_pos cf]
      obtain ⟨f2, q1, q2⟩ := two (nI l).toInt64 (nI l)
      rw [s_l2_least hn (by omega) _ (by omega)] at q2
      refine ⟨f2, ?_, fin f2 _ q2⟩
      rw [if_neg cf, hN] at r1
      obtain ⟨e1, -⟩ := n64 (n := l) (by omega)
      obtain ⟨-, e2⟩ := n64 hn
      have t1' : -1 ≤ (nI l).toInt64 := by rw [Int64.le_iff_toInt_le, e1]; show (-1 : Int) ≤ _; omega
      have t2' : (nI l).toInt64 ≤ (nI n).toInt64 + 1 := by rw [Int64.le_iff_toInt_le, e1, e2]; omega
      have e3 : (nI l).toInt64.toInt32 = nI l := by rw [← Int32.toInt_inj, l64_32 e1 (by omega) (by omega), nI_ti (by omega)]
      simp only [zX4_byRule_64, zX4_byRule_65, zX4_byRule_66, zX4_byRule_69, zX4_byRule_70, zX4_byRule_71, zX4_byRule_74, zX4_byRule_75, zX4_byRule_76, zX4_byRule_77, zX4_byRule_78, zX4_byRule_79, zX4_byRule_82, zX4_byRule_83, zX4_byRule_85, zX4_byRule_86, zX4_byRule_87, zX4_byRule_88, zX4_byRule_91, zX4_byRule_92, zX4_byRule_93, zX4_byRule_96, zX4_byRule_97, zX4_byRule_98, zX4_byRule_99, zX4_byRule_102, zX4_byRule_103, zX4_byRule_104, zX4_byRule_105, zX4_byRule_106, zX4_byRule_107, zX4_byRule_110, zX4_byRule_111, zX4_byRule_112, zX4_byRule_113, zX4_byRule_114, zX4_byRule_115, zX4_byRule_118, zX4_byRule_121, zX4_byRule_122, zX4_byRule_125, zX4_byRule_128, zX4_byRule_129, zX4_byRule_130, zX4_byRule_132, zX4_byRule_134, zX4_byRule_137, zX4_byRule_138, zX4_byRule_141, zX4_byRule_144, zX4_byRule_147, zX4_byRule_149, zX4_byRule_150, zX4_byRule_153, zX4_byRule_154, zX4_byRule_155, zX4_byRule_156, zX4_byRule_157, zX4_byRule_160, zX4_byRule_161, zX4_byRule_164, zX4_byRule_165, zX4_byRule_166, zX4_byRule_167, zX4_byRule_170, zX4_byRule_172, zX4_byRule_173, zX4_byRule_175, zX4_byRule_176, zX4_byRule_177, zX4_byRule_180, zX4_byRule_181, hl1, f0, e_gI_pJ, r1, g20, lc_ge, lc_le, t1', t2', e3, not_false_eq_true, ne_0_1, ne_0_2, ne_0_3, ne_1_0, ne_1_2, ne_1_3, ne_2_0, ne_2_1, ne_2_3, ne_3_0, ne_3_1, ne_3_2, e_k_int, e_k_ref, e_k_null, e_k_long, e_k_ret, e_cats_nil, e_cats_int, e_cats_ref, e_cats_ret, e_cats_long, Option.toList_some, Option.toList_none, List.nil_append, List.cons_append, Option.bind_some, Nat.reduceAdd, Nat.reduceLeDiff, Nat.add_zero, if_true, if_false, true_and, and_true, and_self, Int32.reduceToNatClampNeg, ok_1, ok_2, ok_3, ok_4, ok_5, ok_6, ok_7, ok_8, ok_9, ok_30, ok_31, ok_32, ok_33, ok_34, ok_35, ok_36, ok_37, ok_38, ok_39, ok_40, ok_41, ok_42, ok_43, ok_44, ok_45, ok_46, ok_47, ok_48, ok_49, ok_50, ok_51, ok_52, ln_1, ln_2, ln_4, ln_5, ln_6, ln_7, ln_8, ln_30, ln_31, ln_32, ln_33, ln_34, ln_35, ln_36, ln_37, ln_38, ln_39, ln_41, ln_42, ln_43, ln_44, ln_45, ln_46, ln_47, ln_48, ln_49, ln_50, ln_51, ln_52, ib_0_9, ib_1_9, ib_2_9, ib_3_9, ib_4_9, ib_5_9, ib_6_9, ib_7_9, ib_8_9, ib_0_2, ib_1_2, ib_0_5, ib_1_5, ib_2_5, ib_3_5, ib_4_5, ib_0_25, ib_0_10, ib_5_10, ib_0_90, ib_45_90, ib_0_64]
      exact q1
