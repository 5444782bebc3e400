/-! units and levels of the class's reader -/
theorem c_sg_le {T : Nat → Int32} {n : Nat} : ∀ (f p : Nat), p ≤ n → p ≤ c_sg T n f p ∧ c_sg T n f p ≤ n := by
  intro f
  induction f with
  | zero => intro p hp; exact ⟨Nat.le_refl _, hp⟩
  | succ f ih =>
    intro p hp
    unfold c_sg
    split
    · rename_i hc
      have hlt : p < n := c_ch_lt (by rcases hc with hc | hc <;> rw [hc] <;> decide)
      have h1 := c_skip_le (T := T) (n := n) (p := p + 1) (by omega)
      have h2 := ih (c_skip T n (p + 1)) h1.2
      omega
    · omega
set_option maxRecDepth 100000 in
theorem r_sg_loop {d n : Nat} (hn : n ≤ 40) {T : Nat → Int32} {h : e_H} {op fi : Int32} : ∀ (f k : Nat) (g : e_H) (s : c_S) (a5 : Value), k + f = 40 → c_P T n h g s → ∃ (g2 : e_H) (x : Value), e_F kX2_readUnit (e_X e_pg (d + 1)) 13 [.ref 3, .int op, .int fi, .int (c_ch T n s.2.1), .int (nI k), a5] [] g = e_F kX2_readUnit (e_X e_pg (d + 1)) 53 [.ref 3, .int op, .int fi, .int (c_ch T n (c_sg T n f s.2.1)), x, a5] [] g2 ∧ (∃ z : Int32, x = .int z) ∧ c_P T n h g2 (s.1, c_sg T n f s.2.1, s.2.2) := by
  intro f
  induction f with
  | zero =>
    intro k g s a5 hk hP
    have hk : k = 40 := by omega
    subst hk
    refine ⟨g, .int (nI 40), ?_, ⟨_, rfl⟩, hP⟩
    rw [zX2_readUnit_13]
    simp only [zX2_readUnit_15, zX2_readUnit_17, zX2_readUnit_20, zX2_readUnit_21, zX2_readUnit_23, zX2_readUnit_26, zX2_readUnit_27, zX2_readUnit_29, zX2_readUnit_32, zX2_readUnit_33, zX2_readUnit_34, zX2_readUnit_37, zX2_readUnit_38, zX2_readUnit_39, zX2_readUnit_42, zX2_readUnit_43, zX2_readUnit_46, zX2_readUnit_47, zX2_readUnit_50, show (40 : Int32) ≤ nI 40 from by decide, c_sg, e_k_int, e_k_ref, e_k_null, e_k_long, e_k_ret, e_cats_nil, e_cats_int, e_cats_ref, e_cats_ret, e_cats_long, Option.toList_some, Option.toList_none, List.nil_append, List.cons_append, Option.bind_some, Nat.reduceAdd, Nat.reduceLeDiff, Nat.add_zero, if_true, if_false, true_and, and_true, and_self, Int32.reduceToNatClampNeg]
  | succ f ih =>
    intro k g s a5 hk hP
    have hc : ¬ 40 ≤ nI k := fun z => by have := (nI_40 (by omega)).mp z; omega
    rw [c_sg, zX2_readUnit_13]
    by_cases c1 : c_ch T n s.2.1 = 33 ∨ c_ch T n s.2.1 = 45
    · have hlt : s.2.1 < n := c_ch_lt (by rcases c1 with hc | hc <;> rw [hc] <;> decide)
      obtain ⟨g2, a1, a2⟩ := r_ahead (d := d) hn (c_P_inc hP hlt)
      obtain ⟨g3, x, b1, b2, b3⟩ := ih (k + 1) g2 _ a5 (by omega) a2
      refine ⟨g3, x, ?_, b2, by rw [if_pos c1]; exact b3⟩
      rw [if_pos c1]
      rcases c1 with c1 | c1
      · simp only [zX2_readUnit_15, zX2_readUnit_17, zX2_readUnit_20, zX2_readUnit_21, zX2_readUnit_23, zX2_readUnit_26, zX2_readUnit_27, zX2_readUnit_29, zX2_readUnit_32, zX2_readUnit_33, zX2_readUnit_34, zX2_readUnit_37, zX2_readUnit_38, zX2_readUnit_39, zX2_readUnit_42, zX2_readUnit_43, zX2_readUnit_46, zX2_readUnit_47, zX2_readUnit_50, hc, c1, a1, nI_1, e_k_int, e_k_ref, e_k_null, e_k_long, e_k_ret, e_cats_nil, e_cats_int, e_cats_ref, e_cats_ret, e_cats_long, Option.toList_some, Option.toList_none, List.nil_append, List.cons_append, Option.bind_some, Nat.reduceAdd, Nat.reduceLeDiff, Nat.add_zero, if_true, if_false, true_and, and_true, and_self, Int32.reduceToNatClampNeg]
        exact b1
      · simp only [zX2_readUnit_15, zX2_readUnit_17, zX2_readUnit_20, zX2_readUnit_21, zX2_readUnit_23, zX2_readUnit_26, zX2_readUnit_27, zX2_readUnit_29, zX2_readUnit_32, zX2_readUnit_33, zX2_readUnit_34, zX2_readUnit_37, zX2_readUnit_38, zX2_readUnit_39, zX2_readUnit_42, zX2_readUnit_43, zX2_readUnit_46, zX2_readUnit_47, zX2_readUnit_50, hc, c1, a1, nI_1, show ¬ (45 : Int32) = 33 from by decide, not_true_eq_false, e_k_int, e_k_ref, e_k_null, e_k_long, e_k_ret, e_cats_nil, e_cats_int, e_cats_ref, e_cats_ret, e_cats_long, Option.toList_some, Option.toList_none, List.nil_append, List.cons_append, Option.bind_some, Nat.reduceAdd, Nat.reduceLeDiff, Nat.add_zero, if_true, if_false, true_and, and_true, and_self, Int32.reduceToNatClampNeg]
        exact b1
    · have c2 : ¬ c_ch T n s.2.1 = 33 := fun z => c1 (Or.inl z)
      have c3 : ¬ c_ch T n s.2.1 = 45 := fun z => c1 (Or.inr z)
      refine ⟨g, .int (nI k), ?_, ⟨_, rfl⟩, by rw [if_neg c1]; exact hP⟩
      rw [if_neg c1]
      simp only [zX2_readUnit_15, zX2_readUnit_17, zX2_readUnit_20, zX2_readUnit_21, zX2_readUnit_23, zX2_readUnit_26, zX2_readUnit_27, zX2_readUnit_29, zX2_readUnit_32, zX2_readUnit_33, zX2_readUnit_34, zX2_readUnit_37, zX2_readUnit_38, zX2_readUnit_39, zX2_readUnit_42, zX2_readUnit_43, zX2_readUnit_46, zX2_readUnit_47, zX2_readUnit_50, hc, c2, c3, not_false_eq_true, e_k_int, e_k_ref, e_k_null, e_k_long, e_k_ret, e_cats_nil, e_cats_int, e_cats_ref, e_cats_ret, e_cats_long, Option.toList_some, Option.toList_none, List.nil_append, List.cons_append, Option.bind_some, Nat.reduceAdd, Nat.reduceLeDiff, Nat.add_zero, if_true, if_false, true_and, and_true, and_self, Int32.reduceToNatClampNeg]
set_option maxRecDepth 100000 in
theorem r_up_loop {d n first : Nat} (hn : n ≤ 40) {T : Nat → Int32} {h : e_H} {op c3 z4 : Int32} : ∀ (k : Nat) (g : e_H) (s : c_S), first + k ≤ n → c_P T n h g s → ∃ g2, e_F kX2_readUnit (e_X e_pg (d + 1)) 71 [.ref 3, .int op, .int (nI first), .int c3, .int z4, .int (nI (first + k) - 1)] [] g = some (none, g2) ∧ c_P T n h g2 (c_up T first k s) := by
  intro k
  induction k with
  | zero =>
    intro g s hk hP
    refine ⟨g, ?_, hP⟩
    have hc : nI first - 1 < nI first := by
      rw [Int32.lt_iff_toInt_lt, ti_sub (by rw [nI_toInt (by omega), show (1 : Int32).toInt = 1 from rfl]; omega) (by rw [nI_toInt (by omega), show (1 : Int32).toInt = 1 from rfl]; omega), show (1 : Int32).toInt = 1 from rfl]
      omega
    rw [zX2_readUnit_71]
    simp only [zX2_readUnit_73, zX2_readUnit_74, zX2_readUnit_77, zX2_readUnit_78, zX2_readUnit_81, zX2_readUnit_83, zX2_readUnit_84, zX2_readUnit_86, zX2_readUnit_89, zX2_readUnit_90, zX2_readUnit_92, zX2_readUnit_93, zX2_readUnit_96, zX2_readUnit_99, zX2_readUnit_100, zX2_readUnit_103, zX2_readUnit_105, zX2_readUnit_106, zX2_readUnit_108, zX2_readUnit_111, zX2_readUnit_112, zX2_readUnit_113, zX2_readUnit_114, zX2_readUnit_117, zX2_readUnit_120, zX2_readUnit_123, Nat.add_zero, hc, e_k_int, e_k_ref, e_k_null, e_k_long, e_k_ret, e_cats_nil, e_cats_int, e_cats_ref, e_cats_ret, e_cats_long, Option.toList_some, Option.toList_none, List.nil_append, List.cons_append, Option.bind_some, Nat.reduceAdd, Nat.reduceLeDiff, Nat.add_zero, if_true, if_false, true_and, and_true, and_self, Int32.reduceToNatClampNeg]
  | succ k ih =>
    intro g s hk hP
    have e1 : nI (first + (k + 1)) - 1 = nI (first + k) := nI_pred (first + k)
    have hc : ¬ nI (first + k) < nI first := nI_nlt (by omega) (by omega)
    have hb : e_inb (nI (first + k)) 40 = true := e_inb_nI (by omega) (by decide)
    have hcl : (nI (first + k)).toNatClampNeg = first + k := nI_clamp (by omega)
    have h9 := hP.2.2.2.2.2.2.2.2
    rw [e1, c_up, zX2_readUnit_71]
    by_cases c1 : T (first + k) = 33
    · rw [if_pos c1]
      obtain ⟨g2, a1, a2⟩ := r_emit (d := d) (c := 33) (o := 0) hP
      have q := ih g2 _ (by omega) a2
      simp only [zX2_readUnit_73, zX2_readUnit_74, zX2_readUnit_77, zX2_readUnit_78, zX2_readUnit_81, zX2_readUnit_83, zX2_readUnit_84, zX2_readUnit_86, zX2_readUnit_89, zX2_readUnit_90, zX2_readUnit_92, zX2_readUnit_93, zX2_readUnit_96, zX2_readUnit_99, zX2_readUnit_100, zX2_readUnit_103, zX2_readUnit_105, zX2_readUnit_106, zX2_readUnit_108, zX2_readUnit_111, zX2_readUnit_112, zX2_readUnit_113, zX2_readUnit_114, zX2_readUnit_117, zX2_readUnit_120, zX2_readUnit_123, hc, hb, hcl, h9, c1, a1, i32_m1, not_true_eq_false, e_k_int, e_k_ref, e_k_null, e_k_long, e_k_ret, e_cats_nil, e_cats_int, e_cats_ref, e_cats_ret, e_cats_long, Option.toList_some, Option.toList_none, List.nil_append, List.cons_append, Option.bind_some, Nat.reduceAdd, Nat.reduceLeDiff, Nat.add_zero, if_true, if_false, true_and, and_true, and_self, Int32.reduceToNatClampNeg, ok_1, ok_2, ok_3, ok_4, ok_5, ok_6, ok_7, ok_8, ok_9, ok_30, ok_31, ok_32, ok_33, ok_34, ok_35, ok_36, ok_37, ok_38, ok_39, ok_40, ok_41, ok_42, ok_43, ok_44, ok_45, ok_46, ok_47, ok_48, ok_49, ok_50, ok_51, ok_52, ln_1, ln_2, ln_4, ln_5, ln_6, ln_7, ln_8, ln_30, ln_31, ln_32, ln_33, ln_34, ln_35, ln_36, ln_37, ln_38, ln_39, ln_41, ln_42, ln_43, ln_44, ln_45, ln_46, ln_47, ln_48, ln_49, ln_50, ln_51, ln_52]
      exact q
    · rw [if_neg c1]
      by_cases c2 : T (first + k) = 45
      · rw [if_pos c2]
        obtain ⟨g2, a1, a2⟩ := r_emit (d := d) (c := 3) (o := 0) hP
        have q := ih g2 _ (by omega) a2
        simp only [zX2_readUnit_73, zX2_readUnit_74, zX2_readUnit_77, zX2_readUnit_78, zX2_readUnit_81, zX2_readUnit_83, zX2_readUnit_84, zX2_readUnit_86, zX2_readUnit_89, zX2_readUnit_90, zX2_readUnit_92, zX2_readUnit_93, zX2_readUnit_96, zX2_readUnit_99, zX2_readUnit_100, zX2_readUnit_103, zX2_readUnit_105, zX2_readUnit_106, zX2_readUnit_108, zX2_readUnit_111, zX2_readUnit_112, zX2_readUnit_113, zX2_readUnit_114, zX2_readUnit_117, zX2_readUnit_120, zX2_readUnit_123, hc, hb, hcl, h9, c1, c2, a1, i32_m1, show ¬ (45 : Int32) = 33 from by decide, not_true_eq_false, not_false_eq_true, e_k_int, e_k_ref, e_k_null, e_k_long, e_k_ret, e_cats_nil, e_cats_int, e_cats_ref, e_cats_ret, e_cats_long, Option.toList_some, Option.toList_none, List.nil_append, List.cons_append, Option.bind_some, Nat.reduceAdd, Nat.reduceLeDiff, Nat.add_zero, if_true, if_false, true_and, and_true, and_self, Int32.reduceToNatClampNeg, ok_1, ok_2, ok_3, ok_4, ok_5, ok_6, ok_7, ok_8, ok_9, ok_30, ok_31, ok_32, ok_33, ok_34, ok_35, ok_36, ok_37, ok_38, ok_39, ok_40, ok_41, ok_42, ok_43, ok_44, ok_45, ok_46, ok_47, ok_48, ok_49, ok_50, ok_51, ok_52, ln_1, ln_2, ln_4, ln_5, ln_6, ln_7, ln_8, ln_30, ln_31, ln_32, ln_33, ln_34, ln_35, ln_36, ln_37, ln_38, ln_39, ln_41, ln_42, ln_43, ln_44, ln_45, ln_46, ln_47, ln_48, ln_49, ln_50, ln_51, ln_52]
        exact q
      · rw [if_neg c2]
        have q := ih g s (by omega) hP
        simp only [zX2_readUnit_73, zX2_readUnit_74, zX2_readUnit_77, zX2_readUnit_78, zX2_readUnit_81, zX2_readUnit_83, zX2_readUnit_84, zX2_readUnit_86, zX2_readUnit_89, zX2_readUnit_90, zX2_readUnit_92, zX2_readUnit_93, zX2_readUnit_96, zX2_readUnit_99, zX2_readUnit_100, zX2_readUnit_103, zX2_readUnit_105, zX2_readUnit_106, zX2_readUnit_108, zX2_readUnit_111, zX2_readUnit_112, zX2_readUnit_113, zX2_readUnit_114, zX2_readUnit_117, zX2_readUnit_120, zX2_readUnit_123, hc, hb, hcl, h9, c1, c2, i32_m1, not_false_eq_true, e_k_int, e_k_ref, e_k_null, e_k_long, e_k_ret, e_cats_nil, e_cats_int, e_cats_ref, e_cats_ret, e_cats_long, Option.toList_some, Option.toList_none, List.nil_append, List.cons_append, Option.bind_some, Nat.reduceAdd, Nat.reduceLeDiff, Nat.add_zero, if_true, if_false, true_and, and_true, and_self, Int32.reduceToNatClampNeg, ok_1, ok_2, ok_3, ok_4, ok_5, ok_6, ok_7, ok_8, ok_9, ok_30, ok_31, ok_32, ok_33, ok_34, ok_35, ok_36, ok_37, ok_38, ok_39, ok_40, ok_41, ok_42, ok_43, ok_44, ok_45, ok_46, ok_47, ok_48, ok_49, ok_50, ok_51, ok_52, ln_1, ln_2, ln_4, ln_5, ln_6, ln_7, ln_8, ln_30, ln_31, ln_32, ln_33, ln_34, ln_35, ln_36, ln_37, ln_38, ln_39, ln_41, ln_42, ln_43, ln_44, ln_45, ln_46, ln_47, ln_48, ln_49, ln_50, ln_51, ln_52]
        exact q
theorem r_readUnit {d n op : Nat} (hn : n ≤ 40) (hop : op ≤ 8) {T : Nat → Int32} (hT : ∀ k, k < n → 0 ≤ (T k).toInt ∧ (T k).toInt < 128) {h g : e_H} {s : c_S} (hP : c_P T n h g s) {rc : Nat → c_S → c_S} (hrc : op < 8 → ∀ g s, c_P T n h g s → ∃ g2, e_X e_pg (d + 4) 22 [.ref 3, .int 0, .int (nI (op + 1))] g = some (none, g2) ∧ c_P T n h g2 (rc (op + 1) s)) : ∃ g2, e_X e_pg (d + 7) 24 [.ref 3, .int (nI op)] g = some (none, g2) ∧ c_P T n h g2 (c_un rc T n op s) := by
  have l1 := c_skip_le (T := T) (n := n) hP.2.2.2.1
  have l2 := c_sg_le (T := T) (n := n) 40 _ l1.2
  obtain ⟨g1, a1, a2⟩ := r_ahead (d := d + 5) hn hP
  obtain ⟨g2, x, b1, ⟨z, bz⟩, b3⟩ := r_sg_loop (d := d + 5) (op := nI op) (fi := nI s.2.1) hn 40 0 g1 _ .null (by omega) a2
  subst bz
  obtain ⟨g3, e1, e2⟩ := r_readPlain (d := d) hn hop hT b3 hrc
  obtain ⟨g4, f1, f2⟩ := r_up_loop (d := d + 5) (first := s.2.1) (op := nI op) (c3 := c_ch T n (c_sg T n 40 (c_skip T n s.2.1))) (z4 := nI (c_sg T n 40 (c_skip T n s.2.1))) hn (c_sg T n 40 (c_skip T n s.2.1) - s.2.1) g3 _ (by omega) e2
  refine ⟨g4, ?_, f2⟩
  rw [xX2_readUnit]
  have p8 := b3.2.2.1
  rw [show s.2.1 + (c_sg T n 40 (c_skip T n s.2.1) - s.2.1) = c_sg T n 40 (c_skip T n s.2.1) by omega] at f1
  simp only [zX2_readUnit_0, zX2_readUnit_1, zX2_readUnit_4, zX2_readUnit_5, zX2_readUnit_6, zX2_readUnit_9, zX2_readUnit_10, zX2_readUnit_11, hP.2.2.1, a1, e_k_int, e_k_ref, e_k_null, e_k_long, e_k_ret, e_cats_nil, e_cats_int, e_cats_ref, e_cats_ret, e_cats_long, Option.toList_some, Option.toList_none, List.nil_append, List.cons_append, Option.bind_some, Nat.reduceAdd, Nat.reduceLeDiff, Nat.add_zero, if_true, if_false, true_and, and_true, and_self, Int32.reduceToNatClampNeg]
  rw [show (0 : Int32) = nI 0 from rfl, b1]
  simp only [zX2_readUnit_53, zX2_readUnit_54, zX2_readUnit_57, zX2_readUnit_59, zX2_readUnit_60, zX2_readUnit_61, zX2_readUnit_62, zX2_readUnit_65, zX2_readUnit_67, zX2_readUnit_68, zX2_readUnit_69, p8, e1, e_k_int, e_k_ref, e_k_null, e_k_long, e_k_ret, e_cats_nil, e_cats_int, e_cats_ref, e_cats_ret, e_cats_long, Option.toList_some, Option.toList_none, List.nil_append, List.cons_append, Option.bind_some, Nat.reduceAdd, Nat.reduceLeDiff, Nat.add_zero, if_true, if_false, true_and, and_true, and_self, Int32.reduceToNatClampNeg]
  exact f1
set_option maxRecDepth 100000 in
theorem r_level_loop {d n L op : Nat} (hn : n ≤ 40) (hL : L < 5) {T : Nat → Int32} {h : e_H} {rc : c_S → c_S} {R : Nat} (hR : R ≤ 40) (hrc : ∀ g s, c_P T n h g s → ∃ g2, e_X e_pg (d + 1) 22 [.ref 3, .int (nI (L + 1)), .int (nI op)] g = some (none, g2) ∧ c_P T n h g2 (rc s)) : ∀ (t k : Nat) (g : e_H) (s : c_S) (a5 : Value), k + t = R → c_P T n h g s → ∃ g2, e_F kX2_readLevel (e_X e_pg (d + 1)) 34 [.ref 3, .int (nI L), .int (nI op), .int (nI R), .int (nI k), a5] [] g = some (none, g2) ∧ c_P T n h g2 (c_lp rc T n L t s) := by
  intro t
  induction t with
  | zero =>
    intro k g s a5 hk hP
    have hk : k = R := by omega
    subst hk
    refine ⟨g, ?_, hP⟩
    rw [zX2_readLevel_34]
    simp only [zX2_readLevel_36, zX2_readLevel_37, zX2_readLevel_40, zX2_readLevel_41, zX2_readLevel_44, zX2_readLevel_45, zX2_readLevel_48, zX2_readLevel_49, zX2_readLevel_52, zX2_readLevel_54, zX2_readLevel_55, zX2_readLevel_57, zX2_readLevel_60, zX2_readLevel_63, zX2_readLevel_64, zX2_readLevel_65, zX2_readLevel_66, zX2_readLevel_69, zX2_readLevel_70, zX2_readLevel_71, zX2_readLevel_74, zX2_readLevel_75, zX2_readLevel_76, zX2_readLevel_77, zX2_readLevel_78, zX2_readLevel_79, zX2_readLevel_82, zX2_readLevel_83, zX2_readLevel_85, zX2_readLevel_86, zX2_readLevel_89, zX2_readLevel_92, zX2_readLevel_95, show nI k ≤ nI k from nI_le (Nat.le_refl _) (by omega), e_k_int, e_k_ref, e_k_null, e_k_long, e_k_ret, e_cats_nil, e_cats_int, e_cats_ref, e_cats_ret, e_cats_long, Option.toList_some, Option.toList_none, List.nil_append, List.cons_append, Option.bind_some, Nat.reduceAdd, Nat.reduceLeDiff, Nat.add_zero, if_true, if_false, true_and, and_true, and_self, Int32.reduceToNatClampNeg]
  | succ t ih =>
    intro k g s a5 hk hP
    have hc : ¬ nI R ≤ nI k := nI_ge (by omega) (by omega)
    rw [c_lp, zX2_readLevel_34]
    by_cases c1 : s.1 = -1
    · rw [if_neg (by rw [c1]; decide)]
      obtain ⟨g2, a1, a2⟩ := r_ahead (d := d) hn hP
      by_cases c2 : c_joins L (c_ch T n (c_skip T n s.2.1)) = true
      · rw [if_pos c2]
        have hlt : c_skip T n s.2.1 < n := c_ch_lt (by
          intro z
          rw [z] at c2
          have : ∀ L, L < 5 → c_joins L (-1) = false := by decide
          rw [this L hL] at c2
          cases c2)
        obtain ⟨g3, b1, b2⟩ := hrc _ _ (c_P_inc a2 hlt)
        obtain ⟨g4, e1, e2⟩ := r_emit (d := d) (c := c_ch T n (c_skip T n s.2.1)) (o := 0) b2
        have q := ih (k + 1) g4 _ (.int (c_ch T n (c_skip T n s.2.1))) (by omega) e2
        obtain ⟨g5, q1, q2⟩ := q
        refine ⟨g5, ?_, q2⟩
        simp only [zX2_readLevel_36, zX2_readLevel_37, zX2_readLevel_40, zX2_readLevel_41, zX2_readLevel_44, zX2_readLevel_45, zX2_readLevel_48, zX2_readLevel_49, zX2_readLevel_52, zX2_readLevel_54, zX2_readLevel_55, zX2_readLevel_57, zX2_readLevel_60, zX2_readLevel_63, zX2_readLevel_64, zX2_readLevel_65, zX2_readLevel_66, zX2_readLevel_69, zX2_readLevel_70, zX2_readLevel_71, zX2_readLevel_74, zX2_readLevel_75, zX2_readLevel_76, zX2_readLevel_77, zX2_readLevel_78, zX2_readLevel_79, zX2_readLevel_82, zX2_readLevel_83, zX2_readLevel_85, zX2_readLevel_86, zX2_readLevel_89, zX2_readLevel_92, zX2_readLevel_95, hc, hP.2.1, c1, a1, r_joins hL, c2, nI_1, b1, e1, ne_0_1, ne_0_2, ne_0_3, ne_1_0, ne_1_2, ne_1_3, ne_2_0, ne_2_1, ne_2_3, ne_3_0, ne_3_1, ne_3_2, not_true_eq_false, not_false_eq_true, e_k_int, e_k_ref, e_k_null, e_k_long, e_k_ret, e_cats_nil, e_cats_int, e_cats_ref, e_cats_ret, e_cats_long, Option.toList_some, Option.toList_none, List.nil_append, List.cons_append, Option.bind_some, Nat.reduceAdd, Nat.reduceLeDiff, Nat.add_zero, if_true, if_false, true_and, and_true, and_self, Int32.reduceToNatClampNeg]
        exact q1
      · rw [if_neg c2]
        refine ⟨g2, ?_, a2⟩
        simp only [zX2_readLevel_36, zX2_readLevel_37, zX2_readLevel_40, zX2_readLevel_41, zX2_readLevel_44, zX2_readLevel_45, zX2_readLevel_48, zX2_readLevel_49, zX2_readLevel_52, zX2_readLevel_54, zX2_readLevel_55, zX2_readLevel_57, zX2_readLevel_60, zX2_readLevel_63, zX2_readLevel_64, zX2_readLevel_65, zX2_readLevel_66, zX2_readLevel_69, zX2_readLevel_70, zX2_readLevel_71, zX2_readLevel_74, zX2_readLevel_75, zX2_readLevel_76, zX2_readLevel_77, zX2_readLevel_78, zX2_readLevel_79, zX2_readLevel_82, zX2_readLevel_83, zX2_readLevel_85, zX2_readLevel_86, zX2_readLevel_89, zX2_readLevel_92, zX2_readLevel_95, hc, hP.2.1, c1, a1, r_joins hL, c2, ne_0_1, ne_0_2, ne_0_3, ne_1_0, ne_1_2, ne_1_3, ne_2_0, ne_2_1, ne_2_3, ne_3_0, ne_3_1, ne_3_2, not_true_eq_false, Bool.false_eq_true, e_k_int, e_k_ref, e_k_null, e_k_long, e_k_ret, e_cats_nil, e_cats_int, e_cats_ref, e_cats_ret, e_cats_long, Option.toList_some, Option.toList_none, List.nil_append, List.cons_append, Option.bind_some, Nat.reduceAdd, Nat.reduceLeDiff, Nat.add_zero, if_true, if_false, true_and, and_true, and_self, Int32.reduceToNatClampNeg]
    · rw [if_pos c1]
      refine ⟨g, ?_, hP⟩
      simp only [zX2_readLevel_36, zX2_readLevel_37, zX2_readLevel_40, zX2_readLevel_41, zX2_readLevel_44, zX2_readLevel_45, zX2_readLevel_48, zX2_readLevel_49, zX2_readLevel_52, zX2_readLevel_54, zX2_readLevel_55, zX2_readLevel_57, zX2_readLevel_60, zX2_readLevel_63, zX2_readLevel_64, zX2_readLevel_65, zX2_readLevel_66, zX2_readLevel_69, zX2_readLevel_70, zX2_readLevel_71, zX2_readLevel_74, zX2_readLevel_75, zX2_readLevel_76, zX2_readLevel_77, zX2_readLevel_78, zX2_readLevel_79, zX2_readLevel_82, zX2_readLevel_83, zX2_readLevel_85, zX2_readLevel_86, zX2_readLevel_89, zX2_readLevel_92, zX2_readLevel_95, hc, hP.2.1, c1, not_false_eq_true, e_k_int, e_k_ref, e_k_null, e_k_long, e_k_ret, e_cats_nil, e_cats_int, e_cats_ref, e_cats_ret, e_cats_long, Option.toList_some, Option.toList_none, List.nil_append, List.cons_append, Option.bind_some, Nat.reduceAdd, Nat.reduceLeDiff, Nat.add_zero, if_true, if_false, true_and, and_true, and_self, Int32.reduceToNatClampNeg]
theorem r_readLevel {n : Nat} (hn : n ≤ 40) {T : Nat → Int32} (hT : ∀ k, k < n → 0 ≤ (T k).toInt ∧ (T k).toInt < 128) {h : e_H} : ∀ (f d L op : Nat) (g : e_H) (s : c_S), L ≤ 5 → op ≤ 8 → 6 * (8 - op) + (6 - L) ≤ f → c_P T n h g s → ∃ g2, e_X e_pg (d + 4 * f + 6) 22 [.ref 3, .int (nI L), .int (nI op)] g = some (none, g2) ∧ c_P T n h g2 (c_lvl T n f L op s) := by
  intro f
  induction f with
  | zero => intro d L op g s hL hop hf; omega
  | succ f ih =>
    intro d L op g s hL hop hf hP
    rw [c_lvl, show d + 4 * (f + 1) + 6 = (d + 4 * f + 9) + 1 by omega, xX2_readLevel]
    by_cases c5 : 5 ≤ L
    · rw [if_pos c5]
      have hc : ¬ nI L < 5 := by rw [show (5 : Int32) = nI 5 from rfl]; exact nI_nlt c5 (by omega)
      obtain ⟨g2, e1, e2⟩ := r_readUnit (d := d + 4 * f + 2) hn hop hT hP (rc := fun o s => c_lvl T n f 0 o s) (fun ho g s hP => by
        have := ih d 0 (op + 1) g s (by omega) (by omega) (by omega) hP
        rw [show d + 4 * f + 2 + 4 = d + 4 * f + 6 by omega]
        exact this)
      refine ⟨g2, ?_, e2⟩
      rw [show d + 4 * f + 2 + 7 = d + 4 * f + 9 by omega] at e1
      simp only [zX2_readLevel_0, zX2_readLevel_1, zX2_readLevel_2, zX2_readLevel_5, zX2_readLevel_6, zX2_readLevel_7, zX2_readLevel_10, zX2_readLevel_11, zX2_readLevel_12, zX2_readLevel_13, zX2_readLevel_14, zX2_readLevel_15, zX2_readLevel_16, zX2_readLevel_19, zX2_readLevel_20, zX2_readLevel_21, zX2_readLevel_24, zX2_readLevel_25, zX2_readLevel_28, zX2_readLevel_30, zX2_readLevel_31, zX2_readLevel_32, zX2_readLevel_34, zX2_readLevel_36, zX2_readLevel_37, zX2_readLevel_40, zX2_readLevel_41, zX2_readLevel_44, zX2_readLevel_45, zX2_readLevel_48, zX2_readLevel_49, zX2_readLevel_52, zX2_readLevel_54, zX2_readLevel_55, zX2_readLevel_57, zX2_readLevel_60, zX2_readLevel_63, zX2_readLevel_64, zX2_readLevel_65, zX2_readLevel_66, zX2_readLevel_69, zX2_readLevel_70, zX2_readLevel_71, zX2_readLevel_74, zX2_readLevel_75, zX2_readLevel_76, zX2_readLevel_77, zX2_readLevel_78, zX2_readLevel_79, zX2_readLevel_82, zX2_readLevel_83, zX2_readLevel_85, zX2_readLevel_86, zX2_readLevel_89, zX2_readLevel_92, zX2_readLevel_95, hc, e1, e_k_int, e_k_ref, e_k_null, e_k_long, e_k_ret, e_cats_nil, e_cats_int, e_cats_ref, e_cats_ret, e_cats_long, Option.toList_some, Option.toList_none, List.nil_append, List.cons_append, Option.bind_some, Nat.reduceAdd, Nat.reduceLeDiff, Nat.add_zero, if_true, if_false, true_and, and_true, and_self, Int32.reduceToNatClampNeg]
    · rw [if_neg c5]
      have hc : nI L < 5 := by rw [show (5 : Int32) = nI 5 from rfl]; exact nI_lt (by omega) (by omega)
      have hrc : ∀ g s, c_P T n h g s → ∃ g2, e_X e_pg ((d + 4 * f + 8) + 1) 22 [.ref 3, .int (nI (L + 1)), .int (nI op)] g = some (none, g2) ∧ c_P T n h g2 (c_lvl T n f (L + 1) op s) := fun g s hP => by
        have := ih (d + 3) (L + 1) op g s (by omega) hop (by omega) hP
        rw [show d + 4 * f + 8 + 1 = d + 3 + 4 * f + 6 by omega]
        exact this
      obtain ⟨g2, e1, e2⟩ := hrc g s hP
      rw [show d + 4 * f + 8 + 1 = d + 4 * f + 9 by omega] at e1
      by_cases c2 : L = 2
      · subst c2
        obtain ⟨g3, b1, b2⟩ := r_level_loop (d := d + 4 * f + 8) (L := 2) (op := op) (R := 1) hn (by decide) (by decide) hrc 1 0 g2 _ .null (by omega) e2
        refine ⟨g3, ?_, b2⟩
        rw [show d + 4 * f + 8 + 1 = d + 4 * f + 9 by omega] at b1
        rw [show nI 2 = (2 : Int32) from rfl, show nI 1 = (1 : Int32) from rfl, show nI 0 = (0 : Int32) from rfl] at b1
        rw [show nI (2 + 1) = (2 : Int32) + 1 from rfl] at e1
        rw [show nI 2 = (2 : Int32) from rfl]
        simp only [zX2_readLevel_0, zX2_readLevel_1, zX2_readLevel_2, zX2_readLevel_5, zX2_readLevel_6, zX2_readLevel_7, zX2_readLevel_10, zX2_readLevel_11, zX2_readLevel_12, zX2_readLevel_13, zX2_readLevel_14, zX2_readLevel_15, zX2_readLevel_16, zX2_readLevel_19, zX2_readLevel_20, zX2_readLevel_21, zX2_readLevel_24, zX2_readLevel_25, zX2_readLevel_28, zX2_readLevel_30, zX2_readLevel_31, zX2_readLevel_32, show (2 : Int32) < 5 from by decide, e1, not_true_eq_false, e_k_int, e_k_ref, e_k_null, e_k_long, e_k_ret, e_cats_nil, e_cats_int, e_cats_ref, e_cats_ret, e_cats_long, Option.toList_some, Option.toList_none, List.nil_append, List.cons_append, Option.bind_some, Nat.reduceAdd, Nat.reduceLeDiff, Nat.add_zero, if_true, if_false, true_and, and_true, and_self, Int32.reduceToNatClampNeg]
        exact b1
      · have n2 : ¬ nI L = 2 := by
          rw [show (2 : Int32) = nI 2 from rfl, nI_eq (by omega) (by decide)]
          exact c2
        rw [if_neg c2]
        obtain ⟨g3, b1, b2⟩ := r_level_loop (d := d + 4 * f + 8) (L := L) (op := op) (R := 40) hn (by omega) (by decide) hrc 40 0 g2 _ .null (by omega) e2
        refine ⟨g3, ?_, b2⟩
        rw [show d + 4 * f + 8 + 1 = d + 4 * f + 9 by omega] at b1
        rw [show nI 40 = (40 : Int32) from rfl, show nI 0 = (0 : Int32) from rfl] at b1
        simp only [zX2_readLevel_0, zX2_readLevel_1, zX2_readLevel_2, zX2_readLevel_5, zX2_readLevel_6, zX2_readLevel_7, zX2_readLevel_10, zX2_readLevel_11, zX2_readLevel_12, zX2_readLevel_13, zX2_readLevel_14, zX2_readLevel_15, zX2_readLevel_16, zX2_readLevel_19, zX2_readLevel_20, zX2_readLevel_21, zX2_readLevel_24, zX2_readLevel_25, zX2_readLevel_28, zX2_readLevel_30, zX2_readLevel_31, zX2_readLevel_32, hc, nI_1, e1, n2, not_false_eq_true, e_k_int, e_k_ref, e_k_null, e_k_long, e_k_ret, e_cats_nil, e_cats_int, e_cats_ref, e_cats_ret, e_cats_long, Option.toList_some, Option.toList_none, List.nil_append, List.cons_append, Option.bind_some, Nat.reduceAdd, Nat.reduceLeDiff, Nat.add_zero, if_true, if_false, true_and, and_true, and_self, Int32.reduceToNatClampNeg]
        exact b1
/-- the reader of a whole text -/
def c_comp (T : Nat → Int32) (n : Nat) : c_S :=
  if c_ch T n (c_skip T n (c_lvl T n 60 0 0 (-1, 0, [])).2.1) = -1 then ((c_lvl T n 60 0 0 (-1, 0, [])).1, c_skip T n (c_lvl T n 60 0 0 (-1, 0, [])).2.1, (c_lvl T n 60 0 0 (-1, 0, [])).2.2)
  else c_spoil ((c_lvl T n 60 0 0 (-1, 0, [])).1, c_skip T n (c_lvl T n 60 0 0 (-1, 0, [])).2.1, (c_lvl T n 60 0 0 (-1, 0, [])).2.2) (c_skip T n (c_lvl T n 60 0 0 (-1, 0, [])).2.1) 1
theorem r_compile {d n : Nat} (hn : n ≤ 40) {T : Nat → Int32} (hT : ∀ k, k < n → 0 ≤ (T k).toInt ∧ (T k).toInt < 128) {g : e_H} (h0 : e_gI g 3 0 = nI n) (h4 : ∀ k, e_gI g 4 k = T k) : ∃ g2, e_X e_pg (d + 247) 18 [.ref 3] g = some (none, g2) ∧ c_P T n g g2 (c_comp T n) := by
  have hP0 : c_P T n g (e_pI (e_pI (e_pI g 3 7 0) 3 8 0) 3 1 (-1)) (-1, 0, []) := by
    refine ⟨by simp [e_gI_pI, h0], by simp [e_gI_pI], by simp [e_gI_pI, nI_0], by simp, by simp [e_gI_pI, nI_0], by simp, fun i hi => by simp at hi, (((e_fr.refl _ g).pI (by simp)).pI (by simp)).pI (by simp), fun k => by simp [e_gI_pI, h4]⟩
  obtain ⟨g1, a1, a2⟩ := r_readLevel hn hT 60 d 0 0 _ _ (by omega) (by omega) (by omega) hP0
  obtain ⟨g2, b1, b2⟩ := r_ahead (d := d + 245) hn a2
  rw [show nI 0 = (0 : Int32) from rfl] at a1
  rw [xX2_compile]
  unfold c_comp
  by_cases c1 : c_ch T n (c_skip T n (c_lvl T n 60 0 0 (-1, 0, [])).2.1) = -1
  · rw [if_pos c1]
    refine ⟨g2, ?_, b2⟩
    simp only [zX2_compile_0, zX2_compile_1, zX2_compile_2, zX2_compile_5, zX2_compile_6, zX2_compile_7, zX2_compile_10, zX2_compile_11, zX2_compile_12, zX2_compile_15, zX2_compile_16, zX2_compile_17, zX2_compile_18, zX2_compile_21, zX2_compile_22, zX2_compile_25, zX2_compile_26, zX2_compile_29, zX2_compile_30, zX2_compile_31, zX2_compile_34, zX2_compile_35, zX2_compile_38, a1, b1, c1, e_k_int, e_k_ref, e_k_null, e_k_long, e_k_ret, e_cats_nil, e_cats_int, e_cats_ref, e_cats_ret, e_cats_long, Option.toList_some, Option.toList_none, List.nil_append, List.cons_append, Option.bind_some, Nat.reduceAdd, Nat.reduceLeDiff, Nat.add_zero, if_true, if_false, true_and, and_true, and_self, Int32.reduceToNatClampNeg]
  · rw [if_neg c1]
    obtain ⟨g3, e1, e2⟩ := r_spoil (d := d + 245) (k := 1) (w := c_skip T n (c_lvl T n 60 0 0 (-1, 0, [])).2.1) rfl b2
    refine ⟨g3, ?_, e2⟩
    have p8 := b2.2.2.1
    simp only [zX2_compile_0, zX2_compile_1, zX2_compile_2, zX2_compile_5, zX2_compile_6, zX2_compile_7, zX2_compile_10, zX2_compile_11, zX2_compile_12, zX2_compile_15, zX2_compile_16, zX2_compile_17, zX2_compile_18, zX2_compile_21, zX2_compile_22, zX2_compile_25, zX2_compile_26, zX2_compile_29, zX2_compile_30, zX2_compile_31, zX2_compile_34, zX2_compile_35, zX2_compile_38, a1, b1, c1, p8, e1, e_k_int, e_k_ref, e_k_null, e_k_long, e_k_ret, e_cats_nil, e_cats_int, e_cats_ref, e_cats_ret, e_cats_long, Option.toList_some, Option.toList_none, List.nil_append, List.cons_append, Option.bind_some, Nat.reduceAdd, Nat.reduceLeDiff, Nat.add_zero, if_true, if_false, true_and, and_true, and_self, Int32.reduceToNatClampNeg]
