/-! units, levels: the pure reader, and the class's -/
def c_group (rc : Nat → c_S → c_S) (T : Nat → Int32) (n op : Nat) (s : c_S) : c_S :=
  if 8 ≤ op then c_spoil s s.2.1 3
  else if c_ch T n (c_skip T n (rc (op + 1) (s.1, s.2.1 + 1, s.2.2)).2.1) = 41 then ((rc (op + 1) (s.1, s.2.1 + 1, s.2.2)).1, c_skip T n (rc (op + 1) (s.1, s.2.1 + 1, s.2.2)).2.1 + 1, (rc (op + 1) (s.1, s.2.1 + 1, s.2.2)).2.2)
  else c_spoil ((rc (op + 1) (s.1, s.2.1 + 1, s.2.2)).1, c_skip T n (rc (op + 1) (s.1, s.2.1 + 1, s.2.2)).2.1, (rc (op + 1) (s.1, s.2.1 + 1, s.2.2)).2.2) (c_skip T n (rc (op + 1) (s.1, s.2.1 + 1, s.2.2)).2.1) 1
def c_plain (rc : Nat → c_S → c_S) (T : Nat → Int32) (n op : Nat) (s : c_S) : c_S :=
  if ¬ c_dig (c_ch T n s.2.1) = 0 then c_nm T n s.2.1 7 s 0
  else if c_ch T n s.2.1 = 40 then c_group rc T n op s
  else if c_ch T n s.2.1 = -1 then c_spoil s s.2.1 1
  else if c_let (c_ch T n s.2.1) < 0 then c_spoil s s.2.1 1
  else ((c_emit s 2 (c_let (c_ch T n s.2.1))).1, s.2.1 + 1, (c_emit s 2 (c_let (c_ch T n s.2.1))).2.2)
def c_sg (T : Nat → Int32) (n : Nat) : Nat → Nat → Nat
  | 0, p => p
  | f + 1, p => if c_ch T n p = 33 ∨ c_ch T n p = 45 then c_sg T n f (c_skip T n (p + 1)) else p
def c_up (T : Nat → Int32) (first : Nat) : Nat → c_S → c_S
  | 0, s => s
  | k + 1, s => c_up T first k (if T (first + k) = 33 then c_emit s 33 0 else if T (first + k) = 45 then c_emit s 3 0 else s)
def c_un (rc : Nat → c_S → c_S) (T : Nat → Int32) (n op : Nat) (s : c_S) : c_S := c_up T s.2.1 (c_sg T n 40 (c_skip T n s.2.1) - s.2.1) (c_plain rc T n op (s.1, c_sg T n 40 (c_skip T n s.2.1), s.2.2))
def c_lp (rc : c_S → c_S) (T : Nat → Int32) (n L : Nat) : Nat → c_S → c_S
  | 0, s => s
  | t + 1, s => if ¬ s.1 = -1 then s else if c_joins L (c_ch T n (c_skip T n s.2.1)) = true then c_lp rc T n L t (c_emit (rc (s.1, c_skip T n s.2.1 + 1, s.2.2)) (c_ch T n (c_skip T n s.2.1)) 0) else (s.1, c_skip T n s.2.1, s.2.2)
def c_lvl (T : Nat → Int32) (n : Nat) : Nat → Nat → Nat → c_S → c_S
  | 0, _, _, s => s
  | f + 1, L, op, s => if 5 ≤ L then c_un (fun o s => c_lvl T n f 0 o s) T n op s else c_lp (c_lvl T n f (L + 1) op) T n L (if L = 2 then 1 else 40) (c_lvl T n f (L + 1) op s)
theorem c_ch_lt {T : Nat → Int32} {n p : Nat} (h : ¬ c_ch T n p = -1) : p < n := by
  unfold c_ch at h
  split at h
  · assumption
  · exact absurd rfl h
theorem c_P_inc {T : Nat → Int32} {n : Nat} {h g : e_H} {s : c_S} (hP : c_P T n h g s) (hp : s.2.1 < n) : c_P T n h (e_pI g 3 8 (e_gI g 3 8 + 1)) (s.1, s.2.1 + 1, s.2.2) := by
  rw [hP.2.2.1, nI_1]
  exact hP.place (by omega)
theorem r_readGroup {d D n op : Nat} (hn : n ≤ 40) (hop : op ≤ 8) {T : Nat → Int32} {h g : e_H} {s : c_S} (hP : c_P T n h g s) (hp : s.2.1 < n) {rc : Nat → c_S → c_S} (hD : D = d + 1) (hrc : op < 8 → ∀ g s, c_P T n h g s → ∃ g2, e_X e_pg D 22 [.ref 3, .int 0, .int (nI (op + 1))] g = some (none, g2) ∧ c_P T n h g2 (rc (op + 1) s)) : ∃ g2, e_X e_pg (D + 1) 28 [.ref 3, .int (nI op)] g = some (none, g2) ∧ c_P T n h g2 (c_group rc T n op s) := by
  rw [xX2_readGroup]
  unfold c_group
  by_cases c1 : 8 ≤ op
  · have hc : ¬ nI op < 8 := by rw [show (8 : Int32) = nI 8 from rfl]; exact nI_nlt c1 (by omega)
    rw [if_pos c1]
    subst hD
    obtain ⟨g2, e1, e2⟩ := r_spoil (d := d) (k := 3) (w := s.2.1) rfl hP
    refine ⟨g2, ?_, e2⟩
    simp only [zX2_readGroup_0, zX2_readGroup_1, zX2_readGroup_3, zX2_readGroup_6, zX2_readGroup_7, zX2_readGroup_8, zX2_readGroup_11, zX2_readGroup_12, zX2_readGroup_15, zX2_readGroup_16, zX2_readGroup_17, zX2_readGroup_18, zX2_readGroup_21, zX2_readGroup_22, zX2_readGroup_23, zX2_readGroup_26, zX2_readGroup_27, zX2_readGroup_28, zX2_readGroup_29, zX2_readGroup_30, zX2_readGroup_31, zX2_readGroup_34, zX2_readGroup_35, zX2_readGroup_38, zX2_readGroup_40, zX2_readGroup_43, zX2_readGroup_44, zX2_readGroup_45, zX2_readGroup_48, zX2_readGroup_49, zX2_readGroup_52, zX2_readGroup_53, zX2_readGroup_54, zX2_readGroup_55, zX2_readGroup_58, zX2_readGroup_59, zX2_readGroup_60, zX2_readGroup_63, hc, hP.2.2.1, e1, e_k_int, e_k_ref, e_k_null, e_k_long, e_k_ret, e_cats_nil, e_cats_int, e_cats_ref, e_cats_ret, e_cats_long, Option.toList_some, Option.toList_none, List.nil_append, List.cons_append, Option.bind_some, Nat.reduceAdd, Nat.reduceLeDiff, Nat.add_zero, if_true, if_false, true_and, and_true, and_self, Int32.reduceToNatClampNeg]
  · have hc : nI op < 8 := by rw [show (8 : Int32) = nI 8 from rfl]; exact nI_lt (by omega) (by omega)
    rw [if_neg c1]
    obtain ⟨g2, e1, e2⟩ := hrc (by omega) _ _ (c_P_inc hP hp)
    generalize hs1 : rc (op + 1) (s.1, s.2.1 + 1, s.2.2) = s1 at *
    subst hD
    obtain ⟨g3, a1, a2⟩ := r_ahead (d := d) hn e2
    by_cases c2 : c_ch T n (c_skip T n s1.2.1) = 41
    · rw [if_pos c2]
      have hlt : c_skip T n s1.2.1 < n := c_ch_lt (by rw [c2]; decide)
      refine ⟨_, ?_, c_P_inc a2 hlt⟩
      simp only [zX2_readGroup_0, zX2_readGroup_1, zX2_readGroup_3, zX2_readGroup_6, zX2_readGroup_7, zX2_readGroup_8, zX2_readGroup_11, zX2_readGroup_12, zX2_readGroup_15, zX2_readGroup_16, zX2_readGroup_17, zX2_readGroup_18, zX2_readGroup_21, zX2_readGroup_22, zX2_readGroup_23, zX2_readGroup_26, zX2_readGroup_27, zX2_readGroup_28, zX2_readGroup_29, zX2_readGroup_30, zX2_readGroup_31, zX2_readGroup_34, zX2_readGroup_35, zX2_readGroup_38, zX2_readGroup_40, zX2_readGroup_43, zX2_readGroup_44, zX2_readGroup_45, zX2_readGroup_48, zX2_readGroup_49, zX2_readGroup_52, zX2_readGroup_53, zX2_readGroup_54, zX2_readGroup_55, zX2_readGroup_58, zX2_readGroup_59, zX2_readGroup_60, zX2_readGroup_63, hc, nI_1, e1, a1, c2, e_k_int, e_k_ref, e_k_null, e_k_long, e_k_ret, e_cats_nil, e_cats_int, e_cats_ref, e_cats_ret, e_cats_long, Option.toList_some, Option.toList_none, List.nil_append, List.cons_append, Option.bind_some, Nat.reduceAdd, Nat.reduceLeDiff, Nat.add_zero, if_true, if_false, true_and, and_true, and_self, Int32.reduceToNatClampNeg]
    · rw [if_neg c2]
      obtain ⟨g4, b1, b2⟩ := r_spoil (d := d) (k := 1) (w := c_skip T n s1.2.1) rfl a2
      refine ⟨g4, ?_, b2⟩
      have p8 := a2.2.2.1
      simp only [zX2_readGroup_0, zX2_readGroup_1, zX2_readGroup_3, zX2_readGroup_6, zX2_readGroup_7, zX2_readGroup_8, zX2_readGroup_11, zX2_readGroup_12, zX2_readGroup_15, zX2_readGroup_16, zX2_readGroup_17, zX2_readGroup_18, zX2_readGroup_21, zX2_readGroup_22, zX2_readGroup_23, zX2_readGroup_26, zX2_readGroup_27, zX2_readGroup_28, zX2_readGroup_29, zX2_readGroup_30, zX2_readGroup_31, zX2_readGroup_34, zX2_readGroup_35, zX2_readGroup_38, zX2_readGroup_40, zX2_readGroup_43, zX2_readGroup_44, zX2_readGroup_45, zX2_readGroup_48, zX2_readGroup_49, zX2_readGroup_52, zX2_readGroup_53, zX2_readGroup_54, zX2_readGroup_55, zX2_readGroup_58, zX2_readGroup_59, zX2_readGroup_60, zX2_readGroup_63, hc, nI_1, e1, a1, c2, p8, b1, e_k_int, e_k_ref, e_k_null, e_k_long, e_k_ret, e_cats_nil, e_cats_int, e_cats_ref, e_cats_ret, e_cats_long, Option.toList_some, Option.toList_none, List.nil_append, List.cons_append, Option.bind_some, Nat.reduceAdd, Nat.reduceLeDiff, Nat.add_zero, if_true, if_false, true_and, and_true, and_self, Int32.reduceToNatClampNeg]
theorem c_ch_rg {T : Nat → Int32} {n p : Nat} (hT : ∀ k, k < n → 0 ≤ (T k).toInt ∧ (T k).toInt < 128) (h : ¬ c_ch T n p = -1) : 0 ≤ (c_ch T n p).toInt ∧ (c_ch T n p).toInt < 128 := by
  have hp := c_ch_lt h
  unfold c_ch
  rw [if_pos hp]
  exact hT p hp
theorem r_readPlain {d n op : Nat} (hn : n ≤ 40) (hop : op ≤ 8) {T : Nat → Int32} (hT : ∀ k, k < n → 0 ≤ (T k).toInt ∧ (T k).toInt < 128) {h g : e_H} {s : c_S} (hP : c_P T n h g s) {rc : Nat → c_S → c_S} (hrc : op < 8 → ∀ g s, c_P T n h g s → ∃ g2, e_X e_pg (d + 4) 22 [.ref 3, .int 0, .int (nI (op + 1))] g = some (none, g2) ∧ c_P T n h g2 (rc (op + 1) s)) : ∃ g2, e_X e_pg (d + 6) 25 [.ref 3, .int (c_ch T n s.2.1), .int (nI op)] g = some (none, g2) ∧ c_P T n h g2 (c_plain rc T n op s) := by
  rw [xX2_readPlain]
  unfold c_plain
  by_cases c1 : c_dig (c_ch T n s.2.1) = 0
  · rw [if_neg (by rw [c1]; decide)]
    by_cases c2 : c_ch T n s.2.1 = 40
    · rw [if_pos c2]
      obtain ⟨g2, e1, e2⟩ := r_readGroup (d := d + 3) (D := d + 4) hn hop hP (c_ch_lt (by rw [c2]; decide)) rfl hrc
      refine ⟨g2, ?_, e2⟩
      simp only [zX2_readPlain_0, zX2_readPlain_1, zX2_readPlain_4, zX2_readPlain_7, zX2_readPlain_8, zX2_readPlain_11, zX2_readPlain_14, zX2_readPlain_15, zX2_readPlain_17, zX2_readPlain_20, zX2_readPlain_21, zX2_readPlain_22, zX2_readPlain_25, zX2_readPlain_28, zX2_readPlain_29, zX2_readPlain_30, zX2_readPlain_33, zX2_readPlain_35, zX2_readPlain_36, zX2_readPlain_37, zX2_readPlain_40, zX2_readPlain_43, zX2_readPlain_44, zX2_readPlain_45, zX2_readPlain_47, zX2_readPlain_48, zX2_readPlain_49, zX2_readPlain_52, zX2_readPlain_55, zX2_readPlain_56, zX2_readPlain_57, zX2_readPlain_60, zX2_readPlain_61, zX2_readPlain_62, zX2_readPlain_65, zX2_readPlain_68, zX2_readPlain_69, zX2_readPlain_70, zX2_readPlain_73, zX2_readPlain_74, zX2_readPlain_77, r_isDigit, c1, c2, e1, show c_dig 40 = 0 from rfl, not_true_eq_false, e_k_int, e_k_ref, e_k_null, e_k_long, e_k_ret, e_cats_nil, e_cats_int, e_cats_ref, e_cats_ret, e_cats_long, Option.toList_some, Option.toList_none, List.nil_append, List.cons_append, Option.bind_some, Nat.reduceAdd, Nat.reduceLeDiff, Nat.add_zero, if_true, if_false, true_and, and_true, and_self, Int32.reduceToNatClampNeg]
    · rw [if_neg c2]
      by_cases c3 : c_ch T n s.2.1 = -1
      · rw [if_pos c3]
        obtain ⟨g2, e1, e2⟩ := r_spoil (d := d + 4) (k := 1) (w := s.2.1) rfl hP
        refine ⟨g2, ?_, e2⟩
        simp only [zX2_readPlain_0, zX2_readPlain_1, zX2_readPlain_4, zX2_readPlain_7, zX2_readPlain_8, zX2_readPlain_11, zX2_readPlain_14, zX2_readPlain_15, zX2_readPlain_17, zX2_readPlain_20, zX2_readPlain_21, zX2_readPlain_22, zX2_readPlain_25, zX2_readPlain_28, zX2_readPlain_29, zX2_readPlain_30, zX2_readPlain_33, zX2_readPlain_35, zX2_readPlain_36, zX2_readPlain_37, zX2_readPlain_40, zX2_readPlain_43, zX2_readPlain_44, zX2_readPlain_45, zX2_readPlain_47, zX2_readPlain_48, zX2_readPlain_49, zX2_readPlain_52, zX2_readPlain_55, zX2_readPlain_56, zX2_readPlain_57, zX2_readPlain_60, zX2_readPlain_61, zX2_readPlain_62, zX2_readPlain_65, zX2_readPlain_68, zX2_readPlain_69, zX2_readPlain_70, zX2_readPlain_73, zX2_readPlain_74, zX2_readPlain_77, r_isDigit, c1, c2, c3, hP.2.2.1, e1, show c_dig (-1) = 0 from rfl, show ¬ (-1 : Int32) = 40 from by decide, not_false_eq_true, e_k_int, e_k_ref, e_k_null, e_k_long, e_k_ret, e_cats_nil, e_cats_int, e_cats_ref, e_cats_ret, e_cats_long, Option.toList_some, Option.toList_none, List.nil_append, List.cons_append, Option.bind_some, Nat.reduceAdd, Nat.reduceLeDiff, Nat.add_zero, if_true, if_false, true_and, and_true, and_self, Int32.reduceToNatClampNeg]
      · rw [if_neg c3]
        have rg := c_ch_rg hT c3
        by_cases c4 : c_let (c_ch T n s.2.1) < 0
        · rw [if_pos c4]
          obtain ⟨g2, e1, e2⟩ := r_spoil (d := d + 4) (k := 1) (w := s.2.1) rfl hP
          refine ⟨g2, ?_, e2⟩
          simp only [zX2_readPlain_0, zX2_readPlain_1, zX2_readPlain_4, zX2_readPlain_7, zX2_readPlain_8, zX2_readPlain_11, zX2_readPlain_14, zX2_readPlain_15, zX2_readPlain_17, zX2_readPlain_20, zX2_readPlain_21, zX2_readPlain_22, zX2_readPlain_25, zX2_readPlain_28, zX2_readPlain_29, zX2_readPlain_30, zX2_readPlain_33, zX2_readPlain_35, zX2_readPlain_36, zX2_readPlain_37, zX2_readPlain_40, zX2_readPlain_43, zX2_readPlain_44, zX2_readPlain_45, zX2_readPlain_47, zX2_readPlain_48, zX2_readPlain_49, zX2_readPlain_52, zX2_readPlain_55, zX2_readPlain_56, zX2_readPlain_57, zX2_readPlain_60, zX2_readPlain_61, zX2_readPlain_62, zX2_readPlain_65, zX2_readPlain_68, zX2_readPlain_69, zX2_readPlain_70, zX2_readPlain_73, zX2_readPlain_74, zX2_readPlain_77, r_isDigit, c1, c2, c3, c4, c_char rg.1 rg.2, r_J_indexOf rg.1 rg.2, hP.2.2.1, e1, not_false_eq_true, e_k_int, e_k_ref, e_k_null, e_k_long, e_k_ret, e_cats_nil, e_cats_int, e_cats_ref, e_cats_ret, e_cats_long, Option.toList_some, Option.toList_none, List.nil_append, List.cons_append, Option.bind_some, Nat.reduceAdd, Nat.reduceLeDiff, Nat.add_zero, if_true, if_false, true_and, and_true, and_self, Int32.reduceToNatClampNeg]
        · rw [if_neg c4]
          obtain ⟨g2, e1, e2⟩ := r_emit (d := d + 4) (c := 2) (o := c_let (c_ch T n s.2.1)) hP
          have pl : (c_emit s 2 (c_let (c_ch T n s.2.1))).2.1 = s.2.1 := by unfold c_emit; split <;> rfl
          have hlt : (c_emit s 2 (c_let (c_ch T n s.2.1))).2.1 < n := by rw [pl]; exact c_ch_lt c3
          have e3 := c_P_inc e2 hlt
          rw [pl] at e3
          refine ⟨_, ?_, e3⟩
          simp only [zX2_readPlain_0, zX2_readPlain_1, zX2_readPlain_4, zX2_readPlain_7, zX2_readPlain_8, zX2_readPlain_11, zX2_readPlain_14, zX2_readPlain_15, zX2_readPlain_17, zX2_readPlain_20, zX2_readPlain_21, zX2_readPlain_22, zX2_readPlain_25, zX2_readPlain_28, zX2_readPlain_29, zX2_readPlain_30, zX2_readPlain_33, zX2_readPlain_35, zX2_readPlain_36, zX2_readPlain_37, zX2_readPlain_40, zX2_readPlain_43, zX2_readPlain_44, zX2_readPlain_45, zX2_readPlain_47, zX2_readPlain_48, zX2_readPlain_49, zX2_readPlain_52, zX2_readPlain_55, zX2_readPlain_56, zX2_readPlain_57, zX2_readPlain_60, zX2_readPlain_61, zX2_readPlain_62, zX2_readPlain_65, zX2_readPlain_68, zX2_readPlain_69, zX2_readPlain_70, zX2_readPlain_73, zX2_readPlain_74, zX2_readPlain_77, r_isDigit, c1, c2, c3, c4, c_char rg.1 rg.2, r_J_indexOf rg.1 rg.2, e1, not_false_eq_true, e_k_int, e_k_ref, e_k_null, e_k_long, e_k_ret, e_cats_nil, e_cats_int, e_cats_ref, e_cats_ret, e_cats_long, Option.toList_some, Option.toList_none, List.nil_append, List.cons_append, Option.bind_some, Nat.reduceAdd, Nat.reduceLeDiff, Nat.add_zero, if_true, if_false, true_and, and_true, and_self, Int32.reduceToNatClampNeg]
  · rw [if_pos c1]
    obtain ⟨g2, e1, e2⟩ := r_readNumber (d := d + 3) hn hP
    refine ⟨g2, ?_, e2⟩
    simp only [zX2_readPlain_0, zX2_readPlain_1, zX2_readPlain_4, zX2_readPlain_7, zX2_readPlain_8, zX2_readPlain_11, zX2_readPlain_14, zX2_readPlain_15, zX2_readPlain_17, zX2_readPlain_20, zX2_readPlain_21, zX2_readPlain_22, zX2_readPlain_25, zX2_readPlain_28, zX2_readPlain_29, zX2_readPlain_30, zX2_readPlain_33, zX2_readPlain_35, zX2_readPlain_36, zX2_readPlain_37, zX2_readPlain_40, zX2_readPlain_43, zX2_readPlain_44, zX2_readPlain_45, zX2_readPlain_47, zX2_readPlain_48, zX2_readPlain_49, zX2_readPlain_52, zX2_readPlain_55, zX2_readPlain_56, zX2_readPlain_57, zX2_readPlain_60, zX2_readPlain_61, zX2_readPlain_62, zX2_readPlain_65, zX2_readPlain_68, zX2_readPlain_69, zX2_readPlain_70, zX2_readPlain_73, zX2_readPlain_74, zX2_readPlain_77, r_isDigit, c1, e1, e_k_int, e_k_ref, e_k_null, e_k_long, e_k_ret, e_cats_nil, e_cats_int, e_cats_ref, e_cats_ret, e_cats_long, Option.toList_some, Option.toList_none, List.nil_append, List.cons_append, Option.bind_some, Nat.reduceAdd, Nat.reduceLeDiff, Nat.add_zero, if_true, if_false, true_and, and_true, and_self, Int32.reduceToNatClampNeg]
