/-! the rule's text is read: what is flawed, the place, the codes laid -/
abbrev c_S : Type := Int32 × Nat × List (Int32 × Int32)
def c_sk (T : Nat → Int32) (n : Nat) : Nat → Nat → Nat
  | 0, p => p
  | f + 1, p => if p < n then (if T p = 32 then c_sk T n f (p + 1) else p) else p
def c_skip (T : Nat → Int32) (n p : Nat) : Nat := c_sk T n (n - p) p
def c_ch (T : Nat → Int32) (n p : Nat) : Int32 := if p < n then T p else -1
theorem c_sk_le {T : Nat → Int32} {n : Nat} : ∀ (f p : Nat), p ≤ n → p ≤ c_sk T n f p ∧ c_sk T n f p ≤ n := by
  intro f
  induction f with
  | zero => intro p hp; exact ⟨Nat.le_refl _, hp⟩
  | succ f ih =>
    intro p hp
    unfold c_sk
    split
    · split
      · have := ih (p + 1) (by omega)
        omega
      · omega
    · omega
theorem c_skip_le {T : Nat → Int32} {n p : Nat} (hp : p ≤ n) : p ≤ c_skip T n p ∧ c_skip T n p ≤ n := c_sk_le _ _ hp
def c_spoil (s : c_S) (w : Nat) (k : Int32) : c_S := if ¬ s.1 = -1 then s else (10 * nI w + k, s.2)
def c_emit (s : c_S) (c o : Int32) : c_S := if 40 ≤ s.2.2.length then s else (s.1, s.2.1, s.2.2 ++ [(c, o)])
def c_P (T : Nat → Int32) (n : Nat) (h g : e_H) (s : c_S) : Prop := e_gI g 3 0 = nI n ∧ e_gI g 3 1 = s.1 ∧ e_gI g 3 8 = nI s.2.1 ∧ s.2.1 ≤ n ∧ e_gI g 3 7 = nI s.2.2.length ∧ s.2.2.length ≤ 40 ∧ (∀ i, i < s.2.2.length → s.2.2[i]? = some (e_gI g 5 i, e_gI g 6 i)) ∧ e_fr [3, 5, 6] h g ∧ ∀ k, e_gI g 4 k = T k
theorem c_P.place {T : Nat → Int32} {n : Nat} {h g : e_H} {s : c_S} (hP : c_P T n h g s) {p : Nat} (hp : p ≤ n) : c_P T n h (e_pI g 3 8 (nI p)) (s.1, p, s.2.2) := by
  obtain ⟨h1, h2, h3, h4, h5, h6, h7, h8, h9⟩ := hP
  refine ⟨?_, ?_, ?_, hp, ?_, h6, fun i hi => ?_, h8.pI (by simp), fun k => ?_⟩
  · simp [e_gI_pI, h1]
  · simp [e_gI_pI, h2]
  · simp [e_gI_pI]
  · simp [e_gI_pI, h5]
  · simp [e_gI_pI]; exact h7 i hi
  · simp [e_gI_pI, h9]
set_option maxRecDepth 100000 in
theorem r_ahead_loop {d n : Nat} (hn : n ≤ 40) {T : Nat → Int32} {h : e_H} : ∀ (f : Nat) (g : e_H) (s : c_S), c_P T n h g s → n - s.2.1 ≤ f → ∃ g2, e_F kX2_ahead (e_X e_pg d) 0 [.ref 3] [] g = some (some (.int (c_ch T n (c_sk T n f s.2.1))), g2) ∧ c_P T n h g2 (s.1, c_sk T n f s.2.1, s.2.2) := by
  intro f
  induction f with
  | zero =>
    intro g s hP hf
    refine ⟨g, ?_, hP⟩
    obtain ⟨h1, h2, h3, h4, h5, h6, h7, h8, h9⟩ := hP
    have hc : nI n ≤ nI s.2.1 := nI_le (by omega) (by omega)
    have e : c_sk T n 0 s.2.1 = s.2.1 := rfl
    rw [e, zX2_ahead_0]
    simp only [zX2_ahead_1, zX2_ahead_4, zX2_ahead_5, zX2_ahead_8, zX2_ahead_11, zX2_ahead_12, zX2_ahead_15, zX2_ahead_16, zX2_ahead_19, zX2_ahead_20, zX2_ahead_22, zX2_ahead_25, zX2_ahead_26, zX2_ahead_27, zX2_ahead_30, zX2_ahead_31, zX2_ahead_32, zX2_ahead_35, zX2_ahead_38, zX2_ahead_39, zX2_ahead_42, zX2_ahead_43, zX2_ahead_46, zX2_ahead_49, zX2_ahead_50, zX2_ahead_53, zX2_ahead_54, zX2_ahead_57, zX2_ahead_58, zX2_ahead_61, zX2_ahead_62, h1, h3, hc, c_ch, show ¬ s.2.1 < n by omega, e_k_int, e_k_ref, e_k_null, e_k_long, e_k_ret, e_cats_nil, e_cats_int, e_cats_ref, e_cats_ret, e_cats_long, Option.toList_some, Option.toList_none, List.nil_append, List.cons_append, Option.bind_some, Nat.reduceAdd, Nat.reduceLeDiff, Nat.add_zero, if_true, if_false, true_and, and_true, and_self, Int32.reduceToNatClampNeg]
  | succ f ih =>
    intro g s hP hf
    have hP0 := hP
    obtain ⟨h1, h2, h3, h4, h5, h6, h7, h8, h9⟩ := hP
    by_cases hp : s.2.1 < n
    · have hc : ¬ nI n ≤ nI s.2.1 := nI_ge hp (by omega)
      have hb : e_inb (nI s.2.1) 40 = true := e_inb_nI (by omega) (by decide)
      have hcl : (nI s.2.1).toNatClampNeg = s.2.1 := nI_clamp (by omega)
      by_cases h32 : T s.2.1 = 32
      · have e : c_sk T n (f + 1) s.2.1 = c_sk T n f (s.2.1 + 1) := by rw [c_sk, if_pos hp, if_pos h32]
        have q := ih (e_pI g 3 8 (nI (s.2.1 + 1))) (s.1, s.2.1 + 1, s.2.2) (hP0.place (by omega)) (by show n - (s.2.1 + 1) ≤ f; omega)
        rw [e, zX2_ahead_0]
        simp only [zX2_ahead_1, zX2_ahead_4, zX2_ahead_5, zX2_ahead_8, zX2_ahead_11, zX2_ahead_12, zX2_ahead_15, zX2_ahead_16, zX2_ahead_19, zX2_ahead_20, zX2_ahead_22, zX2_ahead_25, zX2_ahead_26, zX2_ahead_27, zX2_ahead_30, zX2_ahead_31, zX2_ahead_32, zX2_ahead_35, zX2_ahead_38, zX2_ahead_39, zX2_ahead_42, zX2_ahead_43, zX2_ahead_46, zX2_ahead_49, zX2_ahead_50, zX2_ahead_53, zX2_ahead_54, zX2_ahead_57, zX2_ahead_58, zX2_ahead_61, zX2_ahead_62, h1, h3, hc, hb, hcl, h9, h32, not_true_eq_false, nI_1, e_k_int, e_k_ref, e_k_null, e_k_long, e_k_ret, e_cats_nil, e_cats_int, e_cats_ref, e_cats_ret, e_cats_long, Option.toList_some, Option.toList_none, List.nil_append, List.cons_append, Option.bind_some, Nat.reduceAdd, Nat.reduceLeDiff, Nat.add_zero, if_true, if_false, true_and, and_true, and_self, Int32.reduceToNatClampNeg, ok_1, ok_2, ok_3, ok_4, ok_5, ok_6, ok_7, ok_8, ok_9, ok_30, ok_31, ok_32, ok_33, ok_34, ok_35, ok_36, ok_37, ok_38, ok_39, ok_40, ok_41, ok_42, ok_43, ok_44, ok_45, ok_46, ok_47, ok_48, ok_49, ok_50, ok_51, ok_52, ln_1, ln_2, ln_4, ln_5, ln_6, ln_7, ln_8, ln_30, ln_31, ln_32, ln_33, ln_34, ln_35, ln_36, ln_37, ln_38, ln_39, ln_41, ln_42, ln_43, ln_44, ln_45, ln_46, ln_47, ln_48, ln_49, ln_50, ln_51, ln_52]
        exact q
      · have e : c_sk T n (f + 1) s.2.1 = s.2.1 := by rw [c_sk, if_pos hp, if_neg h32]
        refine ⟨g, ?_, by rw [e]; exact hP0⟩
        rw [e, zX2_ahead_0]
        simp only [zX2_ahead_1, zX2_ahead_4, zX2_ahead_5, zX2_ahead_8, zX2_ahead_11, zX2_ahead_12, zX2_ahead_15, zX2_ahead_16, zX2_ahead_19, zX2_ahead_20, zX2_ahead_22, zX2_ahead_25, zX2_ahead_26, zX2_ahead_27, zX2_ahead_30, zX2_ahead_31, zX2_ahead_32, zX2_ahead_35, zX2_ahead_38, zX2_ahead_39, zX2_ahead_42, zX2_ahead_43, zX2_ahead_46, zX2_ahead_49, zX2_ahead_50, zX2_ahead_53, zX2_ahead_54, zX2_ahead_57, zX2_ahead_58, zX2_ahead_61, zX2_ahead_62, h1, h3, hc, hb, hcl, h9, h32, hp, c_ch, not_false_eq_true, e_k_int, e_k_ref, e_k_null, e_k_long, e_k_ret, e_cats_nil, e_cats_int, e_cats_ref, e_cats_ret, e_cats_long, Option.toList_some, Option.toList_none, List.nil_append, List.cons_append, Option.bind_some, Nat.reduceAdd, Nat.reduceLeDiff, Nat.add_zero, if_true, if_false, true_and, and_true, and_self, Int32.reduceToNatClampNeg, ok_1, ok_2, ok_3, ok_4, ok_5, ok_6, ok_7, ok_8, ok_9, ok_30, ok_31, ok_32, ok_33, ok_34, ok_35, ok_36, ok_37, ok_38, ok_39, ok_40, ok_41, ok_42, ok_43, ok_44, ok_45, ok_46, ok_47, ok_48, ok_49, ok_50, ok_51, ok_52, ln_1, ln_2, ln_4, ln_5, ln_6, ln_7, ln_8, ln_30, ln_31, ln_32, ln_33, ln_34, ln_35, ln_36, ln_37, ln_38, ln_39, ln_41, ln_42, ln_43, ln_44, ln_45, ln_46, ln_47, ln_48, ln_49, ln_50, ln_51, ln_52]
    · have hc : nI n ≤ nI s.2.1 := nI_le (by omega) (by omega)
      have e : c_sk T n (f + 1) s.2.1 = s.2.1 := by rw [c_sk, if_neg hp]
      refine ⟨g, ?_, by rw [e]; exact hP0⟩
      rw [e, zX2_ahead_0]
      simp only [zX2_ahead_1, zX2_ahead_4, zX2_ahead_5, zX2_ahead_8, zX2_ahead_11, zX2_ahead_12, zX2_ahead_15, zX2_ahead_16, zX2_ahead_19, zX2_ahead_20, zX2_ahead_22, zX2_ahead_25, zX2_ahead_26, zX2_ahead_27, zX2_ahead_30, zX2_ahead_31, zX2_ahead_32, zX2_ahead_35, zX2_ahead_38, zX2_ahead_39, zX2_ahead_42, zX2_ahead_43, zX2_ahead_46, zX2_ahead_49, zX2_ahead_50, zX2_ahead_53, zX2_ahead_54, zX2_ahead_57, zX2_ahead_58, zX2_ahead_61, zX2_ahead_62, h1, h3, hc, hp, c_ch, e_k_int, e_k_ref, e_k_null, e_k_long, e_k_ret, e_cats_nil, e_cats_int, e_cats_ref, e_cats_ret, e_cats_long, Option.toList_some, Option.toList_none, List.nil_append, List.cons_append, Option.bind_some, Nat.reduceAdd, Nat.reduceLeDiff, Nat.add_zero, if_true, if_false, true_and, and_true, and_self, Int32.reduceToNatClampNeg]
theorem r_ahead {d n : Nat} (hn : n ≤ 40) {T : Nat → Int32} {h g : e_H} {s : c_S} (hP : c_P T n h g s) : ∃ g2, e_X e_pg (d + 1) 21 [.ref 3] g = some (some (.int (c_ch T n (c_skip T n s.2.1))), g2) ∧ c_P T n h g2 (s.1, c_skip T n s.2.1, s.2.2) := by
  rw [xX2_ahead]
  exact r_ahead_loop hn (n - s.2.1) g s hP (Nat.le_refl _)
theorem r_spoil {d n w : Nat} {a k : Int32} (ha : a = nI w) {T : Nat → Int32} {h g : e_H} {s : c_S} (hP : c_P T n h g s) : ∃ g2, e_X e_pg (d + 1) 19 [.ref 3, .int a, .int k] g = some (none, g2) ∧ c_P T n h g2 (c_spoil s w k) := by
  subst ha
  have hP0 := hP
  obtain ⟨h1, h2, h3, h4, h5, h6, h7, h8, h9⟩ := hP
  rw [xX2_spoil]
  unfold c_spoil
  by_cases c : s.1 = -1
  · refine ⟨e_pI g 3 1 (10 * nI w + k), ?_, ?_⟩
    · simp only [zX2_spoil_0, zX2_spoil_1, zX2_spoil_4, zX2_spoil_5, zX2_spoil_8, zX2_spoil_9, zX2_spoil_11, zX2_spoil_12, zX2_spoil_13, zX2_spoil_14, zX2_spoil_15, zX2_spoil_18, h2, c, not_true_eq_false, e_k_int, e_k_ref, e_k_null, e_k_long, e_k_ret, e_cats_nil, e_cats_int, e_cats_ref, e_cats_ret, e_cats_long, Option.toList_some, Option.toList_none, List.nil_append, List.cons_append, Option.bind_some, Nat.reduceAdd, Nat.reduceLeDiff, Nat.add_zero, if_true, if_false, true_and, and_true, and_self, Int32.reduceToNatClampNeg]
    · rw [if_neg (by rw [c]; decide)]
      refine ⟨?_, ?_, ?_, h4, ?_, h6, fun i hi => ?_, h8.pI (by simp), fun k => ?_⟩
      · simp [e_gI_pI, h1]
      · simp [e_gI_pI]
      · simp [e_gI_pI, h3]
      · simp [e_gI_pI, h5]
      · simp [e_gI_pI]; exact h7 i hi
      · simp [e_gI_pI, h9]
  · refine ⟨g, ?_, ?_⟩
    · simp only [zX2_spoil_0, zX2_spoil_1, zX2_spoil_4, zX2_spoil_5, zX2_spoil_8, zX2_spoil_9, zX2_spoil_11, zX2_spoil_12, zX2_spoil_13, zX2_spoil_14, zX2_spoil_15, zX2_spoil_18, h2, c, not_false_eq_true, e_k_int, e_k_ref, e_k_null, e_k_long, e_k_ret, e_cats_nil, e_cats_int, e_cats_ref, e_cats_ret, e_cats_long, Option.toList_some, Option.toList_none, List.nil_append, List.cons_append, Option.bind_some, Nat.reduceAdd, Nat.reduceLeDiff, Nat.add_zero, if_true, if_false, true_and, and_true, and_self, Int32.reduceToNatClampNeg]
    · rw [if_pos c]; exact hP0
theorem r_emit {d n : Nat} {c o : Int32} {T : Nat → Int32} {h g : e_H} {s : c_S} (hP : c_P T n h g s) : ∃ g2, e_X e_pg (d + 1) 20 [.ref 3, .int c, .int o] g = some (none, g2) ∧ c_P T n h g2 (c_emit s c o) := by
  have hP0 := hP
  obtain ⟨h1, h2, h3, h4, h5, h6, h7, h8, h9⟩ := hP
  rw [xX2_emit]
  unfold c_emit
  by_cases c40 : 40 ≤ s.2.2.length
  · have hc : 40 ≤ nI s.2.2.length := (nI_40 (by omega)).mpr c40
    refine ⟨g, ?_, by rw [if_pos c40]; exact hP0⟩
    simp only [zX2_emit_0, zX2_emit_1, zX2_emit_4, zX2_emit_6, zX2_emit_9, zX2_emit_10, zX2_emit_13, zX2_emit_14, zX2_emit_17, zX2_emit_18, zX2_emit_19, zX2_emit_20, zX2_emit_23, zX2_emit_24, zX2_emit_27, zX2_emit_28, zX2_emit_29, zX2_emit_30, zX2_emit_31, zX2_emit_34, zX2_emit_35, zX2_emit_36, zX2_emit_39, h5, hc, e_k_int, e_k_ref, e_k_null, e_k_long, e_k_ret, e_cats_nil, e_cats_int, e_cats_ref, e_cats_ret, e_cats_long, Option.toList_some, Option.toList_none, List.nil_append, List.cons_append, Option.bind_some, Nat.reduceAdd, Nat.reduceLeDiff, Nat.add_zero, if_true, if_false, true_and, and_true, and_self, Int32.reduceToNatClampNeg]
  · have hc : ¬ 40 ≤ nI s.2.2.length := fun z => c40 ((nI_40 (by omega)).mp z)
    have hb : e_inb (nI s.2.2.length) 40 = true := e_inb_nI (by omega) (by decide)
    have hcl : (nI s.2.2.length).toNatClampNeg = s.2.2.length := nI_clamp (by omega)
    refine ⟨e_pI (e_pI (e_pI g 5 s.2.2.length c) 6 s.2.2.length o) 3 7 (nI (s.2.2.length + 1)), ?_, ?_⟩
    · simp only [zX2_emit_0, zX2_emit_1, zX2_emit_4, zX2_emit_6, zX2_emit_9, zX2_emit_10, zX2_emit_13, zX2_emit_14, zX2_emit_17, zX2_emit_18, zX2_emit_19, zX2_emit_20, zX2_emit_23, zX2_emit_24, zX2_emit_27, zX2_emit_28, zX2_emit_29, zX2_emit_30, zX2_emit_31, zX2_emit_34, zX2_emit_35, zX2_emit_36, zX2_emit_39, h5, hc, hb, hcl, e_gI_pI, Nat.reduceEqDiff, false_and, nI_1, e_k_int, e_k_ref, e_k_null, e_k_long, e_k_ret, e_cats_nil, e_cats_int, e_cats_ref, e_cats_ret, e_cats_long, Option.toList_some, Option.toList_none, List.nil_append, List.cons_append, Option.bind_some, Nat.reduceAdd, Nat.reduceLeDiff, Nat.add_zero, if_true, if_false, true_and, and_true, and_self, Int32.reduceToNatClampNeg, ok_1, ok_2, ok_3, ok_4, ok_5, ok_6, ok_7, ok_8, ok_9, ok_30, ok_31, ok_32, ok_33, ok_34, ok_35, ok_36, ok_37, ok_38, ok_39, ok_40, ok_41, ok_42, ok_43, ok_44, ok_45, ok_46, ok_47, ok_48, ok_49, ok_50, ok_51, ok_52, ln_1, ln_2, ln_4, ln_5, ln_6, ln_7, ln_8, ln_30, ln_31, ln_32, ln_33, ln_34, ln_35, ln_36, ln_37, ln_38, ln_39, ln_41, ln_42, ln_43, ln_44, ln_45, ln_46, ln_47, ln_48, ln_49, ln_50, ln_51, ln_52]
    · rw [if_neg c40]
      refine ⟨?_, ?_, ?_, h4, ?_, ?_, fun i hi => ?_, ((h8.pI (by simp)).pI (by simp)).pI (by simp), fun k => ?_⟩
      · simp [e_gI_pI, h1]
      · simp [e_gI_pI, h2]
      · simp [e_gI_pI, h3]
      · simp [e_gI_pI]
      · simp; omega
      · simp at hi
        by_cases hi2 : i = s.2.2.length
        · subst hi2
          simp [e_gI_pI]
        · rw [List.getElem?_append_left (by omega), h7 i (by omega)]
          simp [e_gI_pI, hi2]
      · simp [e_gI_pI, h9]
def c_dig (c : Int32) : Int32 := if c < 48 then 0 else if 57 < c then 0 else 1
theorem r_isDigit {d : Nat} {c : Int32} {h : e_H} : e_X e_pg (d + 1) 26 [.int c] h = some (some (.int (c_dig c)), h) := by
  rw [xX2_isDigit]
  simp only [zX2_isDigit_0, zX2_isDigit_1, zX2_isDigit_3, zX2_isDigit_6, zX2_isDigit_7, zX2_isDigit_9, zX2_isDigit_12, zX2_isDigit_13, zX2_isDigit_16, zX2_isDigit_17, c_dig, e_k_int, e_k_ref, e_k_null, e_k_long, e_k_ret, e_cats_nil, e_cats_int, e_cats_ref, e_cats_ret, e_cats_long, Option.toList_some, Option.toList_none, List.nil_append, List.cons_append, Option.bind_some, Nat.reduceAdd, Nat.reduceLeDiff, Nat.add_zero, if_true, if_false, true_and, and_true, and_self, Int32.reduceToNatClampNeg]
  repeat' split
  all_goals (first | (simp_all; done) | grind)
def c_joins (L : Nat) (c : Int32) : Bool := if L = 0 then decide (c = 124) else if L = 1 then decide (c = 38) else if L = 2 then decide (c = 60 ∨ c = 62 ∨ c = 61) else if L = 3 then decide (c = 43 ∨ c = 45) else decide (c = 42 ∨ c = 47)
theorem r_joins {d L : Nat} {c : Int32} {h : e_H} (hL : L < 5) : e_X e_pg (d + 1) 23 [.int (nI L), .int c] h = some (some (.int (if c_joins L c = true then 1 else 0)), h) := by
  rw [xX2_joins]
  rcases (show L = 0 ∨ L = 1 ∨ L = 2 ∨ L = 3 ∨ L = 4 by omega) with rfl | rfl | rfl | rfl | rfl
  · rw [show nI 0 = (0 : Int32) from rfl]
    simp only [zX2_joins_0, zX2_joins_1, zX2_joins_32, zX2_joins_33, zX2_joins_35, zX2_joins_38, zX2_joins_39, zX2_joins_42, zX2_joins_43, zX2_joins_44, zX2_joins_45, zX2_joins_47, zX2_joins_50, zX2_joins_51, zX2_joins_54, zX2_joins_55, zX2_joins_56, zX2_joins_57, zX2_joins_59, zX2_joins_62, zX2_joins_63, zX2_joins_65, zX2_joins_68, zX2_joins_69, zX2_joins_71, zX2_joins_74, zX2_joins_75, zX2_joins_78, zX2_joins_79, zX2_joins_80, zX2_joins_81, zX2_joins_83, zX2_joins_86, zX2_joins_87, zX2_joins_89, zX2_joins_92, zX2_joins_93, zX2_joins_96, zX2_joins_97, zX2_joins_98, zX2_joins_99, zX2_joins_100, zX2_joins_103, zX2_joins_104, zX2_joins_106, zX2_joins_109, zX2_joins_110, zX2_joins_112, zX2_joins_115, zX2_joins_116, zX2_joins_119, zX2_joins_120, c_joins, ne_0_1, ne_0_2, ne_0_3, ne_1_0, ne_1_2, ne_1_3, ne_2_0, ne_2_1, ne_2_3, ne_3_0, ne_3_1, ne_3_2, e_k_int, e_k_ref, e_k_null, e_k_long, e_k_ret, e_cats_nil, e_cats_int, e_cats_ref, e_cats_ret, e_cats_long, Option.toList_some, Option.toList_none, List.nil_append, List.cons_append, Option.bind_some, Nat.reduceAdd, Nat.reduceLeDiff, Nat.add_zero, if_true, if_false, true_and, and_true, and_self, Int32.reduceToNatClampNeg]
    repeat' split
    all_goals (first | (simp_all; done) | grind)
  · rw [show nI 1 = (1 : Int32) from rfl]
    simp only [zX2_joins_0, zX2_joins_1, zX2_joins_32, zX2_joins_33, zX2_joins_35, zX2_joins_38, zX2_joins_39, zX2_joins_42, zX2_joins_43, zX2_joins_44, zX2_joins_45, zX2_joins_47, zX2_joins_50, zX2_joins_51, zX2_joins_54, zX2_joins_55, zX2_joins_56, zX2_joins_57, zX2_joins_59, zX2_joins_62, zX2_joins_63, zX2_joins_65, zX2_joins_68, zX2_joins_69, zX2_joins_71, zX2_joins_74, zX2_joins_75, zX2_joins_78, zX2_joins_79, zX2_joins_80, zX2_joins_81, zX2_joins_83, zX2_joins_86, zX2_joins_87, zX2_joins_89, zX2_joins_92, zX2_joins_93, zX2_joins_96, zX2_joins_97, zX2_joins_98, zX2_joins_99, zX2_joins_100, zX2_joins_103, zX2_joins_104, zX2_joins_106, zX2_joins_109, zX2_joins_110, zX2_joins_112, zX2_joins_115, zX2_joins_116, zX2_joins_119, zX2_joins_120, c_joins, ne_0_1, ne_0_2, ne_0_3, ne_1_0, ne_1_2, ne_1_3, ne_2_0, ne_2_1, ne_2_3, ne_3_0, ne_3_1, ne_3_2, e_k_int, e_k_ref, e_k_null, e_k_long, e_k_ret, e_cats_nil, e_cats_int, e_cats_ref, e_cats_ret, e_cats_long, Option.toList_some, Option.toList_none, List.nil_append, List.cons_append, Option.bind_some, Nat.reduceAdd, Nat.reduceLeDiff, Nat.add_zero, if_true, if_false, true_and, and_true, and_self, Int32.reduceToNatClampNeg]
    repeat' split
    all_goals (first | (simp_all; done) | grind)
  · rw [show nI 2 = (2 : Int32) from rfl]
    simp only [zX2_joins_0, zX2_joins_1, zX2_joins_32, zX2_joins_33, zX2_joins_35, zX2_joins_38, zX2_joins_39, zX2_joins_42, zX2_joins_43, zX2_joins_44, zX2_joins_45, zX2_joins_47, zX2_joins_50, zX2_joins_51, zX2_joins_54, zX2_joins_55, zX2_joins_56, zX2_joins_57, zX2_joins_59, zX2_joins_62, zX2_joins_63, zX2_joins_65, zX2_joins_68, zX2_joins_69, zX2_joins_71, zX2_joins_74, zX2_joins_75, zX2_joins_78, zX2_joins_79, zX2_joins_80, zX2_joins_81, zX2_joins_83, zX2_joins_86, zX2_joins_87, zX2_joins_89, zX2_joins_92, zX2_joins_93, zX2_joins_96, zX2_joins_97, zX2_joins_98, zX2_joins_99, zX2_joins_100, zX2_joins_103, zX2_joins_104, zX2_joins_106, zX2_joins_109, zX2_joins_110, zX2_joins_112, zX2_joins_115, zX2_joins_116, zX2_joins_119, zX2_joins_120, c_joins, ne_0_1, ne_0_2, ne_0_3, ne_1_0, ne_1_2, ne_1_3, ne_2_0, ne_2_1, ne_2_3, ne_3_0, ne_3_1, ne_3_2, e_k_int, e_k_ref, e_k_null, e_k_long, e_k_ret, e_cats_nil, e_cats_int, e_cats_ref, e_cats_ret, e_cats_long, Option.toList_some, Option.toList_none, List.nil_append, List.cons_append, Option.bind_some, Nat.reduceAdd, Nat.reduceLeDiff, Nat.add_zero, if_true, if_false, true_and, and_true, and_self, Int32.reduceToNatClampNeg]
    repeat' split
    all_goals (first | (simp_all; done) | grind)
  · rw [show nI 3 = (3 : Int32) from rfl]
    simp only [zX2_joins_0, zX2_joins_1, zX2_joins_32, zX2_joins_33, zX2_joins_35, zX2_joins_38, zX2_joins_39, zX2_joins_42, zX2_joins_43, zX2_joins_44, zX2_joins_45, zX2_joins_47, zX2_joins_50, zX2_joins_51, zX2_joins_54, zX2_joins_55, zX2_joins_56, zX2_joins_57, zX2_joins_59, zX2_joins_62, zX2_joins_63, zX2_joins_65, zX2_joins_68, zX2_joins_69, zX2_joins_71, zX2_joins_74, zX2_joins_75, zX2_joins_78, zX2_joins_79, zX2_joins_80, zX2_joins_81, zX2_joins_83, zX2_joins_86, zX2_joins_87, zX2_joins_89, zX2_joins_92, zX2_joins_93, zX2_joins_96, zX2_joins_97, zX2_joins_98, zX2_joins_99, zX2_joins_100, zX2_joins_103, zX2_joins_104, zX2_joins_106, zX2_joins_109, zX2_joins_110, zX2_joins_112, zX2_joins_115, zX2_joins_116, zX2_joins_119, zX2_joins_120, c_joins, ne_0_1, ne_0_2, ne_0_3, ne_1_0, ne_1_2, ne_1_3, ne_2_0, ne_2_1, ne_2_3, ne_3_0, ne_3_1, ne_3_2, e_k_int, e_k_ref, e_k_null, e_k_long, e_k_ret, e_cats_nil, e_cats_int, e_cats_ref, e_cats_ret, e_cats_long, Option.toList_some, Option.toList_none, List.nil_append, List.cons_append, Option.bind_some, Nat.reduceAdd, Nat.reduceLeDiff, Nat.add_zero, if_true, if_false, true_and, and_true, and_self, Int32.reduceToNatClampNeg]
    repeat' split
    all_goals (first | (simp_all; done) | grind)
  · rw [show nI 4 = (4 : Int32) from rfl]
    simp only [zX2_joins_0, zX2_joins_1, zX2_joins_32, zX2_joins_33, zX2_joins_35, zX2_joins_38, zX2_joins_39, zX2_joins_42, zX2_joins_43, zX2_joins_44, zX2_joins_45, zX2_joins_47, zX2_joins_50, zX2_joins_51, zX2_joins_54, zX2_joins_55, zX2_joins_56, zX2_joins_57, zX2_joins_59, zX2_joins_62, zX2_joins_63, zX2_joins_65, zX2_joins_68, zX2_joins_69, zX2_joins_71, zX2_joins_74, zX2_joins_75, zX2_joins_78, zX2_joins_79, zX2_joins_80, zX2_joins_81, zX2_joins_83, zX2_joins_86, zX2_joins_87, zX2_joins_89, zX2_joins_92, zX2_joins_93, zX2_joins_96, zX2_joins_97, zX2_joins_98, zX2_joins_99, zX2_joins_100, zX2_joins_103, zX2_joins_104, zX2_joins_106, zX2_joins_109, zX2_joins_110, zX2_joins_112, zX2_joins_115, zX2_joins_116, zX2_joins_119, zX2_joins_120, c_joins, show ¬ (4 : Int32) = 0 from by decide, show ¬ (4 : Int32) = 1 from by decide, show ¬ (4 : Int32) = 2 from by decide, show ¬ (4 : Int32) = 3 from by decide, not_true_eq_false, e_k_int, e_k_ref, e_k_null, e_k_long, e_k_ret, e_cats_nil, e_cats_int, e_cats_ref, e_cats_ret, e_cats_long, Option.toList_some, Option.toList_none, List.nil_append, List.cons_append, Option.bind_some, Nat.reduceAdd, Nat.reduceLeDiff, Nat.add_zero, if_true, if_false, true_and, and_true, and_self, Int32.reduceToNatClampNeg]
    repeat' split
    all_goals (first | (simp_all; done) | grind)
