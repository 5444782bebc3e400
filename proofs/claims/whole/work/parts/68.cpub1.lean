/-! the class's public methods, where the numbers are right -/
def q_pr (S : e_H) (i j : Nat) : Prop := i < q_c S 0 ∧ j < q_c S 1
theorem nI_lt_iff {k : Nat} {c : Nat} (hk : k < c) (hc : c ≤ 100) : ¬ nI c ≤ nI k := nI_ge hk (by omega)
theorem p_isE_yes {S : e_H} (hS : q_ok S) {s k : Nat} (hs : s < 2) (hk : k < q_c S s) : p_isE (e_gI S 1) (nI s) (nI k) = 1 := by
  have cc := hS.c hs
  have h1 : ¬ nI k < 0 := nI_pos (by have := cc.2.2; omega)
  have h2 : ¬ nI (q_c S s) ≤ nI k := nI_ge hk (by have := cc.2.2; omega)
  have h3 := cc.1
  unfold p_isE
  rcases (show s = 0 ∨ s = 1 by omega) with rfl | rfl
  · rw [if_pos (show nI 0 = 0 from rfl), if_neg h1, h3, if_neg h2]
  · rw [if_neg (by decide), if_pos (show nI 1 = 1 from rfl), if_neg h1, h3, if_neg h2]
theorem p_side_yes {s : Nat} (hs : s < 2) : p_side (nI s) = 1 := by
  rcases (show s = 0 ∨ s = 1 by omega) with rfl | rfl <;> decide
theorem p_isE_no {S : e_H} (hS : q_ok S) {a b : Int32} (h : ¬ ∃ s k, s < 2 ∧ k < q_c S s ∧ a = nI s ∧ b = nI k) : p_isE (e_gI S 1) a b = 0 := by
  have go : ∀ s, s < 2 → a = nI s → (if b < 0 then (0 : Int32) else if e_gI S 1 s ≤ b then 0 else 1) = 0 := by
    intro s hs ha
    have cc := hS.c hs
    by_cases c1 : b < 0
    · rw [if_pos c1]
    · rw [if_neg c1]
      obtain ⟨k, hk, rfl⟩ := nI_of c1
      rw [cc.1]
      by_cases c2 : nI (q_c S s) ≤ nI k
      · rw [if_pos c2]
      · exact absurd ⟨s, k, hs, Nat.not_le.mp (fun q => c2 (nI_le q hk)), ha, rfl⟩ h
  unfold p_isE
  by_cases h0 : a = 0
  · rw [if_pos h0]; exact go 0 (by decide) h0
  · rw [if_neg h0]
    by_cases h1 : a = 1
    · rw [if_pos h1]; exact go 1 (by decide) h1
    · rw [if_neg h1]
theorem p_side_no {a : Int32} (h : ¬ ∃ s, s < 2 ∧ a = nI s) : p_side a = 0 := by
  unfold p_side
  have h0 : ¬ a = 0 := fun q => h ⟨0, by decide, q⟩
  have h1 : ¬ a = 1 := fun q => h ⟨1, by decide, q⟩
  rw [if_neg h0, if_pos h1]
theorem q_C.one {S g : e_H} (h : q_C S g) : e_gI g 1 = e_gI S 1 := h.at (by simp)
theorem q_C.refl (S : e_H) : q_C S S := e_fr.refl _ _
theorem q_pr_yes {S : e_H} (hS : q_ok S) {i j : Nat} (h : q_pr S i j) : (if p_isE (e_gI S 1) 0 (nI i) = 0 then (0 : Int32) else p_isE (e_gI S 1) 1 (nI j)) = 1 := by
  have a := p_isE_yes hS (show 0 < 2 by decide) h.1
  have b := p_isE_yes hS (show 1 < 2 by decide) h.2
  rw [show nI 0 = (0 : Int32) from rfl] at a
  rw [show nI 1 = (1 : Int32) from rfl] at b
  rw [a, b, if_neg (by decide)]
theorem q_pr_no {S : e_H} (hS : q_ok S) {a b : Int32} (h : ¬ ∃ i j, q_pr S i j ∧ a = nI i ∧ b = nI j) : (if p_isE (e_gI S 1) 0 a = 0 then (0 : Int32) else p_isE (e_gI S 1) 1 b) = 0 := by
  by_cases c : ∃ s k, s < 2 ∧ k < q_c S s ∧ (0 : Int32) = nI s ∧ a = nI k
  · obtain ⟨s, k, h1, h2, h3, rfl⟩ := c
    have hs : s = 0 := by rcases (show s = 0 ∨ s = 1 by omega) with rfl | rfl; rfl; exact absurd h3 (by decide)
    subst hs
    have : p_isE (e_gI S 1) 1 b = 0 := p_isE_no hS (by
      rintro ⟨s2, k2, g1, g2, g3, rfl⟩
      have hs : s2 = 1 := by rcases (show s2 = 0 ∨ s2 = 1 by omega) with rfl | rfl; exact absurd g3 (by decide); rfl
      subst hs
      exact h ⟨k, k2, ⟨h2, g2⟩, rfl, rfl⟩)
    rw [this]
    split <;> rfl
  · rw [p_isE_no hS c, if_pos rfl]
theorem q_pr5 {S : e_H} (hS : q_ok S) {i j : Nat} (h : q_pr S i j) : i < 5 ∧ j < 5 := ⟨by have := (hS.c (show 0 < 2 by decide)).2.2; have := h.1; omega, by have := (hS.c (show 1 < 2 by decide)).2.2; have := h.2; omega⟩
theorem r_settle {d i j : Nat} {S : e_H} (hS : q_ok S) (hp : q_pr S i j) : ∃ f, e_X e_pg (d + 6) 41 [.ref 0, .int (nI i), .int (nI j)] S = some (some (.int (q_res S i j).1), f) ∧ q_C S f := by
  obtain ⟨hi, hj⟩ := q_pr5 hS hp
  obtain ⟨f, m1, m2⟩ := r_meet (d := d) hS (q_C.refl S) (a := nI i) (b := nI j) rfl rfl hi hj
  refine ⟨f, ?_, (q_C.refl S).met m2⟩
  rw [xX3_settle]
  simp only [zX3_settle_0, zX3_settle_1, zX3_settle_2, zX3_settle_3, zX3_settle_6, zX3_settle_9, zX3_settle_10, zX3_settle_11, zX3_settle_12, zX3_settle_15, zX3_settle_18, zX3_settle_20, r_isPair, q_pr_yes hS hp, m1, ne_0_1, ne_0_2, ne_0_3, ne_1_0, ne_1_2, ne_1_3, ne_2_0, ne_2_1, ne_2_3, ne_3_0, ne_3_1, ne_3_2, e_k_int, e_k_ref, e_k_null, e_k_long, e_k_ret, e_cats_nil, e_cats_int, e_cats_ref, e_cats_ret, e_cats_long, Option.toList_some, Option.toList_none, List.nil_append, List.cons_append, Option.bind_some, Nat.reduceAdd, Nat.reduceLeDiff, Nat.add_zero, if_true, if_false, true_and, and_true, and_self, Int32.reduceToNatClampNeg]
theorem r_settle_no {d : Nat} {S : e_H} {a b : Int32} (hS : q_ok S) (hp : ¬ ∃ i j, q_pr S i j ∧ a = nI i ∧ b = nI j) : e_X e_pg (d + 6) 41 [.ref 0, .int a, .int b] S = some (some (.int (-2)), S) := by
  rw [xX3_settle]
  simp only [zX3_settle_0, zX3_settle_1, zX3_settle_2, zX3_settle_3, zX3_settle_6, zX3_settle_9, zX3_settle_10, zX3_settle_11, zX3_settle_12, zX3_settle_15, zX3_settle_18, zX3_settle_20, r_isPair, q_pr_no hS hp, e_k_int, e_k_ref, e_k_null, e_k_long, e_k_ret, e_cats_nil, e_cats_int, e_cats_ref, e_cats_ret, e_cats_long, Option.toList_some, Option.toList_none, List.nil_append, List.cons_append, Option.bind_some, Nat.reduceAdd, Nat.reduceLeDiff, Nat.add_zero, if_true, if_false, true_and, and_true, and_self, Int32.reduceToNatClampNeg]
theorem r_round {d i j : Nat} {S : e_H} (hS : q_ok S) (hp : q_pr S i j) : ∃ f, e_X e_pg (d + 6) 42 [.ref 0, .int (nI i), .int (nI j)] S = some (some (.int (q_res S i j).2.2), f) ∧ q_C S f := by
  obtain ⟨hi, hj⟩ := q_pr5 hS hp
  obtain ⟨f, m1, m2⟩ := r_meet (d := d) hS (q_C.refl S) (a := nI i) (b := nI j) rfl rfl hi hj
  refine ⟨f, ?_, (q_C.refl S).met m2⟩
  rw [xX3_round]
  simp only [zX3_round_0, zX3_round_1, zX3_round_2, zX3_round_3, zX3_round_6, zX3_round_9, zX3_round_11, zX3_round_12, zX3_round_13, zX3_round_14, zX3_round_15, zX3_round_18, zX3_round_19, zX3_round_20, zX3_round_23, zX3_round_26, r_isPair, q_pr_yes hS hp, m1, m2.2.2.2.1, ne_0_1, ne_0_2, ne_0_3, ne_1_0, ne_1_2, ne_1_3, ne_2_0, ne_2_1, ne_2_3, ne_3_0, ne_3_1, ne_3_2, not_false_eq_true, e_k_int, e_k_ref, e_k_null, e_k_long, e_k_ret, e_cats_nil, e_cats_int, e_cats_ref, e_cats_ret, e_cats_long, Option.toList_some, Option.toList_none, List.nil_append, List.cons_append, Option.bind_some, Nat.reduceAdd, Nat.reduceLeDiff, Nat.add_zero, if_true, if_false, true_and, and_true, and_self, Int32.reduceToNatClampNeg]
theorem r_round_no {d : Nat} {S : e_H} {a b : Int32} (hS : q_ok S) (hp : ¬ ∃ i j, q_pr S i j ∧ a = nI i ∧ b = nI j) : e_X e_pg (d + 6) 42 [.ref 0, .int a, .int b] S = some (some (.int (-2)), S) := by
  rw [xX3_round]
  simp only [zX3_round_0, zX3_round_1, zX3_round_2, zX3_round_3, zX3_round_6, zX3_round_9, zX3_round_11, zX3_round_12, zX3_round_13, zX3_round_14, zX3_round_15, zX3_round_18, zX3_round_19, zX3_round_20, zX3_round_23, zX3_round_26, r_isPair, q_pr_no hS hp, not_true_eq_false, e_k_int, e_k_ref, e_k_null, e_k_long, e_k_ret, e_cats_nil, e_cats_int, e_cats_ref, e_cats_ret, e_cats_long, Option.toList_some, Option.toList_none, List.nil_append, List.cons_append, Option.bind_some, Nat.reduceAdd, Nat.reduceLeDiff, Nat.add_zero, if_true, if_false, true_and, and_true, and_self, Int32.reduceToNatClampNeg]
/-- the fraction's lower number -/
def q_sc (S : e_H) : Nat := if e_gI S 0 7 = 2 then q_b S else 1
theorem q_sc_rg {S : e_H} (hS : q_ok S) : 1 ≤ q_sc S ∧ q_sc S ≤ 9 := by
  have b := hS.b.2
  unfold q_sc
  split <;> omega
theorem q_sc_eq {S g : e_H} (hS : q_ok S) (hC : q_C S g) : (if e_gI g 0 7 = 2 then e_gI g 0 11 else 1) = nI (q_sc S) := by
  have g0 : e_gI g 0 = e_gI S 0 := hC.at (by simp)
  unfold q_sc
  rw [g0, hS.b.1]
  split <;> rfl
theorem q_has_rg {S : e_H} (hS : q_ok S) {s i j : Nat} (hs : s < 2) (hi : i < 5) (hj : j < 5) : -90000 ≤ (q_has S s i j).toInt ∧ (q_has S s i j).toInt ≤ 90000 := by
  have sh := q_rB_sh hS (Ni := q_N S 0 i) (Nj := q_N S 1 j) (B := q_bt S i j)
  unfold q_has
  exact q_hd_rg hS hs (by split <;> assumption) sh.1 sh.2
theorem q_C.tell {S g : e_H} (h : q_C S g) (top : Int64) (b : Nat) : q_C (q_tell S top b) (q_tell g top b) := by
  unfold q_tell
  refine ⟨fun o k ho => ?_, fun o k ho => ?_⟩
  · rw [e_gI_pJ, e_gI_pJ, e_gI_pJ, e_gI_pJ]; exact h.1 o k ho
  · simp only [e_gJ_pJ]
    rw [h.2 o k ho]
theorem r_has {d s i j : Nat} {S : e_H} (hS : q_ok S) (hs : s < 2) (hp : q_pr S i j) : ∃ f, e_X e_pg (d + 6) 43 [.ref 0, .int (nI s), .int (nI i), .int (nI j)] S = some (some (.int 1), f) ∧ q_C (q_tell S (q_has S s i j).toInt64 (q_sc S)) f := by
  obtain ⟨hi, hj⟩ := q_pr5 hS hp
  obtain ⟨f, m1, m2⟩ := r_meet (d := d) hS (q_C.refl S) (a := nI i) (b := nI j) rfl rfl hi hj
  have hC := (q_C.refl S).met m2
  have rg := q_has_rg hS hs hi hj
  have sc := q_sc_rg hS
  have e64 : (q_has S s i j).toInt64.toInt = (q_has S s i j).toInt := Int32.toInt_toInt64 _
  have tf := r_tellFraction (d := d + 3) (b := q_sc S) (top := (q_has S s i j).toInt64) (g := f) (by omega) (by omega) (by omega) (by omega)
  refine ⟨q_tell f (q_has S s i j).toInt64 (q_sc S), ?_, hC.tell _ _⟩
  have esc := q_sc_eq hS hC
  have e32 := nI_l (n := q_sc S) (by omega)
  rw [xX3_has]
  rcases (show s = 0 ∨ s = 1 by omega) with rfl | rfl
  · have hn := r_holdsNow (d := d) (i := i) (j := j) (k := i) (a := 0) (b := nI i) hS hC rfl rfl hs hi rfl m2.2.1 m2.2.2.1
    simp only [show nI 0 = (0 : Int32) from rfl, zX3_has_0, zX3_has_1, zX3_has_4, zX3_has_7, zX3_has_8, zX3_has_9, zX3_has_10, zX3_has_13, zX3_has_16, zX3_has_18, zX3_has_19, zX3_has_20, zX3_has_21, zX3_has_22, zX3_has_25, zX3_has_26, zX3_has_27, zX3_has_28, zX3_has_29, zX3_has_30, zX3_has_33, zX3_has_34, zX3_has_37, zX3_has_38, zX3_has_41, zX3_has_42, zX3_has_45, zX3_has_46, zX3_has_49, zX3_has_50, r_isSide, p_side, r_isPair, q_pr_yes hS hp, m1, hn, r_scale, esc, e32, tf, ne_0_1, ne_0_2, ne_0_3, ne_1_0, ne_1_2, ne_1_3, ne_2_0, ne_2_1, ne_2_3, ne_3_0, ne_3_1, ne_3_2, not_false_eq_true, not_true_eq_false, e_k_int, e_k_ref, e_k_null, e_k_long, e_k_ret, e_cats_nil, e_cats_int, e_cats_ref, e_cats_ret, e_cats_long, Option.toList_some, Option.toList_none, List.nil_append, List.cons_append, Option.bind_some, Nat.reduceAdd, Nat.reduceLeDiff, Nat.add_zero, if_true, if_false, true_and, and_true, and_self, Int32.reduceToNatClampNeg]
  · have hn := r_holdsNow (d := d) (i := i) (j := j) (k := j) (a := 1) (b := nI j) hS hC rfl rfl hs hj rfl m2.2.1 m2.2.2.1
    simp only [show nI 1 = (1 : Int32) from rfl, zX3_has_0, zX3_has_1, zX3_has_4, zX3_has_7, zX3_has_8, zX3_has_9, zX3_has_10, zX3_has_13, zX3_has_16, zX3_has_18, zX3_has_19, zX3_has_20, zX3_has_21, zX3_has_22, zX3_has_25, zX3_has_26, zX3_has_27, zX3_has_28, zX3_has_29, zX3_has_30, zX3_has_33, zX3_has_34, zX3_has_37, zX3_has_38, zX3_has_41, zX3_has_42, zX3_has_45, zX3_has_46, zX3_has_49, zX3_has_50, r_isSide, p_side, r_isPair, q_pr_yes hS hp, m1, hn, r_scale, esc, e32, tf, ne_0_1, ne_0_2, ne_0_3, ne_1_0, ne_1_2, ne_1_3, ne_2_0, ne_2_1, ne_2_3, ne_3_0, ne_3_1, ne_3_2, not_false_eq_true, not_true_eq_false, e_k_int, e_k_ref, e_k_null, e_k_long, e_k_ret, e_cats_nil, e_cats_int, e_cats_ref, e_cats_ret, e_cats_long, Option.toList_some, Option.toList_none, List.nil_append, List.cons_append, Option.bind_some, Nat.reduceAdd, Nat.reduceLeDiff, Nat.add_zero, if_true, if_false, true_and, and_true, and_self, Int32.reduceToNatClampNeg]
theorem r_has_no {d : Nat} {S : e_H} {s a b : Int32} (hS : q_ok S) (hp : (¬ ∃ k, k < 2 ∧ s = nI k) ∨ ¬ ∃ i j, q_pr S i j ∧ a = nI i ∧ b = nI j) : e_X e_pg (d + 6) 43 [.ref 0, .int s, .int a, .int b] S = some (some (.int (-2)), S) := by
  rw [xX3_has]
  rcases hp with hp | hp
  · simp only [zX3_has_0, zX3_has_1, zX3_has_4, zX3_has_7, zX3_has_8, zX3_has_9, zX3_has_10, zX3_has_13, zX3_has_16, zX3_has_18, zX3_has_19, zX3_has_20, zX3_has_21, zX3_has_22, zX3_has_25, zX3_has_26, zX3_has_27, zX3_has_28, zX3_has_29, zX3_has_30, zX3_has_33, zX3_has_34, zX3_has_37, zX3_has_38, zX3_has_41, zX3_has_42, zX3_has_45, zX3_has_46, zX3_has_49, zX3_has_50, r_isSide, p_side_no hp, e_k_int, e_k_ref, e_k_null, e_k_long, e_k_ret, e_cats_nil, e_cats_int, e_cats_ref, e_cats_ret, e_cats_long, Option.toList_some, Option.toList_none, List.nil_append, List.cons_append, Option.bind_some, Nat.reduceAdd, Nat.reduceLeDiff, Nat.add_zero, if_true, if_false, true_and, and_true, and_self, Int32.reduceToNatClampNeg]
  · by_cases c : p_side s = 0
    · simp only [zX3_has_0, zX3_has_1, zX3_has_4, zX3_has_7, zX3_has_8, zX3_has_9, zX3_has_10, zX3_has_13, zX3_has_16, zX3_has_18, zX3_has_19, zX3_has_20, zX3_has_21, zX3_has_22, zX3_has_25, zX3_has_26, zX3_has_27, zX3_has_28, zX3_has_29, zX3_has_30, zX3_has_33, zX3_has_34, zX3_has_37, zX3_has_38, zX3_has_41, zX3_has_42, zX3_has_45, zX3_has_46, zX3_has_49, zX3_has_50, r_isSide, c, e_k_int, e_k_ref, e_k_null, e_k_long, e_k_ret, e_cats_nil, e_cats_int, e_cats_ref, e_cats_ret, e_cats_long, Option.toList_some, Option.toList_none, List.nil_append, List.cons_append, Option.bind_some, Nat.reduceAdd, Nat.reduceLeDiff, Nat.add_zero, if_true, if_false, true_and, and_true, and_self, Int32.reduceToNatClampNeg]
    · simp only [zX3_has_0, zX3_has_1, zX3_has_4, zX3_has_7, zX3_has_8, zX3_has_9, zX3_has_10, zX3_has_13, zX3_has_16, zX3_has_18, zX3_has_19, zX3_has_20, zX3_has_21, zX3_has_22, zX3_has_25, zX3_has_26, zX3_has_27, zX3_has_28, zX3_has_29, zX3_has_30, zX3_has_33, zX3_has_34, zX3_has_37, zX3_has_38, zX3_has_41, zX3_has_42, zX3_has_45, zX3_has_46, zX3_has_49, zX3_has_50, r_isSide, c, r_isPair, q_pr_no hS hp, not_true_eq_false, e_k_int, e_k_ref, e_k_null, e_k_long, e_k_ret, e_cats_nil, e_cats_int, e_cats_ref, e_cats_ret, e_cats_long, Option.toList_some, Option.toList_none, List.nil_append, List.cons_append, Option.bind_some, Nat.reduceAdd, Nat.reduceLeDiff, Nat.add_zero, if_true, if_false, true_and, and_true, and_self, Int32.reduceToNatClampNeg]
/-! the best among some -/
def q_bm (v : Nat → Int64) : Nat → Int32 × Int64
  | 0 => (0, v 0)
  | k + 1 => if v (k + 1) ≤ (q_bm v k).2 then q_bm v k else (nI (k + 1), v (k + 1))
theorem q_bm_mem (v : Nat → Int64) : ∀ k, ∃ j, j ≤ k ∧ (q_bm v k).2 = v j := by
  intro k
  induction k with
  | zero => exact ⟨0, Nat.le_refl _, rfl⟩
  | succ k ih =>
    obtain ⟨j, h1, h2⟩ := ih
    unfold q_bm
    split
    · exact ⟨j, by omega, h2⟩
    · exact ⟨k + 1, Nat.le_refl _, rfl⟩
def q_best (S : e_H) (s m : Nat) : Int32 := (q_bm (fun k => (q_ag S s k m).toInt64) (q_c S s - 1)).1
theorem nI_1s {s : Nat} (hs : s < 2) : (1 : Int32) - nI s = nI (1 - s) := by
  rcases (show s = 0 ∨ s = 1 by omega) with rfl | rfl <;> decide
set_option maxRecDepth 100000 in
theorem r_best {d s m : Nat} {S : e_H} (hS : q_ok S) (hs : s < 2) (hm : m < q_c S (1 - s)) : ∃ f, e_X e_pg (d + 7) 44 [.ref 0, .int (nI s), .int (nI m)] S = some (some (.int (q_best S s m)), f) ∧ q_C S f := by
  have cs := (hS.c hs).2
  have cm := (hS.c (show 1 - s < 2 by omega)).2
  have ie := p_isE_yes hS (show 1 - s < 2 by omega) hm
  have hib : e_inb (nI s) 2 = true := e_inb_nI hs (by decide)
  have hcl : (nI s).toNatClampNeg = s := nI_clamp (by omega)
  obtain ⟨f0, a1, a2⟩ := r_holdsAgainst (d := d) (k := 0) (b := 0) hS (q_C.refl S) (a := nI s) (c := nI m) rfl rfl rfl hs (by decide) (by omega)
  have hC0 := (q_C.refl S).fr a2 (fun o ho => by simp at ho ⊢; omega)
  rw [xX3_best]
  simp only [zX3_best_0, zX3_best_1, zX3_best_4, zX3_best_7, zX3_best_8, zX3_best_9, zX3_best_10, zX3_best_11, zX3_best_12, zX3_best_15, zX3_best_18, zX3_best_20, zX3_best_21, zX3_best_22, zX3_best_23, zX3_best_24, zX3_best_25, zX3_best_26, zX3_best_27, zX3_best_30, zX3_best_32, zX3_best_33, r_isSide, p_side_yes hs, nI_1s hs, r_isEnvoy, ie, a1, ne_0_1, ne_0_2, ne_0_3, ne_1_0, ne_1_2, ne_1_3, ne_2_0, ne_2_1, ne_2_3, ne_3_0, ne_3_1, ne_3_2, not_false_eq_true, e_k_int, e_k_ref, e_k_null, e_k_long, e_k_ret, e_cats_nil, e_cats_int, e_cats_ref, e_cats_ret, e_cats_long, Option.toList_some, Option.toList_none, List.nil_append, List.cons_append, Option.bind_some, Nat.reduceAdd, Nat.reduceLeDiff, Nat.add_zero, if_true, if_false, true_and, and_true, and_self, Int32.reduceToNatClampNeg]
  obtain ⟨ls2, f, e, ⟨v, w, rfl⟩, hC⟩ := f_lp (cd := kX3_best) (O := e_X e_pg (d + 6)) (pc := 35) (fun k ls h => (∃ v w, ls = [.ref 0, .int (nI s), .int (nI m), .int (q_bm (fun k => (q_ag S s k m).toInt64) (k - 1)).1, .long (q_bm (fun k => (q_ag S s k m).toInt64) (k - 1)).2, .null, .int (nI k), v, w]) ∧ q_C S h) (a := 1) (n := q_c S s) (by omega) (by
    rintro k ls h hk1 hk ⟨⟨v, w, rfl⟩, hC⟩
    obtain ⟨k, rfl⟩ : ∃ j, k = j + 1 := ⟨k - 1, by omega⟩
    have hc : ¬ nI (q_c S s) ≤ nI (k + 1) := nI_ge hk (by omega)
    obtain ⟨f, b1, b2⟩ := r_holdsAgainst (d := d) (k := k + 1) hS hC (a := nI s) (b := nI (k + 1)) (c := nI m) rfl rfl rfl hs (by omega) (by omega)
    have hC2 := hC.fr b2 (fun o ho => by simp at ho ⊢; omega)
    rw [zX3_best_35, Nat.add_sub_cancel, Nat.add_sub_cancel]
    rw [q_bm]
    by_cases c : (q_ag S s (k + 1) m).toInt64 ≤ (q_bm (fun k => (q_ag S s k m).toInt64) k).2
    · simp only [zX3_best_37, zX3_best_38, zX3_best_41, zX3_best_42, zX3_best_43, zX3_best_46, zX3_best_47, zX3_best_48, zX3_best_50, zX3_best_51, zX3_best_54, zX3_best_56, zX3_best_58, zX3_best_60, zX3_best_61, zX3_best_64, zX3_best_66, zX3_best_68, zX3_best_70, zX3_best_71, zX3_best_74, hC.c hS hs, hib, hcl, hc, b1, lc_le, c, nI_1, e_k_int, e_k_ref, e_k_null, e_k_long, e_k_ret, e_cats_nil, e_cats_int, e_cats_ref, e_cats_ret, e_cats_long, Option.toList_some, Option.toList_none, List.nil_append, List.cons_append, Option.bind_some, Nat.reduceAdd, Nat.reduceLeDiff, Nat.add_zero, if_true, if_false, true_and, and_true, and_self, Int32.reduceToNatClampNeg, ok_1, ok_2, ok_3, ok_4, ok_5, ok_6, ok_7, ok_8, ok_9, ok_30, ok_31, ok_32, ok_33, ok_34, ok_35, ok_36, ok_37, ok_38, ok_39, ok_40, ok_41, ok_42, ok_43, ok_44, ok_45, ok_46, ok_47, ok_48, ok_49, ok_50, ok_51, ok_52, ln_1, ln_2, ln_4, ln_5, ln_6, ln_7, ln_8, ln_30, ln_31, ln_32, ln_33, ln_34, ln_35, ln_36, ln_37, ln_38, ln_39, ln_41, ln_42, ln_43, ln_44, ln_45, ln_46, ln_47, ln_48, ln_49, ln_50, ln_51, ln_52]
      exact ⟨_, _, rfl, ⟨_, _, rfl⟩, hC2⟩
    · simp only [zX3_best_37, zX3_best_38, zX3_best_41, zX3_best_42, zX3_best_43, zX3_best_46, zX3_best_47, zX3_best_48, zX3_best_50, zX3_best_51, zX3_best_54, zX3_best_56, zX3_best_58, zX3_best_60, zX3_best_61, zX3_best_64, zX3_best_66, zX3_best_68, zX3_best_70, zX3_best_71, zX3_best_74, hC.c hS hs, hib, hcl, hc, b1, lc_le, c, nI_1, e_k_int, e_k_ref, e_k_null, e_k_long, e_k_ret, e_cats_nil, e_cats_int, e_cats_ref, e_cats_ret, e_cats_long, Option.toList_some, Option.toList_none, List.nil_append, List.cons_append, Option.bind_some, Nat.reduceAdd, Nat.reduceLeDiff, Nat.add_zero, if_true, if_false, true_and, and_true, and_self, Int32.reduceToNatClampNeg, ok_1, ok_2, ok_3, ok_4, ok_5, ok_6, ok_7, ok_8, ok_9, ok_30, ok_31, ok_32, ok_33, ok_34, ok_35, ok_36, ok_37, ok_38, ok_39, ok_40, ok_41, ok_42, ok_43, ok_44, ok_45, ok_46, ok_47, ok_48, ok_49, ok_50, ok_51, ok_52, ln_1, ln_2, ln_4, ln_5, ln_6, ln_7, ln_8, ln_30, ln_31, ln_32, ln_33, ln_34, ln_35, ln_36, ln_37, ln_38, ln_39, ln_41, ln_42, ln_43, ln_44, ln_45, ln_46, ln_47, ln_48, ln_49, ln_50, ln_51, ln_52]
      exact ⟨_, _, rfl, ⟨_, _, rfl⟩, hC2⟩) (ls := [.ref 0, .int (nI s), .int (nI m), .int 0, .long (q_ag S s 0 m).toInt64, .null, .int 1, .null, .null]) (h := f0) ⟨⟨_, _, rfl⟩, hC0⟩
  have hc : nI (q_c S s) ≤ nI (q_c S s) := nI_le (Nat.le_refl _) (by omega)
  refine ⟨f, ?_, hC⟩
  rw [e, zX3_best_35]
  simp only [zX3_best_37, zX3_best_38, zX3_best_41, zX3_best_42, zX3_best_43, zX3_best_46, zX3_best_47, zX3_best_48, zX3_best_50, zX3_best_51, zX3_best_54, zX3_best_56, zX3_best_58, zX3_best_60, zX3_best_61, zX3_best_64, zX3_best_66, zX3_best_68, zX3_best_70, zX3_best_71, zX3_best_74, zX3_best_77, zX3_best_78, hC.c hS hs, hib, hcl, hc, q_best, e_k_int, e_k_ref, e_k_null, e_k_long, e_k_ret, e_cats_nil, e_cats_int, e_cats_ref, e_cats_ret, e_cats_long, Option.toList_some, Option.toList_none, List.nil_append, List.cons_append, Option.bind_some, Nat.reduceAdd, Nat.reduceLeDiff, Nat.add_zero, if_true, if_false, true_and, and_true, and_self, Int32.reduceToNatClampNeg, ok_1, ok_2, ok_3, ok_4, ok_5, ok_6, ok_7, ok_8, ok_9, ok_30, ok_31, ok_32, ok_33, ok_34, ok_35, ok_36, ok_37, ok_38, ok_39, ok_40, ok_41, ok_42, ok_43, ok_44, ok_45, ok_46, ok_47, ok_48, ok_49, ok_50, ok_51, ok_52, ln_1, ln_2, ln_4, ln_5, ln_6, ln_7, ln_8, ln_30, ln_31, ln_32, ln_33, ln_34, ln_35, ln_36, ln_37, ln_38, ln_39, ln_41, ln_42, ln_43, ln_44, ln_45, ln_46, ln_47, ln_48, ln_49, ln_50, ln_51, ln_52]
theorem r_best_no {d : Nat} {S : e_H} {a b : Int32} (hS : q_ok S) (hp : ¬ ∃ s m, s < 2 ∧ m < q_c S (1 - s) ∧ a = nI s ∧ b = nI m) : e_X e_pg (d + 7) 44 [.ref 0, .int a, .int b] S = some (some (.int (-2)), S) := by
  rw [xX3_best]
  by_cases hs : ∃ k, k < 2 ∧ a = nI k
  · obtain ⟨s, hs, rfl⟩ := hs
    have : p_isE (e_gI S 1) (nI (1 - s)) b = 0 := p_isE_no hS (by
      rintro ⟨s2, k2, g1, g2, g3, rfl⟩
      rw [nI_eq (by omega) (by omega)] at g3
      subst g3
      exact hp ⟨s, k2, hs, g2, rfl, rfl⟩)
    simp only [zX3_best_0, zX3_best_1, zX3_best_4, zX3_best_7, zX3_best_8, zX3_best_9, zX3_best_10, zX3_best_11, zX3_best_12, zX3_best_15, zX3_best_18, zX3_best_20, zX3_best_21, zX3_best_22, zX3_best_23, zX3_best_24, zX3_best_25, zX3_best_26, zX3_best_27, zX3_best_30, zX3_best_32, zX3_best_33, r_isSide, p_side_yes hs, nI_1s hs, r_isEnvoy, this, ne_0_1, ne_0_2, ne_0_3, ne_1_0, ne_1_2, ne_1_3, ne_2_0, ne_2_1, ne_2_3, ne_3_0, ne_3_1, ne_3_2, not_true_eq_false, e_k_int, e_k_ref, e_k_null, e_k_long, e_k_ret, e_cats_nil, e_cats_int, e_cats_ref, e_cats_ret, e_cats_long, Option.toList_some, Option.toList_none, List.nil_append, List.cons_append, Option.bind_some, Nat.reduceAdd, Nat.reduceLeDiff, Nat.add_zero, if_true, if_false, true_and, and_true, and_self, Int32.reduceToNatClampNeg]
  · simp only [zX3_best_0, zX3_best_1, zX3_best_4, zX3_best_7, zX3_best_8, zX3_best_9, zX3_best_10, zX3_best_11, zX3_best_12, zX3_best_15, zX3_best_18, zX3_best_20, zX3_best_21, zX3_best_22, zX3_best_23, zX3_best_24, zX3_best_25, zX3_best_26, zX3_best_27, zX3_best_30, zX3_best_32, zX3_best_33, r_isSide, p_side_no hs, e_k_int, e_k_ref, e_k_null, e_k_long, e_k_ret, e_cats_nil, e_cats_int, e_cats_ref, e_cats_ret, e_cats_long, Option.toList_some, Option.toList_none, List.nil_append, List.cons_append, Option.bind_some, Nat.reduceAdd, Nat.reduceLeDiff, Nat.add_zero, if_true, if_false, true_and, and_true, and_self, Int32.reduceToNatClampNeg]
theorem r_rest {d : Nat} {S : e_H} {w : Int32} (hS : q_ok S) (hw : -1 ≤ w) : ∃ f, e_X e_pg (d + 7) 45 [.ref 0, .int w] S = some (some (.int (q_rest S w)), f) ∧ q_C S f := by
  obtain ⟨f1, a1, a2, a3⟩ := r_settleAll (d := d) hS (q_C.refl S)
  obtain ⟨f2, b1, b2, b3⟩ := r_holdAll (d := d + 1) hS a2 a3
  have hC2 := a2.fr b2 (fun o ho => by simp at ho ⊢; omega)
  have ra := r_restAt (d := d + 3) (what := w) hS hC2 b3
  refine ⟨f2, ?_, hC2⟩
  rw [xX3_rest]
  simp only [zX3_rest_0, zX3_rest_1, zX3_rest_2, zX3_rest_5, zX3_rest_7, zX3_rest_8, zX3_rest_9, zX3_rest_12, zX3_rest_13, zX3_rest_16, zX3_rest_17, zX3_rest_18, zX3_rest_21, hw, a1, b1, ra, e_k_int, e_k_ref, e_k_null, e_k_long, e_k_ret, e_cats_nil, e_cats_int, e_cats_ref, e_cats_ret, e_cats_long, Option.toList_some, Option.toList_none, List.nil_append, List.cons_append, Option.bind_some, Nat.reduceAdd, Nat.reduceLeDiff, Nat.add_zero, if_true, if_false, true_and, and_true, and_self, Int32.reduceToNatClampNeg]
theorem r_rest_no {d : Nat} {S : e_H} {w : Int32} (hw : ¬ -1 ≤ w) : e_X e_pg (d + 7) 45 [.ref 0, .int w] S = some (some (.int (-10)), S) := by
  rw [xX3_rest]
  simp only [zX3_rest_0, zX3_rest_1, zX3_rest_2, zX3_rest_5, zX3_rest_7, zX3_rest_8, zX3_rest_9, zX3_rest_12, zX3_rest_13, zX3_rest_16, zX3_rest_17, zX3_rest_18, zX3_rest_21, hw, e_k_int, e_k_ref, e_k_null, e_k_long, e_k_ret, e_cats_nil, e_cats_int, e_cats_ref, e_cats_ret, e_cats_long, Option.toList_some, Option.toList_none, List.nil_append, List.cons_append, Option.bind_some, Nat.reduceAdd, Nat.reduceLeDiff, Nat.add_zero, if_true, if_false, true_and, and_true, and_self, Int32.reduceToNatClampNeg]
