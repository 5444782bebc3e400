/-! the model: what a side has; the fraction; the best -/
abbrev q_lM : List Nat := [40, 41, 42, 43, 44, 45, 46, 47, 48, 49, 50, 51, 52]
theorem q_mr.fr {h f : e_H} (m : q_mr h f) : e_fr q_lM h f := m.1.mono (fun o ho => by simp at ho ⊢; omega)
theorem q_mr.row {h f : e_H} (m : q_mr h f) {o k : Nat} {v : Int32} (ho : o ∈ [45, 46, 47, 48, 49, 50, 51, 52]) : q_mr h (e_pI f o k v) := by
  have h40 : o ≠ 40 := by simp at ho; omega
  refine ⟨m.1.pI (by simp at ho ⊢; omega), fun j hj => ?_, fun j hj => ?_⟩
  · rw [e_gI_pI, if_neg (by omega)]; exact m.2.1 j hj
  · rw [e_gJ_pI]; exact m.2.2 j hj
theorem q_mr.fld {h f : e_H} (m : q_mr h f) {k : Nat} {v : Int32} (hk : k ∈ [13, 14, 16, 18, 24, 25, 26, 29]) : q_mr h (e_pI f 40 k v) := by
  refine ⟨m.1.pI (by simp), fun j hj => ?_, fun j hj => ?_⟩
  · rw [e_gI_pI, if_neg (fun q => hj (by rw [q.2]; exact hk))]; exact m.2.1 j hj
  · rw [e_gJ_pI]; exact m.2.2 j hj
theorem q_res_sh {S : e_H} (hS : q_ok S) {i j : Nat} : s_sh (q_n S) (q_res S i j).1 ∧ s_sh (q_n S) (q_res S i j).2.1 := q_rB_sh hS
theorem r_M_hasBy {d s k : Nat} {S h : e_H} {a b x : Int32} (hS : q_ok S) (m : q_M S h) (ha : a = nI s) (hb : b = nI k) (hs : s < 2) (hk : k < 5) (hx : s_sh (q_n S) x) : e_X e_pg (d + 4) 124 [.ref 40, .int a, .int b, .int x] h = some (some (.int (q_by S s k x)), h) := by
  rw [xX4_hasBy]
  unfold q_by
  have o8 := r_Mof (d := d + 2) (w := 8) (c := 8) m ha hb rfl hs hk (by decide)
  by_cases c : x = -5
  · have o4 := r_Mof (d := d + 2) (w := 4) (b := 0) (c := 4) (k := 0) m ha rfl rfl hs (by decide) (by decide)
    rw [if_pos c]
    simp only [zX4_hasBy_0, zX4_hasBy_1, zX4_hasBy_3, zX4_hasBy_6, zX4_hasBy_7, zX4_hasBy_8, zX4_hasBy_9, zX4_hasBy_10, zX4_hasBy_13, zX4_hasBy_14, zX4_hasBy_15, zX4_hasBy_16, zX4_hasBy_18, zX4_hasBy_21, zX4_hasBy_22, c, not_true_eq_false, o4, o8, q_un, e_k_int, e_k_ref, e_k_null, e_k_long, e_k_ret, e_cats_nil, e_cats_int, e_cats_ref, e_cats_ret, e_cats_long, Option.toList_some, Option.toList_none, List.nil_append, List.cons_append, Option.bind_some, Nat.reduceAdd, Nat.reduceLeDiff, Nat.add_zero, if_true, if_false, true_and, and_true, and_self, Int32.reduceToNatClampNeg]
  · rw [if_neg c]
    obtain ⟨j, hj, ej⟩ := q_own_rg hS (s := s) hx c
    have wo := r_Mworth (d := d) (k := 0) (b := 0) (c := q_own S s x) hS m ha rfl ej hs (by decide) hj
    have wp := r_Mpaid (d := d + 1) (c := q_own S s x) hS m ha hb ej hs hk hj
    rcases (show s = 0 ∨ s = 1 by omega) with rfl | rfl
    · have ha : a = 0 := ha
      subst ha
      simp only [q_own, if_true] at wo wp
      simp only [zX4_hasBy_0, zX4_hasBy_1, zX4_hasBy_3, zX4_hasBy_6, zX4_hasBy_7, zX4_hasBy_8, zX4_hasBy_9, zX4_hasBy_10, zX4_hasBy_13, zX4_hasBy_14, zX4_hasBy_15, zX4_hasBy_16, zX4_hasBy_18, zX4_hasBy_21, zX4_hasBy_22, zX4_hasBy_23, zX4_hasBy_24, zX4_hasBy_27, zX4_hasBy_28, zX4_hasBy_31, zX4_hasBy_32, zX4_hasBy_35, zX4_hasBy_36, zX4_hasBy_37, zX4_hasBy_39, zX4_hasBy_40, zX4_hasBy_41, zX4_hasBy_42, zX4_hasBy_44, zX4_hasBy_47, zX4_hasBy_48, zX4_hasBy_49, zX4_hasBy_50, zX4_hasBy_52, zX4_hasBy_55, zX4_hasBy_56, zX4_hasBy_57, zX4_hasBy_58, zX4_hasBy_59, zX4_hasBy_61, zX4_hasBy_64, zX4_hasBy_65, c, not_false_eq_true, not_true_eq_false, wo, wp, o8, q_byS, q_own, e_k_int, e_k_ref, e_k_null, e_k_long, e_k_ret, e_cats_nil, e_cats_int, e_cats_ref, e_cats_ret, e_cats_long, Option.toList_some, Option.toList_none, List.nil_append, List.cons_append, Option.bind_some, Nat.reduceAdd, Nat.reduceLeDiff, Nat.add_zero, if_true, if_false, true_and, and_true, and_self, Int32.reduceToNatClampNeg]
    · have ha : a = 1 := ha
      subst ha
      have hn := m.n hS
      simp only [q_own, Nat.one_ne_zero, if_false] at wo wp
      simp only [zX4_hasBy_0, zX4_hasBy_1, zX4_hasBy_3, zX4_hasBy_6, zX4_hasBy_7, zX4_hasBy_8, zX4_hasBy_9, zX4_hasBy_10, zX4_hasBy_13, zX4_hasBy_14, zX4_hasBy_15, zX4_hasBy_16, zX4_hasBy_18, zX4_hasBy_21, zX4_hasBy_22, zX4_hasBy_23, zX4_hasBy_24, zX4_hasBy_27, zX4_hasBy_28, zX4_hasBy_31, zX4_hasBy_32, zX4_hasBy_35, zX4_hasBy_36, zX4_hasBy_37, zX4_hasBy_39, zX4_hasBy_40, zX4_hasBy_41, zX4_hasBy_42, zX4_hasBy_44, zX4_hasBy_47, zX4_hasBy_48, zX4_hasBy_49, zX4_hasBy_50, zX4_hasBy_52, zX4_hasBy_55, zX4_hasBy_56, zX4_hasBy_57, zX4_hasBy_58, zX4_hasBy_59, zX4_hasBy_61, zX4_hasBy_64, zX4_hasBy_65, c, not_false_eq_true, ne_0_1, ne_0_2, ne_0_3, ne_1_0, ne_1_2, ne_1_3, ne_2_0, ne_2_1, ne_2_3, ne_3_0, ne_3_1, ne_3_2, hn, wo, wp, o8, q_byS, q_own, Nat.one_ne_zero, e_k_int, e_k_ref, e_k_null, e_k_long, e_k_ret, e_cats_nil, e_cats_int, e_cats_ref, e_cats_ret, e_cats_long, Option.toList_some, Option.toList_none, List.nil_append, List.cons_append, Option.bind_some, Nat.reduceAdd, Nat.reduceLeDiff, Nat.add_zero, if_true, if_false, true_and, and_true, and_self, Int32.reduceToNatClampNeg]
theorem r_M_hasOf {d s i j : Nat} {S h : e_H} {a b c : Int32} (hS : q_ok S) (m : q_M S h) (ha : a = nI s) (hb : b = nI i) (hc : c = nI j) (hs : s < 2) (hi : i < 5) (hj : j < 5) : ∃ f, e_X e_pg (d + 8) 125 [.ref 40, .int a, .int b, .int c] h = some (some (.int (q_has S s i j)), f) ∧ q_MM S h f i j := by
  obtain ⟨f, a1, a2⟩ := r_M_settleTwo (d := d) hS m hb hc hi hj
  refine ⟨f, ?_, a2⟩
  have m2 := m.mf a2.1
  have f4 : e_gI f 40 4 = e_gI S 0 7 := m2.1.2.1
  have f7 : e_gI f 40 7 = nI (q_a S) := m2.1.2.2.2.2.1.trans hS.a.1
  have f8 : e_gI f 40 8 = nI (q_b S) := m2.1.2.2.2.2.2.1.trans hS.b.1
  have f24 := a2.2.2.1
  have f25 := a2.2.2.2.1
  have sh := q_res_sh hS (i := i) (j := j)
  rw [xX4_hasOf]
  unfold q_has q_hd
  rcases (show s = 0 ∨ s = 1 by omega) with rfl | rfl
  · have ha : a = 0 := ha
    subst ha
    have y0 := r_M_hasBy (d := d + 3) (s := 0) (k := i) (a := 0) (b := b) (x := (q_res S i j).1) hS m2 rfl hb (by decide) hi sh.1
    have y1 := r_M_hasBy (d := d + 3) (s := 0) (k := i) (a := 0) (b := b) (x := (q_res S i j).2.1) hS m2 rfl hb (by decide) hi sh.2
    by_cases w : e_gI S 0 7 = 2
    · have f25' : e_gI f 40 25 = (q_res S i j).2.1 := by rw [f25]; unfold q_oth; rw [if_pos w]
      rw [if_pos w]
      simp only [zX4_hasOf_0, zX4_hasOf_1, zX4_hasOf_2, zX4_hasOf_3, zX4_hasOf_6, zX4_hasOf_7, zX4_hasOf_10, zX4_hasOf_11, zX4_hasOf_14, zX4_hasOf_15, zX4_hasOf_17, zX4_hasOf_18, zX4_hasOf_19, zX4_hasOf_21, zX4_hasOf_22, zX4_hasOf_25, zX4_hasOf_28, zX4_hasOf_30, zX4_hasOf_31, zX4_hasOf_34, zX4_hasOf_35, zX4_hasOf_38, zX4_hasOf_39, zX4_hasOf_42, zX4_hasOf_44, zX4_hasOf_45, zX4_hasOf_46, zX4_hasOf_49, zX4_hasOf_50, zX4_hasOf_53, zX4_hasOf_54, zX4_hasOf_55, zX4_hasOf_56, zX4_hasOf_58, zX4_hasOf_59, zX4_hasOf_62, zX4_hasOf_65, zX4_hasOf_66, zX4_hasOf_67, zX4_hasOf_70, zX4_hasOf_72, a1, f4, f7, f8, f24, f25', w, y0, y1, not_true_eq_false, e_k_int, e_k_ref, e_k_null, e_k_long, e_k_ret, e_cats_nil, e_cats_int, e_cats_ref, e_cats_ret, e_cats_long, Option.toList_some, Option.toList_none, List.nil_append, List.cons_append, Option.bind_some, Nat.reduceAdd, Nat.reduceLeDiff, Nat.add_zero, if_true, if_false, true_and, and_true, and_self, Int32.reduceToNatClampNeg]
    · rw [if_neg w]
      simp only [zX4_hasOf_0, zX4_hasOf_1, zX4_hasOf_2, zX4_hasOf_3, zX4_hasOf_6, zX4_hasOf_7, zX4_hasOf_10, zX4_hasOf_11, zX4_hasOf_14, zX4_hasOf_15, zX4_hasOf_17, zX4_hasOf_18, zX4_hasOf_19, zX4_hasOf_21, zX4_hasOf_22, zX4_hasOf_25, zX4_hasOf_28, zX4_hasOf_30, zX4_hasOf_31, zX4_hasOf_34, zX4_hasOf_35, zX4_hasOf_38, zX4_hasOf_39, zX4_hasOf_42, zX4_hasOf_44, zX4_hasOf_45, zX4_hasOf_46, zX4_hasOf_49, zX4_hasOf_50, zX4_hasOf_53, zX4_hasOf_54, zX4_hasOf_55, zX4_hasOf_56, zX4_hasOf_58, zX4_hasOf_59, zX4_hasOf_62, zX4_hasOf_65, zX4_hasOf_66, zX4_hasOf_67, zX4_hasOf_70, zX4_hasOf_72, a1, f4, f24, w, y0, not_true_eq_false, not_false_eq_true, e_k_int, e_k_ref, e_k_null, e_k_long, e_k_ret, e_cats_nil, e_cats_int, e_cats_ref, e_cats_ret, e_cats_long, Option.toList_some, Option.toList_none, List.nil_append, List.cons_append, Option.bind_some, Nat.reduceAdd, Nat.reduceLeDiff, Nat.add_zero, if_true, if_false, true_and, and_true, and_self, Int32.reduceToNatClampNeg]
  · have ha : a = 1 := ha
    subst ha
    have y0 := r_M_hasBy (d := d + 3) (s := 1) (k := j) (a := 1) (b := c) (x := (q_res S i j).1) hS m2 rfl hc (by decide) hj sh.1
    have y1 := r_M_hasBy (d := d + 3) (s := 1) (k := j) (a := 1) (b := c) (x := (q_res S i j).2.1) hS m2 rfl hc (by decide) hj sh.2
    by_cases w : e_gI S 0 7 = 2
    · have f25' : e_gI f 40 25 = (q_res S i j).2.1 := by rw [f25]; unfold q_oth; rw [if_pos w]
      rw [if_pos w]
      simp only [zX4_hasOf_0, zX4_hasOf_1, zX4_hasOf_2, zX4_hasOf_3, zX4_hasOf_6, zX4_hasOf_7, zX4_hasOf_10, zX4_hasOf_11, zX4_hasOf_14, zX4_hasOf_15, zX4_hasOf_17, zX4_hasOf_18, zX4_hasOf_19, zX4_hasOf_21, zX4_hasOf_22, zX4_hasOf_25, zX4_hasOf_28, zX4_hasOf_30, zX4_hasOf_31, zX4_hasOf_34, zX4_hasOf_35, zX4_hasOf_38, zX4_hasOf_39, zX4_hasOf_42, zX4_hasOf_44, zX4_hasOf_45, zX4_hasOf_46, zX4_hasOf_49, zX4_hasOf_50, zX4_hasOf_53, zX4_hasOf_54, zX4_hasOf_55, zX4_hasOf_56, zX4_hasOf_58, zX4_hasOf_59, zX4_hasOf_62, zX4_hasOf_65, zX4_hasOf_66, zX4_hasOf_67, zX4_hasOf_70, zX4_hasOf_72, a1, f4, f7, f8, f24, f25', w, y0, y1, not_true_eq_false, not_false_eq_true, ne_0_1, ne_0_2, ne_0_3, ne_1_0, ne_1_2, ne_1_3, ne_2_0, ne_2_1, ne_2_3, ne_3_0, ne_3_1, ne_3_2, Nat.one_ne_zero, e_k_int, e_k_ref, e_k_null, e_k_long, e_k_ret, e_cats_nil, e_cats_int, e_cats_ref, e_cats_ret, e_cats_long, Option.toList_some, Option.toList_none, List.nil_append, List.cons_append, Option.bind_some, Nat.reduceAdd, Nat.reduceLeDiff, Nat.add_zero, if_true, if_false, true_and, and_true, and_self, Int32.reduceToNatClampNeg]
    · rw [if_neg w]
      simp only [zX4_hasOf_0, zX4_hasOf_1, zX4_hasOf_2, zX4_hasOf_3, zX4_hasOf_6, zX4_hasOf_7, zX4_hasOf_10, zX4_hasOf_11, zX4_hasOf_14, zX4_hasOf_15, zX4_hasOf_17, zX4_hasOf_18, zX4_hasOf_19, zX4_hasOf_21, zX4_hasOf_22, zX4_hasOf_25, zX4_hasOf_28, zX4_hasOf_30, zX4_hasOf_31, zX4_hasOf_34, zX4_hasOf_35, zX4_hasOf_38, zX4_hasOf_39, zX4_hasOf_42, zX4_hasOf_44, zX4_hasOf_45, zX4_hasOf_46, zX4_hasOf_49, zX4_hasOf_50, zX4_hasOf_53, zX4_hasOf_54, zX4_hasOf_55, zX4_hasOf_56, zX4_hasOf_58, zX4_hasOf_59, zX4_hasOf_62, zX4_hasOf_65, zX4_hasOf_66, zX4_hasOf_67, zX4_hasOf_70, zX4_hasOf_72, a1, f4, f24, w, y0, not_true_eq_false, not_false_eq_true, ne_0_1, ne_0_2, ne_0_3, ne_1_0, ne_1_2, ne_1_3, ne_2_0, ne_2_1, ne_2_3, ne_3_0, ne_3_1, ne_3_2, Nat.one_ne_zero, e_k_int, e_k_ref, e_k_null, e_k_long, e_k_ret, e_cats_nil, e_cats_int, e_cats_ref, e_cats_ret, e_cats_long, Option.toList_some, Option.toList_none, List.nil_append, List.cons_append, Option.bind_some, Nat.reduceAdd, Nat.reduceLeDiff, Nat.add_zero, if_true, if_false, true_and, and_true, and_self, Int32.reduceToNatClampNeg]
theorem r_M_hasAgainst {d s k m : Nat} {S h : e_H} {a b c : Int32} (hS : q_ok S) (hm : q_M S h) (ha : a = nI s) (hb : b = nI k) (hc : c = nI m) (hs : s < 2) (hk : k < 5) (hm5 : m < 5) : ∃ f, e_X e_pg (d + 9) 128 [.ref 40, .int a, .int b, .int c] h = some (some (.int (q_ag S s k m)), f) ∧ q_mr h f := by
  rw [xX4_hasAgainst]
  unfold q_ag
  rcases (show s = 0 ∨ s = 1 by omega) with rfl | rfl
  · have ha : a = 0 := ha
    subst ha
    obtain ⟨f, a1, a2⟩ := r_M_hasOf (d := d) (s := 0) (a := 0) hS hm rfl hb hc hs hk hm5
    refine ⟨f, ?_, a2.1⟩
    simp only [zX4_hasAgainst_0, zX4_hasAgainst_1, zX4_hasAgainst_4, zX4_hasAgainst_5, zX4_hasAgainst_6, zX4_hasAgainst_7, zX4_hasAgainst_8, zX4_hasAgainst_11, zX4_hasAgainst_14, zX4_hasAgainst_15, zX4_hasAgainst_16, zX4_hasAgainst_17, zX4_hasAgainst_18, zX4_hasAgainst_21, a1, not_true_eq_false, e_k_int, e_k_ref, e_k_null, e_k_long, e_k_ret, e_cats_nil, e_cats_int, e_cats_ref, e_cats_ret, e_cats_long, Option.toList_some, Option.toList_none, List.nil_append, List.cons_append, Option.bind_some, Nat.reduceAdd, Nat.reduceLeDiff, Nat.add_zero, if_true, if_false, true_and, and_true, and_self, Int32.reduceToNatClampNeg]
  · have ha : a = 1 := ha
    subst ha
    obtain ⟨f, a1, a2⟩ := r_M_hasOf (d := d) (s := 1) (a := 1) hS hm rfl hc hb hs hm5 hk
    refine ⟨f, ?_, a2.1⟩
    simp only [zX4_hasAgainst_0, zX4_hasAgainst_1, zX4_hasAgainst_4, zX4_hasAgainst_5, zX4_hasAgainst_6, zX4_hasAgainst_7, zX4_hasAgainst_8, zX4_hasAgainst_11, zX4_hasAgainst_14, zX4_hasAgainst_15, zX4_hasAgainst_16, zX4_hasAgainst_17, zX4_hasAgainst_18, zX4_hasAgainst_21, a1, ne_0_1, ne_0_2, ne_0_3, ne_1_0, ne_1_2, ne_1_3, ne_2_0, ne_2_1, ne_2_3, ne_3_0, ne_3_1, ne_3_2, not_false_eq_true, Nat.one_ne_zero, e_k_int, e_k_ref, e_k_null, e_k_long, e_k_ret, e_cats_nil, e_cats_int, e_cats_ref, e_cats_ret, e_cats_long, Option.toList_some, Option.toList_none, List.nil_append, List.cons_append, Option.bind_some, Nat.reduceAdd, Nat.reduceLeDiff, Nat.add_zero, if_true, if_false, true_and, and_true, and_self, Int32.reduceToNatClampNeg]
/-! the fraction -/
def q_Mtell (h : e_H) (top : Int64) (b : Nat) : e_H := e_pJ (e_pJ h 40 11 (top / lN (q_gd top b))) 40 12 (lN b / lN (q_gd top b))
theorem q_M.tell {S h : e_H} (m : q_M S h) (top : Int64) (b : Nat) : q_M (q_tell S top b) (q_Mtell h top b) := by
  obtain ⟨⟨a1, a2, a3, a4, a5, a6, a7, a8, a9⟩, b1, c1, e1, g1⟩ := m
  unfold q_tell q_Mtell
  refine ⟨⟨?_, ?_, ?_, ?_, ?_, ?_, ?_, ?_, ?_⟩, ?_, ?_, ?_, ?_⟩
  · simp only [e_gI_pJ]; exact a1
  · simp only [e_gI_pJ]; exact a2
  · simp only [e_gI_pJ]; exact a3
  · simp only [e_gI_pJ]; exact a4
  · simp only [e_gI_pJ]; exact a5
  · simp only [e_gI_pJ]; exact a6
  · simp only [e_gI_pJ]; exact a7
  · simp [e_gJ_pJ]
  · simp [e_gJ_pJ]
  · intro s hs; simp only [e_gI_pJ]; exact b1 s hs
  · intro s k w hs hk hw
    unfold q_N
    simp only [e_gI_pJ]
    exact c1 s k w hs hk hw
  · intro s k hs hk
    unfold q_c at hk
    simp only [e_gI_pJ] at hk ⊢
    exact e1 s k hs hk
  · intro k; simp only [e_gI_pJ]; exact g1 k
theorem q_Mtell_fr {h : e_H} {top : Int64} {b : Nat} : e_fr q_lM h (q_Mtell h top b) := ((e_fr.refl _ h).pJ (by simp)).pJ (by simp)
set_option maxRecDepth 100000 in
theorem r_M_tell_loop {d : Nat} {x y : Int64} {g : e_H} : ∀ (b a : Nat) (v w : Value), a < 2 ^ 31 → b < 2 ^ 31 → ∃ v2 w2, e_F kX4_tell (e_X e_pg d) 17 [.ref 40, .long x, .null, .long y, .null, .long (lN a), .null, .long (lN b), .null, v, w] [] g = e_F kX4_tell (e_X e_pg d) 42 [.ref 40, .long x, .null, .long y, .null, .long (lN (Nat.gcd a b)), .null, .long (lN 0), .null, v2, w2] [] g := by
  intro b
  induction b using Nat.strongRecOn with
  | _ b ih =>
    intro a v w ha hb
    rcases Nat.eq_zero_or_pos b with q | q
    · subst q
      refine ⟨v, w, ?_⟩
      rw [Nat.gcd_zero_right, zX4_tell_17]
      simp only [zX4_tell_19, zX4_tell_20, zX4_tell_21, zX4_tell_24, zX4_tell_26, zX4_tell_28, zX4_tell_29, zX4_tell_31, zX4_tell_33, zX4_tell_35, zX4_tell_37, zX4_tell_39, lc_eq, show (lN 0 = (0 : Int64)) = True from eq_true rfl, e_k_int, e_k_ref, e_k_null, e_k_long, e_k_ret, e_cats_nil, e_cats_int, e_cats_ref, e_cats_ret, e_cats_long, Option.toList_some, Option.toList_none, List.nil_append, List.cons_append, Option.bind_some, Nat.reduceAdd, Nat.reduceLeDiff, Nat.add_zero, if_true, if_false, true_and, and_true, and_self, Int32.reduceToNatClampNeg]
    · have hb0 : ¬ lN b = 0 := by rw [show (0 : Int64) = lN 0 from rfl, lN_eq hb (by decide)]; omega
      have hr := ln_rem (a := a) (d := b) ha q hb
      have hml := Nat.mod_lt a q
      obtain ⟨v2, w2, e⟩ := ih (a % b) hml b (.long (lN (a % b))) .null hb (by omega)
      refine ⟨v2, w2, ?_⟩
      rw [← gcd_st, ← e, zX4_tell_17]
      simp only [zX4_tell_19, zX4_tell_20, zX4_tell_21, zX4_tell_24, zX4_tell_26, zX4_tell_28, zX4_tell_29, zX4_tell_31, zX4_tell_33, zX4_tell_35, zX4_tell_37, zX4_tell_39, lc_eq, hb0, hr, e_k_int, e_k_ref, e_k_null, e_k_long, e_k_ret, e_cats_nil, e_cats_int, e_cats_ref, e_cats_ret, e_cats_long, Option.toList_some, Option.toList_none, List.nil_append, List.cons_append, Option.bind_some, Nat.reduceAdd, Nat.reduceLeDiff, Nat.add_zero, if_true, if_false, true_and, and_true, and_self, Int32.reduceToNatClampNeg]
theorem r_M_tell {d b : Nat} {top : Int64} {g : e_H} (h1 : -16777216 ≤ top.toInt) (h2 : top.toInt ≤ 16777216) (hb0 : 0 < b) (hb : b ≤ 1000) : e_X e_pg (d + 1) 126 [.ref 40, .long top, .long (lN b)] g = some (none, q_Mtell g top b) := by
  have p0 := q_gd_pos (top := top) hb0
  have p1 := q_gd_le (top := top) hb0
  have hz : ¬ lN (q_gd top b) = 0 := by rw [show (0 : Int64) = lN 0 from rfl, lN_eq (by omega) (by decide)]; omega
  obtain ⟨v2, w2, e⟩ := r_M_tell_loop (d := d) (x := top) (y := lN b) (g := g) b top.toInt.natAbs .null .null (by omega) (by omega)
  have ab := (i64_abs h1 h2).2
  change _ = e_F kX4_tell (e_X e_pg d) 42 [.ref 40, .long top, .null, .long (lN b), .null, .long (lN (q_gd top b)), .null, .long (lN 0), .null, v2, w2] [] g at e
  rw [xX4_tell]
  have fin : e_F kX4_tell (e_X e_pg d) 42 [.ref 40, .long top, .null, .long (lN b), .null, .long (lN (q_gd top b)), .null, .long (lN 0), .null, v2, w2] [] g = some (none, q_Mtell g top b) := by
    simp only [zX4_tell_42, zX4_tell_43, zX4_tell_44, zX4_tell_46, zX4_tell_47, zX4_tell_50, zX4_tell_51, zX4_tell_52, zX4_tell_54, zX4_tell_55, zX4_tell_58, hz, q_Mtell, e_k_int, e_k_ref, e_k_null, e_k_long, e_k_ret, e_cats_nil, e_cats_int, e_cats_ref, e_cats_ret, e_cats_long, Option.toList_some, Option.toList_none, List.nil_append, List.cons_append, Option.bind_some, Nat.reduceAdd, Nat.reduceLeDiff, Nat.add_zero, if_true, if_false, true_and, and_true, and_self, Int32.reduceToNatClampNeg]
  by_cases c : 0 ≤ top
  · rw [if_pos c] at ab
    simp only [zX4_tell_0, zX4_tell_1, zX4_tell_2, zX4_tell_3, zX4_tell_6, zX4_tell_7, zX4_tell_8, zX4_tell_11, zX4_tell_12, zX4_tell_14, zX4_tell_15, lc_ge, c, e_k_int, e_k_ref, e_k_null, e_k_long, e_k_ret, e_cats_nil, e_cats_int, e_cats_ref, e_cats_ret, e_cats_long, Option.toList_some, Option.toList_none, List.nil_append, List.cons_append, Option.bind_some, Nat.reduceAdd, Nat.reduceLeDiff, Nat.add_zero, if_true, if_false, true_and, and_true, and_self, Int32.reduceToNatClampNeg]
    rw [← ab] at e
    rw [e, fin]
  · rw [if_neg c] at ab
    simp only [zX4_tell_0, zX4_tell_1, zX4_tell_2, zX4_tell_3, zX4_tell_6, zX4_tell_7, zX4_tell_8, zX4_tell_11, zX4_tell_12, zX4_tell_14, zX4_tell_15, lc_ge, c, e_k_int, e_k_ref, e_k_null, e_k_long, e_k_ret, e_cats_nil, e_cats_int, e_cats_ref, e_cats_ret, e_cats_long, Option.toList_some, Option.toList_none, List.nil_append, List.cons_append, Option.bind_some, Nat.reduceAdd, Nat.reduceLeDiff, Nat.add_zero, if_true, if_false, true_and, and_true, and_self, Int32.reduceToNatClampNeg]
    rw [ab, e, fin]
/-! settle, round, has -/
theorem r_M_settle {d i j : Nat} {S h : e_H} (hS : q_ok S) (m : q_M S h) (hp : q_pr S i j) : ∃ f, e_X e_pg (d + 8) 121 [.ref 40, .int (nI i), .int (nI j)] h = some (some (.int (q_res S i j).1), f) ∧ q_mr h f := by
  obtain ⟨hi, hj⟩ := q_pr5 hS hp
  obtain ⟨f, a1, a2⟩ := r_M_settleTwo (d := d) (a := nI i) (b := nI j) hS m rfl rfl hi hj
  refine ⟨f, ?_, a2.1⟩
  rw [xX4_settle]
  simp only [zX4_settle_0, zX4_settle_1, zX4_settle_2, zX4_settle_3, zX4_settle_6, zX4_settle_9, zX4_settle_11, zX4_settle_12, zX4_settle_13, zX4_settle_14, zX4_settle_15, zX4_settle_18, zX4_settle_19, zX4_settle_22, r_M_arePair hS m, q_pr_yes hS hp, a1, a2.2.2.1, ne_0_1, ne_0_2, ne_0_3, ne_1_0, ne_1_2, ne_1_3, ne_2_0, ne_2_1, ne_2_3, ne_3_0, ne_3_1, ne_3_2, not_false_eq_true, e_k_int, e_k_ref, e_k_null, e_k_long, e_k_ret, e_cats_nil, e_cats_int, e_cats_ref, e_cats_ret, e_cats_long, Option.toList_some, Option.toList_none, List.nil_append, List.cons_append, Option.bind_some, Nat.reduceAdd, Nat.reduceLeDiff, Nat.add_zero, if_true, if_false, true_and, and_true, and_self, Int32.reduceToNatClampNeg]
theorem r_M_settle_no {d : Nat} {S h : e_H} {a b : Int32} (hS : q_ok S) (m : q_M S h) (hp : ¬ ∃ i j, q_pr S i j ∧ a = nI i ∧ b = nI j) : e_X e_pg (d + 8) 121 [.ref 40, .int a, .int b] h = some (some (.int (-2)), h) := by
  rw [xX4_settle]
  simp only [zX4_settle_0, zX4_settle_1, zX4_settle_2, zX4_settle_3, zX4_settle_6, zX4_settle_9, zX4_settle_11, zX4_settle_12, zX4_settle_13, zX4_settle_14, zX4_settle_15, zX4_settle_18, zX4_settle_19, zX4_settle_22, r_M_arePair hS m, q_pr_no hS hp, not_true_eq_false, e_k_int, e_k_ref, e_k_null, e_k_long, e_k_ret, e_cats_nil, e_cats_int, e_cats_ref, e_cats_ret, e_cats_long, Option.toList_some, Option.toList_none, List.nil_append, List.cons_append, Option.bind_some, Nat.reduceAdd, Nat.reduceLeDiff, Nat.add_zero, if_true, if_false, true_and, and_true, and_self, Int32.reduceToNatClampNeg]
theorem r_M_round {d i j : Nat} {S h : e_H} (hS : q_ok S) (m : q_M S h) (hp : q_pr S i j) : ∃ f, e_X e_pg (d + 8) 122 [.ref 40, .int (nI i), .int (nI j)] h = some (some (.int (q_res S i j).2.2), f) ∧ q_mr h f := by
  obtain ⟨hi, hj⟩ := q_pr5 hS hp
  obtain ⟨f, a1, a2⟩ := r_M_settleTwo (d := d) (a := nI i) (b := nI j) hS m rfl rfl hi hj
  refine ⟨f, ?_, a2.1⟩
  rw [xX4_round]
  simp only [zX4_round_0, zX4_round_1, zX4_round_2, zX4_round_3, zX4_round_6, zX4_round_9, zX4_round_11, zX4_round_12, zX4_round_13, zX4_round_14, zX4_round_15, zX4_round_18, zX4_round_19, zX4_round_22, r_M_arePair hS m, q_pr_yes hS hp, a1, a2.2.2.2.2.1, ne_0_1, ne_0_2, ne_0_3, ne_1_0, ne_1_2, ne_1_3, ne_2_0, ne_2_1, ne_2_3, ne_3_0, ne_3_1, ne_3_2, not_false_eq_true, e_k_int, e_k_ref, e_k_null, e_k_long, e_k_ret, e_cats_nil, e_cats_int, e_cats_ref, e_cats_ret, e_cats_long, Option.toList_some, Option.toList_none, List.nil_append, List.cons_append, Option.bind_some, Nat.reduceAdd, Nat.reduceLeDiff, Nat.add_zero, if_true, if_false, true_and, and_true, and_self, Int32.reduceToNatClampNeg]
theorem r_M_round_no {d : Nat} {S h : e_H} {a b : Int32} (hS : q_ok S) (m : q_M S h) (hp : ¬ ∃ i j, q_pr S i j ∧ a = nI i ∧ b = nI j) : e_X e_pg (d + 8) 122 [.ref 40, .int a, .int b] h = some (some (.int (-2)), h) := by
  rw [xX4_round]
  simp only [zX4_round_0, zX4_round_1, zX4_round_2, zX4_round_3, zX4_round_6, zX4_round_9, zX4_round_11, zX4_round_12, zX4_round_13, zX4_round_14, zX4_round_15, zX4_round_18, zX4_round_19, zX4_round_22, r_M_arePair hS m, q_pr_no hS hp, not_true_eq_false, e_k_int, e_k_ref, e_k_null, e_k_long, e_k_ret, e_cats_nil, e_cats_int, e_cats_ref, e_cats_ret, e_cats_long, Option.toList_some, Option.toList_none, List.nil_append, List.cons_append, Option.bind_some, Nat.reduceAdd, Nat.reduceLeDiff, Nat.add_zero, if_true, if_false, true_and, and_true, and_self, Int32.reduceToNatClampNeg]
theorem q_Msc {S h : e_H} (hS : q_ok S) (m : q_M S h) : (if e_gI h 40 4 = 2 then e_gI h 40 8 else 1) = nI (q_sc S) := by
  unfold q_sc
  rw [m.1.2.1, m.1.2.2.2.2.2.1, hS.b.1]
  split <;> rfl
theorem r_M_has {d s i j : Nat} {S h : e_H} (hS : q_ok S) (m : q_M S h) (hs : s < 2) (hp : q_pr S i j) : ∃ f, e_X e_pg (d + 9) 127 [.ref 40, .int (nI s), .int (nI i), .int (nI j)] h = some (some (.int 1), f) ∧ q_M (q_tell S (q_has S s i j).toInt64 (q_sc S)) f ∧ e_fr q_lM h f := by
  obtain ⟨hi, hj⟩ := q_pr5 hS hp
  obtain ⟨f, a1, a2⟩ := r_M_hasOf (d := d) (a := nI s) (b := nI i) (c := nI j) hS m rfl rfl rfl hs hi hj
  have m2 := m.mf a2.1
  have rg := q_has_rg hS hs hi hj
  have sc := q_sc_rg hS
  have e64 : (q_has S s i j).toInt64.toInt = (q_has S s i j).toInt := Int32.toInt_toInt64 _
  have tf := r_M_tell (d := d + 7) (b := q_sc S) (top := (q_has S s i j).toInt64) (g := f) (by omega) (by omega) (by omega) (by omega)
  have esc := q_Msc hS m2
  have e32 := nI_l (n := q_sc S) (by omega)
  refine ⟨q_Mtell f (q_has S s i j).toInt64 (q_sc S), ?_, m2.tell _ _, a2.1.fr.trans q_Mtell_fr⟩
  rw [xX4_has]
  simp only [zX4_has_0, zX4_has_1, zX4_has_4, zX4_has_7, zX4_has_8, zX4_has_9, zX4_has_10, zX4_has_13, zX4_has_16, zX4_has_18, zX4_has_19, zX4_has_20, zX4_has_21, zX4_has_22, zX4_has_23, zX4_has_24, zX4_has_27, zX4_has_28, zX4_has_29, zX4_has_32, zX4_has_33, zX4_has_36, zX4_has_37, r_M_isSide, p_side_yes hs, r_M_arePair hS m, q_pr_yes hS hp, a1, r_M_under, esc, e32, tf, ne_0_1, ne_0_2, ne_0_3, ne_1_0, ne_1_2, ne_1_3, ne_2_0, ne_2_1, ne_2_3, ne_3_0, ne_3_1, ne_3_2, not_false_eq_true, e_k_int, e_k_ref, e_k_null, e_k_long, e_k_ret, e_cats_nil, e_cats_int, e_cats_ref, e_cats_ret, e_cats_long, Option.toList_some, Option.toList_none, List.nil_append, List.cons_append, Option.bind_some, Nat.reduceAdd, Nat.reduceLeDiff, Nat.add_zero, if_true, if_false, true_and, and_true, and_self, Int32.reduceToNatClampNeg]
theorem r_M_has_no {d : Nat} {S h : e_H} {s a b : Int32} (hS : q_ok S) (m : q_M S h) (hp : (¬ ∃ k, k < 2 ∧ s = nI k) ∨ ¬ ∃ i j, q_pr S i j ∧ a = nI i ∧ b = nI j) : e_X e_pg (d + 9) 127 [.ref 40, .int s, .int a, .int b] h = some (some (.int (-2)), h) := by
  rw [xX4_has]
  rcases hp with hp | hp
  · simp only [zX4_has_0, zX4_has_1, zX4_has_4, zX4_has_7, zX4_has_8, zX4_has_9, zX4_has_10, zX4_has_13, zX4_has_16, zX4_has_18, zX4_has_19, zX4_has_20, zX4_has_21, zX4_has_22, zX4_has_23, zX4_has_24, zX4_has_27, zX4_has_28, zX4_has_29, zX4_has_32, zX4_has_33, zX4_has_36, zX4_has_37, r_M_isSide, p_side_no hp, e_k_int, e_k_ref, e_k_null, e_k_long, e_k_ret, e_cats_nil, e_cats_int, e_cats_ref, e_cats_ret, e_cats_long, Option.toList_some, Option.toList_none, List.nil_append, List.cons_append, Option.bind_some, Nat.reduceAdd, Nat.reduceLeDiff, Nat.add_zero, if_true, if_false, true_and, and_true, and_self, Int32.reduceToNatClampNeg]
  · by_cases c : p_side s = 0
    · simp only [zX4_has_0, zX4_has_1, zX4_has_4, zX4_has_7, zX4_has_8, zX4_has_9, zX4_has_10, zX4_has_13, zX4_has_16, zX4_has_18, zX4_has_19, zX4_has_20, zX4_has_21, zX4_has_22, zX4_has_23, zX4_has_24, zX4_has_27, zX4_has_28, zX4_has_29, zX4_has_32, zX4_has_33, zX4_has_36, zX4_has_37, r_M_isSide, c, e_k_int, e_k_ref, e_k_null, e_k_long, e_k_ret, e_cats_nil, e_cats_int, e_cats_ref, e_cats_ret, e_cats_long, Option.toList_some, Option.toList_none, List.nil_append, List.cons_append, Option.bind_some, Nat.reduceAdd, Nat.reduceLeDiff, Nat.add_zero, if_true, if_false, true_and, and_true, and_self, Int32.reduceToNatClampNeg]
    · simp only [zX4_has_0, zX4_has_1, zX4_has_4, zX4_has_7, zX4_has_8, zX4_has_9, zX4_has_10, zX4_has_13, zX4_has_16, zX4_has_18, zX4_has_19, zX4_has_20, zX4_has_21, zX4_has_22, zX4_has_23, zX4_has_24, zX4_has_27, zX4_has_28, zX4_has_29, zX4_has_32, zX4_has_33, zX4_has_36, zX4_has_37, r_M_isSide, c, r_M_arePair hS m, q_pr_no hS hp, not_true_eq_false, e_k_int, e_k_ref, e_k_null, e_k_long, e_k_ret, e_cats_nil, e_cats_int, e_cats_ref, e_cats_ret, e_cats_long, Option.toList_some, Option.toList_none, List.nil_append, List.cons_append, Option.bind_some, Nat.reduceAdd, Nat.reduceLeDiff, Nat.add_zero, if_true, if_false, true_and, and_true, and_self, Int32.reduceToNatClampNeg]
/-! the best -/
def q_bi (v : Nat → Int32) : Nat → Int32 × Int32
  | 0 => (0, v 0)
  | k + 1 => if v (k + 1) ≤ (q_bi v k).2 then q_bi v k else (nI (k + 1), v (k + 1))
theorem q_bm_bi (v : Nat → Int32) : ∀ k, q_bm (fun k => (v k).toInt64) k = ((q_bi v k).1, (q_bi v k).2.toInt64) := by
  intro k
  induction k with
  | zero => rfl
  | succ k ih =>
    unfold q_bm q_bi
    rw [ih]
    simp only [t64_le]
    split <;> rfl
set_option maxRecDepth 100000 in
theorem r_M_bestMan {d s m : Nat} {S h : e_H} (hS : q_ok S) (hM : q_M S h) (hs : s < 2) (hm : m < 5) : ∃ f, e_X e_pg (d + 10) 129 [.ref 40, .int (nI s), .int (nI m)] h = some (some (.int (q_best S s m)), f) ∧ q_mr h f := by
  have cs := (hS.c hs).2
  have hib : e_inb (nI s) 2 = true := e_inb_nI hs (by decide)
  have hcl : (nI s).toNatClampNeg = s := nI_clamp (by omega)
  obtain ⟨f0, a1, a2⟩ := r_M_hasAgainst (d := d) (k := 0) (b := 0) hS hM (a := nI s) (c := nI m) rfl rfl rfl hs (by decide) hm
  rw [xX4_bestMan]
  simp only [zX4_bestMan_0, zX4_bestMan_1, zX4_bestMan_2, zX4_bestMan_3, zX4_bestMan_4, zX4_bestMan_5, zX4_bestMan_6, zX4_bestMan_9, zX4_bestMan_11, zX4_bestMan_12, a1, e_k_int, e_k_ref, e_k_null, e_k_long, e_k_ret, e_cats_nil, e_cats_int, e_cats_ref, e_cats_ret, e_cats_long, Option.toList_some, Option.toList_none, List.nil_append, List.cons_append, Option.bind_some, Nat.reduceAdd, Nat.reduceLeDiff, Nat.add_zero, if_true, if_false, true_and, and_true, and_self, Int32.reduceToNatClampNeg]
  obtain ⟨ls2, f, e, ⟨v, rfl⟩, hF⟩ := f_lp (cd := kX4_bestMan) (O := e_X e_pg (d + 9)) (pc := 14) (fun k ls g => (∃ v, ls = [.ref 40, .int (nI s), .int (nI m), .int (q_bi (fun k => q_ag S s k m) (k - 1)).1, .int (q_bi (fun k => q_ag S s k m) (k - 1)).2, .int (nI k), v]) ∧ q_mr h g) (a := 1) (n := q_c S s) (by omega) (by
    rintro k ls g hk1 hk ⟨⟨v, rfl⟩, hF⟩
    obtain ⟨k, rfl⟩ : ∃ j, k = j + 1 := ⟨k - 1, by omega⟩
    have hc : ¬ nI (q_c S s) ≤ nI (k + 1) := nI_ge hk (by omega)
    have hM2 := hM.mf hF
    obtain ⟨f, b1, b2⟩ := r_M_hasAgainst (d := d) (k := k + 1) hS hM2 (a := nI s) (b := nI (k + 1)) (c := nI m) rfl rfl rfl hs (by omega) hm
    rw [zX4_bestMan_14, Nat.add_sub_cancel, Nat.add_sub_cancel]
    rw [q_bi]
    by_cases c : q_ag S s (k + 1) m ≤ (q_bi (fun k => q_ag S s k m) k).2
    · simp only [zX4_bestMan_16, zX4_bestMan_17, zX4_bestMan_20, zX4_bestMan_21, zX4_bestMan_22, zX4_bestMan_25, zX4_bestMan_26, zX4_bestMan_27, zX4_bestMan_29, zX4_bestMan_30, zX4_bestMan_33, zX4_bestMan_35, zX4_bestMan_37, zX4_bestMan_39, zX4_bestMan_42, zX4_bestMan_44, zX4_bestMan_47, zX4_bestMan_48, zX4_bestMan_49, zX4_bestMan_51, zX4_bestMan_53, zX4_bestMan_56, zX4_bestMan_58, zX4_bestMan_61, zX4_bestMan_63, zX4_bestMan_65, zX4_bestMan_68, hM2.c hS hs, hib, hcl, hc, b1, c, nI_1, e_k_int, e_k_ref, e_k_null, e_k_long, e_k_ret, e_cats_nil, e_cats_int, e_cats_ref, e_cats_ret, e_cats_long, Option.toList_some, Option.toList_none, List.nil_append, List.cons_append, Option.bind_some, Nat.reduceAdd, Nat.reduceLeDiff, Nat.add_zero, if_true, if_false, true_and, and_true, and_self, Int32.reduceToNatClampNeg, ok_1, ok_2, ok_3, ok_4, ok_5, ok_6, ok_7, ok_8, ok_9, ok_30, ok_31, ok_32, ok_33, ok_34, ok_35, ok_36, ok_37, ok_38, ok_39, ok_40, ok_41, ok_42, ok_43, ok_44, ok_45, ok_46, ok_47, ok_48, ok_49, ok_50, ok_51, ok_52, ln_1, ln_2, ln_4, ln_5, ln_6, ln_7, ln_8, ln_30, ln_31, ln_32, ln_33, ln_34, ln_35, ln_36, ln_37, ln_38, ln_39, ln_41, ln_42, ln_43, ln_44, ln_45, ln_46, ln_47, ln_48, ln_49, ln_50, ln_51, ln_52]
      exact ⟨_, _, rfl, ⟨_, rfl⟩, hF.trans b2⟩
    · simp only [zX4_bestMan_16, zX4_bestMan_17, zX4_bestMan_20, zX4_bestMan_21, zX4_bestMan_22, zX4_bestMan_25, zX4_bestMan_26, zX4_bestMan_27, zX4_bestMan_29, zX4_bestMan_30, zX4_bestMan_33, zX4_bestMan_35, zX4_bestMan_37, zX4_bestMan_39, zX4_bestMan_42, zX4_bestMan_44, zX4_bestMan_47, zX4_bestMan_48, zX4_bestMan_49, zX4_bestMan_51, zX4_bestMan_53, zX4_bestMan_56, zX4_bestMan_58, zX4_bestMan_61, zX4_bestMan_63, zX4_bestMan_65, zX4_bestMan_68, hM2.c hS hs, hib, hcl, hc, b1, c, nI_1, e_k_int, e_k_ref, e_k_null, e_k_long, e_k_ret, e_cats_nil, e_cats_int, e_cats_ref, e_cats_ret, e_cats_long, Option.toList_some, Option.toList_none, List.nil_append, List.cons_append, Option.bind_some, Nat.reduceAdd, Nat.reduceLeDiff, Nat.add_zero, if_true, if_false, true_and, and_true, and_self, Int32.reduceToNatClampNeg, ok_1, ok_2, ok_3, ok_4, ok_5, ok_6, ok_7, ok_8, ok_9, ok_30, ok_31, ok_32, ok_33, ok_34, ok_35, ok_36, ok_37, ok_38, ok_39, ok_40, ok_41, ok_42, ok_43, ok_44, ok_45, ok_46, ok_47, ok_48, ok_49, ok_50, ok_51, ok_52, ln_1, ln_2, ln_4, ln_5, ln_6, ln_7, ln_8, ln_30, ln_31, ln_32, ln_33, ln_34, ln_35, ln_36, ln_37, ln_38, ln_39, ln_41, ln_42, ln_43, ln_44, ln_45, ln_46, ln_47, ln_48, ln_49, ln_50, ln_51, ln_52]
      exact ⟨_, _, rfl, ⟨_, rfl⟩, hF.trans b2⟩) (ls := [.ref 40, .int (nI s), .int (nI m), .int 0, .int (q_ag S s 0 m), .int 1, .null]) (h := f0) ⟨⟨_, rfl⟩, a2⟩
  have hc : nI (q_c S s) ≤ nI (q_c S s) := nI_le (Nat.le_refl _) (by omega)
  refine ⟨f, ?_, hF⟩
  have eb : q_best S s m = (q_bi (fun k => q_ag S s k m) (q_c S s - 1)).1 := by
    unfold q_best
    rw [q_bm_bi]
  rw [e, eb, zX4_bestMan_14]
  simp only [zX4_bestMan_16, zX4_bestMan_17, zX4_bestMan_20, zX4_bestMan_21, zX4_bestMan_22, zX4_bestMan_71, zX4_bestMan_72, (hM.mf hF).c hS hs, hib, hcl, hc, e_k_int, e_k_ref, e_k_null, e_k_long, e_k_ret, e_cats_nil, e_cats_int, e_cats_ref, e_cats_ret, e_cats_long, Option.toList_some, Option.toList_none, List.nil_append, List.cons_append, Option.bind_some, Nat.reduceAdd, Nat.reduceLeDiff, Nat.add_zero, if_true, if_false, true_and, and_true, and_self, Int32.reduceToNatClampNeg, ok_1, ok_2, ok_3, ok_4, ok_5, ok_6, ok_7, ok_8, ok_9, ok_30, ok_31, ok_32, ok_33, ok_34, ok_35, ok_36, ok_37, ok_38, ok_39, ok_40, ok_41, ok_42, ok_43, ok_44, ok_45, ok_46, ok_47, ok_48, ok_49, ok_50, ok_51, ok_52, ln_1, ln_2, ln_4, ln_5, ln_6, ln_7, ln_8, ln_30, ln_31, ln_32, ln_33, ln_34, ln_35, ln_36, ln_37, ln_38, ln_39, ln_41, ln_42, ln_43, ln_44, ln_45, ln_46, ln_47, ln_48, ln_49, ln_50, ln_51, ln_52]
theorem r_M_best {d s m : Nat} {S h : e_H} (hS : q_ok S) (hM : q_M S h) (hs : s < 2) (hm : m < q_c S (1 - s)) : ∃ f, e_X e_pg (d + 11) 130 [.ref 40, .int (nI s), .int (nI m)] h = some (some (.int (q_best S s m)), f) ∧ q_mr h f := by
  have cm := (hS.c (show 1 - s < 2 by omega)).2
  obtain ⟨f, a1, a2⟩ := r_M_bestMan (d := d) hS hM hs (show m < 5 by omega)
  refine ⟨f, ?_, a2⟩
  rw [xX4_best]
  simp only [zX4_best_0, zX4_best_1, zX4_best_4, zX4_best_7, zX4_best_8, zX4_best_9, zX4_best_10, zX4_best_11, zX4_best_12, zX4_best_15, zX4_best_18, zX4_best_19, zX4_best_20, zX4_best_21, zX4_best_24, zX4_best_27, zX4_best_29, r_M_isSide, p_side_yes hs, nI_1s hs, r_M_isMan hS hM, p_isE_yes hS (show 1 - s < 2 by omega) hm, a1, ne_0_1, ne_0_2, ne_0_3, ne_1_0, ne_1_2, ne_1_3, ne_2_0, ne_2_1, ne_2_3, ne_3_0, ne_3_1, ne_3_2, e_k_int, e_k_ref, e_k_null, e_k_long, e_k_ret, e_cats_nil, e_cats_int, e_cats_ref, e_cats_ret, e_cats_long, Option.toList_some, Option.toList_none, List.nil_append, List.cons_append, Option.bind_some, Nat.reduceAdd, Nat.reduceLeDiff, Nat.add_zero, if_true, if_false, true_and, and_true, and_self, Int32.reduceToNatClampNeg]
theorem r_M_best_no {d : Nat} {S h : e_H} {a b : Int32} (hS : q_ok S) (hM : q_M S h) (hp : ¬ ∃ s m, s < 2 ∧ m < q_c S (1 - s) ∧ a = nI s ∧ b = nI m) : e_X e_pg (d + 11) 130 [.ref 40, .int a, .int b] h = some (some (.int (-2)), h) := by
  rw [xX4_best]
  by_cases hs : ∃ k, k < 2 ∧ a = nI k
  · obtain ⟨s, hs, rfl⟩ := hs
    have : p_isE (e_gI S 1) (nI (1 - s)) b = 0 := p_isE_no hS (by
      rintro ⟨s2, k2, g1, g2, g3, rfl⟩
      rw [nI_eq (by omega) (by omega)] at g3
      subst g3
      exact hp ⟨s, k2, hs, g2, rfl, rfl⟩)
    simp only [zX4_best_0, zX4_best_1, zX4_best_4, zX4_best_7, zX4_best_8, zX4_best_9, zX4_best_10, zX4_best_11, zX4_best_12, zX4_best_15, zX4_best_18, zX4_best_19, zX4_best_20, zX4_best_21, zX4_best_24, zX4_best_27, zX4_best_29, r_M_isSide, p_side_yes hs, nI_1s hs, r_M_isMan hS hM, this, ne_0_1, ne_0_2, ne_0_3, ne_1_0, ne_1_2, ne_1_3, ne_2_0, ne_2_1, ne_2_3, ne_3_0, ne_3_1, ne_3_2, e_k_int, e_k_ref, e_k_null, e_k_long, e_k_ret, e_cats_nil, e_cats_int, e_cats_ref, e_cats_ret, e_cats_long, Option.toList_some, Option.toList_none, List.nil_append, List.cons_append, Option.bind_some, Nat.reduceAdd, Nat.reduceLeDiff, Nat.add_zero, if_true, if_false, true_and, and_true, and_self, Int32.reduceToNatClampNeg]
  · simp only [zX4_best_0, zX4_best_1, zX4_best_4, zX4_best_7, zX4_best_8, zX4_best_9, zX4_best_10, zX4_best_11, zX4_best_12, zX4_best_15, zX4_best_18, zX4_best_19, zX4_best_20, zX4_best_21, zX4_best_24, zX4_best_27, zX4_best_29, r_M_isSide, p_side_no hs, e_k_int, e_k_ref, e_k_null, e_k_long, e_k_ret, e_cats_nil, e_cats_int, e_cats_ref, e_cats_ret, e_cats_long, Option.toList_some, Option.toList_none, List.nil_append, List.cons_append, Option.bind_some, Nat.reduceAdd, Nat.reduceLeDiff, Nat.add_zero, if_true, if_false, true_and, and_true, and_self, Int32.reduceToNatClampNeg]
