/-! recalling, the mediator -/
def q_rec (S : e_H) (s i j : Nat) : Int32 := if e_gI S 0 7 = 2 then -3 else if (q_res S i j).1 = -5 then -3 else if 0 < q_un S s (if s = 0 then i else j) - q_byS S s (if s = 0 then i else j) (q_res S i j).1 then q_un S s (if s = 0 then i else j) - q_byS S s (if s = 0 then i else j) (q_res S i j).1 else 0
theorem r_recall {d s i j : Nat} {S : e_H} (hS : q_ok S) (hs : s < 2) (hp : q_pr S i j) : ∃ f, e_X e_pg (d + 6) 52 [.ref 0, .int (nI s), .int (nI i), .int (nI j)] S = some (some (.int (q_rec S s i j)), f) ∧ q_C S f := by
  obtain ⟨hi, hj⟩ := q_pr5 hS hp
  obtain ⟨f, m1, m2⟩ := r_meet (d := d) hS (q_C.refl S) (a := nI i) (b := nI j) rfl rfl hi hj
  have hC := (q_C.refl S).met m2
  have m95 := m2.2.1
  rw [xX3_recall]
  unfold q_rec
  by_cases w : e_gI S 0 7 = 2
  · refine ⟨S, ?_, q_C.refl S⟩
    simp only [zX3_recall_0, zX3_recall_1, zX3_recall_4, zX3_recall_7, zX3_recall_8, zX3_recall_9, zX3_recall_10, zX3_recall_13, zX3_recall_16, zX3_recall_18, zX3_recall_19, zX3_recall_20, zX3_recall_23, zX3_recall_24, zX3_recall_27, zX3_recall_28, zX3_recall_29, zX3_recall_30, zX3_recall_33, zX3_recall_35, zX3_recall_38, zX3_recall_40, r_isSide, p_side_yes hs, r_isPair, q_pr_yes hS hp, w, ne_0_1, ne_0_2, ne_0_3, ne_1_0, ne_1_2, ne_1_3, ne_2_0, ne_2_1, ne_2_3, ne_3_0, ne_3_1, ne_3_2, not_false_eq_true, e_k_int, e_k_ref, e_k_null, e_k_long, e_k_ret, e_cats_nil, e_cats_int, e_cats_ref, e_cats_ret, e_cats_long, Option.toList_some, Option.toList_none, List.nil_append, List.cons_append, Option.bind_some, Nat.reduceAdd, Nat.reduceLeDiff, Nat.add_zero, if_true, if_false, true_and, and_true, and_self, Int32.reduceToNatClampNeg]
  · refine ⟨f, ?_, hC⟩
    by_cases c : (q_res S i j).1 = -5
    · simp only [zX3_recall_0, zX3_recall_1, zX3_recall_4, zX3_recall_7, zX3_recall_8, zX3_recall_9, zX3_recall_10, zX3_recall_13, zX3_recall_16, zX3_recall_18, zX3_recall_19, zX3_recall_20, zX3_recall_23, zX3_recall_24, zX3_recall_27, zX3_recall_28, zX3_recall_29, zX3_recall_30, zX3_recall_33, zX3_recall_35, zX3_recall_38, zX3_recall_40, r_isSide, p_side_yes hs, r_isPair, q_pr_yes hS hp, w, m1, c, ne_0_1, ne_0_2, ne_0_3, ne_1_0, ne_1_2, ne_1_3, ne_2_0, ne_2_1, ne_2_3, ne_3_0, ne_3_1, ne_3_2, not_false_eq_true, not_true_eq_false, e_k_int, e_k_ref, e_k_null, e_k_long, e_k_ret, e_cats_nil, e_cats_int, e_cats_ref, e_cats_ret, e_cats_long, Option.toList_some, Option.toList_none, List.nil_append, List.cons_append, Option.bind_some, Nat.reduceAdd, Nat.reduceLeDiff, Nat.add_zero, if_true, if_false, true_and, and_true, and_self, Int32.reduceToNatClampNeg]
    · rcases (show s = 0 ∨ s = 1 by omega) with rfl | rfl
      · have un := r_holdsUnsettled (d := d + 3) (k := i) (a := 0) hC rfl hs hi
        have hb := r_holdsBy (d := d + 2) (k := i) (a := 0) (x := (q_res S i j).1) hS hC rfl hs hi
        have es := p_side_yes hs
        rw [show nI 0 = (0 : Int32) from rfl] at es
        simp only [show nI 0 = (0 : Int32) from rfl, zX3_recall_0, zX3_recall_1, zX3_recall_4, zX3_recall_7, zX3_recall_8, zX3_recall_9, zX3_recall_10, zX3_recall_13, zX3_recall_16, zX3_recall_18, zX3_recall_19, zX3_recall_20, zX3_recall_23, zX3_recall_24, zX3_recall_27, zX3_recall_28, zX3_recall_29, zX3_recall_30, zX3_recall_33, zX3_recall_35, zX3_recall_38, zX3_recall_40, zX3_recall_41, zX3_recall_42, zX3_recall_43, zX3_recall_44, zX3_recall_47, zX3_recall_48, zX3_recall_51, zX3_recall_52, zX3_recall_55, zX3_recall_57, zX3_recall_58, zX3_recall_59, zX3_recall_60, zX3_recall_62, zX3_recall_65, zX3_recall_66, zX3_recall_67, zX3_recall_69, zX3_recall_70, zX3_recall_73, zX3_recall_76, zX3_recall_79, zX3_recall_80, zX3_recall_83, r_isSide, es, r_isPair, q_pr_yes hS hp, w, m1, c, m95, r_eAt (s := 0) (k := i) (a := 0) rfl rfl (by decide) hi, un, hb, ne_0_1, ne_0_2, ne_0_3, ne_1_0, ne_1_2, ne_1_3, ne_2_0, ne_2_1, ne_2_3, ne_3_0, ne_3_1, ne_3_2, not_false_eq_true, not_true_eq_false, e_k_int, e_k_ref, e_k_null, e_k_long, e_k_ret, e_cats_nil, e_cats_int, e_cats_ref, e_cats_ret, e_cats_long, Option.toList_some, Option.toList_none, List.nil_append, List.cons_append, Option.bind_some, Nat.reduceAdd, Nat.reduceLeDiff, Nat.add_zero, if_true, if_false, true_and, and_true, and_self, Int32.reduceToNatClampNeg]
      · have un := r_holdsUnsettled (d := d + 3) (k := j) (a := 1) hC rfl hs hj
        have hb := r_holdsBy (d := d + 2) (k := j) (a := 1) (x := (q_res S i j).1) hS hC rfl hs hj
        have es := p_side_yes hs
        rw [show nI 1 = (1 : Int32) from rfl] at es
        simp only [show nI 1 = (1 : Int32) from rfl, zX3_recall_0, zX3_recall_1, zX3_recall_4, zX3_recall_7, zX3_recall_8, zX3_recall_9, zX3_recall_10, zX3_recall_13, zX3_recall_16, zX3_recall_18, zX3_recall_19, zX3_recall_20, zX3_recall_23, zX3_recall_24, zX3_recall_27, zX3_recall_28, zX3_recall_29, zX3_recall_30, zX3_recall_33, zX3_recall_35, zX3_recall_38, zX3_recall_40, zX3_recall_41, zX3_recall_42, zX3_recall_43, zX3_recall_44, zX3_recall_47, zX3_recall_48, zX3_recall_51, zX3_recall_52, zX3_recall_55, zX3_recall_57, zX3_recall_58, zX3_recall_59, zX3_recall_60, zX3_recall_62, zX3_recall_65, zX3_recall_66, zX3_recall_67, zX3_recall_69, zX3_recall_70, zX3_recall_73, zX3_recall_76, zX3_recall_79, zX3_recall_80, zX3_recall_83, r_isSide, es, r_isPair, q_pr_yes hS hp, w, m1, c, m95, r_eAt (s := 1) (k := j) (a := 1) rfl rfl (by decide) hj, un, hb, Nat.one_ne_zero, ne_0_1, ne_0_2, ne_0_3, ne_1_0, ne_1_2, ne_1_3, ne_2_0, ne_2_1, ne_2_3, ne_3_0, ne_3_1, ne_3_2, not_false_eq_true, not_true_eq_false, e_k_int, e_k_ref, e_k_null, e_k_long, e_k_ret, e_cats_nil, e_cats_int, e_cats_ref, e_cats_ret, e_cats_long, Option.toList_some, Option.toList_none, List.nil_append, List.cons_append, Option.bind_some, Nat.reduceAdd, Nat.reduceLeDiff, Nat.add_zero, if_true, if_false, true_and, and_true, and_self, Int32.reduceToNatClampNeg]
theorem r_recall_no {d : Nat} {S : e_H} {s a b : Int32} (hS : q_ok S) (hp : (¬ ∃ k, k < 2 ∧ s = nI k) ∨ ¬ ∃ i j, q_pr S i j ∧ a = nI i ∧ b = nI j) : e_X e_pg (d + 6) 52 [.ref 0, .int s, .int a, .int b] S = some (some (.int (-2)), S) := by
  rw [xX3_recall]
  rcases hp with hp | hp
  · simp only [zX3_recall_0, zX3_recall_1, zX3_recall_4, zX3_recall_7, zX3_recall_8, zX3_recall_9, zX3_recall_10, zX3_recall_13, zX3_recall_16, zX3_recall_18, zX3_recall_19, zX3_recall_20, zX3_recall_23, zX3_recall_24, zX3_recall_27, zX3_recall_28, zX3_recall_29, zX3_recall_30, zX3_recall_33, zX3_recall_35, zX3_recall_38, zX3_recall_40, r_isSide, p_side_no hp, e_k_int, e_k_ref, e_k_null, e_k_long, e_k_ret, e_cats_nil, e_cats_int, e_cats_ref, e_cats_ret, e_cats_long, Option.toList_some, Option.toList_none, List.nil_append, List.cons_append, Option.bind_some, Nat.reduceAdd, Nat.reduceLeDiff, Nat.add_zero, if_true, if_false, true_and, and_true, and_self, Int32.reduceToNatClampNeg]
  · by_cases c : p_side s = 0
    · simp only [zX3_recall_0, zX3_recall_1, zX3_recall_4, zX3_recall_7, zX3_recall_8, zX3_recall_9, zX3_recall_10, zX3_recall_13, zX3_recall_16, zX3_recall_18, zX3_recall_19, zX3_recall_20, zX3_recall_23, zX3_recall_24, zX3_recall_27, zX3_recall_28, zX3_recall_29, zX3_recall_30, zX3_recall_33, zX3_recall_35, zX3_recall_38, zX3_recall_40, r_isSide, c, e_k_int, e_k_ref, e_k_null, e_k_long, e_k_ret, e_cats_nil, e_cats_int, e_cats_ref, e_cats_ret, e_cats_long, Option.toList_some, Option.toList_none, List.nil_append, List.cons_append, Option.bind_some, Nat.reduceAdd, Nat.reduceLeDiff, Nat.add_zero, if_true, if_false, true_and, and_true, and_self, Int32.reduceToNatClampNeg]
    · simp only [zX3_recall_0, zX3_recall_1, zX3_recall_4, zX3_recall_7, zX3_recall_8, zX3_recall_9, zX3_recall_10, zX3_recall_13, zX3_recall_16, zX3_recall_18, zX3_recall_19, zX3_recall_20, zX3_recall_23, zX3_recall_24, zX3_recall_27, zX3_recall_28, zX3_recall_29, zX3_recall_30, zX3_recall_33, zX3_recall_35, zX3_recall_38, zX3_recall_40, r_isSide, c, r_isPair, q_pr_no hS hp, not_true_eq_false, e_k_int, e_k_ref, e_k_null, e_k_long, e_k_ret, e_cats_nil, e_cats_int, e_cats_ref, e_cats_ret, e_cats_long, Option.toList_some, Option.toList_none, List.nil_append, List.cons_append, Option.bind_some, Nat.reduceAdd, Nat.reduceLeDiff, Nat.add_zero, if_true, if_false, true_and, and_true, and_self, Int32.reduceToNatClampNeg]
def q_mP (S : e_H) (i j x : Nat) : Bool := decide (¬ q_bt S i j x = 0) && (decide (¬ q_byS S 0 i (nI x) ≤ q_has S 0 i j) && decide (¬ q_byS S 1 j (nI x) ≤ q_has S 1 i j))
def q_mf (P : Nat → Bool) (what : Int32) : Nat → Int32 × Option Int32
  | 0 => (0, none)
  | k + 1 => match (q_mf P what k).2 with
    | some _ => q_mf P what k
    | none => if P k = true then (if (q_mf P what k).1 = what then ((q_mf P what k).1, some (nI k)) else ((q_mf P what k).1 + 1, none)) else q_mf P what k
theorem q_mf_none {P : Nat → Bool} {what : Int32} {k : Nat} (h : (q_mf P what k).2 = none) : q_mf P what (k + 1) = if P k = true then (if (q_mf P what k).1 = what then ((q_mf P what k).1, some (nI k)) else ((q_mf P what k).1 + 1, none)) else q_mf P what k := by
  show (match (q_mf P what k).2 with
    | some _ => q_mf P what k
    | none => if P k = true then (if (q_mf P what k).1 = what then ((q_mf P what k).1, some (nI k)) else ((q_mf P what k).1 + 1, none)) else q_mf P what k) = _
  rw [h]
theorem q_mf_some {P : Nat → Bool} {what x : Int32} : ∀ {k m : Nat}, k ≤ m → (q_mf P what k).2 = some x → (q_mf P what m).2 = some x := by
  intro k m hkm h
  induction m with
  | zero =>
    have : k = 0 := by omega
    subst this
    exact h
  | succ m ih =>
    by_cases e : k = m + 1
    · rw [← e]; exact h
    · have q := ih (by omega)
      show (match (q_mf P what m).2 with
        | some _ => q_mf P what m
        | none => if P m = true then (if (q_mf P what m).1 = what then ((q_mf P what m).1, some (nI m)) else ((q_mf P what m).1 + 1, none)) else q_mf P what m).2 = _
      rw [q]
      exact q
def q_mid (S : e_H) (i j : Nat) (what : Int32) : Int32 := if e_gI S 0 7 = 2 then -20 else q_rend what (q_mf (q_mP S i j) what (q_n S + 1))
set_option maxRecDepth 100000 in
theorem r_middle {d i j : Nat} {S : e_H} {what : Int32} (hS : q_ok S) (hp : q_pr S i j) (hw : -1 ≤ what) : ∃ f, e_X e_pg (d + 6) 53 [.ref 0, .int (nI i), .int (nI j), .int what] S = some (some (.int (q_mid S i j what)), f) ∧ q_C S f := by
  obtain ⟨hi, hj⟩ := q_pr5 hS hp
  have hn := hS.n
  have hn2 := hn.2
  obtain ⟨f, m1, m2⟩ := r_meet (d := d) hS (q_C.refl S) (a := nI i) (b := nI j) rfl rfl hi hj
  have hC := (q_C.refl S).met m2
  rw [xX3_middle]
  unfold q_mid
  by_cases w : e_gI S 0 7 = 2
  · refine ⟨S, ?_, q_C.refl S⟩
    rw [if_pos w]
    simp only [zX3_middle_0, zX3_middle_1, zX3_middle_2, zX3_middle_3, zX3_middle_6, zX3_middle_9, zX3_middle_10, zX3_middle_11, zX3_middle_14, zX3_middle_16, zX3_middle_17, zX3_middle_18, zX3_middle_21, zX3_middle_22, zX3_middle_25, zX3_middle_27, r_isPair, q_pr_yes hS hp, w, hw, ne_0_1, ne_0_2, ne_0_3, ne_1_0, ne_1_2, ne_1_3, ne_2_0, ne_2_1, ne_2_3, ne_3_0, ne_3_1, ne_3_2, not_true_eq_false, e_k_int, e_k_ref, e_k_null, e_k_long, e_k_ret, e_cats_nil, e_cats_int, e_cats_ref, e_cats_ret, e_cats_long, Option.toList_some, Option.toList_none, List.nil_append, List.cons_append, Option.bind_some, Nat.reduceAdd, Nat.reduceLeDiff, Nat.add_zero, if_true, if_false, true_and, and_true, and_self, Int32.reduceToNatClampNeg]
  · refine ⟨f, ?_, hC⟩
    rw [if_neg w]
    have h0 := r_holdsNow (d := d) (i := i) (j := j) (k := i) (a := 0) (b := nI i) hS hC rfl rfl (by decide) hi rfl m2.2.1 m2.2.2.1
    have h1 := r_holdsNow (d := d) (i := i) (j := j) (k := j) (a := 1) (b := nI j) hS hC rfl rfl (by decide) hj rfl m2.2.1 m2.2.2.1
    have g6 : e_gI f 0 6 = nI (q_n S) := by rw [hC.at (by simp)]; exact hn.1
    simp only [zX3_middle_0, zX3_middle_1, zX3_middle_2, zX3_middle_3, zX3_middle_6, zX3_middle_9, zX3_middle_10, zX3_middle_11, zX3_middle_14, zX3_middle_16, zX3_middle_17, zX3_middle_18, zX3_middle_21, zX3_middle_22, zX3_middle_25, zX3_middle_27, zX3_middle_28, zX3_middle_29, zX3_middle_30, zX3_middle_31, zX3_middle_34, zX3_middle_35, zX3_middle_36, zX3_middle_37, zX3_middle_38, zX3_middle_41, zX3_middle_43, zX3_middle_44, zX3_middle_45, zX3_middle_46, zX3_middle_49, zX3_middle_51, zX3_middle_52, zX3_middle_54, zX3_middle_55, r_isPair, q_pr_yes hS hp, w, hw, m1, h0, h1, ne_0_1, ne_0_2, ne_0_3, ne_1_0, ne_1_2, ne_1_3, ne_2_0, ne_2_1, ne_2_3, ne_3_0, ne_3_1, ne_3_2, not_false_eq_true, e_k_int, e_k_ref, e_k_null, e_k_long, e_k_ret, e_cats_nil, e_cats_int, e_cats_ref, e_cats_ret, e_cats_long, Option.toList_some, Option.toList_none, List.nil_append, List.cons_append, Option.bind_some, Nat.reduceAdd, Nat.reduceLeDiff, Nat.add_zero, if_true, if_false, true_and, and_true, and_self, Int32.reduceToNatClampNeg]
    refine f_lq (cd := kX3_middle) (O := e_X e_pg (d + 5)) (pc := 57) (fun k ls h => ls = [.ref 0, .int (nI i), .int (nI j), .int what, .long (q_has S 0 i j).toInt64, .null, .long (q_has S 1 i j).toInt64, .null, .int (q_mf (q_mP S i j) what k).1, .int (nI k)] ∧ h = f ∧ (q_mf (q_mP S i j) what k).2 = none) (fun x => x = some (some (.int (q_rend what (q_mf (q_mP S i j) what (q_n S + 1)))), f)) (Nat.zero_le (q_n S + 1)) ?_ ?_ (ls := [.ref 0, .int (nI i), .int (nI j), .int what, .long (q_has S 0 i j).toInt64, .null, .long (q_has S 1 i j).toInt64, .null, .int 0, .int 0]) (h := f) ⟨rfl, rfl, rfl⟩
    · rintro k ls h - hk ⟨rfl, rfl, hN⟩
      have hc : ¬ nI (q_n S) < nI k := nI_nlt (by omega) (by omega)
      have hib : e_inb (nI k) 25 = true := e_inb_nI (by omega) (by decide)
      have hcl : (nI k).toNatClampNeg = k := nI_clamp (by omega)
      have bt := m2.2.2.2.2.1 k (by omega)
      have y0 := r_holdsBy (d := d + 2) (k := i) (a := 0) (s := 0) (x := nI k) hS hC rfl (by decide) hi
      have y1 := r_holdsBy (d := d + 2) (k := j) (a := 1) (s := 1) (x := nI k) hS hC rfl (by decide) hj
      have nx := q_mf_none hN
      have eP : q_mP S i j k = (decide (¬ q_bt S i j k = 0) && (decide (¬ q_byS S 0 i (nI k) ≤ q_has S 0 i j) && decide (¬ q_byS S 1 j (nI k) ≤ q_has S 1 i j))) := rfl
      rw [zX3_middle_57]
      have no : q_mP S i j k = false → q_mf (q_mP S i j) what (k + 1) = q_mf (q_mP S i j) what k := fun z => by rw [nx, z, if_neg (by decide)]
      by_cases c1 : q_bt S i j k = 0
      · have z := no (by rw [eP]; simp [c1])
        right
        simp only [zX3_middle_59, zX3_middle_60, zX3_middle_63, zX3_middle_66, zX3_middle_67, zX3_middle_70, zX3_middle_73, zX3_middle_75, zX3_middle_76, zX3_middle_79, zX3_middle_80, zX3_middle_81, zX3_middle_82, zX3_middle_83, zX3_middle_84, zX3_middle_87, zX3_middle_89, zX3_middle_92, zX3_middle_93, zX3_middle_95, zX3_middle_96, zX3_middle_99, zX3_middle_100, zX3_middle_101, zX3_middle_102, zX3_middle_103, zX3_middle_104, zX3_middle_107, zX3_middle_109, zX3_middle_112, zX3_middle_113, zX3_middle_115, zX3_middle_116, zX3_middle_119, zX3_middle_121, zX3_middle_122, zX3_middle_125, zX3_middle_127, zX3_middle_128, zX3_middle_131, zX3_middle_134, g6, hc, hib, hcl, bt, c1, nI_1, e_k_int, e_k_ref, e_k_null, e_k_long, e_k_ret, e_cats_nil, e_cats_int, e_cats_ref, e_cats_ret, e_cats_long, Option.toList_some, Option.toList_none, List.nil_append, List.cons_append, Option.bind_some, Nat.reduceAdd, Nat.reduceLeDiff, Nat.add_zero, if_true, if_false, true_and, and_true, and_self, Int32.reduceToNatClampNeg, ok_1, ok_2, ok_3, ok_4, ok_5, ok_6, ok_7, ok_8, ok_9, ok_30, ok_31, ok_32, ok_33, ok_34, ok_35, ok_36, ok_37, ok_38, ok_39, ok_40, ok_41, ok_42, ok_43, ok_44, ok_45, ok_46, ok_47, ok_48, ok_49, ok_50, ok_51, ok_52, ln_1, ln_2, ln_4, ln_5, ln_6, ln_7, ln_8, ln_30, ln_31, ln_32, ln_33, ln_34, ln_35, ln_36, ln_37, ln_38, ln_39, ln_41, ln_42, ln_43, ln_44, ln_45, ln_46, ln_47, ln_48, ln_49, ln_50, ln_51, ln_52, ib_0_9, ib_1_9, ib_2_9, ib_3_9, ib_4_9, ib_5_9, ib_6_9, ib_7_9, ib_8_9, ib_0_2, ib_1_2, ib_0_5, ib_1_5, ib_2_5, ib_3_5, ib_4_5, ib_0_25, ib_0_10, ib_5_10, ib_0_90, ib_45_90, ib_0_64]
        exact ⟨_, _, rfl, by rw [z], rfl, by rw [z]; exact hN⟩
      · by_cases c2 : q_byS S 0 i (nI k) ≤ q_has S 0 i j
        · have z := no (by rw [eP]; simp [c2])
          right
          simp only [zX3_middle_59, zX3_middle_60, zX3_middle_63, zX3_middle_66, zX3_middle_67, zX3_middle_70, zX3_middle_73, zX3_middle_75, zX3_middle_76, zX3_middle_79, zX3_middle_80, zX3_middle_81, zX3_middle_82, zX3_middle_83, zX3_middle_84, zX3_middle_87, zX3_middle_89, zX3_middle_92, zX3_middle_93, zX3_middle_95, zX3_middle_96, zX3_middle_99, zX3_middle_100, zX3_middle_101, zX3_middle_102, zX3_middle_103, zX3_middle_104, zX3_middle_107, zX3_middle_109, zX3_middle_112, zX3_middle_113, zX3_middle_115, zX3_middle_116, zX3_middle_119, zX3_middle_121, zX3_middle_122, zX3_middle_125, zX3_middle_127, zX3_middle_128, zX3_middle_131, zX3_middle_134, g6, hc, hib, hcl, bt, c1, r_eAt (s := 0) (k := i) (a := 0) rfl rfl (by decide) hi, y0, lc_le, t64_le, c2, nI_1, e_k_int, e_k_ref, e_k_null, e_k_long, e_k_ret, e_cats_nil, e_cats_int, e_cats_ref, e_cats_ret, e_cats_long, Option.toList_some, Option.toList_none, List.nil_append, List.cons_append, Option.bind_some, Nat.reduceAdd, Nat.reduceLeDiff, Nat.add_zero, if_true, if_false, true_and, and_true, and_self, Int32.reduceToNatClampNeg, ok_1, ok_2, ok_3, ok_4, ok_5, ok_6, ok_7, ok_8, ok_9, ok_30, ok_31, ok_32, ok_33, ok_34, ok_35, ok_36, ok_37, ok_38, ok_39, ok_40, ok_41, ok_42, ok_43, ok_44, ok_45, ok_46, ok_47, ok_48, ok_49, ok_50, ok_51, ok_52, ln_1, ln_2, ln_4, ln_5, ln_6, ln_7, ln_8, ln_30, ln_31, ln_32, ln_33, ln_34, ln_35, ln_36, ln_37, ln_38, ln_39, ln_41, ln_42, ln_43, ln_44, ln_45, ln_46, ln_47, ln_48, ln_49, ln_50, ln_51, ln_52, ib_0_9, ib_1_9, ib_2_9, ib_3_9, ib_4_9, ib_5_9, ib_6_9, ib_7_9, ib_8_9, ib_0_2, ib_1_2, ib_0_5, ib_1_5, ib_2_5, ib_3_5, ib_4_5, ib_0_25, ib_0_10, ib_5_10, ib_0_90, ib_45_90, ib_0_64]
          exact ⟨_, _, rfl, by rw [z], rfl, by rw [z]; exact hN⟩
        · by_cases c3 : q_byS S 1 j (nI k) ≤ q_has S 1 i j
          · have z := no (by rw [eP]; simp [c3])
            right
            simp only [zX3_middle_59, zX3_middle_60, zX3_middle_63, zX3_middle_66, zX3_middle_67, zX3_middle_70, zX3_middle_73, zX3_middle_75, zX3_middle_76, zX3_middle_79, zX3_middle_80, zX3_middle_81, zX3_middle_82, zX3_middle_83, zX3_middle_84, zX3_middle_87, zX3_middle_89, zX3_middle_92, zX3_middle_93, zX3_middle_95, zX3_middle_96, zX3_middle_99, zX3_middle_100, zX3_middle_101, zX3_middle_102, zX3_middle_103, zX3_middle_104, zX3_middle_107, zX3_middle_109, zX3_middle_112, zX3_middle_113, zX3_middle_115, zX3_middle_116, zX3_middle_119, zX3_middle_121, zX3_middle_122, zX3_middle_125, zX3_middle_127, zX3_middle_128, zX3_middle_131, zX3_middle_134, g6, hc, hib, hcl, bt, c1, r_eAt (s := 0) (k := i) (a := 0) rfl rfl (by decide) hi, r_eAt (s := 1) (k := j) (a := 1) rfl rfl (by decide) hj, y0, y1, lc_le, t64_le, c2, c3, nI_1, e_k_int, e_k_ref, e_k_null, e_k_long, e_k_ret, e_cats_nil, e_cats_int, e_cats_ref, e_cats_ret, e_cats_long, Option.toList_some, Option.toList_none, List.nil_append, List.cons_append, Option.bind_some, Nat.reduceAdd, Nat.reduceLeDiff, Nat.add_zero, if_true, if_false, true_and, and_true, and_self, Int32.reduceToNatClampNeg, ok_1, ok_2, ok_3, ok_4, ok_5, ok_6, ok_7, ok_8, ok_9, ok_30, ok_31, ok_32, ok_33, ok_34, ok_35, ok_36, ok_37, ok_38, ok_39, ok_40, ok_41, ok_42, ok_43, ok_44, ok_45, ok_46, ok_47, ok_48, ok_49, ok_50, ok_51, ok_52, ln_1, ln_2, ln_4, ln_5, ln_6, ln_7, ln_8, ln_30, ln_31, ln_32, ln_33, ln_34, ln_35, ln_36, ln_37, ln_38, ln_39, ln_41, ln_42, ln_43, ln_44, ln_45, ln_46, ln_47, ln_48, ln_49, ln_50, ln_51, ln_52, ib_0_9, ib_1_9, ib_2_9, ib_3_9, ib_4_9, ib_5_9, ib_6_9, ib_7_9, ib_8_9, ib_0_2, ib_1_2, ib_0_5, ib_1_5, ib_2_5, ib_3_5, ib_4_5, ib_0_25, ib_0_10, ib_5_10, ib_0_90, ib_45_90, ib_0_64]
            exact ⟨_, _, rfl, by rw [z], rfl, by rw [z]; exact hN⟩
          · have yes : q_mP S i j k = true := by rw [eP]; simp only [c1, c2, c3, not_false_eq_true, decide_true, Bool.and_self]
            rw [yes, if_pos rfl] at nx
            by_cases cw : (q_mf (q_mP S i j) what k).1 = what
            · rw [if_pos cw] at nx
              left
              have q : q_rend what (q_mf (q_mP S i j) what (q_n S + 1)) = nI k := q_rend_some (q_mf_some (k := k + 1) (by omega) (by rw [nx]))
              rw [q]
              simp only [zX3_middle_59, zX3_middle_60, zX3_middle_63, zX3_middle_66, zX3_middle_67, zX3_middle_70, zX3_middle_73, zX3_middle_75, zX3_middle_76, zX3_middle_79, zX3_middle_80, zX3_middle_81, zX3_middle_82, zX3_middle_83, zX3_middle_84, zX3_middle_87, zX3_middle_89, zX3_middle_92, zX3_middle_93, zX3_middle_95, zX3_middle_96, zX3_middle_99, zX3_middle_100, zX3_middle_101, zX3_middle_102, zX3_middle_103, zX3_middle_104, zX3_middle_107, zX3_middle_109, zX3_middle_112, zX3_middle_113, zX3_middle_115, zX3_middle_116, zX3_middle_119, zX3_middle_121, zX3_middle_122, zX3_middle_125, zX3_middle_127, zX3_middle_128, zX3_middle_131, zX3_middle_134, g6, hc, hib, hcl, bt, c1, r_eAt (s := 0) (k := i) (a := 0) rfl rfl (by decide) hi, r_eAt (s := 1) (k := j) (a := 1) rfl rfl (by decide) hj, y0, y1, lc_le, t64_le, c2, c3, cw, not_true_eq_false, nI_1, e_k_int, e_k_ref, e_k_null, e_k_long, e_k_ret, e_cats_nil, e_cats_int, e_cats_ref, e_cats_ret, e_cats_long, Option.toList_some, Option.toList_none, List.nil_append, List.cons_append, Option.bind_some, Nat.reduceAdd, Nat.reduceLeDiff, Nat.add_zero, if_true, if_false, true_and, and_true, and_self, Int32.reduceToNatClampNeg, ok_1, ok_2, ok_3, ok_4, ok_5, ok_6, ok_7, ok_8, ok_9, ok_30, ok_31, ok_32, ok_33, ok_34, ok_35, ok_36, ok_37, ok_38, ok_39, ok_40, ok_41, ok_42, ok_43, ok_44, ok_45, ok_46, ok_47, ok_48, ok_49, ok_50, ok_51, ok_52, ln_1, ln_2, ln_4, ln_5, ln_6, ln_7, ln_8, ln_30, ln_31, ln_32, ln_33, ln_34, ln_35, ln_36, ln_37, ln_38, ln_39, ln_41, ln_42, ln_43, ln_44, ln_45, ln_46, ln_47, ln_48, ln_49, ln_50, ln_51, ln_52, ib_0_9, ib_1_9, ib_2_9, ib_3_9, ib_4_9, ib_5_9, ib_6_9, ib_7_9, ib_8_9, ib_0_2, ib_1_2, ib_0_5, ib_1_5, ib_2_5, ib_3_5, ib_4_5, ib_0_25, ib_0_10, ib_5_10, ib_0_90, ib_45_90, ib_0_64]
            · rw [if_neg cw] at nx
              right
              simp only [zX3_middle_59, zX3_middle_60, zX3_middle_63, zX3_middle_66, zX3_middle_67, zX3_middle_70, zX3_middle_73, zX3_middle_75, zX3_middle_76, zX3_middle_79, zX3_middle_80, zX3_middle_81, zX3_middle_82, zX3_middle_83, zX3_middle_84, zX3_middle_87, zX3_middle_89, zX3_middle_92, zX3_middle_93, zX3_middle_95, zX3_middle_96, zX3_middle_99, zX3_middle_100, zX3_middle_101, zX3_middle_102, zX3_middle_103, zX3_middle_104, zX3_middle_107, zX3_middle_109, zX3_middle_112, zX3_middle_113, zX3_middle_115, zX3_middle_116, zX3_middle_119, zX3_middle_121, zX3_middle_122, zX3_middle_125, zX3_middle_127, zX3_middle_128, zX3_middle_131, zX3_middle_134, g6, hc, hib, hcl, bt, c1, r_eAt (s := 0) (k := i) (a := 0) rfl rfl (by decide) hi, r_eAt (s := 1) (k := j) (a := 1) rfl rfl (by decide) hj, y0, y1, lc_le, t64_le, c2, c3, cw, not_false_eq_true, nI_1, e_k_int, e_k_ref, e_k_null, e_k_long, e_k_ret, e_cats_nil, e_cats_int, e_cats_ref, e_cats_ret, e_cats_long, Option.toList_some, Option.toList_none, List.nil_append, List.cons_append, Option.bind_some, Nat.reduceAdd, Nat.reduceLeDiff, Nat.add_zero, if_true, if_false, true_and, and_true, and_self, Int32.reduceToNatClampNeg, ok_1, ok_2, ok_3, ok_4, ok_5, ok_6, ok_7, ok_8, ok_9, ok_30, ok_31, ok_32, ok_33, ok_34, ok_35, ok_36, ok_37, ok_38, ok_39, ok_40, ok_41, ok_42, ok_43, ok_44, ok_45, ok_46, ok_47, ok_48, ok_49, ok_50, ok_51, ok_52, ln_1, ln_2, ln_4, ln_5, ln_6, ln_7, ln_8, ln_30, ln_31, ln_32, ln_33, ln_34, ln_35, ln_36, ln_37, ln_38, ln_39, ln_41, ln_42, ln_43, ln_44, ln_45, ln_46, ln_47, ln_48, ln_49, ln_50, ln_51, ln_52, ib_0_9, ib_1_9, ib_2_9, ib_3_9, ib_4_9, ib_5_9, ib_6_9, ib_7_9, ib_8_9, ib_0_2, ib_1_2, ib_0_5, ib_1_5, ib_2_5, ib_3_5, ib_4_5, ib_0_25, ib_0_10, ib_5_10, ib_0_90, ib_45_90, ib_0_64]
              exact ⟨_, _, rfl, by rw [nx], rfl, by rw [nx]⟩
    · rintro ls h ⟨rfl, rfl, hN⟩
      have hc : nI (q_n S) < nI (q_n S + 1) := nI_lt (by omega) (by omega)
      have q : q_rend what (q_mf (q_mP S i j) what (q_n S + 1)) = if what = -1 then (q_mf (q_mP S i j) what (q_n S + 1)).1 else -5 := by
        unfold q_rend
        rw [hN]
      rw [q, zX3_middle_57]
      by_cases cw : what = -1
      · simp only [zX3_middle_59, zX3_middle_60, zX3_middle_63, zX3_middle_137, zX3_middle_138, zX3_middle_139, zX3_middle_142, zX3_middle_144, zX3_middle_147, zX3_middle_149, g6, hc, cw, not_true_eq_false, e_k_int, e_k_ref, e_k_null, e_k_long, e_k_ret, e_cats_nil, e_cats_int, e_cats_ref, e_cats_ret, e_cats_long, Option.toList_some, Option.toList_none, List.nil_append, List.cons_append, Option.bind_some, Nat.reduceAdd, Nat.reduceLeDiff, Nat.add_zero, if_true, if_false, true_and, and_true, and_self, Int32.reduceToNatClampNeg, ok_1, ok_2, ok_3, ok_4, ok_5, ok_6, ok_7, ok_8, ok_9, ok_30, ok_31, ok_32, ok_33, ok_34, ok_35, ok_36, ok_37, ok_38, ok_39, ok_40, ok_41, ok_42, ok_43, ok_44, ok_45, ok_46, ok_47, ok_48, ok_49, ok_50, ok_51, ok_52, ln_1, ln_2, ln_4, ln_5, ln_6, ln_7, ln_8, ln_30, ln_31, ln_32, ln_33, ln_34, ln_35, ln_36, ln_37, ln_38, ln_39, ln_41, ln_42, ln_43, ln_44, ln_45, ln_46, ln_47, ln_48, ln_49, ln_50, ln_51, ln_52, ib_0_9, ib_1_9, ib_2_9, ib_3_9, ib_4_9, ib_5_9, ib_6_9, ib_7_9, ib_8_9, ib_0_2, ib_1_2, ib_0_5, ib_1_5, ib_2_5, ib_3_5, ib_4_5, ib_0_25, ib_0_10, ib_5_10, ib_0_90, ib_45_90, ib_0_64]
      · simp only [zX3_middle_59, zX3_middle_60, zX3_middle_63, zX3_middle_137, zX3_middle_138, zX3_middle_139, zX3_middle_142, zX3_middle_144, zX3_middle_147, zX3_middle_149, g6, hc, cw, not_false_eq_true, e_k_int, e_k_ref, e_k_null, e_k_long, e_k_ret, e_cats_nil, e_cats_int, e_cats_ref, e_cats_ret, e_cats_long, Option.toList_some, Option.toList_none, List.nil_append, List.cons_append, Option.bind_some, Nat.reduceAdd, Nat.reduceLeDiff, Nat.add_zero, if_true, if_false, true_and, and_true, and_self, Int32.reduceToNatClampNeg, ok_1, ok_2, ok_3, ok_4, ok_5, ok_6, ok_7, ok_8, ok_9, ok_30, ok_31, ok_32, ok_33, ok_34, ok_35, ok_36, ok_37, ok_38, ok_39, ok_40, ok_41, ok_42, ok_43, ok_44, ok_45, ok_46, ok_47, ok_48, ok_49, ok_50, ok_51, ok_52, ln_1, ln_2, ln_4, ln_5, ln_6, ln_7, ln_8, ln_30, ln_31, ln_32, ln_33, ln_34, ln_35, ln_36, ln_37, ln_38, ln_39, ln_41, ln_42, ln_43, ln_44, ln_45, ln_46, ln_47, ln_48, ln_49, ln_50, ln_51, ln_52, ib_0_9, ib_1_9, ib_2_9, ib_3_9, ib_4_9, ib_5_9, ib_6_9, ib_7_9, ib_8_9, ib_0_2, ib_1_2, ib_0_5, ib_1_5, ib_2_5, ib_3_5, ib_4_5, ib_0_25, ib_0_10, ib_5_10, ib_0_90, ib_45_90, ib_0_64]
theorem r_middle_no {d : Nat} {S : e_H} {a b what : Int32} (hS : q_ok S) (hp : (¬ ∃ i j, q_pr S i j ∧ a = nI i ∧ b = nI j) ∨ ¬ -1 ≤ what) : e_X e_pg (d + 6) 53 [.ref 0, .int a, .int b, .int what] S = some (some (.int (-10)), S) := by
  rw [xX3_middle]
  by_cases c : (if p_isE (e_gI S 1) 0 a = 0 then (0 : Int32) else p_isE (e_gI S 1) 1 b) = 0
  · simp only [zX3_middle_0, zX3_middle_1, zX3_middle_2, zX3_middle_3, zX3_middle_6, zX3_middle_9, zX3_middle_10, zX3_middle_11, zX3_middle_14, zX3_middle_16, zX3_middle_17, zX3_middle_18, zX3_middle_21, zX3_middle_22, zX3_middle_25, zX3_middle_27, r_isPair, c, e_k_int, e_k_ref, e_k_null, e_k_long, e_k_ret, e_cats_nil, e_cats_int, e_cats_ref, e_cats_ret, e_cats_long, Option.toList_some, Option.toList_none, List.nil_append, List.cons_append, Option.bind_some, Nat.reduceAdd, Nat.reduceLeDiff, Nat.add_zero, if_true, if_false, true_and, and_true, and_self, Int32.reduceToNatClampNeg]
  · have c2 : ¬ -1 ≤ what := by
      rcases hp with z | z
      · exact absurd (q_pr_no hS z) c
      · exact z
    simp only [zX3_middle_0, zX3_middle_1, zX3_middle_2, zX3_middle_3, zX3_middle_6, zX3_middle_9, zX3_middle_10, zX3_middle_11, zX3_middle_14, zX3_middle_16, zX3_middle_17, zX3_middle_18, zX3_middle_21, zX3_middle_22, zX3_middle_25, zX3_middle_27, r_isPair, c, c2, e_k_int, e_k_ref, e_k_null, e_k_long, e_k_ret, e_cats_nil, e_cats_int, e_cats_ref, e_cats_ret, e_cats_long, Option.toList_some, Option.toList_none, List.nil_append, List.cons_append, Option.bind_some, Nat.reduceAdd, Nat.reduceLeDiff, Nat.add_zero, if_true, if_false, true_and, and_true, and_self, Int32.reduceToNatClampNeg]
/-! a state with one number changed -/
theorem e_pI_o {S : e_H} {a w o : Nat} {v : Int32} (h : o ≠ a) : e_gI (e_pI S a w v) o = e_gI S o := funext fun k => by rw [e_gI_pI, if_neg (fun q => h q.1)]
theorem q_ok_cg {A B : e_H} (h : ∀ o, o < 20 → o ≠ 2 → o ≠ 7 → o ≠ 8 → o ≠ 9 → e_gI B o = e_gI A o) (hN : ∀ s k, s < 2 → k < 5 → e_Rg (q_N B s k)) (hA : q_ok A) : q_ok B := by
  have h0 := h 0 (by decide) (by decide) (by decide) (by decide) (by decide)
  have h1 := h 1 (by decide) (by decide) (by decide) (by decide) (by decide)
  have h3 := h 3 (by decide) (by decide) (by decide) (by decide) (by decide)
  have h4 := h 4 (by decide) (by decide) (by decide) (by decide) (by decide)
  have h5 := h 5 (by decide) (by decide) (by decide) (by decide) (by decide)
  have h6 := h 6 (by decide) (by decide) (by decide) (by decide) (by decide)
  obtain ⟨a1, a2, a3, a4, a5, a6, a7, a8, a9⟩ := hA
  refine ⟨?_, ?_, ?_, ?_, ?_, fun s hs => ?_, hN, fun s k hs hk => ?_, ?_⟩
  · unfold q_n; rw [h0]; exact a1
  · unfold q_way; rw [h0]; exact a2
  · unfold q_R; rw [h0]; exact a3
  · unfold q_a q_b; rw [h0]; exact a4
  · unfold q_b; rw [h0]; exact a5
  · unfold q_c; rw [h1]; exact a6 s hs
  · have := q_x_lt hs hk
    unfold q_W
    rw [h _ (by omega) (by omega) (by omega) (by omega) (by omega)]
    exact a8 s k hs hk
  · unfold q_rule q_L q_Z
    rw [h3, h4, h5, h6]
    exact a9
theorem q_x_inj {s k t m : Nat} (hk : k < 5) (hm : m < 5) : q_x s k = q_x t m ↔ s = t ∧ k = m := by unfold q_x; omega
theorem q_ok.putN {S : e_H} (h : q_ok S) {s k w : Nat} (hs : s < 2) (hk : k < 5) {v : Int32} (hv : e_rgl w ≤ v.toInt ∧ v.toInt ≤ e_rgh w) : q_ok (e_pI S (q_x s k + 20) w v) := by
  refine q_ok_cg (A := S) (fun o h1 h2 h3 h4 h5 => e_pI_o (by omega)) (fun t m ht hm x hx => ?_) h
  unfold q_N
  rw [e_gI_pI]
  split
  · rename_i c
    rw [c.2]
    exact hv
  · exact h.N ht hm x hx
theorem q_C.back {S h : e_H} {a w : Nat} {v : Int32} (hC : q_C (e_pI S a w v) h) : q_C S (e_pI h a w (e_gI S a w)) := by
  refine ⟨fun o k ho => ?_, fun o k ho => ?_⟩
  · rw [e_gI_pI]
    split
    · rename_i c
      rw [c.1, c.2]
    · rename_i c
      rw [hC.1 o k ho, e_gI_pI, if_neg c]
  · rw [e_gJ_pI, hC.2 o k ho, e_gJ_pI]
theorem q_C.put {S h : e_H} {a w : Nat} {v u : Int32} (hC : q_C (e_pI S a w v) h) : q_C (e_pI S a w u) (e_pI h a w u) := by
  refine ⟨fun o k ho => ?_, fun o k ho => ?_⟩
  · rw [e_gI_pI, e_gI_pI]
    split
    · rfl
    · rename_i c
      rw [hC.1 o k ho, e_gI_pI, if_neg c]
  · rw [e_gJ_pI, e_gJ_pI, hC.2 o k ho, e_gJ_pI]
theorem q_C.put0 {S h : e_H} {a w : Nat} {u : Int32} (hC : q_C S h) : q_C (e_pI S a w u) (e_pI h a w u) := by
  refine ⟨fun o k ho => ?_, fun o k ho => ?_⟩
  · rw [e_gI_pI, e_gI_pI]
    split
    · rfl
    · exact hC.1 o k ho
  · rw [e_gJ_pI, e_gJ_pI, hC.2 o k ho]
