/-! what is settled, by products and by offers: folds over the shares -/
def s_pst (G0 G1 B : Nat → Int32) (k : Nat) (a : Int32 × Int64) : Int32 × Int64 := if B k = 0 then a else if a.1 = -5 then (nI k, (G0 k).toInt64 * (G1 k).toInt64) else if (G0 k).toInt64 * (G1 k).toInt64 ≤ a.2 then a else (nI k, (G0 k).toInt64 * (G1 k).toInt64)
def s_prod (G0 G1 B : Nat → Int32) : Nat → Int32 × Int64
  | 0 => (-5, 0)
  | k + 1 => s_pst G0 G1 B k (s_prod G0 G1 B k)
set_option maxRecDepth 100000 in
theorem r_mult_loop {d n : Nat} (hn : n ≤ 24) {g : e_H} (hg : e_gI g 9 2 = nI n) : ∀ (m k : Nat) (a5 a6 : Value), k + m = n + 1 → e_F kX1_multiplyGains (e_X e_pg (d + 1)) 8 [.ref 9, .int (s_prod (e_gI g 32) (e_gI g 33) (e_gI g 30) k).1, .long (s_prod (e_gI g 32) (e_gI g 33) (e_gI g 30) k).2, .null, .int (nI k), a5, a6] [] g = some (none, e_pI (e_pI (e_pI g 9 5 (s_prod (e_gI g 32) (e_gI g 33) (e_gI g 30) (n + 1)).1) 9 6 (s_prod (e_gI g 32) (e_gI g 33) (e_gI g 30) (n + 1)).1) 9 7 (-1)) := by
  intro m
  induction m with
  | zero =>
    intro k a5 a6 hk
    have hk : k = n + 1 := by omega
    subst hk
    have hc : nI n < nI (n + 1) := nI_lt (by omega) (by omega)
    rw [zX1_multiplyGains_8]
    simp only [zX1_multiplyGains_10, zX1_multiplyGains_11, zX1_multiplyGains_14, zX1_multiplyGains_17, zX1_multiplyGains_18, zX1_multiplyGains_21, zX1_multiplyGains_22, zX1_multiplyGains_23, zX1_multiplyGains_25, zX1_multiplyGains_26, zX1_multiplyGains_27, zX1_multiplyGains_28, zX1_multiplyGains_31, zX1_multiplyGains_32, zX1_multiplyGains_33, zX1_multiplyGains_35, zX1_multiplyGains_36, zX1_multiplyGains_37, zX1_multiplyGains_38, zX1_multiplyGains_40, zX1_multiplyGains_41, zX1_multiplyGains_44, zX1_multiplyGains_46, zX1_multiplyGains_47, zX1_multiplyGains_50, zX1_multiplyGains_51, zX1_multiplyGains_53, zX1_multiplyGains_56, zX1_multiplyGains_58, zX1_multiplyGains_59, zX1_multiplyGains_60, zX1_multiplyGains_63, zX1_multiplyGains_65, zX1_multiplyGains_66, zX1_multiplyGains_68, zX1_multiplyGains_69, zX1_multiplyGains_72, zX1_multiplyGains_75, zX1_multiplyGains_76, zX1_multiplyGains_77, zX1_multiplyGains_78, zX1_multiplyGains_79, zX1_multiplyGains_82, hg, hc, r_agree, e_k_int, e_k_ref, e_k_null, e_k_long, e_k_ret, e_cats_nil, e_cats_int, e_cats_ref, e_cats_ret, e_cats_long, Option.toList_some, Option.toList_none, List.nil_append, List.cons_append, Option.bind_some, Nat.reduceAdd, Nat.reduceLeDiff, Nat.add_zero, if_true, if_false, true_and, and_true, and_self, Int32.reduceToNatClampNeg]
  | succ m ih =>
    intro k a5 a6 hk
    have hc : ¬ nI n < nI k := nI_nlt (by omega) (by omega)
    have hb : e_inb (nI k) 25 = true := e_inb_nI (by omega) (by decide)
    have hcl : (nI k).toNatClampNeg = k := nI_clamp (by omega)
    have q := fun a5 a6 => ih (k + 1) a5 a6 (by omega)
    simp only [s_prod, s_pst] at q
    rw [zX1_multiplyGains_8]
    simp only [zX1_multiplyGains_10, zX1_multiplyGains_11, zX1_multiplyGains_14, zX1_multiplyGains_17, zX1_multiplyGains_18, zX1_multiplyGains_21, zX1_multiplyGains_22, zX1_multiplyGains_23, zX1_multiplyGains_25, zX1_multiplyGains_26, zX1_multiplyGains_27, zX1_multiplyGains_28, zX1_multiplyGains_31, zX1_multiplyGains_32, zX1_multiplyGains_33, zX1_multiplyGains_35, zX1_multiplyGains_36, zX1_multiplyGains_37, zX1_multiplyGains_38, zX1_multiplyGains_40, zX1_multiplyGains_41, zX1_multiplyGains_44, zX1_multiplyGains_46, zX1_multiplyGains_47, zX1_multiplyGains_50, zX1_multiplyGains_51, zX1_multiplyGains_53, zX1_multiplyGains_56, zX1_multiplyGains_58, zX1_multiplyGains_59, zX1_multiplyGains_60, zX1_multiplyGains_63, zX1_multiplyGains_65, zX1_multiplyGains_66, zX1_multiplyGains_68, zX1_multiplyGains_69, zX1_multiplyGains_72, zX1_multiplyGains_75, zX1_multiplyGains_76, zX1_multiplyGains_77, zX1_multiplyGains_78, zX1_multiplyGains_79, zX1_multiplyGains_82, hg, hc, hb, hcl, lc_le, nI_1, e_k_int, e_k_ref, e_k_null, e_k_long, e_k_ret, e_cats_nil, e_cats_int, e_cats_ref, e_cats_ret, e_cats_long, Option.toList_some, Option.toList_none, List.nil_append, List.cons_append, Option.bind_some, Nat.reduceAdd, Nat.reduceLeDiff, Nat.add_zero, if_true, if_false, true_and, and_true, and_self, Int32.reduceToNatClampNeg, ok_1, ok_2, ok_3, ok_4, ok_5, ok_6, ok_7, ok_8, ok_9, ok_30, ok_31, ok_32, ok_33, ok_34, ok_35, ok_36, ok_37, ok_38, ok_39, ok_40, ok_41, ok_42, ok_43, ok_44, ok_45, ok_46, ok_47, ok_48, ok_49, ok_50, ok_51, ok_52, ln_1, ln_2, ln_4, ln_5, ln_6, ln_7, ln_8, ln_30, ln_31, ln_32, ln_33, ln_34, ln_35, ln_36, ln_37, ln_38, ln_39, ln_41, ln_42, ln_43, ln_44, ln_45, ln_46, ln_47, ln_48, ln_49, ln_50, ln_51, ln_52, ib_0_9, ib_1_9, ib_2_9, ib_3_9, ib_4_9, ib_5_9, ib_6_9, ib_7_9, ib_8_9, ib_0_2, ib_1_2, ib_0_5, ib_1_5, ib_2_5, ib_3_5, ib_4_5, ib_0_25, ib_0_10, ib_5_10, ib_0_90, ib_45_90, ib_0_64]
    by_cases c1 : e_gI g 30 k = 0
    · simp only [c1, if_true] at q ⊢
      exact q _ _
    · by_cases c2 : (s_prod (e_gI g 32) (e_gI g 33) (e_gI g 30) k).1 = -5
      · simp only [c1, c2, if_true, if_false] at q ⊢
        exact q _ _
      · by_cases c3 : (e_gI g 32 k).toInt64 * (e_gI g 33 k).toInt64 ≤ (s_prod (e_gI g 32) (e_gI g 33) (e_gI g 30) k).2
        · simp only [c1, c2, c3, if_true, if_false] at q ⊢
          exact q _ _
        · simp only [c1, c2, c3, if_false] at q ⊢
          exact q _ _
theorem r_multiplyGains {d n : Nat} (hn : n ≤ 24) {g : e_H} (hg : e_gI g 9 2 = nI n) : e_X e_pg (d + 2) 8 [.ref 9] g = some (none, e_pI (e_pI (e_pI g 9 5 (s_prod (e_gI g 32) (e_gI g 33) (e_gI g 30) (n + 1)).1) 9 6 (s_prod (e_gI g 32) (e_gI g 33) (e_gI g 30) (n + 1)).1) 9 7 (-1)) := by
  rw [xX1_multiplyGains]
  simp only [zX1_multiplyGains_0, zX1_multiplyGains_2, zX1_multiplyGains_3, zX1_multiplyGains_4, zX1_multiplyGains_5, zX1_multiplyGains_6, e_k_int, e_k_ref, e_k_null, e_k_long, e_k_ret, e_cats_nil, e_cats_int, e_cats_ref, e_cats_ret, e_cats_long, Option.toList_some, Option.toList_none, List.nil_append, List.cons_append, Option.bind_some, Nat.reduceAdd, Nat.reduceLeDiff, Nat.add_zero, if_true, if_false, true_and, and_true, and_self, Int32.reduceToNatClampNeg]
  exact r_mult_loop hn hg (n + 1) 0 _ _ (by omega)
/-! the best for one side, that leaves the other enough -/
def s_bst (own oth B : Nat → Int32) (least : Int32) (k : Nat) (a : Int32) : Int32 := if B k = 0 then a else if oth k < least then a else if a = -5 then nI k else if own k ≤ own a.toNatClampNeg then a else nI k
def s_best (own oth B : Nat → Int32) (least : Int32) : Nat → Int32
  | 0 => -5
  | k + 1 => s_bst own oth B least k (s_best own oth B least k)
theorem s_best_in (own oth B : Nat → Int32) (least : Int32) : ∀ k, s_best own oth B least k = -5 ∨ ∃ j, j < k ∧ s_best own oth B least k = nI j := by
  intro k
  induction k with
  | zero => exact Or.inl rfl
  | succ k ih =>
    have step : s_best own oth B least (k + 1) = s_best own oth B least k ∨ s_best own oth B least (k + 1) = nI k := by
      show s_bst own oth B least k (s_best own oth B least k) = _ ∨ s_bst own oth B least k (s_best own oth B least k) = _
      unfold s_bst
      repeat' split
      all_goals simp
    rcases step with h | h
    · rw [h]
      rcases ih with h2 | ⟨j, h2, h3⟩
      · exact Or.inl h2
      · exact Or.inr ⟨j, by omega, h3⟩
    · exact Or.inr ⟨k, by omega, h⟩
set_option maxRecDepth 100000 in
theorem r_most_loop {d n a b : Nat} {w : Int32} {side : Int32} (hn : n ≤ 24) {g : e_H} (hg : e_gI g 9 2 = nI n) (ha : a = 32 ∨ a = 33) (hb : b = 32 ∨ b = 33) : ∀ (m k : Nat), k + m = n + 1 → e_F kX1_mostFor (e_X e_pg d) 24 [.ref 9, .int side, .int w, .ref a, .ref b, .int (s_best (e_gI g a) (e_gI g b) (e_gI g 30) w k), .int (nI k)] [] g = some (some (.int (s_best (e_gI g a) (e_gI g b) (e_gI g 30) w (n + 1))), g) := by
  have ka : e_ok a 0 = true ∧ e_len a = 25 := by rcases ha with rfl | rfl <;> exact ⟨rfl, rfl⟩
  have kb : e_ok b 0 = true ∧ e_len b = 25 := by rcases hb with rfl | rfl <;> exact ⟨rfl, rfl⟩
  intro m
  induction m with
  | zero =>
    intro k hk
    have hk : k = n + 1 := by omega
    subst hk
    have hc : nI n < nI (n + 1) := nI_lt (by omega) (by omega)
    rw [zX1_mostFor_24]
    simp only [zX1_mostFor_26, zX1_mostFor_27, zX1_mostFor_30, zX1_mostFor_33, zX1_mostFor_34, zX1_mostFor_37, zX1_mostFor_39, zX1_mostFor_40, zX1_mostFor_43, zX1_mostFor_45, zX1_mostFor_47, zX1_mostFor_48, zX1_mostFor_49, zX1_mostFor_52, zX1_mostFor_54, zX1_mostFor_56, zX1_mostFor_59, zX1_mostFor_60, zX1_mostFor_62, zX1_mostFor_63, zX1_mostFor_64, zX1_mostFor_66, zX1_mostFor_67, zX1_mostFor_70, zX1_mostFor_72, zX1_mostFor_74, zX1_mostFor_77, zX1_mostFor_80, zX1_mostFor_82, hg, hc, e_k_int, e_k_ref, e_k_null, e_k_long, e_k_ret, e_cats_nil, e_cats_int, e_cats_ref, e_cats_ret, e_cats_long, Option.toList_some, Option.toList_none, List.nil_append, List.cons_append, Option.bind_some, Nat.reduceAdd, Nat.reduceLeDiff, Nat.add_zero, if_true, if_false, true_and, and_true, and_self, Int32.reduceToNatClampNeg]
  | succ m ih =>
    intro k hk
    have hc : ¬ nI n < nI k := nI_nlt (by omega) (by omega)
    have hb : e_inb (nI k) 25 = true := e_inb_nI (by omega) (by decide)
    have hcl : (nI k).toNatClampNeg = k := nI_clamp (by omega)
    have q := ih (k + 1) (by omega)
    simp only [s_best, s_bst] at q
    have hbs : s_best (e_gI g a) (e_gI g b) (e_gI g 30) w k ≠ -5 → e_inb (s_best (e_gI g a) (e_gI g b) (e_gI g 30) w k) 25 = true := by
      intro hne
      rcases s_best_in (e_gI g a) (e_gI g b) (e_gI g 30) w k with h | ⟨j, h1, h2⟩
      · exact absurd h hne
      · rw [h2]; exact e_inb_nI (by omega) (by decide)
    rw [zX1_mostFor_24]
    by_cases c1 : e_gI g 30 k = 0
    · simp only [c1, if_true] at q
      simp only [zX1_mostFor_26, zX1_mostFor_27, zX1_mostFor_30, zX1_mostFor_33, zX1_mostFor_34, zX1_mostFor_37, zX1_mostFor_39, zX1_mostFor_40, zX1_mostFor_43, zX1_mostFor_45, zX1_mostFor_47, zX1_mostFor_48, zX1_mostFor_49, zX1_mostFor_52, zX1_mostFor_54, zX1_mostFor_56, zX1_mostFor_59, zX1_mostFor_60, zX1_mostFor_62, zX1_mostFor_63, zX1_mostFor_64, zX1_mostFor_66, zX1_mostFor_67, zX1_mostFor_70, zX1_mostFor_72, zX1_mostFor_74, zX1_mostFor_77, zX1_mostFor_80, zX1_mostFor_82, hg, hc, hb, hcl, nI_1, c1, e_k_int, e_k_ref, e_k_null, e_k_long, e_k_ret, e_cats_nil, e_cats_int, e_cats_ref, e_cats_ret, e_cats_long, Option.toList_some, Option.toList_none, List.nil_append, List.cons_append, Option.bind_some, Nat.reduceAdd, Nat.reduceLeDiff, Nat.add_zero, if_true, if_false, true_and, and_true, and_self, Int32.reduceToNatClampNeg, ok_1, ok_2, ok_3, ok_4, ok_5, ok_6, ok_7, ok_8, ok_9, ok_30, ok_31, ok_32, ok_33, ok_34, ok_35, ok_36, ok_37, ok_38, ok_39, ok_40, ok_41, ok_42, ok_43, ok_44, ok_45, ok_46, ok_47, ok_48, ok_49, ok_50, ok_51, ok_52, ln_1, ln_2, ln_4, ln_5, ln_6, ln_7, ln_8, ln_30, ln_31, ln_32, ln_33, ln_34, ln_35, ln_36, ln_37, ln_38, ln_39, ln_41, ln_42, ln_43, ln_44, ln_45, ln_46, ln_47, ln_48, ln_49, ln_50, ln_51, ln_52]
      exact q
    · by_cases c2 : e_gI g b k < w
      · simp only [c1, c2, if_true, if_false] at q
        simp only [zX1_mostFor_26, zX1_mostFor_27, zX1_mostFor_30, zX1_mostFor_33, zX1_mostFor_34, zX1_mostFor_37, zX1_mostFor_39, zX1_mostFor_40, zX1_mostFor_43, zX1_mostFor_45, zX1_mostFor_47, zX1_mostFor_48, zX1_mostFor_49, zX1_mostFor_52, zX1_mostFor_54, zX1_mostFor_56, zX1_mostFor_59, zX1_mostFor_60, zX1_mostFor_62, zX1_mostFor_63, zX1_mostFor_64, zX1_mostFor_66, zX1_mostFor_67, zX1_mostFor_70, zX1_mostFor_72, zX1_mostFor_74, zX1_mostFor_77, zX1_mostFor_80, zX1_mostFor_82, hg, hc, hb, hcl, nI_1, c1, c2, kb.1, kb.2, e_k_int, e_k_ref, e_k_null, e_k_long, e_k_ret, e_cats_nil, e_cats_int, e_cats_ref, e_cats_ret, e_cats_long, Option.toList_some, Option.toList_none, List.nil_append, List.cons_append, Option.bind_some, Nat.reduceAdd, Nat.reduceLeDiff, Nat.add_zero, if_true, if_false, true_and, and_true, and_self, Int32.reduceToNatClampNeg, ok_1, ok_2, ok_3, ok_4, ok_5, ok_6, ok_7, ok_8, ok_9, ok_30, ok_31, ok_32, ok_33, ok_34, ok_35, ok_36, ok_37, ok_38, ok_39, ok_40, ok_41, ok_42, ok_43, ok_44, ok_45, ok_46, ok_47, ok_48, ok_49, ok_50, ok_51, ok_52, ln_1, ln_2, ln_4, ln_5, ln_6, ln_7, ln_8, ln_30, ln_31, ln_32, ln_33, ln_34, ln_35, ln_36, ln_37, ln_38, ln_39, ln_41, ln_42, ln_43, ln_44, ln_45, ln_46, ln_47, ln_48, ln_49, ln_50, ln_51, ln_52]
        exact q
      · by_cases c3 : s_best (e_gI g a) (e_gI g b) (e_gI g 30) w k = -5
        · simp only [c1, c2, c3, if_true, if_false] at q
          simp only [zX1_mostFor_26, zX1_mostFor_27, zX1_mostFor_30, zX1_mostFor_33, zX1_mostFor_34, zX1_mostFor_37, zX1_mostFor_39, zX1_mostFor_40, zX1_mostFor_43, zX1_mostFor_45, zX1_mostFor_47, zX1_mostFor_48, zX1_mostFor_49, zX1_mostFor_52, zX1_mostFor_54, zX1_mostFor_56, zX1_mostFor_59, zX1_mostFor_60, zX1_mostFor_62, zX1_mostFor_63, zX1_mostFor_64, zX1_mostFor_66, zX1_mostFor_67, zX1_mostFor_70, zX1_mostFor_72, zX1_mostFor_74, zX1_mostFor_77, zX1_mostFor_80, zX1_mostFor_82, hg, hc, hb, hcl, nI_1, c1, c2, c3, kb.1, kb.2, e_k_int, e_k_ref, e_k_null, e_k_long, e_k_ret, e_cats_nil, e_cats_int, e_cats_ref, e_cats_ret, e_cats_long, Option.toList_some, Option.toList_none, List.nil_append, List.cons_append, Option.bind_some, Nat.reduceAdd, Nat.reduceLeDiff, Nat.add_zero, if_true, if_false, true_and, and_true, and_self, Int32.reduceToNatClampNeg, ok_1, ok_2, ok_3, ok_4, ok_5, ok_6, ok_7, ok_8, ok_9, ok_30, ok_31, ok_32, ok_33, ok_34, ok_35, ok_36, ok_37, ok_38, ok_39, ok_40, ok_41, ok_42, ok_43, ok_44, ok_45, ok_46, ok_47, ok_48, ok_49, ok_50, ok_51, ok_52, ln_1, ln_2, ln_4, ln_5, ln_6, ln_7, ln_8, ln_30, ln_31, ln_32, ln_33, ln_34, ln_35, ln_36, ln_37, ln_38, ln_39, ln_41, ln_42, ln_43, ln_44, ln_45, ln_46, ln_47, ln_48, ln_49, ln_50, ln_51, ln_52]
          exact q
        · by_cases c4 : e_gI g a k ≤ e_gI g a (s_best (e_gI g a) (e_gI g b) (e_gI g 30) w k).toNatClampNeg
          · simp only [c1, c2, c3, c4, if_true, if_false] at q
            simp only [zX1_mostFor_26, zX1_mostFor_27, zX1_mostFor_30, zX1_mostFor_33, zX1_mostFor_34, zX1_mostFor_37, zX1_mostFor_39, zX1_mostFor_40, zX1_mostFor_43, zX1_mostFor_45, zX1_mostFor_47, zX1_mostFor_48, zX1_mostFor_49, zX1_mostFor_52, zX1_mostFor_54, zX1_mostFor_56, zX1_mostFor_59, zX1_mostFor_60, zX1_mostFor_62, zX1_mostFor_63, zX1_mostFor_64, zX1_mostFor_66, zX1_mostFor_67, zX1_mostFor_70, zX1_mostFor_72, zX1_mostFor_74, zX1_mostFor_77, zX1_mostFor_80, zX1_mostFor_82, hg, hc, hb, hcl, nI_1, c1, c2, c3, c4, hbs c3, ka.1, ka.2, kb.1, kb.2, e_k_int, e_k_ref, e_k_null, e_k_long, e_k_ret, e_cats_nil, e_cats_int, e_cats_ref, e_cats_ret, e_cats_long, Option.toList_some, Option.toList_none, List.nil_append, List.cons_append, Option.bind_some, Nat.reduceAdd, Nat.reduceLeDiff, Nat.add_zero, if_true, if_false, true_and, and_true, and_self, Int32.reduceToNatClampNeg, ok_1, ok_2, ok_3, ok_4, ok_5, ok_6, ok_7, ok_8, ok_9, ok_30, ok_31, ok_32, ok_33, ok_34, ok_35, ok_36, ok_37, ok_38, ok_39, ok_40, ok_41, ok_42, ok_43, ok_44, ok_45, ok_46, ok_47, ok_48, ok_49, ok_50, ok_51, ok_52, ln_1, ln_2, ln_4, ln_5, ln_6, ln_7, ln_8, ln_30, ln_31, ln_32, ln_33, ln_34, ln_35, ln_36, ln_37, ln_38, ln_39, ln_41, ln_42, ln_43, ln_44, ln_45, ln_46, ln_47, ln_48, ln_49, ln_50, ln_51, ln_52]
            exact q
          · simp only [c1, c2, c3, c4, if_false] at q
            simp only [zX1_mostFor_26, zX1_mostFor_27, zX1_mostFor_30, zX1_mostFor_33, zX1_mostFor_34, zX1_mostFor_37, zX1_mostFor_39, zX1_mostFor_40, zX1_mostFor_43, zX1_mostFor_45, zX1_mostFor_47, zX1_mostFor_48, zX1_mostFor_49, zX1_mostFor_52, zX1_mostFor_54, zX1_mostFor_56, zX1_mostFor_59, zX1_mostFor_60, zX1_mostFor_62, zX1_mostFor_63, zX1_mostFor_64, zX1_mostFor_66, zX1_mostFor_67, zX1_mostFor_70, zX1_mostFor_72, zX1_mostFor_74, zX1_mostFor_77, zX1_mostFor_80, zX1_mostFor_82, hg, hc, hb, hcl, nI_1, c1, c2, c3, c4, hbs c3, ka.1, ka.2, kb.1, kb.2, e_k_int, e_k_ref, e_k_null, e_k_long, e_k_ret, e_cats_nil, e_cats_int, e_cats_ref, e_cats_ret, e_cats_long, Option.toList_some, Option.toList_none, List.nil_append, List.cons_append, Option.bind_some, Nat.reduceAdd, Nat.reduceLeDiff, Nat.add_zero, if_true, if_false, true_and, and_true, and_self, Int32.reduceToNatClampNeg, ok_1, ok_2, ok_3, ok_4, ok_5, ok_6, ok_7, ok_8, ok_9, ok_30, ok_31, ok_32, ok_33, ok_34, ok_35, ok_36, ok_37, ok_38, ok_39, ok_40, ok_41, ok_42, ok_43, ok_44, ok_45, ok_46, ok_47, ok_48, ok_49, ok_50, ok_51, ok_52, ln_1, ln_2, ln_4, ln_5, ln_6, ln_7, ln_8, ln_30, ln_31, ln_32, ln_33, ln_34, ln_35, ln_36, ln_37, ln_38, ln_39, ln_41, ln_42, ln_43, ln_44, ln_45, ln_46, ln_47, ln_48, ln_49, ln_50, ln_51, ln_52]
            exact q
theorem r_mostFor0 {d n : Nat} {w : Int32} (hn : n ≤ 24) {g : e_H} (hg : e_gI g 9 2 = nI n) : e_X e_pg (d + 1) 12 [.ref 9, .int 0, .int w] g = some (some (.int (s_best (e_gI g 32) (e_gI g 33) (e_gI g 30) w (n + 1))), g) := by
  rw [xX1_mostFor]
  simp only [zX1_mostFor_0, zX1_mostFor_1, zX1_mostFor_4, zX1_mostFor_5, zX1_mostFor_6, zX1_mostFor_7, zX1_mostFor_8, zX1_mostFor_11, zX1_mostFor_12, zX1_mostFor_13, zX1_mostFor_14, zX1_mostFor_15, zX1_mostFor_17, zX1_mostFor_19, zX1_mostFor_21, zX1_mostFor_22, show (1 : Int32) - 0 = 1 from rfl, e_k_int, e_k_ref, e_k_null, e_k_long, e_k_ret, e_cats_nil, e_cats_int, e_cats_ref, e_cats_ret, e_cats_long, Option.toList_some, Option.toList_none, List.nil_append, List.cons_append, Option.bind_some, Nat.reduceAdd, Nat.reduceLeDiff, Nat.add_zero, if_true, if_false, true_and, and_true, and_self, Int32.reduceToNatClampNeg, ok_1, ok_2, ok_3, ok_4, ok_5, ok_6, ok_7, ok_8, ok_9, ok_30, ok_31, ok_32, ok_33, ok_34, ok_35, ok_36, ok_37, ok_38, ok_39, ok_40, ok_41, ok_42, ok_43, ok_44, ok_45, ok_46, ok_47, ok_48, ok_49, ok_50, ok_51, ok_52, ln_1, ln_2, ln_4, ln_5, ln_6, ln_7, ln_8, ln_30, ln_31, ln_32, ln_33, ln_34, ln_35, ln_36, ln_37, ln_38, ln_39, ln_41, ln_42, ln_43, ln_44, ln_45, ln_46, ln_47, ln_48, ln_49, ln_50, ln_51, ln_52, ib_0_9, ib_1_9, ib_2_9, ib_3_9, ib_4_9, ib_5_9, ib_6_9, ib_7_9, ib_8_9, ib_0_2, ib_1_2, ib_0_5, ib_1_5, ib_2_5, ib_3_5, ib_4_5, ib_0_25, ib_0_10, ib_5_10, ib_0_90, ib_45_90, ib_0_64]
  exact r_most_loop hn hg (Or.inl rfl) (Or.inr rfl) (n + 1) 0 (by omega)
theorem r_mostFor1 {d n : Nat} {w : Int32} (hn : n ≤ 24) {g : e_H} (hg : e_gI g 9 2 = nI n) : e_X e_pg (d + 1) 12 [.ref 9, .int 1, .int w] g = some (some (.int (s_best (e_gI g 33) (e_gI g 32) (e_gI g 30) w (n + 1))), g) := by
  rw [xX1_mostFor]
  simp only [zX1_mostFor_0, zX1_mostFor_1, zX1_mostFor_4, zX1_mostFor_5, zX1_mostFor_6, zX1_mostFor_7, zX1_mostFor_8, zX1_mostFor_11, zX1_mostFor_12, zX1_mostFor_13, zX1_mostFor_14, zX1_mostFor_15, zX1_mostFor_17, zX1_mostFor_19, zX1_mostFor_21, zX1_mostFor_22, show (1 : Int32) - 1 = 0 from rfl, e_k_int, e_k_ref, e_k_null, e_k_long, e_k_ret, e_cats_nil, e_cats_int, e_cats_ref, e_cats_ret, e_cats_long, Option.toList_some, Option.toList_none, List.nil_append, List.cons_append, Option.bind_some, Nat.reduceAdd, Nat.reduceLeDiff, Nat.add_zero, if_true, if_false, true_and, and_true, and_self, Int32.reduceToNatClampNeg, ok_1, ok_2, ok_3, ok_4, ok_5, ok_6, ok_7, ok_8, ok_9, ok_30, ok_31, ok_32, ok_33, ok_34, ok_35, ok_36, ok_37, ok_38, ok_39, ok_40, ok_41, ok_42, ok_43, ok_44, ok_45, ok_46, ok_47, ok_48, ok_49, ok_50, ok_51, ok_52, ln_1, ln_2, ln_4, ln_5, ln_6, ln_7, ln_8, ln_30, ln_31, ln_32, ln_33, ln_34, ln_35, ln_36, ln_37, ln_38, ln_39, ln_41, ln_42, ln_43, ln_44, ln_45, ln_46, ln_47, ln_48, ln_49, ln_50, ln_51, ln_52, ib_0_9, ib_1_9, ib_2_9, ib_3_9, ib_4_9, ib_5_9, ib_6_9, ib_7_9, ib_8_9, ib_0_2, ib_1_2, ib_0_5, ib_1_5, ib_2_5, ib_3_5, ib_4_5, ib_0_25, ib_0_10, ib_5_10, ib_0_90, ib_45_90, ib_0_64]
  exact r_most_loop hn hg (Or.inr rfl) (Or.inl rfl) (n + 1) 0 (by omega)
