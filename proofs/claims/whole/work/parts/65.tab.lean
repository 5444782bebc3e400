/-! the class: settling all pairs, what all have -/
theorem i32_min (x : Int32) : ¬ x < -2147483648 := by
  rw [Int32.lt_iff_toInt_lt]
  have := Int32.le_toInt x
  have e : (-2147483648 : Int32).toInt = -2147483648 := rfl
  omega
theorem q_rB_none {S : e_H} (hS : q_ok S) {Ni Nj B : Nat → Int32} (w : e_gI S 0 7 = 2) : (q_rB S Ni Nj B).1 = -5 ↔ (q_rB S Ni Nj B).2.1 = -5 := by
  have hn := hS.n.2.2
  unfold q_rB s_res
  rw [w, if_neg (by decide), if_pos rfl]
  show s_best _ _ _ _ _ = -5 ↔ s_best _ _ _ _ _ = -5
  rw [s_best_none (q_n S + 1) (by omega) (fun x _ => i32_min _), s_best_none (q_n S + 1) (by omega) (fun x _ => i32_min _)]
def q_ag (S : e_H) (s k m : Nat) : Int32 := if s = 0 then q_has S 0 k m else q_has S 1 m k
theorem r_holdsNow {d s i j k : Nat} {S g : e_H} {a b : Int32} (hS : q_ok S) (hC : q_C S g) (ha : a = nI s) (hb : b = nI k) (hs : s < 2) (hk : k < 5) (hij : k = if s = 0 then i else j) (h5 : e_gI g 9 5 = (q_res S i j).1) (h6 : e_gI g 9 6 = (q_res S i j).2.1) : e_X e_pg (d + 5) 75 [.ref 0, .int a, .int b] g = some (some (.long (q_has S s i j).toInt64), g) := by
  have sh := q_rB_sh hS (Ni := q_N S 0 i) (Nj := q_N S 1 j) (B := q_bt S i j)
  have hh := r_holds (d := d) hS hC ha hs hk (x := (q_res S i j).1) (y := (q_res S i j).2.1) sh.1 sh.2 (q_rB_none hS)
  rw [xX3_holdsNow]
  simp only [zX3_holdsNow_0, zX3_holdsNow_1, zX3_holdsNow_2, zX3_holdsNow_3, zX3_holdsNow_4, zX3_holdsNow_5, zX3_holdsNow_8, zX3_holdsNow_9, zX3_holdsNow_12, zX3_holdsNow_15, zX3_holdsNow_16, zX3_holdsNow_19, zX3_holdsNow_22, zX3_holdsNow_25, r_eAt ha hb hs hk, h5, h6, hh, e_k_int, e_k_ref, e_k_null, e_k_long, e_k_ret, e_cats_nil, e_cats_int, e_cats_ref, e_cats_ret, e_cats_long, Option.toList_some, Option.toList_none, List.nil_append, List.cons_append, Option.bind_some, Nat.reduceAdd, Nat.reduceLeDiff, Nat.add_zero, if_true, if_false, true_and, and_true, and_self, Int32.reduceToNatClampNeg]
  unfold q_has
  rw [← hij]
abbrev q_fC : List Nat := [7, 8, 9, 30, 32, 33, 35, 36]
theorem r_holdsAgainst {d s k m : Nat} {S g : e_H} {a b c : Int32} (hS : q_ok S) (hC : q_C S g) (ha : a = nI s) (hb : b = nI k) (hc : c = nI m) (hs : s < 2) (hk : k < 5) (hm : m < 5) : ∃ f, e_X e_pg (d + 6) 76 [.ref 0, .int a, .int b, .int c] g = some (some (.long (q_ag S s k m).toInt64), f) ∧ e_fr q_fC g f := by
  rw [xX3_holdsAgainst]
  rcases (show s = 0 ∨ s = 1 by omega) with rfl | rfl
  · obtain ⟨f, m1, m2⟩ := r_meet (d := d) hS hC hb hc hk hm
    have hC2 := hC.fr m2.1 (fun o ho => by simp at ho ⊢; omega)
    have hn := r_holdsNow (d := d) (i := k) (j := m) hS hC2 ha hb hs hk rfl m2.2.1 m2.2.2.1
    have ha : a = 0 := ha
    subst ha
    refine ⟨f, ?_, m2.1⟩
    simp only [zX3_holdsAgainst_0, zX3_holdsAgainst_1, zX3_holdsAgainst_2, zX3_holdsAgainst_5, zX3_holdsAgainst_6, zX3_holdsAgainst_9, zX3_holdsAgainst_10, zX3_holdsAgainst_11, zX3_holdsAgainst_14, zX3_holdsAgainst_15, zX3_holdsAgainst_18, zX3_holdsAgainst_19, zX3_holdsAgainst_22, zX3_holdsAgainst_23, zX3_holdsAgainst_24, zX3_holdsAgainst_25, zX3_holdsAgainst_26, zX3_holdsAgainst_29, m1, hn, not_true_eq_false, q_ag, e_k_int, e_k_ref, e_k_null, e_k_long, e_k_ret, e_cats_nil, e_cats_int, e_cats_ref, e_cats_ret, e_cats_long, Option.toList_some, Option.toList_none, List.nil_append, List.cons_append, Option.bind_some, Nat.reduceAdd, Nat.reduceLeDiff, Nat.add_zero, if_true, if_false, true_and, and_true, and_self, Int32.reduceToNatClampNeg]
  · obtain ⟨f, m1, m2⟩ := r_meet (d := d) hS hC hc hb hm hk
    have hC2 := hC.fr m2.1 (fun o ho => by simp at ho ⊢; omega)
    have hn := r_holdsNow (d := d) (i := m) (j := k) hS hC2 ha hb hs hk rfl m2.2.1 m2.2.2.1
    have ha : a = 1 := ha
    subst ha
    refine ⟨f, ?_, m2.1⟩
    simp only [zX3_holdsAgainst_0, zX3_holdsAgainst_1, zX3_holdsAgainst_2, zX3_holdsAgainst_5, zX3_holdsAgainst_6, zX3_holdsAgainst_9, zX3_holdsAgainst_10, zX3_holdsAgainst_11, zX3_holdsAgainst_14, zX3_holdsAgainst_15, zX3_holdsAgainst_18, zX3_holdsAgainst_19, zX3_holdsAgainst_22, zX3_holdsAgainst_23, zX3_holdsAgainst_24, zX3_holdsAgainst_25, zX3_holdsAgainst_26, zX3_holdsAgainst_29, m1, hn, ne_0_1, ne_0_2, ne_0_3, ne_1_0, ne_1_2, ne_1_3, ne_2_0, ne_2_1, ne_2_3, ne_3_0, ne_3_1, ne_3_2, not_false_eq_true, q_ag, Nat.one_ne_zero, e_k_int, e_k_ref, e_k_null, e_k_long, e_k_ret, e_cats_nil, e_cats_int, e_cats_ref, e_cats_ret, e_cats_long, Option.toList_some, Option.toList_none, List.nil_append, List.cons_append, Option.bind_some, Nat.reduceAdd, Nat.reduceLeDiff, Nat.add_zero, if_true, if_false, true_and, and_true, and_self, Int32.reduceToNatClampNeg]
/-- the rows of shares hold what is settled, for the pairs P -/
def q_Tb (S g : e_H) (P : Nat → Nat → Prop) : Prop := ∀ p q, p < 5 → q < 5 → P p q → e_gI g 35 (5 * p + q) = (q_res S p q).1 ∧ e_gI g 36 (5 * p + q) = (q_res S p q).2.1
theorem q_Tb.met {S g f : e_H} {P Q : Nat → Nat → Prop} {i j : Nat} (h : q_Tb S g P) (m : q_Met S g f i j) (hi : i < 5) (hj : j < 5) (hQ : ∀ p q, Q p q → P p q ∨ (p = i ∧ q = j)) : q_Tb S f Q := by
  intro p q hp hq hh
  obtain ⟨-, -, -, -, -, m1, m2⟩ := m
  rw [m1, m2]
  by_cases e : 5 * p + q = 5 * i + j
  · have e1 : p = i := by omega
    have e2 : q = j := by omega
    subst e1; subst e2
    rw [if_pos rfl, if_pos rfl]
    exact ⟨rfl, rfl⟩
  · rw [if_neg e, if_neg e]
    rcases hQ p q hh with z | ⟨z1, z2⟩
    · exact h p q hp hq z
    · exact absurd (by rw [z1, z2]) e
theorem q_C.c {S g : e_H} (hS : q_ok S) (h : q_C S g) {s : Nat} (hs : s < 2) : e_gI g 1 s = nI (q_c S s) := by rw [h.at (by simp)]; exact (hS.c hs).1
theorem q_C.met {S g f : e_H} {i j : Nat} (h : q_C S g) (m : q_Met S g f i j) : q_C S f := h.fr m.1 (fun o ho => by simp at ho ⊢; omega)
set_option maxRecDepth 100000 in
theorem r_settleAll {d : Nat} {S g : e_H} (hS : q_ok S) (hC : q_C S g) : ∃ f, e_X e_pg (d + 6) 69 [.ref 0] g = some (none, f) ∧ q_C S f ∧ q_Tb S f (fun p q => p < q_c S 0 ∧ q < q_c S 1) := by
  have c0 := (hS.c (show 0 < 2 by decide)).2
  have c1 := (hS.c (show 1 < 2 by decide)).2
  rw [xX3_settleAll]
  simp only [zX3_settleAll_0, zX3_settleAll_1, e_k_int, e_k_ref, e_k_null, e_k_long, e_k_ret, e_cats_nil, e_cats_int, e_cats_ref, e_cats_ret, e_cats_long, Option.toList_some, Option.toList_none, List.nil_append, List.cons_append, Option.bind_some, Nat.reduceAdd, Nat.reduceLeDiff, Nat.add_zero, if_true, if_false, true_and, and_true, and_self, Int32.reduceToNatClampNeg]
  obtain ⟨ls2, f, e, ⟨v, rfl⟩, hF, hT⟩ := f_lp (cd := kX3_settleAll) (O := e_X e_pg (d + 5)) (pc := 2) (fun k ls h => (∃ v, ls = [.ref 0, .int (nI k), v]) ∧ q_C S h ∧ q_Tb S h (fun p q => p < k ∧ q < q_c S 1)) (Nat.zero_le (q_c S 0)) (by
    rintro k ls h - hk ⟨⟨v, rfl⟩, hC, hT⟩
    have hc : ¬ nI (q_c S 0) ≤ nI k := nI_ge hk (by omega)
    have e0 := hC.c hS (show 0 < 2 by decide)
    rw [zX3_settleAll_2]
    simp only [zX3_settleAll_3, zX3_settleAll_4, zX3_settleAll_7, zX3_settleAll_8, zX3_settleAll_9, zX3_settleAll_12, zX3_settleAll_13, e0, hc, e_k_int, e_k_ref, e_k_null, e_k_long, e_k_ret, e_cats_nil, e_cats_int, e_cats_ref, e_cats_ret, e_cats_long, Option.toList_some, Option.toList_none, List.nil_append, List.cons_append, Option.bind_some, Nat.reduceAdd, Nat.reduceLeDiff, Nat.add_zero, if_true, if_false, true_and, and_true, and_self, Int32.reduceToNatClampNeg, ok_1, ok_2, ok_3, ok_4, ok_5, ok_6, ok_7, ok_8, ok_9, ok_30, ok_31, ok_32, ok_33, ok_34, ok_35, ok_36, ok_37, ok_38, ok_39, ok_40, ok_41, ok_42, ok_43, ok_44, ok_45, ok_46, ok_47, ok_48, ok_49, ok_50, ok_51, ok_52, ln_1, ln_2, ln_4, ln_5, ln_6, ln_7, ln_8, ln_30, ln_31, ln_32, ln_33, ln_34, ln_35, ln_36, ln_37, ln_38, ln_39, ln_41, ln_42, ln_43, ln_44, ln_45, ln_46, ln_47, ln_48, ln_49, ln_50, ln_51, ln_52, ib_0_9, ib_1_9, ib_2_9, ib_3_9, ib_4_9, ib_5_9, ib_6_9, ib_7_9, ib_8_9, ib_0_2, ib_1_2, ib_0_5, ib_1_5, ib_2_5, ib_3_5, ib_4_5, ib_0_25, ib_0_10, ib_5_10, ib_0_90, ib_45_90, ib_0_64]
    obtain ⟨ls2, f, e, ⟨rfl⟩, hF, hT⟩ := f_lp (cd := kX3_settleAll) (O := e_X e_pg (d + 5)) (pc := 14) (fun j ls h => ls = [.ref 0, .int (nI k), .int (nI j)] ∧ q_C S h ∧ q_Tb S h (fun p q => (p < k ∧ q < q_c S 1) ∨ (p = k ∧ q < j))) (Nat.zero_le (q_c S 1)) (by
      rintro j ls h - hj ⟨rfl, hC, hT⟩
      have hc : ¬ nI (q_c S 1) ≤ nI j := nI_ge hj (by omega)
      have e1 := hC.c hS (show 1 < 2 by decide)
      obtain ⟨f, m1, m2⟩ := r_meet (d := d) hS hC (a := nI k) (b := nI j) rfl rfl (by omega) (by omega)
      rw [zX3_settleAll_14]
      simp only [zX3_settleAll_15, zX3_settleAll_16, zX3_settleAll_19, zX3_settleAll_20, zX3_settleAll_21, zX3_settleAll_24, zX3_settleAll_25, zX3_settleAll_26, zX3_settleAll_27, zX3_settleAll_30, zX3_settleAll_31, zX3_settleAll_34, e1, hc, m1, nI_1, e_k_int, e_k_ref, e_k_null, e_k_long, e_k_ret, e_cats_nil, e_cats_int, e_cats_ref, e_cats_ret, e_cats_long, Option.toList_some, Option.toList_none, List.nil_append, List.cons_append, Option.bind_some, Nat.reduceAdd, Nat.reduceLeDiff, Nat.add_zero, if_true, if_false, true_and, and_true, and_self, Int32.reduceToNatClampNeg, ok_1, ok_2, ok_3, ok_4, ok_5, ok_6, ok_7, ok_8, ok_9, ok_30, ok_31, ok_32, ok_33, ok_34, ok_35, ok_36, ok_37, ok_38, ok_39, ok_40, ok_41, ok_42, ok_43, ok_44, ok_45, ok_46, ok_47, ok_48, ok_49, ok_50, ok_51, ok_52, ln_1, ln_2, ln_4, ln_5, ln_6, ln_7, ln_8, ln_30, ln_31, ln_32, ln_33, ln_34, ln_35, ln_36, ln_37, ln_38, ln_39, ln_41, ln_42, ln_43, ln_44, ln_45, ln_46, ln_47, ln_48, ln_49, ln_50, ln_51, ln_52, ib_0_9, ib_1_9, ib_2_9, ib_3_9, ib_4_9, ib_5_9, ib_6_9, ib_7_9, ib_8_9, ib_0_2, ib_1_2, ib_0_5, ib_1_5, ib_2_5, ib_3_5, ib_4_5, ib_0_25, ib_0_10, ib_5_10, ib_0_90, ib_45_90, ib_0_64]
      exact ⟨_, _, rfl, rfl, hC.met m2, hT.met m2 (by omega) (by omega) (fun p q z => by omega)⟩) (ls := [.ref 0, .int (nI k), .int 0]) (h := h) ⟨rfl, hC, fun p q hp hq z => hT p q hp hq (by omega)⟩
    have hc2 : nI (q_c S 1) ≤ nI (q_c S 1) := nI_le (Nat.le_refl _) (by omega)
    have e1 := hF.c hS (show 1 < 2 by decide)
    rw [e, zX3_settleAll_14]
    simp only [zX3_settleAll_15, zX3_settleAll_16, zX3_settleAll_19, zX3_settleAll_20, zX3_settleAll_21, zX3_settleAll_24, zX3_settleAll_25, zX3_settleAll_26, zX3_settleAll_27, zX3_settleAll_30, zX3_settleAll_31, zX3_settleAll_34, zX3_settleAll_37, zX3_settleAll_40, e1, hc2, nI_1, e_k_int, e_k_ref, e_k_null, e_k_long, e_k_ret, e_cats_nil, e_cats_int, e_cats_ref, e_cats_ret, e_cats_long, Option.toList_some, Option.toList_none, List.nil_append, List.cons_append, Option.bind_some, Nat.reduceAdd, Nat.reduceLeDiff, Nat.add_zero, if_true, if_false, true_and, and_true, and_self, Int32.reduceToNatClampNeg, ok_1, ok_2, ok_3, ok_4, ok_5, ok_6, ok_7, ok_8, ok_9, ok_30, ok_31, ok_32, ok_33, ok_34, ok_35, ok_36, ok_37, ok_38, ok_39, ok_40, ok_41, ok_42, ok_43, ok_44, ok_45, ok_46, ok_47, ok_48, ok_49, ok_50, ok_51, ok_52, ln_1, ln_2, ln_4, ln_5, ln_6, ln_7, ln_8, ln_30, ln_31, ln_32, ln_33, ln_34, ln_35, ln_36, ln_37, ln_38, ln_39, ln_41, ln_42, ln_43, ln_44, ln_45, ln_46, ln_47, ln_48, ln_49, ln_50, ln_51, ln_52, ib_0_9, ib_1_9, ib_2_9, ib_3_9, ib_4_9, ib_5_9, ib_6_9, ib_7_9, ib_8_9, ib_0_2, ib_1_2, ib_0_5, ib_1_5, ib_2_5, ib_3_5, ib_4_5, ib_0_25, ib_0_10, ib_5_10, ib_0_90, ib_45_90, ib_0_64]
    exact ⟨_, _, rfl, ⟨_, rfl⟩, hF, fun p q hp hq z => hT p q hp hq (by omega)⟩) (ls := [.ref 0, .int 0, .null]) (h := g) ⟨⟨_, rfl⟩, hC, fun p q hp hq z => by omega⟩
  have hc2 : nI (q_c S 0) ≤ nI (q_c S 0) := nI_le (Nat.le_refl _) (by omega)
  have e0 := hF.c hS (show 0 < 2 by decide)
  refine ⟨f, ?_, hF, hT⟩
  rw [e, zX3_settleAll_2]
  simp only [zX3_settleAll_3, zX3_settleAll_4, zX3_settleAll_7, zX3_settleAll_8, zX3_settleAll_9, zX3_settleAll_12, zX3_settleAll_13, zX3_settleAll_43, e0, hc2, e_k_int, e_k_ref, e_k_null, e_k_long, e_k_ret, e_cats_nil, e_cats_int, e_cats_ref, e_cats_ret, e_cats_long, Option.toList_some, Option.toList_none, List.nil_append, List.cons_append, Option.bind_some, Nat.reduceAdd, Nat.reduceLeDiff, Nat.add_zero, if_true, if_false, true_and, and_true, and_self, Int32.reduceToNatClampNeg, ok_1, ok_2, ok_3, ok_4, ok_5, ok_6, ok_7, ok_8, ok_9, ok_30, ok_31, ok_32, ok_33, ok_34, ok_35, ok_36, ok_37, ok_38, ok_39, ok_40, ok_41, ok_42, ok_43, ok_44, ok_45, ok_46, ok_47, ok_48, ok_49, ok_50, ok_51, ok_52, ln_1, ln_2, ln_4, ln_5, ln_6, ln_7, ln_8, ln_30, ln_31, ln_32, ln_33, ln_34, ln_35, ln_36, ln_37, ln_38, ln_39, ln_41, ln_42, ln_43, ln_44, ln_45, ln_46, ln_47, ln_48, ln_49, ln_50, ln_51, ln_52, ib_0_9, ib_1_9, ib_2_9, ib_3_9, ib_4_9, ib_5_9, ib_6_9, ib_7_9, ib_8_9, ib_0_2, ib_1_2, ib_0_5, ib_1_5, ib_2_5, ib_3_5, ib_4_5, ib_0_25, ib_0_10, ib_5_10, ib_0_90, ib_45_90, ib_0_64]
/-- the settling of the pairs in which a side goes itself -/
theorem r_settleItself {d s : Nat} {S g : e_H} {a : Int32} {P : Nat → Nat → Prop} (hS : q_ok S) (hC : q_C S g) (ha : a = nI s) (hs : s < 2) (hT : q_Tb S g P) : ∃ f, e_X e_pg (d + 6) 70 [.ref 0, .int a] g = some (none, f) ∧ q_C S f ∧ q_Tb S f (fun p q => P p q ∨ (if s = 0 then p = 0 ∧ q < q_c S 1 else q = 0 ∧ p < q_c S 0)) := by
  rw [xX3_settleItself]
  simp only [zX3_settleItself_0, zX3_settleItself_1, e_k_int, e_k_ref, e_k_null, e_k_long, e_k_ret, e_cats_nil, e_cats_int, e_cats_ref, e_cats_ret, e_cats_long, Option.toList_some, Option.toList_none, List.nil_append, List.cons_append, Option.bind_some, Nat.reduceAdd, Nat.reduceLeDiff, Nat.add_zero, if_true, if_false, true_and, and_true, and_self, Int32.reduceToNatClampNeg]
  rcases (show s = 0 ∨ s = 1 by omega) with rfl | rfl
  · have ha : a = 0 := ha
    subst ha
    have cc := (hS.c (show 1 < 2 by decide)).2
    obtain ⟨ls2, f, e, ⟨rfl⟩, hF, hT⟩ := f_lp (cd := kX3_settleItself) (O := e_X e_pg (d + 5)) (pc := 2) (fun k ls h => ls = [.ref 0, .int 0, .int (nI k)] ∧ q_C S h ∧ q_Tb S h (fun p q => P p q ∨ (p = 0 ∧ q < k))) (Nat.zero_le (q_c S 1)) (by
      rintro k ls h - hk ⟨rfl, hC, hT⟩
      have hc : ¬ nI (q_c S 1) ≤ nI k := nI_ge hk (by omega)
      have e0 := hC.c hS (show 1 < 2 by decide)
      obtain ⟨f, m1, m2⟩ := r_meet (d := d) hS hC (a := 0) (b := nI k) (i := 0) rfl rfl (by omega) (by omega)
      rw [zX3_settleItself_2]
      simp only [zX3_settleItself_3, zX3_settleItself_4, zX3_settleItself_7, zX3_settleItself_8, zX3_settleItself_9, zX3_settleItself_10, zX3_settleItself_11, zX3_settleItself_14, zX3_settleItself_15, zX3_settleItself_16, zX3_settleItself_19, zX3_settleItself_20, zX3_settleItself_23, zX3_settleItself_24, zX3_settleItself_25, zX3_settleItself_28, zX3_settleItself_29, zX3_settleItself_32, zX3_settleItself_33, zX3_settleItself_36, zX3_settleItself_37, zX3_settleItself_40, show (1 : Int32) - 0 = 1 from rfl, e0, hc, m1, nI_1, not_true_eq_false, e_k_int, e_k_ref, e_k_null, e_k_long, e_k_ret, e_cats_nil, e_cats_int, e_cats_ref, e_cats_ret, e_cats_long, Option.toList_some, Option.toList_none, List.nil_append, List.cons_append, Option.bind_some, Nat.reduceAdd, Nat.reduceLeDiff, Nat.add_zero, if_true, if_false, true_and, and_true, and_self, Int32.reduceToNatClampNeg, ok_1, ok_2, ok_3, ok_4, ok_5, ok_6, ok_7, ok_8, ok_9, ok_30, ok_31, ok_32, ok_33, ok_34, ok_35, ok_36, ok_37, ok_38, ok_39, ok_40, ok_41, ok_42, ok_43, ok_44, ok_45, ok_46, ok_47, ok_48, ok_49, ok_50, ok_51, ok_52, ln_1, ln_2, ln_4, ln_5, ln_6, ln_7, ln_8, ln_30, ln_31, ln_32, ln_33, ln_34, ln_35, ln_36, ln_37, ln_38, ln_39, ln_41, ln_42, ln_43, ln_44, ln_45, ln_46, ln_47, ln_48, ln_49, ln_50, ln_51, ln_52, ib_0_9, ib_1_9, ib_2_9, ib_3_9, ib_4_9, ib_5_9, ib_6_9, ib_7_9, ib_8_9, ib_0_2, ib_1_2, ib_0_5, ib_1_5, ib_2_5, ib_3_5, ib_4_5, ib_0_25, ib_0_10, ib_5_10, ib_0_90, ib_45_90, ib_0_64]
      exact ⟨_, _, rfl, rfl, hC.met m2, hT.met m2 (by omega) (by omega) (fun p q z => by
        rcases z with z | z
        · exact Or.inl (Or.inl z)
        · by_cases e : q = k
          · exact Or.inr ⟨z.1, e⟩
          · exact Or.inl (Or.inr ⟨z.1, by omega⟩))⟩) (ls := [.ref 0, .int 0, .int 0]) (h := g) ⟨rfl, hC, fun p q hp hq z => hT p q hp hq (by
        rcases z with z | z
        · exact z
        · omega)⟩
    have hc2 : nI (q_c S 1) ≤ nI (q_c S 1) := nI_le (Nat.le_refl _) (by omega)
    have e0 := hF.c hS (show 1 < 2 by decide)
    refine ⟨f, ?_, hF, hT⟩
    rw [e, zX3_settleItself_2]
    simp only [zX3_settleItself_3, zX3_settleItself_4, zX3_settleItself_7, zX3_settleItself_8, zX3_settleItself_9, zX3_settleItself_10, zX3_settleItself_11, zX3_settleItself_14, zX3_settleItself_15, zX3_settleItself_16, zX3_settleItself_19, zX3_settleItself_20, zX3_settleItself_23, zX3_settleItself_24, zX3_settleItself_25, zX3_settleItself_28, zX3_settleItself_29, zX3_settleItself_32, zX3_settleItself_33, zX3_settleItself_36, zX3_settleItself_37, zX3_settleItself_40, zX3_settleItself_43, show (1 : Int32) - 0 = 1 from rfl, e0, hc2, e_k_int, e_k_ref, e_k_null, e_k_long, e_k_ret, e_cats_nil, e_cats_int, e_cats_ref, e_cats_ret, e_cats_long, Option.toList_some, Option.toList_none, List.nil_append, List.cons_append, Option.bind_some, Nat.reduceAdd, Nat.reduceLeDiff, Nat.add_zero, if_true, if_false, true_and, and_true, and_self, Int32.reduceToNatClampNeg, ok_1, ok_2, ok_3, ok_4, ok_5, ok_6, ok_7, ok_8, ok_9, ok_30, ok_31, ok_32, ok_33, ok_34, ok_35, ok_36, ok_37, ok_38, ok_39, ok_40, ok_41, ok_42, ok_43, ok_44, ok_45, ok_46, ok_47, ok_48, ok_49, ok_50, ok_51, ok_52, ln_1, ln_2, ln_4, ln_5, ln_6, ln_7, ln_8, ln_30, ln_31, ln_32, ln_33, ln_34, ln_35, ln_36, ln_37, ln_38, ln_39, ln_41, ln_42, ln_43, ln_44, ln_45, ln_46, ln_47, ln_48, ln_49, ln_50, ln_51, ln_52, ib_0_9, ib_1_9, ib_2_9, ib_3_9, ib_4_9, ib_5_9, ib_6_9, ib_7_9, ib_8_9, ib_0_2, ib_1_2, ib_0_5, ib_1_5, ib_2_5, ib_3_5, ib_4_5, ib_0_25, ib_0_10, ib_5_10, ib_0_90, ib_45_90, ib_0_64]
  · have ha : a = 1 := ha
    subst ha
    have cc := (hS.c (show 0 < 2 by decide)).2
    obtain ⟨ls2, f, e, ⟨rfl⟩, hF, hT⟩ := f_lp (cd := kX3_settleItself) (O := e_X e_pg (d + 5)) (pc := 2) (fun k ls h => ls = [.ref 0, .int 1, .int (nI k)] ∧ q_C S h ∧ q_Tb S h (fun p q => P p q ∨ (q = 0 ∧ p < k))) (Nat.zero_le (q_c S 0)) (by
      rintro k ls h - hk ⟨rfl, hC, hT⟩
      have hc : ¬ nI (q_c S 0) ≤ nI k := nI_ge hk (by omega)
      have e0 := hC.c hS (show 0 < 2 by decide)
      obtain ⟨f, m1, m2⟩ := r_meet (d := d) hS hC (a := nI k) (b := 0) (j := 0) rfl rfl (by omega) (by omega)
      rw [zX3_settleItself_2]
      simp only [zX3_settleItself_3, zX3_settleItself_4, zX3_settleItself_7, zX3_settleItself_8, zX3_settleItself_9, zX3_settleItself_10, zX3_settleItself_11, zX3_settleItself_14, zX3_settleItself_15, zX3_settleItself_16, zX3_settleItself_19, zX3_settleItself_20, zX3_settleItself_23, zX3_settleItself_24, zX3_settleItself_25, zX3_settleItself_28, zX3_settleItself_29, zX3_settleItself_32, zX3_settleItself_33, zX3_settleItself_36, zX3_settleItself_37, zX3_settleItself_40, show (1 : Int32) - 1 = 0 from rfl, e0, hc, m1, nI_1, ne_0_1, ne_0_2, ne_0_3, ne_1_0, ne_1_2, ne_1_3, ne_2_0, ne_2_1, ne_2_3, ne_3_0, ne_3_1, ne_3_2, not_false_eq_true, e_k_int, e_k_ref, e_k_null, e_k_long, e_k_ret, e_cats_nil, e_cats_int, e_cats_ref, e_cats_ret, e_cats_long, Option.toList_some, Option.toList_none, List.nil_append, List.cons_append, Option.bind_some, Nat.reduceAdd, Nat.reduceLeDiff, Nat.add_zero, if_true, if_false, true_and, and_true, and_self, Int32.reduceToNatClampNeg, ok_1, ok_2, ok_3, ok_4, ok_5, ok_6, ok_7, ok_8, ok_9, ok_30, ok_31, ok_32, ok_33, ok_34, ok_35, ok_36, ok_37, ok_38, ok_39, ok_40, ok_41, ok_42, ok_43, ok_44, ok_45, ok_46, ok_47, ok_48, ok_49, ok_50, ok_51, ok_52, ln_1, ln_2, ln_4, ln_5, ln_6, ln_7, ln_8, ln_30, ln_31, ln_32, ln_33, ln_34, ln_35, ln_36, ln_37, ln_38, ln_39, ln_41, ln_42, ln_43, ln_44, ln_45, ln_46, ln_47, ln_48, ln_49, ln_50, ln_51, ln_52, ib_0_9, ib_1_9, ib_2_9, ib_3_9, ib_4_9, ib_5_9, ib_6_9, ib_7_9, ib_8_9, ib_0_2, ib_1_2, ib_0_5, ib_1_5, ib_2_5, ib_3_5, ib_4_5, ib_0_25, ib_0_10, ib_5_10, ib_0_90, ib_45_90, ib_0_64]
      exact ⟨_, _, rfl, rfl, hC.met m2, hT.met m2 (by omega) (by omega) (fun p q z => by
        rcases z with z | z
        · exact Or.inl (Or.inl z)
        · by_cases e : p = k
          · exact Or.inr ⟨e, z.1⟩
          · exact Or.inl (Or.inr ⟨z.1, by omega⟩))⟩) (ls := [.ref 0, .int 1, .int 0]) (h := g) ⟨rfl, hC, fun p q hp hq z => hT p q hp hq (by
        rcases z with z | z
        · exact z
        · omega)⟩
    have hc2 : nI (q_c S 0) ≤ nI (q_c S 0) := nI_le (Nat.le_refl _) (by omega)
    have e0 := hF.c hS (show 0 < 2 by decide)
    refine ⟨f, ?_, hF, hT⟩
    rw [e, zX3_settleItself_2]
    simp only [zX3_settleItself_3, zX3_settleItself_4, zX3_settleItself_7, zX3_settleItself_8, zX3_settleItself_9, zX3_settleItself_10, zX3_settleItself_11, zX3_settleItself_14, zX3_settleItself_15, zX3_settleItself_16, zX3_settleItself_19, zX3_settleItself_20, zX3_settleItself_23, zX3_settleItself_24, zX3_settleItself_25, zX3_settleItself_28, zX3_settleItself_29, zX3_settleItself_32, zX3_settleItself_33, zX3_settleItself_36, zX3_settleItself_37, zX3_settleItself_40, zX3_settleItself_43, show (1 : Int32) - 1 = 0 from rfl, e0, hc2, e_k_int, e_k_ref, e_k_null, e_k_long, e_k_ret, e_cats_nil, e_cats_int, e_cats_ref, e_cats_ret, e_cats_long, Option.toList_some, Option.toList_none, List.nil_append, List.cons_append, Option.bind_some, Nat.reduceAdd, Nat.reduceLeDiff, Nat.add_zero, if_true, if_false, true_and, and_true, and_self, Int32.reduceToNatClampNeg, ok_1, ok_2, ok_3, ok_4, ok_5, ok_6, ok_7, ok_8, ok_9, ok_30, ok_31, ok_32, ok_33, ok_34, ok_35, ok_36, ok_37, ok_38, ok_39, ok_40, ok_41, ok_42, ok_43, ok_44, ok_45, ok_46, ok_47, ok_48, ok_49, ok_50, ok_51, ok_52, ln_1, ln_2, ln_4, ln_5, ln_6, ln_7, ln_8, ln_30, ln_31, ln_32, ln_33, ln_34, ln_35, ln_36, ln_37, ln_38, ln_39, ln_41, ln_42, ln_43, ln_44, ln_45, ln_46, ln_47, ln_48, ln_49, ln_50, ln_51, ln_52, ib_0_9, ib_1_9, ib_2_9, ib_3_9, ib_4_9, ib_5_9, ib_6_9, ib_7_9, ib_8_9, ib_0_2, ib_1_2, ib_0_5, ib_1_5, ib_2_5, ib_3_5, ib_4_5, ib_0_25, ib_0_10, ib_5_10, ib_0_90, ib_45_90, ib_0_64]
