/-! the model: a new envoy, numbers, worth, the rule's text, the digest -/
/-- those who aren't there yet have weight 1 -/
def q_w1 (S : e_H) : Prop := ∀ s k, s < 2 → q_c S s ≤ k → k < 5 → e_gI S (q_x s k + 10) 1 = 1
/-- the model's new envoy: the first w of his numbers -/
def q_Men (S h g : e_H) (s w : Nat) : Prop := e_fr [41] h g ∧ (∀ x, x < w → e_gI g 41 (9 * q_x s (q_c S s) + x) = if x = 8 then 0 else q_N S s 0 x) ∧ ∀ i, (¬ ∃ x, x < w ∧ i = 9 * q_x s (q_c S s) + x) → e_gI g 41 i = e_gI h 41 i
theorem e_cp_o {S : e_H} {a b n o : Nat} (h : o ≠ b) : e_gI (e_cp S a b n) o = e_gI S o := funext fun k => by rw [e_gI_cp, if_neg (fun q => h q.1)]
theorem q_env_o {S : e_H} {s o : Nat} (h1 : o ≠ 1) (h2 : o ≠ q_x s (q_c S s) + 20) : e_gI (q_env S s) o = e_gI S o := by
  unfold q_env
  rw [e_pI_o h2, e_cp_o h2, e_pI_o h1]
theorem q_env_1 {S : e_H} {s t : Nat} : e_gI (q_env S s) 1 t = if t = s then nI (q_c S s + 1) else e_gI S 1 t := by
  unfold q_env
  rw [e_pI_o (by omega), e_cp_o (by omega), e_gI_pI]
  simp only [true_and]
theorem q_env_N {S : e_H} {s x : Nat} (hx : x < 9) : e_gI (q_env S s) (q_x s (q_c S s) + 20) x = if x = 8 then 0 else q_N S s 0 x := by
  unfold q_env q_N
  rw [e_gI_pI, e_gI_cp]
  by_cases c : x = 8
  · rw [if_pos ⟨rfl, c⟩, if_pos c]
  · rw [if_neg (fun q => c q.2), if_neg c, if_pos ⟨rfl, hx⟩, e_pI_o (by omega)]
theorem q_env_J {S : e_H} {s o k : Nat} : e_gJ (q_env S s) o k = e_gJ S o k := by
  unfold q_env
  rw [e_gJ_pI, e_gJ_cp, e_gJ_pI]
theorem q_env_c {S : e_H} {s t : Nat} (hS : q_ok S) (ht : t < 2) : q_c (q_env S s) t = if t = s then q_c S s + 1 else q_c S t := by
  unfold q_c
  rw [q_env_1]
  have := (hS.c ht).2.2
  split
  · rename_i e
    subst e
    exact nI_clamp (by omega)
  · rfl
set_option maxRecDepth 100000 in
theorem r_M_envoy {d s : Nat} {S h : e_H} (hS : q_ok S) (hw1 : q_w1 S) (hM : q_M S h) (hs : s < 2) (hc : q_c S s < 5) : ∃ f, e_X e_pg (d + 3) 90 [.ref 40, .int (nI s)] h = some (some (.int (nI (q_c S s))), f) ∧ q_M (q_env S s) f ∧ e_fr q_lM h f := by
  have ec := hM.c hS hs
  have cc := (hS.c hs).2
  have hib : e_inb (nI s) 2 = true := e_inb_nI hs (by decide)
  have hcl : (nI s).toNatClampNeg = s := nI_clamp (by omega)
  have h5 : ¬ nI (q_c S s) = 5 := by rw [show (5 : Int32) = nI 5 from rfl, nI_eq (by omega) (by decide)]; omega
  have hx := q_x_lt hs hc
  have hx0 := q_x_lt hs (show 0 < 5 by decide)
  have hne : q_x s 0 ≠ q_x s (q_c S s) := by unfold q_x; omega
  rw [xX4_envoy]
  simp only [zX4_envoy_0, zX4_envoy_1, zX4_envoy_4, zX4_envoy_7, zX4_envoy_9, zX4_envoy_10, zX4_envoy_11, zX4_envoy_14, zX4_envoy_15, zX4_envoy_16, zX4_envoy_17, zX4_envoy_18, zX4_envoy_19, zX4_envoy_22, zX4_envoy_24, zX4_envoy_25, zX4_envoy_26, r_M_isSide, p_side_yes hs, hib, hcl, ec, h5, ne_0_1, ne_0_2, ne_0_3, ne_1_0, ne_1_2, ne_1_3, ne_2_0, ne_2_1, ne_2_3, ne_3_0, ne_3_1, ne_3_2, not_false_eq_true, e_k_int, e_k_ref, e_k_null, e_k_long, e_k_ret, e_cats_nil, e_cats_int, e_cats_ref, e_cats_ret, e_cats_long, Option.toList_some, Option.toList_none, List.nil_append, List.cons_append, Option.bind_some, Nat.reduceAdd, Nat.reduceLeDiff, Nat.add_zero, if_true, if_false, true_and, and_true, and_self, Int32.reduceToNatClampNeg, ok_1, ok_2, ok_3, ok_4, ok_5, ok_6, ok_7, ok_8, ok_9, ok_30, ok_31, ok_32, ok_33, ok_34, ok_35, ok_36, ok_37, ok_38, ok_39, ok_40, ok_41, ok_42, ok_43, ok_44, ok_45, ok_46, ok_47, ok_48, ok_49, ok_50, ok_51, ok_52, ln_1, ln_2, ln_4, ln_5, ln_6, ln_7, ln_8, ln_30, ln_31, ln_32, ln_33, ln_34, ln_35, ln_36, ln_37, ln_38, ln_39, ln_41, ln_42, ln_43, ln_44, ln_45, ln_46, ln_47, ln_48, ln_49, ln_50, ln_51, ln_52]
  obtain ⟨ls2, f, e, rfl, hF, hN, hO⟩ := f_lp (cd := kX4_envoy) (O := e_X e_pg (d + 2)) (pc := 27) (fun w ls g => ls = [.ref 40, .int (nI s), .int (nI (q_c S s)), .int (nI w)] ∧ q_Men S h g s w) (Nat.zero_le 9) (by
    rintro w ls g - hw ⟨rfl, hF, hN, hO⟩
    have hc9 : ¬ 9 ≤ nI w := by rw [show (9 : Int32) = nI 9 from rfl]; exact nI_ge hw (by decide)
    have hb : e_inb (nI (9 * q_x s (q_c S s) + w)) 90 = true := e_inb_nI (by omega) (by decide)
    have hl : (nI (9 * q_x s (q_c S s) + w)).toNatClampNeg = 9 * q_x s (q_c S s) + w := nI_clamp (by omega)
    have step : ∀ v, v = (if w = 8 then (0 : Int32) else q_N S s 0 w) → q_Men S h (e_pI g 41 (9 * q_x s (q_c S s) + w) v) s (w + 1) := fun v hv => by
      refine ⟨hF.pI (by simp), fun x hx => ?_, fun i hi => ?_⟩
      · rw [e_gI_pI]
        by_cases c : x = w
        · subst c
          rw [if_pos ⟨rfl, rfl⟩, hv]
        · rw [if_neg (by omega)]
          exact hN x (by omega)
      · rw [e_gI_pI, if_neg (fun q => hi ⟨w, by omega, q.2⟩)]
        exact hO i (fun ⟨x, h1, h2⟩ => hi ⟨x, by omega, h2⟩)
    rw [zX4_envoy_27]
    by_cases c8 : w = 8
    · subst c8
      have e8 : ¬ ¬ nI 8 = 8 := by decide
      simp only [zX4_envoy_28, zX4_envoy_30, zX4_envoy_33, zX4_envoy_34, zX4_envoy_37, zX4_envoy_39, zX4_envoy_40, zX4_envoy_41, zX4_envoy_43, zX4_envoy_44, zX4_envoy_45, zX4_envoy_46, zX4_envoy_47, zX4_envoy_48, zX4_envoy_49, zX4_envoy_51, zX4_envoy_54, zX4_envoy_55, zX4_envoy_58, zX4_envoy_59, zX4_envoy_60, zX4_envoy_61, zX4_envoy_62, zX4_envoy_65, zX4_envoy_66, zX4_envoy_69, hc9, q_at, nI_add, hb, hl, e8, nI_1, e_k_int, e_k_ref, e_k_null, e_k_long, e_k_ret, e_cats_nil, e_cats_int, e_cats_ref, e_cats_ret, e_cats_long, Option.toList_some, Option.toList_none, List.nil_append, List.cons_append, Option.bind_some, Nat.reduceAdd, Nat.reduceLeDiff, Nat.add_zero, if_true, if_false, true_and, and_true, and_self, Int32.reduceToNatClampNeg, ok_1, ok_2, ok_3, ok_4, ok_5, ok_6, ok_7, ok_8, ok_9, ok_30, ok_31, ok_32, ok_33, ok_34, ok_35, ok_36, ok_37, ok_38, ok_39, ok_40, ok_41, ok_42, ok_43, ok_44, ok_45, ok_46, ok_47, ok_48, ok_49, ok_50, ok_51, ok_52, ln_1, ln_2, ln_4, ln_5, ln_6, ln_7, ln_8, ln_30, ln_31, ln_32, ln_33, ln_34, ln_35, ln_36, ln_37, ln_38, ln_39, ln_41, ln_42, ln_43, ln_44, ln_45, ln_46, ln_47, ln_48, ln_49, ln_50, ln_51, ln_52]
      exact ⟨_, _, rfl, rfl, step _ rfl⟩
    · have e8 : ¬ nI w = 8 := by rw [show (8 : Int32) = nI 8 from rfl, nI_eq (by omega) (by decide)]; exact c8
      have off : e_gI g 41 (9 * (5 * s + 0) + w) = q_N S s 0 w := by
        rw [hO _ (by
          rintro ⟨x, h1, h2⟩
          unfold q_x at h2 hne
          omega)]
        exact hM.N hs (show 0 < 5 by decide) hw
      have of := r_M_of (d := d + 1) (s := s) (k := 0) (w := w) (a := nI s) (b := 0) (c := nI w) (h := g) rfl rfl rfl hs (by decide) hw
      rw [off] at of
      simp only [zX4_envoy_28, zX4_envoy_30, zX4_envoy_33, zX4_envoy_34, zX4_envoy_37, zX4_envoy_39, zX4_envoy_40, zX4_envoy_41, zX4_envoy_43, zX4_envoy_44, zX4_envoy_45, zX4_envoy_46, zX4_envoy_47, zX4_envoy_48, zX4_envoy_49, zX4_envoy_51, zX4_envoy_54, zX4_envoy_55, zX4_envoy_58, zX4_envoy_59, zX4_envoy_60, zX4_envoy_61, zX4_envoy_62, zX4_envoy_65, zX4_envoy_66, zX4_envoy_69, hc9, q_at, nI_add, hb, hl, e8, of, nI_1, not_false_eq_true, e_k_int, e_k_ref, e_k_null, e_k_long, e_k_ret, e_cats_nil, e_cats_int, e_cats_ref, e_cats_ret, e_cats_long, Option.toList_some, Option.toList_none, List.nil_append, List.cons_append, Option.bind_some, Nat.reduceAdd, Nat.reduceLeDiff, Nat.add_zero, if_true, if_false, true_and, and_true, and_self, Int32.reduceToNatClampNeg, ok_1, ok_2, ok_3, ok_4, ok_5, ok_6, ok_7, ok_8, ok_9, ok_30, ok_31, ok_32, ok_33, ok_34, ok_35, ok_36, ok_37, ok_38, ok_39, ok_40, ok_41, ok_42, ok_43, ok_44, ok_45, ok_46, ok_47, ok_48, ok_49, ok_50, ok_51, ok_52, ln_1, ln_2, ln_4, ln_5, ln_6, ln_7, ln_8, ln_30, ln_31, ln_32, ln_33, ln_34, ln_35, ln_36, ln_37, ln_38, ln_39, ln_41, ln_42, ln_43, ln_44, ln_45, ln_46, ln_47, ln_48, ln_49, ln_50, ln_51, ln_52]
      exact ⟨_, _, rfl, rfl, step _ (by rw [if_neg c8])⟩) (ls := [.ref 40, .int (nI s), .int (nI (q_c S s)), .int 0]) (h := h) ⟨rfl, e_fr.refl _ _, fun x hx => by omega, fun i _ => rfl⟩
  have hc9 : (9 : Int32) ≤ nI 9 := by decide
  have hb2 : e_inb (nI (5 * s + q_c S s)) 10 = true := e_inb_nI (by omega) (by decide)
  have hl2 : (nI (5 * s + q_c S s)).toNatClampNeg = q_x s (q_c S s) := nI_clamp (by omega)
  have ec2 : e_gI f 43 s = nI (q_c S s) := by rw [hF.1 43 s (by simp)]; exact ec
  refine ⟨e_pI (e_pI f 42 (q_x s (q_c S s)) 1) 43 s (nI (q_c S s + 1)), ?_, ?_, (((hF.mono (fun o ho => by simp at ho ⊢; omega)).pI (by simp)).pI (by simp))⟩
  · rw [e, zX4_envoy_27]
    simp only [zX4_envoy_28, zX4_envoy_30, zX4_envoy_72, zX4_envoy_73, zX4_envoy_76, zX4_envoy_77, zX4_envoy_78, zX4_envoy_79, zX4_envoy_80, zX4_envoy_81, zX4_envoy_82, zX4_envoy_83, zX4_envoy_84, zX4_envoy_87, zX4_envoy_88, zX4_envoy_89, zX4_envoy_90, zX4_envoy_91, zX4_envoy_92, zX4_envoy_93, zX4_envoy_94, hc9, q_cellM, hb2, hl2, hib, hcl, e_gI_pI, Nat.reduceEqDiff, false_and, ec2, nI_1, e_k_int, e_k_ref, e_k_null, e_k_long, e_k_ret, e_cats_nil, e_cats_int, e_cats_ref, e_cats_ret, e_cats_long, Option.toList_some, Option.toList_none, List.nil_append, List.cons_append, Option.bind_some, Nat.reduceAdd, Nat.reduceLeDiff, Nat.add_zero, if_true, if_false, true_and, and_true, and_self, Int32.reduceToNatClampNeg, ok_1, ok_2, ok_3, ok_4, ok_5, ok_6, ok_7, ok_8, ok_9, ok_30, ok_31, ok_32, ok_33, ok_34, ok_35, ok_36, ok_37, ok_38, ok_39, ok_40, ok_41, ok_42, ok_43, ok_44, ok_45, ok_46, ok_47, ok_48, ok_49, ok_50, ok_51, ok_52, ln_1, ln_2, ln_4, ln_5, ln_6, ln_7, ln_8, ln_30, ln_31, ln_32, ln_33, ln_34, ln_35, ln_36, ln_37, ln_38, ln_39, ln_41, ln_42, ln_43, ln_44, ln_45, ln_46, ln_47, ln_48, ln_49, ln_50, ln_51, ln_52]
  · obtain ⟨a, b1, c1, e1, g1⟩ := hM
    refine ⟨?_, fun t ht => ?_, fun t n x ht hn hx2 => ?_, fun t n ht hn => ?_, fun n => ?_⟩
    · rw [e_pI_o (show 40 ≠ 43 by decide), e_pI_o (show 40 ≠ 42 by decide), hF.I (show 40 ∉ [41] by simp), q_env_o (show 0 ≠ 1 by decide) (by omega), q_env_o (show 3 ≠ 1 by decide) (by omega)]
      simp only [e_gJ_pI, q_env_J]
      rw [hF.2 40 11 (by simp), hF.2 40 12 (by simp)]
      exact a
    · rw [e_gI_pI, q_env_1]
      by_cases c : t = s
      · rw [if_pos ⟨rfl, c⟩, if_pos c]
      · rw [if_neg (fun q => c q.2), if_neg c, e_pI_o (by decide), hF.I (show 43 ∉ [41] by simp)]
        exact b1 t ht
    · rw [e_pI_o (show 41 ≠ 43 by decide), e_pI_o (show 41 ≠ 42 by decide)]
      unfold q_N
      by_cases c : q_x t n = q_x s (q_c S s)
      · rw [c, q_env_N hx2]
        exact hN x hx2
      · rw [q_env_o (by omega) (by omega), hO _ (by rintro ⟨y, h1, h2⟩; omega)]
        exact c1 t n x ht hn hx2
    · rw [e_pI_o (show 42 ≠ 43 by decide), e_gI_pI]
      rw [q_env_c hS ht] at hn
      have hn5 : n < 5 := by
        have := (hS.c ht).2.2
        split at hn <;> omega
      have hxn := q_x_lt ht hn5
      rw [q_env_o (by omega) (by omega)]
      by_cases c : q_x t n = q_x s (q_c S s)
      · have c2 := (q_x_inj hn5 hc).mp c
        rw [if_pos ⟨rfl, c⟩, hw1 t n ht (by rw [c2.1, c2.2]; exact Nat.le_refl _) hn5]
      · rw [if_neg (fun q => c q.2), hF.1 42 _ (by simp)]
        refine e1 t n ht ?_
        split at hn
        · rename_i q
          subst q
          have : n ≠ q_c S t := fun q => c (by rw [q])
          omega
        · exact hn
    · rw [e_pI_o (show 44 ≠ 43 by decide), e_pI_o (show 44 ≠ 42 by decide), hF.I (show 44 ∉ [41] by simp), q_env_o (show 4 ≠ 1 by decide) (by omega)]
      exact g1 n
theorem r_M_envoy_full {d s : Nat} {S h : e_H} (hS : q_ok S) (hM : q_M S h) (hs : s < 2) (hc : ¬ q_c S s < 5) : e_X e_pg (d + 3) 90 [.ref 40, .int (nI s)] h = some (some (.int (-4)), h) := by
  have ec := hM.c hS hs
  have cc := (hS.c hs).2
  have e5 : q_c S s = 5 := by omega
  rw [e5] at ec
  have hib : e_inb (nI s) 2 = true := e_inb_nI hs (by decide)
  have hcl : (nI s).toNatClampNeg = s := nI_clamp (by omega)
  have h5 : ¬ ¬ nI 5 = 5 := by decide
  rw [xX4_envoy]
  simp only [zX4_envoy_0, zX4_envoy_1, zX4_envoy_4, zX4_envoy_7, zX4_envoy_9, zX4_envoy_10, zX4_envoy_11, zX4_envoy_14, zX4_envoy_15, zX4_envoy_16, zX4_envoy_17, zX4_envoy_18, zX4_envoy_19, zX4_envoy_22, zX4_envoy_24, zX4_envoy_25, zX4_envoy_26, r_M_isSide, p_side_yes hs, hib, hcl, ec, h5, ne_0_1, ne_0_2, ne_0_3, ne_1_0, ne_1_2, ne_1_3, ne_2_0, ne_2_1, ne_2_3, ne_3_0, ne_3_1, ne_3_2, not_false_eq_true, e_k_int, e_k_ref, e_k_null, e_k_long, e_k_ret, e_cats_nil, e_cats_int, e_cats_ref, e_cats_ret, e_cats_long, Option.toList_some, Option.toList_none, List.nil_append, List.cons_append, Option.bind_some, Nat.reduceAdd, Nat.reduceLeDiff, Nat.add_zero, if_true, if_false, true_and, and_true, and_self, Int32.reduceToNatClampNeg, ok_1, ok_2, ok_3, ok_4, ok_5, ok_6, ok_7, ok_8, ok_9, ok_30, ok_31, ok_32, ok_33, ok_34, ok_35, ok_36, ok_37, ok_38, ok_39, ok_40, ok_41, ok_42, ok_43, ok_44, ok_45, ok_46, ok_47, ok_48, ok_49, ok_50, ok_51, ok_52, ln_1, ln_2, ln_4, ln_5, ln_6, ln_7, ln_8, ln_30, ln_31, ln_32, ln_33, ln_34, ln_35, ln_36, ln_37, ln_38, ln_39, ln_41, ln_42, ln_43, ln_44, ln_45, ln_46, ln_47, ln_48, ln_49, ln_50, ln_51, ln_52]
theorem r_M_envoy_no {d : Nat} {S : e_H} {a : Int32} (h : ¬ ∃ s, s < 2 ∧ a = nI s) : e_X e_pg (d + 3) 90 [.ref 40, .int a] S = some (some (.int (-2)), S) := by
  rw [xX4_envoy]
  simp only [zX4_envoy_0, zX4_envoy_1, zX4_envoy_4, zX4_envoy_7, zX4_envoy_9, r_M_isSide, p_side_no h, not_true_eq_false, e_k_int, e_k_ref, e_k_null, e_k_long, e_k_ret, e_cats_nil, e_cats_int, e_cats_ref, e_cats_ret, e_cats_long, Option.toList_some, Option.toList_none, List.nil_append, List.cons_append, Option.bind_some, Nat.reduceAdd, Nat.reduceLeDiff, Nat.add_zero, if_true, if_false, true_and, and_true, and_self, Int32.reduceToNatClampNeg]
/-! numbers -/
theorem p_in_01 (v a b : Int32) : (if v < a then (0 : Int32) else if b < v then 0 else 1) = 0 ∨ (if v < a then (0 : Int32) else if b < v then 0 else 1) = 1 := by
  repeat' split
  all_goals simp
theorem r_M_isNumber {d w : Nat} {v : Int32} {h : e_H} (hw : w < 9) : e_X e_pg (d + 2) 91 [.int (nI w), .int v] h = some (some (.int (if v < e_lo w then 0 else if e_hi w < v then 0 else 1)), h) := by
  have a60 := fun g : e_H => r_in32 (d := d) (v := v) (k := 0) (m := 60) (a := 0) (b := 60) (h := g) rfl rfl
  have a24 := fun g : e_H => r_in32 (d := d) (v := v) (k := 0) (m := 24) (a := 0) (b := 24) (h := g) rfl rfl
  have a200 := fun g : e_H => r_in32 (d := d) (v := v) (k := 0) (m := 200) (a := 0) (b := 200) (h := g) rfl rfl
  have a500 := fun g : e_H => r_in32 (d := d) (v := v) (k := -500) (m := 500) (a := -500) (b := 500) (h := g) rfl rfl
  rw [xX4_isNumber, zX4_isNumber_0, zX4_isNumber_1]
  rcases (show w = 0 ∨ w = 1 ∨ w = 2 ∨ w = 3 ∨ w = 4 ∨ w = 5 ∨ w = 6 ∨ w = 7 ∨ w = 8 by omega) with rfl | rfl | rfl | rfl | rfl | rfl | rfl | rfl | rfl
  · rw [if_pos (by decide)]
    simp only [zX4_isNumber_52, zX4_isNumber_53, zX4_isNumber_54, zX4_isNumber_55, zX4_isNumber_58, zX4_isNumber_61, zX4_isNumber_62, zX4_isNumber_63, zX4_isNumber_64, zX4_isNumber_65, zX4_isNumber_68, zX4_isNumber_71, zX4_isNumber_72, zX4_isNumber_73, zX4_isNumber_74, zX4_isNumber_75, zX4_isNumber_78, zX4_isNumber_81, zX4_isNumber_82, zX4_isNumber_83, zX4_isNumber_84, zX4_isNumber_87, zX4_isNumber_90, zX4_isNumber_93, a60, p_in_01, e_k_int, e_k_ref, e_k_null, e_k_long, e_k_ret, e_cats_nil, e_cats_int, e_cats_ref, e_cats_ret, e_cats_long, Option.toList_some, Option.toList_none, List.nil_append, List.cons_append, Option.bind_some, Nat.reduceAdd, Nat.reduceLeDiff, Nat.add_zero, if_true, if_false, true_and, and_true, and_self, Int32.reduceToNatClampNeg]
    rfl
  · rw [if_neg (by decide), if_pos (by decide)]
    simp only [zX4_isNumber_52, zX4_isNumber_53, zX4_isNumber_54, zX4_isNumber_55, zX4_isNumber_58, zX4_isNumber_61, zX4_isNumber_62, zX4_isNumber_63, zX4_isNumber_64, zX4_isNumber_65, zX4_isNumber_68, zX4_isNumber_71, zX4_isNumber_72, zX4_isNumber_73, zX4_isNumber_74, zX4_isNumber_75, zX4_isNumber_78, zX4_isNumber_81, zX4_isNumber_82, zX4_isNumber_83, zX4_isNumber_84, zX4_isNumber_87, zX4_isNumber_90, zX4_isNumber_93, a24, p_in_01, e_k_int, e_k_ref, e_k_null, e_k_long, e_k_ret, e_cats_nil, e_cats_int, e_cats_ref, e_cats_ret, e_cats_long, Option.toList_some, Option.toList_none, List.nil_append, List.cons_append, Option.bind_some, Nat.reduceAdd, Nat.reduceLeDiff, Nat.add_zero, if_true, if_false, true_and, and_true, and_self, Int32.reduceToNatClampNeg]
    rfl
  · rw [if_neg (by decide), if_neg (by decide), if_pos (by decide)]
    simp only [zX4_isNumber_52, zX4_isNumber_53, zX4_isNumber_54, zX4_isNumber_55, zX4_isNumber_58, zX4_isNumber_61, zX4_isNumber_62, zX4_isNumber_63, zX4_isNumber_64, zX4_isNumber_65, zX4_isNumber_68, zX4_isNumber_71, zX4_isNumber_72, zX4_isNumber_73, zX4_isNumber_74, zX4_isNumber_75, zX4_isNumber_78, zX4_isNumber_81, zX4_isNumber_82, zX4_isNumber_83, zX4_isNumber_84, zX4_isNumber_87, zX4_isNumber_90, zX4_isNumber_93, a200, p_in_01, e_k_int, e_k_ref, e_k_null, e_k_long, e_k_ret, e_cats_nil, e_cats_int, e_cats_ref, e_cats_ret, e_cats_long, Option.toList_some, Option.toList_none, List.nil_append, List.cons_append, Option.bind_some, Nat.reduceAdd, Nat.reduceLeDiff, Nat.add_zero, if_true, if_false, true_and, and_true, and_self, Int32.reduceToNatClampNeg]
    rfl
  · rw [if_neg (by decide), if_neg (by decide), if_neg (by decide), if_pos (by decide)]
    simp only [zX4_isNumber_52, zX4_isNumber_53, zX4_isNumber_54, zX4_isNumber_55, zX4_isNumber_58, zX4_isNumber_61, zX4_isNumber_62, zX4_isNumber_63, zX4_isNumber_64, zX4_isNumber_65, zX4_isNumber_68, zX4_isNumber_71, zX4_isNumber_72, zX4_isNumber_73, zX4_isNumber_74, zX4_isNumber_75, zX4_isNumber_78, zX4_isNumber_81, zX4_isNumber_82, zX4_isNumber_83, zX4_isNumber_84, zX4_isNumber_87, zX4_isNumber_90, zX4_isNumber_93, a60, p_in_01, e_k_int, e_k_ref, e_k_null, e_k_long, e_k_ret, e_cats_nil, e_cats_int, e_cats_ref, e_cats_ret, e_cats_long, Option.toList_some, Option.toList_none, List.nil_append, List.cons_append, Option.bind_some, Nat.reduceAdd, Nat.reduceLeDiff, Nat.add_zero, if_true, if_false, true_and, and_true, and_self, Int32.reduceToNatClampNeg]
    rfl
  · rw [if_neg (by decide), if_neg (by decide), if_neg (by decide), if_neg (by decide), if_pos (by decide)]
    simp only [zX4_isNumber_52, zX4_isNumber_53, zX4_isNumber_54, zX4_isNumber_55, zX4_isNumber_58, zX4_isNumber_61, zX4_isNumber_62, zX4_isNumber_63, zX4_isNumber_64, zX4_isNumber_65, zX4_isNumber_68, zX4_isNumber_71, zX4_isNumber_72, zX4_isNumber_73, zX4_isNumber_74, zX4_isNumber_75, zX4_isNumber_78, zX4_isNumber_81, zX4_isNumber_82, zX4_isNumber_83, zX4_isNumber_84, zX4_isNumber_87, zX4_isNumber_90, zX4_isNumber_93, a500, p_in_01, e_k_int, e_k_ref, e_k_null, e_k_long, e_k_ret, e_cats_nil, e_cats_int, e_cats_ref, e_cats_ret, e_cats_long, Option.toList_some, Option.toList_none, List.nil_append, List.cons_append, Option.bind_some, Nat.reduceAdd, Nat.reduceLeDiff, Nat.add_zero, if_true, if_false, true_and, and_true, and_self, Int32.reduceToNatClampNeg]
    rfl
  · rw [if_neg (by decide), if_neg (by decide), if_neg (by decide), if_neg (by decide), if_neg (by decide), if_pos (by decide)]
    simp only [zX4_isNumber_52, zX4_isNumber_53, zX4_isNumber_54, zX4_isNumber_55, zX4_isNumber_58, zX4_isNumber_61, zX4_isNumber_62, zX4_isNumber_63, zX4_isNumber_64, zX4_isNumber_65, zX4_isNumber_68, zX4_isNumber_71, zX4_isNumber_72, zX4_isNumber_73, zX4_isNumber_74, zX4_isNumber_75, zX4_isNumber_78, zX4_isNumber_81, zX4_isNumber_82, zX4_isNumber_83, zX4_isNumber_84, zX4_isNumber_87, zX4_isNumber_90, zX4_isNumber_93, a24, p_in_01, e_k_int, e_k_ref, e_k_null, e_k_long, e_k_ret, e_cats_nil, e_cats_int, e_cats_ref, e_cats_ret, e_cats_long, Option.toList_some, Option.toList_none, List.nil_append, List.cons_append, Option.bind_some, Nat.reduceAdd, Nat.reduceLeDiff, Nat.add_zero, if_true, if_false, true_and, and_true, and_self, Int32.reduceToNatClampNeg]
    rfl
  · rw [if_neg (by decide), if_neg (by decide), if_neg (by decide), if_neg (by decide), if_neg (by decide), if_neg (by decide), if_pos (by decide)]
    simp only [zX4_isNumber_52, zX4_isNumber_53, zX4_isNumber_54, zX4_isNumber_55, zX4_isNumber_58, zX4_isNumber_61, zX4_isNumber_62, zX4_isNumber_63, zX4_isNumber_64, zX4_isNumber_65, zX4_isNumber_68, zX4_isNumber_71, zX4_isNumber_72, zX4_isNumber_73, zX4_isNumber_74, zX4_isNumber_75, zX4_isNumber_78, zX4_isNumber_81, zX4_isNumber_82, zX4_isNumber_83, zX4_isNumber_84, zX4_isNumber_87, zX4_isNumber_90, zX4_isNumber_93, a24, p_in_01, e_k_int, e_k_ref, e_k_null, e_k_long, e_k_ret, e_cats_nil, e_cats_int, e_cats_ref, e_cats_ret, e_cats_long, Option.toList_some, Option.toList_none, List.nil_append, List.cons_append, Option.bind_some, Nat.reduceAdd, Nat.reduceLeDiff, Nat.add_zero, if_true, if_false, true_and, and_true, and_self, Int32.reduceToNatClampNeg]
    rfl
  · rw [if_neg (by decide), if_neg (by decide), if_neg (by decide), if_neg (by decide), if_neg (by decide), if_neg (by decide), if_neg (by decide), if_pos (by decide)]
    simp only [zX4_isNumber_52, zX4_isNumber_53, zX4_isNumber_54, zX4_isNumber_55, zX4_isNumber_58, zX4_isNumber_61, zX4_isNumber_62, zX4_isNumber_63, zX4_isNumber_64, zX4_isNumber_65, zX4_isNumber_68, zX4_isNumber_71, zX4_isNumber_72, zX4_isNumber_73, zX4_isNumber_74, zX4_isNumber_75, zX4_isNumber_78, zX4_isNumber_81, zX4_isNumber_82, zX4_isNumber_83, zX4_isNumber_84, zX4_isNumber_87, zX4_isNumber_90, zX4_isNumber_93, a60, p_in_01, e_k_int, e_k_ref, e_k_null, e_k_long, e_k_ret, e_cats_nil, e_cats_int, e_cats_ref, e_cats_ret, e_cats_long, Option.toList_some, Option.toList_none, List.nil_append, List.cons_append, Option.bind_some, Nat.reduceAdd, Nat.reduceLeDiff, Nat.add_zero, if_true, if_false, true_and, and_true, and_self, Int32.reduceToNatClampNeg]
    rfl
  · rw [if_neg (by decide), if_neg (by decide), if_neg (by decide), if_neg (by decide), if_neg (by decide), if_neg (by decide), if_neg (by decide), if_neg (by decide), if_pos (by decide)]
    simp only [zX4_isNumber_52, zX4_isNumber_53, zX4_isNumber_54, zX4_isNumber_55, zX4_isNumber_58, zX4_isNumber_61, zX4_isNumber_62, zX4_isNumber_63, zX4_isNumber_64, zX4_isNumber_65, zX4_isNumber_68, zX4_isNumber_71, zX4_isNumber_72, zX4_isNumber_73, zX4_isNumber_74, zX4_isNumber_75, zX4_isNumber_78, zX4_isNumber_81, zX4_isNumber_82, zX4_isNumber_83, zX4_isNumber_84, zX4_isNumber_87, zX4_isNumber_90, zX4_isNumber_93, a200, p_in_01, e_k_int, e_k_ref, e_k_null, e_k_long, e_k_ret, e_cats_nil, e_cats_int, e_cats_ref, e_cats_ret, e_cats_long, Option.toList_some, Option.toList_none, List.nil_append, List.cons_append, Option.bind_some, Nat.reduceAdd, Nat.reduceLeDiff, Nat.add_zero, if_true, if_false, true_and, and_true, and_self, Int32.reduceToNatClampNeg]
    rfl
theorem r_M_isNumber_no {d : Nat} {w v : Int32} {h : e_H} (hn : ¬ q_num w v) : e_X e_pg (d + 2) 91 [.int w, .int v] h = some (some (.int 0), h) := by
  by_cases c : ∃ x, x < 9 ∧ w = nI x
  · obtain ⟨x, hx, rfl⟩ := c
    rw [r_M_isNumber hx]
    have : (if v < e_lo x then (0 : Int32) else if e_hi x < v then 0 else 1) = 0 := by
      by_cases c1 : v < e_lo x
      · rw [if_pos c1]
      · rw [if_neg c1, if_pos (Int32.not_le.mp (fun z => hn ⟨x, hx, rfl, c1, z⟩))]
    rw [this]
  · have n : ∀ x, x < 9 → ¬ w = nI x := fun x hx e => c ⟨x, hx, e⟩
    have n0 : ¬ w = 0 := n 0 (by decide)
    have n1 : ¬ w = 1 := n 1 (by decide)
    have n2 : ¬ w = 2 := n 2 (by decide)
    have n3 : ¬ w = 3 := n 3 (by decide)
    have n4 : ¬ w = 4 := n 4 (by decide)
    have n5 : ¬ w = 5 := n 5 (by decide)
    have n6 : ¬ w = 6 := n 6 (by decide)
    have n7 : ¬ w = 7 := n 7 (by decide)
    have n8 : ¬ w = 8 := n 8 (by decide)
    rw [xX4_isNumber]
    simp only [zX4_isNumber_0, zX4_isNumber_1, zX4_isNumber_94, zX4_isNumber_95, n0, n1, n2, n3, n4, n5, n6, n7, n8, true_or, e_k_int, e_k_ref, e_k_null, e_k_long, e_k_ret, e_cats_nil, e_cats_int, e_cats_ref, e_cats_ret, e_cats_long, Option.toList_some, Option.toList_none, List.nil_append, List.cons_append, Option.bind_some, Nat.reduceAdd, Nat.reduceLeDiff, Nat.add_zero, if_true, if_false, true_and, and_true, and_self, Int32.reduceToNatClampNeg]
theorem r_M_put {d s k w : Nat} {S h : e_H} {v : Int32} (hS : q_ok S) (hM : q_M S h) (hs : s < 2) (hk : k < q_c S s) (hw : w < 9) (h1 : ¬ v < e_lo w) (h2 : v ≤ e_hi w) : e_X e_pg (d + 4) 92 [.ref 40, .int (nI s), .int (nI k), .int (nI w), .int v] h = some (some (.int (q_N S s k w)), e_pI h 41 (9 * q_x s k + w) v) := by
  have cs := (hS.c hs).2
  have hk5 : k < 5 := by omega
  have hx := q_x_lt hs hk5
  have hib : e_inb (nI (9 * q_x s k + w)) 90 = true := e_inb_nI (by omega) (by decide)
  have hcl : (nI (9 * q_x s k + w)).toNatClampNeg = 9 * q_x s k + w := nI_clamp (by omega)
  have h3 : ¬ e_hi w < v := Int32.not_lt.mpr h2
  have isn := fun g => r_M_isNumber (d := d + 1) (v := v) (h := g) hw
  simp only [h1, h3, if_false] at isn
  rw [xX4_put]
  simp only [zX4_put_0, zX4_put_1, zX4_put_2, zX4_put_3, zX4_put_6, zX4_put_9, zX4_put_10, zX4_put_12, zX4_put_15, zX4_put_18, zX4_put_21, zX4_put_22, zX4_put_23, zX4_put_24, zX4_put_25, zX4_put_26, zX4_put_29, zX4_put_31, zX4_put_32, zX4_put_35, zX4_put_37, zX4_put_38, zX4_put_39, zX4_put_41, zX4_put_42, zX4_put_43, zX4_put_44, zX4_put_45, zX4_put_46, zX4_put_48, zX4_put_49, zX4_put_51, r_M_isMan hS hM, p_isE_yes hS hs hk, isn, r_Mof (s := s) (k := k) (w := w) (a := nI s) (b := nI k) (c := nI w) hM rfl rfl rfl hs hk5 hw, q_at, nI_add, hib, hcl, ne_0_1, ne_0_2, ne_0_3, ne_1_0, ne_1_2, ne_1_3, ne_2_0, ne_2_1, ne_2_3, ne_3_0, ne_3_1, ne_3_2, not_false_eq_true, e_k_int, e_k_ref, e_k_null, e_k_long, e_k_ret, e_cats_nil, e_cats_int, e_cats_ref, e_cats_ret, e_cats_long, Option.toList_some, Option.toList_none, List.nil_append, List.cons_append, Option.bind_some, Nat.reduceAdd, Nat.reduceLeDiff, Nat.add_zero, if_true, if_false, true_and, and_true, and_self, Int32.reduceToNatClampNeg, ok_1, ok_2, ok_3, ok_4, ok_5, ok_6, ok_7, ok_8, ok_9, ok_30, ok_31, ok_32, ok_33, ok_34, ok_35, ok_36, ok_37, ok_38, ok_39, ok_40, ok_41, ok_42, ok_43, ok_44, ok_45, ok_46, ok_47, ok_48, ok_49, ok_50, ok_51, ok_52, ln_1, ln_2, ln_4, ln_5, ln_6, ln_7, ln_8, ln_30, ln_31, ln_32, ln_33, ln_34, ln_35, ln_36, ln_37, ln_38, ln_39, ln_41, ln_42, ln_43, ln_44, ln_45, ln_46, ln_47, ln_48, ln_49, ln_50, ln_51, ln_52]
theorem r_M_put_no {d : Nat} {S h : e_H} {a b w v : Int32} (hS : q_ok S) (hM : q_M S h) (hh : (¬ ∃ s k, s < 2 ∧ k < q_c S s ∧ a = nI s ∧ b = nI k) ∨ ¬ q_num w v) : e_X e_pg (d + 4) 92 [.ref 40, .int a, .int b, .int w, .int v] h = some (some (.int (-1000)), h) := by
  rw [xX4_put]
  by_cases c : p_isE (e_gI S 1) a b = 0
  · simp only [zX4_put_0, zX4_put_1, zX4_put_2, zX4_put_3, zX4_put_6, zX4_put_9, zX4_put_10, zX4_put_12, zX4_put_15, zX4_put_18, zX4_put_21, r_M_isMan hS hM, c, e_k_int, e_k_ref, e_k_null, e_k_long, e_k_ret, e_cats_nil, e_cats_int, e_cats_ref, e_cats_ret, e_cats_long, Option.toList_some, Option.toList_none, List.nil_append, List.cons_append, Option.bind_some, Nat.reduceAdd, Nat.reduceLeDiff, Nat.add_zero, if_true, if_false, true_and, and_true, and_self, Int32.reduceToNatClampNeg]
  · have hh : ¬ q_num w v := hh.resolve_left (fun z => c (p_isE_no hS z))
    simp only [zX4_put_0, zX4_put_1, zX4_put_2, zX4_put_3, zX4_put_6, zX4_put_9, zX4_put_10, zX4_put_12, zX4_put_15, zX4_put_18, zX4_put_21, r_M_isMan hS hM, c, r_M_isNumber_no hh, not_true_eq_false, e_k_int, e_k_ref, e_k_null, e_k_long, e_k_ret, e_cats_nil, e_cats_int, e_cats_ref, e_cats_ret, e_cats_long, Option.toList_some, Option.toList_none, List.nil_append, List.cons_append, Option.bind_some, Nat.reduceAdd, Nat.reduceLeDiff, Nat.add_zero, if_true, if_false, true_and, and_true, and_self, Int32.reduceToNatClampNeg]
theorem r_M_worth {d s k x : Nat} {S h : e_H} (hS : q_ok S) (hM : q_M S h) (hs : s < 2) (hk : k < q_c S s) (hx : x ≤ q_n S) : e_X e_pg (d + 4) 96 [.ref 40, .int (nI s), .int (nI k), .int (nI x)] h = some (some (.int (p_worth (q_N S s k) (nI x) (nI (q_n S)))), h) := by
  have cs := (hS.c hs).2
  have hn2 := hS.n.2
  have hk5 : k < 5 := by omega
  have w1 : ¬ nI x < 0 := nI_pos (by omega)
  have w2 : ¬ nI (q_n S) < nI x := nI_nlt hx (by omega)
  rw [xX4_worth]
  simp only [zX4_worth_0, zX4_worth_1, zX4_worth_2, zX4_worth_3, zX4_worth_6, zX4_worth_9, zX4_worth_10, zX4_worth_11, zX4_worth_12, zX4_worth_13, zX4_worth_16, zX4_worth_17, zX4_worth_20, zX4_worth_23, zX4_worth_24, zX4_worth_25, zX4_worth_26, zX4_worth_27, zX4_worth_30, zX4_worth_33, zX4_worth_35, r_M_isMan hS hM, p_isE_yes hS hs hk, hM.n hS, r_in32 (v := nI x) (k := 0) (m := nI (q_n S)) (a := 0) (b := (nI (q_n S)).toInt64) rfl rfl, w1, w2, r_Mworth (s := s) (k := k) (x := x) (a := nI s) (b := nI k) (c := nI x) hS hM rfl rfl rfl hs hk5 hx, ne_0_1, ne_0_2, ne_0_3, ne_1_0, ne_1_2, ne_1_3, ne_2_0, ne_2_1, ne_2_3, ne_3_0, ne_3_1, ne_3_2, e_k_int, e_k_ref, e_k_null, e_k_long, e_k_ret, e_cats_nil, e_cats_int, e_cats_ref, e_cats_ret, e_cats_long, Option.toList_some, Option.toList_none, List.nil_append, List.cons_append, Option.bind_some, Nat.reduceAdd, Nat.reduceLeDiff, Nat.add_zero, if_true, if_false, true_and, and_true, and_self, Int32.reduceToNatClampNeg]
theorem q_eo_in {S : e_H} (hS : q_ok S) {a b x : Int32} (h : ¬ q_eo S a b x) (c : ¬ p_isE (e_gI S 1) a b = 0) : (if x < 0 then (0 : Int32) else if nI (q_n S) < x then 0 else 1) = 0 := by
  by_cases c1 : x < 0
  · rw [if_pos c1]
  · rw [if_neg c1, if_pos (Int32.not_le.mp (q_eo_no hS h c c1))]
theorem r_M_worth_no {d : Nat} {S h : e_H} {a b x : Int32} (hS : q_ok S) (hM : q_M S h) (hh : ¬ q_eo S a b x) : e_X e_pg (d + 4) 96 [.ref 40, .int a, .int b, .int x] h = some (some (.int (-100000)), h) := by
  rw [xX4_worth]
  by_cases c : p_isE (e_gI S 1) a b = 0
  · simp only [zX4_worth_0, zX4_worth_1, zX4_worth_2, zX4_worth_3, zX4_worth_6, zX4_worth_9, zX4_worth_10, zX4_worth_11, zX4_worth_12, zX4_worth_13, zX4_worth_16, zX4_worth_17, zX4_worth_20, zX4_worth_23, zX4_worth_24, zX4_worth_25, zX4_worth_26, zX4_worth_27, zX4_worth_30, zX4_worth_33, zX4_worth_35, r_M_isMan hS hM, c, e_k_int, e_k_ref, e_k_null, e_k_long, e_k_ret, e_cats_nil, e_cats_int, e_cats_ref, e_cats_ret, e_cats_long, Option.toList_some, Option.toList_none, List.nil_append, List.cons_append, Option.bind_some, Nat.reduceAdd, Nat.reduceLeDiff, Nat.add_zero, if_true, if_false, true_and, and_true, and_self, Int32.reduceToNatClampNeg]
  · simp only [zX4_worth_0, zX4_worth_1, zX4_worth_2, zX4_worth_3, zX4_worth_6, zX4_worth_9, zX4_worth_10, zX4_worth_11, zX4_worth_12, zX4_worth_13, zX4_worth_16, zX4_worth_17, zX4_worth_20, zX4_worth_23, zX4_worth_24, zX4_worth_25, zX4_worth_26, zX4_worth_27, zX4_worth_30, zX4_worth_33, zX4_worth_35, r_M_isMan hS hM, c, hM.n hS, r_in32 (v := x) (k := 0) (m := nI (q_n S)) (a := 0) (b := (nI (q_n S)).toInt64) rfl rfl, q_eo_in hS hh c, e_k_int, e_k_ref, e_k_null, e_k_long, e_k_ret, e_cats_nil, e_cats_int, e_cats_ref, e_cats_ret, e_cats_long, Option.toList_some, Option.toList_none, List.nil_append, List.cons_append, Option.bind_some, Nat.reduceAdd, Nat.reduceLeDiff, Nat.add_zero, if_true, if_false, true_and, and_true, and_self, Int32.reduceToNatClampNeg]
theorem r_M_takes {d s k x : Nat} {S h : e_H} (hS : q_ok S) (hM : q_M S h) (hs : s < 2) (hk : k < q_c S s) (hx : x ≤ q_n S) : e_X e_pg (d + 5) 97 [.ref 40, .int (nI s), .int (nI k), .int (nI x)] h = some (some (.int (q_tks S s k x)), h) := by
  have cs := (hS.c hs).2
  have hn2 := hS.n.2
  have hk5 : k < 5 := by omega
  have w1 : ¬ nI x < 0 := nI_pos (by omega)
  have w2 : ¬ nI (q_n S) < nI x := nI_nlt hx (by omega)
  have tk := r_Mtake (d := d) (s := s) (k := k) (x := x) (a := nI s) (b := nI k) (c := nI x) hS hM rfl rfl rfl hs hk5 hx
  change _ = some (some (Value.int (q_tks S s k x)), h) at tk
  rw [xX4_takes]
  rcases p_acc_01 (q_N S s k) (nI x) (p_worth (q_N S s k) (nI x) (nI (q_n S)) - q_N S s k 4) with z | z
  · change q_tks S s k x = 0 at z
    simp only [zX4_takes_0, zX4_takes_1, zX4_takes_2, zX4_takes_3, zX4_takes_6, zX4_takes_9, zX4_takes_10, zX4_takes_11, zX4_takes_12, zX4_takes_13, zX4_takes_16, zX4_takes_17, zX4_takes_20, zX4_takes_23, zX4_takes_24, zX4_takes_25, zX4_takes_26, zX4_takes_27, zX4_takes_30, zX4_takes_33, zX4_takes_34, zX4_takes_37, zX4_takes_38, zX4_takes_41, zX4_takes_43, r_M_isMan hS hM, p_isE_yes hS hs hk, hM.n hS, r_in32 (v := nI x) (k := 0) (m := nI (q_n S)) (a := 0) (b := (nI (q_n S)).toInt64) rfl rfl, w1, w2, tk, z, ne_0_1, ne_0_2, ne_0_3, ne_1_0, ne_1_2, ne_1_3, ne_2_0, ne_2_1, ne_2_3, ne_3_0, ne_3_1, ne_3_2, e_k_int, e_k_ref, e_k_null, e_k_long, e_k_ret, e_cats_nil, e_cats_int, e_cats_ref, e_cats_ret, e_cats_long, Option.toList_some, Option.toList_none, List.nil_append, List.cons_append, Option.bind_some, Nat.reduceAdd, Nat.reduceLeDiff, Nat.add_zero, if_true, if_false, true_and, and_true, and_self, Int32.reduceToNatClampNeg]
  · change q_tks S s k x = 1 at z
    simp only [zX4_takes_0, zX4_takes_1, zX4_takes_2, zX4_takes_3, zX4_takes_6, zX4_takes_9, zX4_takes_10, zX4_takes_11, zX4_takes_12, zX4_takes_13, zX4_takes_16, zX4_takes_17, zX4_takes_20, zX4_takes_23, zX4_takes_24, zX4_takes_25, zX4_takes_26, zX4_takes_27, zX4_takes_30, zX4_takes_33, zX4_takes_34, zX4_takes_37, zX4_takes_38, zX4_takes_41, zX4_takes_43, r_M_isMan hS hM, p_isE_yes hS hs hk, hM.n hS, r_in32 (v := nI x) (k := 0) (m := nI (q_n S)) (a := 0) (b := (nI (q_n S)).toInt64) rfl rfl, w1, w2, tk, z, ne_0_1, ne_0_2, ne_0_3, ne_1_0, ne_1_2, ne_1_3, ne_2_0, ne_2_1, ne_2_3, ne_3_0, ne_3_1, ne_3_2, e_k_int, e_k_ref, e_k_null, e_k_long, e_k_ret, e_cats_nil, e_cats_int, e_cats_ref, e_cats_ret, e_cats_long, Option.toList_some, Option.toList_none, List.nil_append, List.cons_append, Option.bind_some, Nat.reduceAdd, Nat.reduceLeDiff, Nat.add_zero, if_true, if_false, true_and, and_true, and_self, Int32.reduceToNatClampNeg]
theorem r_M_takes_no {d : Nat} {S h : e_H} {a b x : Int32} (hS : q_ok S) (hM : q_M S h) (hh : ¬ q_eo S a b x) : e_X e_pg (d + 5) 97 [.ref 40, .int a, .int b, .int x] h = some (some (.int (-2)), h) := by
  rw [xX4_takes]
  by_cases c : p_isE (e_gI S 1) a b = 0
  · simp only [zX4_takes_0, zX4_takes_1, zX4_takes_2, zX4_takes_3, zX4_takes_6, zX4_takes_9, zX4_takes_10, zX4_takes_11, zX4_takes_12, zX4_takes_13, zX4_takes_16, zX4_takes_17, zX4_takes_20, zX4_takes_23, zX4_takes_24, zX4_takes_25, zX4_takes_26, zX4_takes_27, zX4_takes_30, zX4_takes_33, zX4_takes_34, zX4_takes_37, zX4_takes_38, zX4_takes_41, zX4_takes_43, r_M_isMan hS hM, c, e_k_int, e_k_ref, e_k_null, e_k_long, e_k_ret, e_cats_nil, e_cats_int, e_cats_ref, e_cats_ret, e_cats_long, Option.toList_some, Option.toList_none, List.nil_append, List.cons_append, Option.bind_some, Nat.reduceAdd, Nat.reduceLeDiff, Nat.add_zero, if_true, if_false, true_and, and_true, and_self, Int32.reduceToNatClampNeg]
  · simp only [zX4_takes_0, zX4_takes_1, zX4_takes_2, zX4_takes_3, zX4_takes_6, zX4_takes_9, zX4_takes_10, zX4_takes_11, zX4_takes_12, zX4_takes_13, zX4_takes_16, zX4_takes_17, zX4_takes_20, zX4_takes_23, zX4_takes_24, zX4_takes_25, zX4_takes_26, zX4_takes_27, zX4_takes_30, zX4_takes_33, zX4_takes_34, zX4_takes_37, zX4_takes_38, zX4_takes_41, zX4_takes_43, r_M_isMan hS hM, c, hM.n hS, r_in32 (v := x) (k := 0) (m := nI (q_n S)) (a := 0) (b := (nI (q_n S)).toInt64) rfl rfl, q_eo_in hS hh c, e_k_int, e_k_ref, e_k_null, e_k_long, e_k_ret, e_cats_nil, e_cats_int, e_cats_ref, e_cats_ret, e_cats_long, Option.toList_some, Option.toList_none, List.nil_append, List.cons_append, Option.bind_some, Nat.reduceAdd, Nat.reduceLeDiff, Nat.add_zero, if_true, if_false, true_and, and_true, and_self, Int32.reduceToNatClampNeg]
/-! the rule's text -/
theorem q_M.txt {S T h : e_H} {n : Nat} {X : Nat → Int32} (hS : q_ok S) (m : q_M S h) (t : q_txt S T n X) {f : e_H} (hF : e_fr [40, 44] h f) (h40 : ∀ k, k ≠ 10 → e_gI f 40 k = e_gI h 40 k) (hJ : ∀ k, e_gJ f 40 k = e_gJ h 40 k) (h10 : e_gI f 40 10 = nI n) (h44 : ∀ k, e_gI f 44 k = X k) : q_M T f := by
  obtain ⟨⟨a1, a2, a3, a4, a5, a6, a7, a8, a9⟩, b1, c1, e1, g1⟩ := m
  obtain ⟨t1, t2, t3, t4⟩ := t
  have T0 : e_gI T 0 = e_gI S 0 := t2.I (by simp)
  have T1 : e_gI T 1 = e_gI S 1 := t2.I (by simp)
  refine ⟨⟨?_, ?_, ?_, ?_, ?_, ?_, ?_, ?_, ?_⟩, fun s hs => ?_, fun s k w hs hk hw => ?_, fun s k hs hk => ?_, fun k => ?_⟩
  · rw [h40 0 (by decide), T0]; exact a1
  · rw [h40 4 (by decide), T0]; exact a2
  · rw [h40 5 (by decide), T0]; exact a3
  · rw [h40 6 (by decide), T0]; exact a4
  · rw [h40 7 (by decide), T0]; exact a5
  · rw [h40 8 (by decide), T0]; exact a6
  · rw [h10, t3]
  · rw [hJ, t2.2 0 12 (by simp)]; exact a8
  · rw [hJ, t2.2 0 13 (by simp)]; exact a9
  · rw [hF.1 43 s (by simp), T1]; exact b1 s hs
  · have := q_x_lt hs hk
    unfold q_N
    rw [hF.1 41 _ (by simp), t2.1 _ _ (by simp)]
    exact c1 s k w hs hk hw
  · unfold q_c at hk
    rw [T1] at hk
    have h5 := (hS.c hs).2.2
    unfold q_c at h5
    have := q_x_lt hs (show k < 5 by omega)
    rw [hF.1 42 _ (by simp), t2.1 _ _ (by simp)]
    exact e1 s k hs hk
  · rw [h44, t4]
theorem r_M_write {d : Nat} {S T h : e_H} {c : Int32} (hS : q_ok S) (hM : q_M S h) (h1 : ¬ c < 0) (h2 : c ≤ 127) (hL : q_L S < 40) (tx : q_txt S T (q_L S + 1) (fun k => if k = q_L S then c else e_gI S 4 k)) : ∃ f, e_X e_pg (d + 2) 100 [.ref 40, .int c] h = some (some (.int (nI (q_L S + 1))), f) ∧ q_M T f ∧ e_fr q_lM h f := by
  have h10 : e_gI h 40 10 = nI (q_L S) := hM.1.2.2.2.2.2.2.1.trans hS.rule.1.1
  have hib : e_inb (nI (q_L S)) 40 = true := e_inb_nI hL (by decide)
  have hcl : (nI (q_L S)).toNatClampNeg = q_L S := nI_clamp (by omega)
  have h3 : ¬ 127 < c := Int32.not_lt.mpr h2
  have l40 : ¬ nI (q_L S) = 40 := by rw [show (40 : Int32) = nI 40 from rfl, nI_eq (by omega) (by decide)]; omega
  refine ⟨e_pI (e_pI h 44 (q_L S) c) 40 10 (nI (q_L S + 1)), ?_, ?_, ((e_fr.refl _ h).pI (by simp)).pI (by simp)⟩
  · rw [xX4_write]
    simp only [zX4_write_0, zX4_write_1, zX4_write_2, zX4_write_3, zX4_write_6, zX4_write_9, zX4_write_12, zX4_write_14, zX4_write_15, zX4_write_16, zX4_write_19, zX4_write_21, zX4_write_24, zX4_write_26, zX4_write_27, zX4_write_28, zX4_write_31, zX4_write_32, zX4_write_35, zX4_write_36, zX4_write_37, zX4_write_38, zX4_write_39, zX4_write_42, zX4_write_43, zX4_write_44, zX4_write_47, zX4_write_48, zX4_write_51, r_in32 (v := c) (k := 0) (m := 127) (a := 0) (b := 127) rfl rfl, h1, h3, h10, l40, hib, hcl, e_gI_pI, Nat.reduceEqDiff, false_and, nI_1, ne_0_1, ne_0_2, ne_0_3, ne_1_0, ne_1_2, ne_1_3, ne_2_0, ne_2_1, ne_2_3, ne_3_0, ne_3_1, ne_3_2, not_false_eq_true, e_k_int, e_k_ref, e_k_null, e_k_long, e_k_ret, e_cats_nil, e_cats_int, e_cats_ref, e_cats_ret, e_cats_long, Option.toList_some, Option.toList_none, List.nil_append, List.cons_append, Option.bind_some, Nat.reduceAdd, Nat.reduceLeDiff, Nat.add_zero, if_true, if_false, true_and, and_true, and_self, Int32.reduceToNatClampNeg, ok_1, ok_2, ok_3, ok_4, ok_5, ok_6, ok_7, ok_8, ok_9, ok_30, ok_31, ok_32, ok_33, ok_34, ok_35, ok_36, ok_37, ok_38, ok_39, ok_40, ok_41, ok_42, ok_43, ok_44, ok_45, ok_46, ok_47, ok_48, ok_49, ok_50, ok_51, ok_52, ln_1, ln_2, ln_4, ln_5, ln_6, ln_7, ln_8, ln_30, ln_31, ln_32, ln_33, ln_34, ln_35, ln_36, ln_37, ln_38, ln_39, ln_41, ln_42, ln_43, ln_44, ln_45, ln_46, ln_47, ln_48, ln_49, ln_50, ln_51, ln_52]
  · refine hM.txt hS tx (((e_fr.refl _ h).pI (by simp)).pI (by simp)) (fun k hk => ?_) (fun k => rfl) (by rw [e_gI_pI, if_pos ⟨rfl, rfl⟩]) (fun k => ?_)
    · rw [e_gI_pI, if_neg (fun q => hk q.2), e_pI_o (by decide)]
    · rw [e_pI_o (by decide), e_gI_pI]
      simp only [true_and]
      rw [hM.2.2.2.2 k]
theorem r_M_write_full {d : Nat} {S h : e_H} {c : Int32} (hS : q_ok S) (hM : q_M S h) (h1 : ¬ c < 0) (h2 : c ≤ 127) (hL : ¬ q_L S < 40) : e_X e_pg (d + 2) 100 [.ref 40, .int c] h = some (some (.int (-4)), h) := by
  have hr2 := hS.rule.1.2
  have e40 : q_L S = 40 := by omega
  have h10 : e_gI h 40 10 = nI (q_L S) := hM.1.2.2.2.2.2.2.1.trans hS.rule.1.1
  rw [e40] at h10
  have h3 : ¬ 127 < c := Int32.not_lt.mpr h2
  have l40 : ¬ ¬ nI 40 = 40 := by decide
  rw [xX4_write]
  simp only [zX4_write_0, zX4_write_1, zX4_write_2, zX4_write_3, zX4_write_6, zX4_write_9, zX4_write_12, zX4_write_14, zX4_write_15, zX4_write_16, zX4_write_19, zX4_write_21, zX4_write_24, zX4_write_26, r_in32 (v := c) (k := 0) (m := 127) (a := 0) (b := 127) rfl rfl, h1, h3, h10, l40, ne_0_1, ne_0_2, ne_0_3, ne_1_0, ne_1_2, ne_1_3, ne_2_0, ne_2_1, ne_2_3, ne_3_0, ne_3_1, ne_3_2, not_false_eq_true, e_k_int, e_k_ref, e_k_null, e_k_long, e_k_ret, e_cats_nil, e_cats_int, e_cats_ref, e_cats_ret, e_cats_long, Option.toList_some, Option.toList_none, List.nil_append, List.cons_append, Option.bind_some, Nat.reduceAdd, Nat.reduceLeDiff, Nat.add_zero, if_true, if_false, true_and, and_true, and_self, Int32.reduceToNatClampNeg]
theorem r_M_write_no {d : Nat} {h : e_H} {c : Int32} (hh : c < 0 ∨ ¬ c ≤ 127) : e_X e_pg (d + 2) 100 [.ref 40, .int c] h = some (some (.int (-2)), h) := by
  have e : (if c < 0 then (0 : Int32) else if 127 < c then 0 else 1) = 0 := by
    by_cases c1 : c < 0
    · rw [if_pos c1]
    · rw [if_neg c1, if_pos (Int32.not_le.mp (hh.resolve_left c1))]
  rw [xX4_write]
  simp only [zX4_write_0, zX4_write_1, zX4_write_2, zX4_write_3, zX4_write_6, zX4_write_9, zX4_write_12, zX4_write_14, zX4_write_15, zX4_write_16, zX4_write_19, zX4_write_21, zX4_write_24, zX4_write_26, r_in32 (v := c) (k := 0) (m := 127) (a := 0) (b := 127) rfl rfl, e, not_true_eq_false, e_k_int, e_k_ref, e_k_null, e_k_long, e_k_ret, e_cats_nil, e_cats_int, e_cats_ref, e_cats_ret, e_cats_long, Option.toList_some, Option.toList_none, List.nil_append, List.cons_append, Option.bind_some, Nat.reduceAdd, Nat.reduceLeDiff, Nat.add_zero, if_true, if_false, true_and, and_true, and_self, Int32.reduceToNatClampNeg]
theorem r_M_erase {d : Nat} {S T h : e_H} (hS : q_ok S) (hM : q_M S h) (tx : q_txt S T 0 (e_gI S 4)) : ∃ f, e_X e_pg (d + 1) 101 [.ref 40] h = some (some (.int (nI (q_L S))), f) ∧ q_M T f ∧ e_fr q_lM h f := by
  have h10 : e_gI h 40 10 = nI (q_L S) := hM.1.2.2.2.2.2.2.1.trans hS.rule.1.1
  refine ⟨e_pI h 40 10 0, ?_, ?_, (e_fr.refl _ h).pI (by simp)⟩
  · rw [xX4_erase]
    simp only [zX4_erase_0, zX4_erase_1, zX4_erase_4, zX4_erase_5, zX4_erase_6, zX4_erase_7, zX4_erase_10, zX4_erase_11, h10, e_k_int, e_k_ref, e_k_null, e_k_long, e_k_ret, e_cats_nil, e_cats_int, e_cats_ref, e_cats_ret, e_cats_long, Option.toList_some, Option.toList_none, List.nil_append, List.cons_append, Option.bind_some, Nat.reduceAdd, Nat.reduceLeDiff, Nat.add_zero, if_true, if_false, true_and, and_true, and_self, Int32.reduceToNatClampNeg]
  · refine hM.txt hS tx ((e_fr.refl _ h).pI (by simp)) (fun k hk => ?_) (fun k => rfl) (by rw [e_gI_pI, if_pos ⟨rfl, rfl⟩]; rfl) (fun k => ?_)
    · rw [e_gI_pI, if_neg (fun q => hk q.2)]
    · rw [e_pI_o (by decide)]
      exact hM.2.2.2.2 k
theorem r_M_fault {d : Nat} {S h : e_H} (hS : q_ok S) (hM : q_M S h) : ∃ f, e_X e_pg (d + 5) 110 [.ref 40] h = some (some (.int (e_gI S 3 1)), f) ∧ q_mr h f := by
  have hr := hS.rule
  obtain ⟨g, told, r1, ⟨r2, r3, r4⟩, r5⟩ := r_M_reads (d := d) (n := q_L S) (T := e_gI S 4) hr.1.2.2 (hM.1.2.2.2.2.2.2.1.trans hr.1.1) hM.2.2.2.2
  refine ⟨g, ?_, r2.1.mono (fun o ho => by simp at ho ⊢; omega), fun k hk => r2.2.1 k (by simp at hk; omega) (by simp at hk; omega) (by simp at hk; omega) (by simp at hk; omega), r2.2.2⟩
  rw [xX4_fault, hr.2.2.1]
  simp only [zX4_fault_0, zX4_fault_1, zX4_fault_4, zX4_fault_5, zX4_fault_6, zX4_fault_9, r1, r3, e_k_int, e_k_ref, e_k_null, e_k_long, e_k_ret, e_cats_nil, e_cats_int, e_cats_ref, e_cats_ret, e_cats_long, Option.toList_some, Option.toList_none, List.nil_append, List.cons_append, Option.bind_some, Nat.reduceAdd, Nat.reduceLeDiff, Nat.add_zero, if_true, if_false, true_and, and_true, and_self, Int32.reduceToNatClampNeg]
/-! the digest -/
set_option maxRecDepth 100000 in
theorem r_M_digest {d : Nat} {S h : e_H} (hS : q_ok S) (hM : q_M S h) : e_X e_pg (d + 2) 146 [.ref 40] h = some (some (.long (q_dig S)), h) := by
  have c0 := hM.c hS (show 0 < 2 by decide)
  have c1 := hM.c hS (show 1 < 2 by decide)
  have hr := hS.rule.1
  have hr2 := hr.2
  have h4 : e_gI h 40 4 = e_gI S 0 7 := hM.1.2.1
  have h5 : e_gI h 40 5 = nI (q_R S) := hM.1.2.2.1.trans hS.R.1
  have h6 : e_gI h 40 6 = e_gI S 0 9 := hM.1.2.2.2.1
  have h7 : e_gI h 40 7 = nI (q_a S) := hM.1.2.2.2.2.1.trans hS.a.1
  have h8 : e_gI h 40 8 = nI (q_b S) := hM.1.2.2.2.2.2.1.trans hS.b.1
  have h10 : e_gI h 40 10 = nI (q_L S) := hM.1.2.2.2.2.2.2.1.trans hr.1
  have h11 : e_gJ h 40 11 = e_gJ S 0 12 := hM.1.2.2.2.2.2.2.2.1
  have h12 : e_gJ h 40 12 = e_gJ S 0 13 := hM.1.2.2.2.2.2.2.2.2
  rw [xX4_digest]
  simp only [zX4_digest_0, zX4_digest_3, zX4_digest_6, zX4_digest_9, zX4_digest_10, zX4_digest_13, zX4_digest_14, zX4_digest_15, zX4_digest_16, zX4_digest_17, zX4_digest_20, zX4_digest_21, zX4_digest_22, zX4_digest_23, zX4_digest_24, zX4_digest_25, zX4_digest_26, zX4_digest_29, zX4_digest_30, zX4_digest_31, zX4_digest_32, zX4_digest_33, zX4_digest_34, zX4_digest_35, hM.n hS, c0, c1, e_k_int, e_k_ref, e_k_null, e_k_long, e_k_ret, e_cats_nil, e_cats_int, e_cats_ref, e_cats_ret, e_cats_long, Option.toList_some, Option.toList_none, List.nil_append, List.cons_append, Option.bind_some, Nat.reduceAdd, Nat.reduceLeDiff, Nat.add_zero, if_true, if_false, true_and, and_true, and_self, Int32.reduceToNatClampNeg, ok_1, ok_2, ok_3, ok_4, ok_5, ok_6, ok_7, ok_8, ok_9, ok_30, ok_31, ok_32, ok_33, ok_34, ok_35, ok_36, ok_37, ok_38, ok_39, ok_40, ok_41, ok_42, ok_43, ok_44, ok_45, ok_46, ok_47, ok_48, ok_49, ok_50, ok_51, ok_52, ln_1, ln_2, ln_4, ln_5, ln_6, ln_7, ln_8, ln_30, ln_31, ln_32, ln_33, ln_34, ln_35, ln_36, ln_37, ln_38, ln_39, ln_41, ln_42, ln_43, ln_44, ln_45, ln_46, ln_47, ln_48, ln_49, ln_50, ln_51, ln_52, ib_0_9, ib_1_9, ib_2_9, ib_3_9, ib_4_9, ib_5_9, ib_6_9, ib_7_9, ib_8_9, ib_0_2, ib_1_2, ib_0_5, ib_1_5, ib_2_5, ib_3_5, ib_4_5, ib_0_25, ib_0_10, ib_5_10, ib_0_90, ib_45_90, ib_0_64]
  obtain ⟨ls2, f, e, ⟨v, w, rfl⟩, rfl⟩ := f_lp (cd := kX4_digest) (O := e_X e_pg (d + 1)) (pc := 36) (fun s ls g => (∃ v w, ls = [.ref 40, .long (q_d2 S s), .null, .int (nI s), v, w]) ∧ g = h) (Nat.zero_le 2) (by
    rintro s ls g - hs ⟨⟨v, w, rfl⟩, rfl⟩
    have hc : ¬ 2 ≤ nI s := by rw [show (2 : Int32) = nI 2 from rfl]; exact nI_ge hs (by decide)
    have cc := (hS.c hs).2
    have ec := hM.c hS hs
    have hib : e_inb (nI s) 2 = true := e_inb_nI hs (by decide)
    have hcl : (nI s).toNatClampNeg = s := nI_clamp (by omega)
    rw [zX4_digest_36]
    simp only [zX4_digest_37, zX4_digest_38, zX4_digest_41, zX4_digest_42, hc, e_k_int, e_k_ref, e_k_null, e_k_long, e_k_ret, e_cats_nil, e_cats_int, e_cats_ref, e_cats_ret, e_cats_long, Option.toList_some, Option.toList_none, List.nil_append, List.cons_append, Option.bind_some, Nat.reduceAdd, Nat.reduceLeDiff, Nat.add_zero, if_true, if_false, true_and, and_true, and_self, Int32.reduceToNatClampNeg]
    obtain ⟨ls2, f, e, ⟨w, rfl⟩, rfl⟩ := f_lp (cd := kX4_digest) (O := e_X e_pg (d + 1)) (pc := 44) (fun k ls f => (∃ w, ls = [.ref 40, .long (q_de S s (q_d2 S s) k), .null, .int (nI s), .int (nI k), w]) ∧ f = g) (Nat.zero_le (q_c S s)) (by
      rintro k ls f - hk ⟨⟨w, rfl⟩, rfl⟩
      have hc : ¬ nI (q_c S s) ≤ nI k := nI_ge hk (by omega)
      have hk5 : k < 5 := by omega
      have hb2 : e_inb (nI (5 * s + k)) 10 = true := e_inb_nI (by omega) (by decide)
      have hl2 : (nI (5 * s + k)).toNatClampNeg = q_x s k := nI_clamp (by omega)
      have eW := hM.W hS hs hk
      rw [zX4_digest_44]
      simp only [zX4_digest_46, zX4_digest_47, zX4_digest_50, zX4_digest_51, zX4_digest_52, zX4_digest_55, zX4_digest_56, ec, hc, hib, hcl, e_k_int, e_k_ref, e_k_null, e_k_long, e_k_ret, e_cats_nil, e_cats_int, e_cats_ref, e_cats_ret, e_cats_long, Option.toList_some, Option.toList_none, List.nil_append, List.cons_append, Option.bind_some, Nat.reduceAdd, Nat.reduceLeDiff, Nat.add_zero, if_true, if_false, true_and, and_true, and_self, Int32.reduceToNatClampNeg, ok_1, ok_2, ok_3, ok_4, ok_5, ok_6, ok_7, ok_8, ok_9, ok_30, ok_31, ok_32, ok_33, ok_34, ok_35, ok_36, ok_37, ok_38, ok_39, ok_40, ok_41, ok_42, ok_43, ok_44, ok_45, ok_46, ok_47, ok_48, ok_49, ok_50, ok_51, ok_52, ln_1, ln_2, ln_4, ln_5, ln_6, ln_7, ln_8, ln_30, ln_31, ln_32, ln_33, ln_34, ln_35, ln_36, ln_37, ln_38, ln_39, ln_41, ln_42, ln_43, ln_44, ln_45, ln_46, ln_47, ln_48, ln_49, ln_50, ln_51, ln_52]
      obtain ⟨ls2, f2, e, rfl, rfl⟩ := f_lp (cd := kX4_digest) (O := e_X e_pg (d + 1)) (pc := 58) (fun x ls f2 => ls = [.ref 40, .long (q_dn (q_N S s k) (q_de S s (q_d2 S s) k) x), .null, .int (nI s), .int (nI k), .int (nI x)] ∧ f2 = f) (Nat.zero_le 9) (by
        rintro x ls f2 - hx ⟨rfl, rfl⟩
        have hc : ¬ 9 ≤ nI x := by rw [show (9 : Int32) = nI 9 from rfl]; exact nI_ge hx (by decide)
        rw [zX4_digest_58]
        simp only [zX4_digest_60, zX4_digest_62, zX4_digest_65, zX4_digest_68, zX4_digest_69, zX4_digest_70, zX4_digest_71, zX4_digest_72, zX4_digest_74, zX4_digest_76, zX4_digest_79, zX4_digest_80, zX4_digest_81, zX4_digest_82, zX4_digest_85, hc, r_Mof (s := s) (k := k) (w := x) (a := nI s) (b := nI k) (c := nI x) hM rfl rfl rfl hs hk5 hx, nI_1, e_k_int, e_k_ref, e_k_null, e_k_long, e_k_ret, e_cats_nil, e_cats_int, e_cats_ref, e_cats_ret, e_cats_long, Option.toList_some, Option.toList_none, List.nil_append, List.cons_append, Option.bind_some, Nat.reduceAdd, Nat.reduceLeDiff, Nat.add_zero, if_true, if_false, true_and, and_true, and_self, Int32.reduceToNatClampNeg]
        exact ⟨_, _, rfl, rfl, rfl⟩) (ls := [.ref 40, .long (q_de S s (q_d2 S s) k), .null, .int (nI s), .int (nI k), .int 0]) (h := f) ⟨rfl, rfl⟩
      have hc9 : (9 : Int32) ≤ nI 9 := by decide
      rw [e, zX4_digest_58]
      simp only [zX4_digest_60, zX4_digest_62, zX4_digest_88, zX4_digest_91, zX4_digest_92, zX4_digest_93, zX4_digest_94, zX4_digest_97, zX4_digest_98, zX4_digest_99, zX4_digest_100, zX4_digest_102, zX4_digest_103, zX4_digest_104, zX4_digest_105, zX4_digest_106, zX4_digest_107, zX4_digest_110, hc9, q_cellM, hb2, hl2, eW, nI_1, e_k_int, e_k_ref, e_k_null, e_k_long, e_k_ret, e_cats_nil, e_cats_int, e_cats_ref, e_cats_ret, e_cats_long, Option.toList_some, Option.toList_none, List.nil_append, List.cons_append, Option.bind_some, Nat.reduceAdd, Nat.reduceLeDiff, Nat.add_zero, if_true, if_false, true_and, and_true, and_self, Int32.reduceToNatClampNeg, ok_1, ok_2, ok_3, ok_4, ok_5, ok_6, ok_7, ok_8, ok_9, ok_30, ok_31, ok_32, ok_33, ok_34, ok_35, ok_36, ok_37, ok_38, ok_39, ok_40, ok_41, ok_42, ok_43, ok_44, ok_45, ok_46, ok_47, ok_48, ok_49, ok_50, ok_51, ok_52, ln_1, ln_2, ln_4, ln_5, ln_6, ln_7, ln_8, ln_30, ln_31, ln_32, ln_33, ln_34, ln_35, ln_36, ln_37, ln_38, ln_39, ln_41, ln_42, ln_43, ln_44, ln_45, ln_46, ln_47, ln_48, ln_49, ln_50, ln_51, ln_52]
      exact ⟨_, _, rfl, ⟨_, rfl⟩, rfl⟩) (ls := [.ref 40, .long (q_d2 S s), .null, .int (nI s), .int 0, w]) (h := g) ⟨⟨_, rfl⟩, rfl⟩
    have hc2 : nI (q_c S s) ≤ nI (q_c S s) := nI_le (Nat.le_refl _) (by omega)
    rw [e, zX4_digest_44]
    simp only [zX4_digest_46, zX4_digest_47, zX4_digest_50, zX4_digest_51, zX4_digest_52, zX4_digest_113, zX4_digest_116, ec, hc2, hib, hcl, nI_1, e_k_int, e_k_ref, e_k_null, e_k_long, e_k_ret, e_cats_nil, e_cats_int, e_cats_ref, e_cats_ret, e_cats_long, Option.toList_some, Option.toList_none, List.nil_append, List.cons_append, Option.bind_some, Nat.reduceAdd, Nat.reduceLeDiff, Nat.add_zero, if_true, if_false, true_and, and_true, and_self, Int32.reduceToNatClampNeg, ok_1, ok_2, ok_3, ok_4, ok_5, ok_6, ok_7, ok_8, ok_9, ok_30, ok_31, ok_32, ok_33, ok_34, ok_35, ok_36, ok_37, ok_38, ok_39, ok_40, ok_41, ok_42, ok_43, ok_44, ok_45, ok_46, ok_47, ok_48, ok_49, ok_50, ok_51, ok_52, ln_1, ln_2, ln_4, ln_5, ln_6, ln_7, ln_8, ln_30, ln_31, ln_32, ln_33, ln_34, ln_35, ln_36, ln_37, ln_38, ln_39, ln_41, ln_42, ln_43, ln_44, ln_45, ln_46, ln_47, ln_48, ln_49, ln_50, ln_51, ln_52]
    exact ⟨_, _, rfl, ⟨_, _, rfl⟩, rfl⟩) (ls := [.ref 40, .long (31 * (31 * (14353 + (nI (q_n S)).toInt64) + (nI (q_c S 0)).toInt64) + (nI (q_c S 1)).toInt64), .null, .int 0, .null, .null]) (h := h) ⟨⟨_, _, rfl⟩, rfl⟩
  have hc : (2 : Int32) ≤ nI 2 := by decide
  rw [e, zX4_digest_36]
  simp only [zX4_digest_37, zX4_digest_38, zX4_digest_119, zX4_digest_122, zX4_digest_125, zX4_digest_128, zX4_digest_129, zX4_digest_130, zX4_digest_131, zX4_digest_134, zX4_digest_135, zX4_digest_136, zX4_digest_137, zX4_digest_138, zX4_digest_141, zX4_digest_142, zX4_digest_143, zX4_digest_144, zX4_digest_145, zX4_digest_148, zX4_digest_149, zX4_digest_150, zX4_digest_151, zX4_digest_154, zX4_digest_157, zX4_digest_160, zX4_digest_161, zX4_digest_162, zX4_digest_163, zX4_digest_166, zX4_digest_167, zX4_digest_168, zX4_digest_169, zX4_digest_170, zX4_digest_173, zX4_digest_174, zX4_digest_175, zX4_digest_176, zX4_digest_177, zX4_digest_180, zX4_digest_181, zX4_digest_182, zX4_digest_183, zX4_digest_184, hc, h4, h5, h6, h7, h8, h10, e_k_int, e_k_ref, e_k_null, e_k_long, e_k_ret, e_cats_nil, e_cats_int, e_cats_ref, e_cats_ret, e_cats_long, Option.toList_some, Option.toList_none, List.nil_append, List.cons_append, Option.bind_some, Nat.reduceAdd, Nat.reduceLeDiff, Nat.add_zero, if_true, if_false, true_and, and_true, and_self, Int32.reduceToNatClampNeg]
  obtain ⟨ls3, f3, e3, rfl, rfl⟩ := f_lp (cd := kX4_digest) (O := e_X e_pg (d + 1)) (pc := 185) (fun x ls f3 => ls = [.ref 40, .long (q_dn (e_gI S 4) (q_d3 S) x), .null, .int (nI x), v, w] ∧ f3 = f) (Nat.zero_le (q_L S)) (by
    rintro x ls f3 - hx ⟨rfl, rfl⟩
    have hc : ¬ nI (q_L S) ≤ nI x := nI_ge hx (by omega)
    have hib : e_inb (nI x) 40 = true := e_inb_nI (by omega) (by decide)
    have hcl : (nI x).toNatClampNeg = x := nI_clamp (by omega)
    rw [zX4_digest_185]
    simp only [zX4_digest_186, zX4_digest_187, zX4_digest_190, zX4_digest_193, zX4_digest_196, zX4_digest_197, zX4_digest_198, zX4_digest_199, zX4_digest_202, zX4_digest_203, zX4_digest_204, zX4_digest_205, zX4_digest_206, zX4_digest_207, zX4_digest_210, h10, hc, hib, hcl, hM.2.2.2.2 x, nI_1, e_k_int, e_k_ref, e_k_null, e_k_long, e_k_ret, e_cats_nil, e_cats_int, e_cats_ref, e_cats_ret, e_cats_long, Option.toList_some, Option.toList_none, List.nil_append, List.cons_append, Option.bind_some, Nat.reduceAdd, Nat.reduceLeDiff, Nat.add_zero, if_true, if_false, true_and, and_true, and_self, Int32.reduceToNatClampNeg, ok_1, ok_2, ok_3, ok_4, ok_5, ok_6, ok_7, ok_8, ok_9, ok_30, ok_31, ok_32, ok_33, ok_34, ok_35, ok_36, ok_37, ok_38, ok_39, ok_40, ok_41, ok_42, ok_43, ok_44, ok_45, ok_46, ok_47, ok_48, ok_49, ok_50, ok_51, ok_52, ln_1, ln_2, ln_4, ln_5, ln_6, ln_7, ln_8, ln_30, ln_31, ln_32, ln_33, ln_34, ln_35, ln_36, ln_37, ln_38, ln_39, ln_41, ln_42, ln_43, ln_44, ln_45, ln_46, ln_47, ln_48, ln_49, ln_50, ln_51, ln_52]
    exact ⟨_, _, rfl, rfl, rfl⟩) (ls := [.ref 40, .long (q_d3 S), .null, .int 0, v, w]) (h := f) ⟨rfl, rfl⟩
  have hc3 : nI (q_L S) ≤ nI (q_L S) := nI_le (Nat.le_refl _) (by omega)
  change e_F kX4_digest (e_X e_pg (d + 1)) 185 [.ref 40, .long (q_d3 S), .null, .int 0, v, w] [] f3 = _
  rw [e3, zX4_digest_185]
  simp only [zX4_digest_186, zX4_digest_187, zX4_digest_190, zX4_digest_213, zX4_digest_216, zX4_digest_219, zX4_digest_220, zX4_digest_221, zX4_digest_222, zX4_digest_225, zX4_digest_226, zX4_digest_227, zX4_digest_228, zX4_digest_231, zX4_digest_232, h10, hc3, h11, h12, q_dig, e_k_int, e_k_ref, e_k_null, e_k_long, e_k_ret, e_cats_nil, e_cats_int, e_cats_ref, e_cats_ret, e_cats_long, Option.toList_some, Option.toList_none, List.nil_append, List.cons_append, Option.bind_some, Nat.reduceAdd, Nat.reduceLeDiff, Nat.add_zero, if_true, if_false, true_and, and_true, and_self, Int32.reduceToNatClampNeg]
