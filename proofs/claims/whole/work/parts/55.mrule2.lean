/-! working down, units with their signs, digits -/
/-- all pending signs are worked: the top one first -/
def m_red : List Int32 → List Int64 → Int64
  | c :: P, b :: a :: W => m_red P (s_join c a b :: W)
  | _, v :: _ => v
  | _, [] => 0
/-- a sign that workDown(r) works -/
def m_dn (r c : Int32) : Prop := ¬ 1000 ≤ c ∧ ¬ m_rank c < r
/-- a stack of signs that workDown(r) leaves -/
def m_top (r : Int32) (S : List Int32) : Prop := ∀ c R, S = c :: R → 1000 ≤ c ∨ m_rank c < r
set_option maxRecDepth 100000 in
theorem r_M_down_loop {d n : Nat} {T : Nat → Int32} {h : e_H} {fl r : Int32} {p : Nat} {V : List Int64} {S : List Int32} (hS : m_top r S) : ∀ (P : List Int32) (W : List Int64) (g : e_H), W.length = P.length + 1 → (∀ c ∈ P, m_dn r c) → m_P T n h g fl p (W ++ V) (P ++ S) → ∃ g2, e_F kX4_workDown (e_X e_pg (d + 1)) 0 [.ref 40, .int r] [] g = some (none, g2) ∧ m_P T n h g2 fl p (m_red P W :: V) S := by
  intro P
  induction P with
  | nil =>
    intro W g hl _ hP
    obtain ⟨v, rfl⟩ : ∃ v, W = [v] := by
      match W, hl with
      | [v], _ => exact ⟨v, rfl⟩
    refine ⟨g, ?_, hP⟩
    obtain ⟨h1, h2, h3, h4, h5, h6, h7, h8, h9, h10, h11, h12⟩ := hP
    simp only [List.nil_append] at h10 h11 h12
    cases S with
    | nil =>
      rw [zX4_workDown_0]
      simp only [zX4_workDown_1, zX4_workDown_4, zX4_workDown_7, zX4_workDown_8, zX4_workDown_11, zX4_workDown_12, zX4_workDown_15, zX4_workDown_16, zX4_workDown_17, zX4_workDown_18, zX4_workDown_21, zX4_workDown_24, zX4_workDown_25, zX4_workDown_28, zX4_workDown_29, zX4_workDown_32, zX4_workDown_33, zX4_workDown_34, zX4_workDown_35, zX4_workDown_38, zX4_workDown_39, zX4_workDown_42, zX4_workDown_43, zX4_workDown_46, zX4_workDown_49, h10, List.length_nil, show nI 0 ≤ 0 from by decide, e_k_int, e_k_ref, e_k_null, e_k_long, e_k_ret, e_cats_nil, e_cats_int, e_cats_ref, e_cats_ret, e_cats_long, Option.toList_some, Option.toList_none, List.nil_append, List.cons_append, Option.bind_some, Nat.reduceAdd, Nat.reduceLeDiff, Nat.add_zero, if_true, if_false, true_and, and_true, and_self, Int32.reduceToNatClampNeg]
    | cons c R =>
      have hp : ¬ nI (c :: R).length ≤ 0 := nI_nle (by simp) (by simp at h11 ⊢; omega)
      have e1 : nI (c :: R).length - 1 = nI R.length := nI_pred _
      simp at h11
      have i1 : e_inb (nI R.length) 128 = true := e_inb_nI (by omega) (by decide)
      have k1 : (nI R.length).toNatClampNeg = R.length := nI_clamp (by omega)
      obtain ⟨u1, u2⟩ := h12.tail
      rw [zX4_workDown_0]
      rcases hS c R rfl with hc | hc
      · simp only [zX4_workDown_1, zX4_workDown_4, zX4_workDown_7, zX4_workDown_8, zX4_workDown_11, zX4_workDown_12, zX4_workDown_15, zX4_workDown_16, zX4_workDown_17, zX4_workDown_18, zX4_workDown_21, zX4_workDown_24, zX4_workDown_25, zX4_workDown_28, zX4_workDown_29, zX4_workDown_32, zX4_workDown_33, zX4_workDown_34, zX4_workDown_35, zX4_workDown_38, zX4_workDown_39, zX4_workDown_42, zX4_workDown_43, zX4_workDown_46, zX4_workDown_49, h10, hp, e1, i1, k1, u2, hc, e_k_int, e_k_ref, e_k_null, e_k_long, e_k_ret, e_cats_nil, e_cats_int, e_cats_ref, e_cats_ret, e_cats_long, Option.toList_some, Option.toList_none, List.nil_append, List.cons_append, Option.bind_some, Nat.reduceAdd, Nat.reduceLeDiff, Nat.add_zero, if_true, if_false, true_and, and_true, and_self, Int32.reduceToNatClampNeg, ok_1, ok_2, ok_3, ok_4, ok_5, ok_6, ok_7, ok_8, ok_9, ok_30, ok_31, ok_32, ok_33, ok_34, ok_35, ok_36, ok_37, ok_38, ok_39, ok_40, ok_41, ok_42, ok_43, ok_44, ok_45, ok_46, ok_47, ok_48, ok_49, ok_50, ok_51, ok_52, ln_1, ln_2, ln_4, ln_5, ln_6, ln_7, ln_8, ln_30, ln_31, ln_32, ln_33, ln_34, ln_35, ln_36, ln_37, ln_38, ln_39, ln_41, ln_42, ln_43, ln_44, ln_45, ln_46, ln_47, ln_48, ln_49, ln_50, ln_51, ln_52]
      · by_cases hc2 : 1000 ≤ c
        · simp only [zX4_workDown_1, zX4_workDown_4, zX4_workDown_7, zX4_workDown_8, zX4_workDown_11, zX4_workDown_12, zX4_workDown_15, zX4_workDown_16, zX4_workDown_17, zX4_workDown_18, zX4_workDown_21, zX4_workDown_24, zX4_workDown_25, zX4_workDown_28, zX4_workDown_29, zX4_workDown_32, zX4_workDown_33, zX4_workDown_34, zX4_workDown_35, zX4_workDown_38, zX4_workDown_39, zX4_workDown_42, zX4_workDown_43, zX4_workDown_46, zX4_workDown_49, h10, hp, e1, i1, k1, u2, hc2, e_k_int, e_k_ref, e_k_null, e_k_long, e_k_ret, e_cats_nil, e_cats_int, e_cats_ref, e_cats_ret, e_cats_long, Option.toList_some, Option.toList_none, List.nil_append, List.cons_append, Option.bind_some, Nat.reduceAdd, Nat.reduceLeDiff, Nat.add_zero, if_true, if_false, true_and, and_true, and_self, Int32.reduceToNatClampNeg, ok_1, ok_2, ok_3, ok_4, ok_5, ok_6, ok_7, ok_8, ok_9, ok_30, ok_31, ok_32, ok_33, ok_34, ok_35, ok_36, ok_37, ok_38, ok_39, ok_40, ok_41, ok_42, ok_43, ok_44, ok_45, ok_46, ok_47, ok_48, ok_49, ok_50, ok_51, ok_52, ln_1, ln_2, ln_4, ln_5, ln_6, ln_7, ln_8, ln_30, ln_31, ln_32, ln_33, ln_34, ln_35, ln_36, ln_37, ln_38, ln_39, ln_41, ln_42, ln_43, ln_44, ln_45, ln_46, ln_47, ln_48, ln_49, ln_50, ln_51, ln_52]
        · simp only [zX4_workDown_1, zX4_workDown_4, zX4_workDown_7, zX4_workDown_8, zX4_workDown_11, zX4_workDown_12, zX4_workDown_15, zX4_workDown_16, zX4_workDown_17, zX4_workDown_18, zX4_workDown_21, zX4_workDown_24, zX4_workDown_25, zX4_workDown_28, zX4_workDown_29, zX4_workDown_32, zX4_workDown_33, zX4_workDown_34, zX4_workDown_35, zX4_workDown_38, zX4_workDown_39, zX4_workDown_42, zX4_workDown_43, zX4_workDown_46, zX4_workDown_49, h10, hp, e1, i1, k1, u2, hc2, r_M_rank, hc, e_k_int, e_k_ref, e_k_null, e_k_long, e_k_ret, e_cats_nil, e_cats_int, e_cats_ref, e_cats_ret, e_cats_long, Option.toList_some, Option.toList_none, List.nil_append, List.cons_append, Option.bind_some, Nat.reduceAdd, Nat.reduceLeDiff, Nat.add_zero, if_true, if_false, true_and, and_true, and_self, Int32.reduceToNatClampNeg, ok_1, ok_2, ok_3, ok_4, ok_5, ok_6, ok_7, ok_8, ok_9, ok_30, ok_31, ok_32, ok_33, ok_34, ok_35, ok_36, ok_37, ok_38, ok_39, ok_40, ok_41, ok_42, ok_43, ok_44, ok_45, ok_46, ok_47, ok_48, ok_49, ok_50, ok_51, ok_52, ln_1, ln_2, ln_4, ln_5, ln_6, ln_7, ln_8, ln_30, ln_31, ln_32, ln_33, ln_34, ln_35, ln_36, ln_37, ln_38, ln_39, ln_41, ln_42, ln_43, ln_44, ln_45, ln_46, ln_47, ln_48, ln_49, ln_50, ln_51, ln_52]
  | cons c P ih =>
    intro W g hl hd hP
    obtain ⟨b, a, W2, rfl⟩ : ∃ b a W2, W = b :: a :: W2 := by
      match W, hl with
      | b :: a :: W2, _ => exact ⟨b, a, W2, rfl⟩
    have hP0 : m_P T n h g fl p (b :: a :: (W2 ++ V)) (c :: (P ++ S)) := hP
    obtain ⟨g1, a1, a2⟩ := r_M_workOut (d := d) hP0
    obtain ⟨g2, q1, q2⟩ := ih (s_join c a b :: W2) g1 (by simp at hl ⊢; omega) (fun c hc => hd c (List.mem_cons_of_mem _ hc)) a2
    refine ⟨g2, ?_, q2⟩
    obtain ⟨h1, h2, h3, h4, h5, h6, h7, h8, h9, h10, h11, h12⟩ := hP0
    obtain ⟨d1, d2⟩ := hd c List.mem_cons_self
    have hp : ¬ nI (c :: (P ++ S)).length ≤ 0 := nI_nle (by simp) (by simp at h11 ⊢; omega)
    have e1 : nI (c :: (P ++ S)).length - 1 = nI (P ++ S).length := nI_pred _
    simp only [List.length_cons] at h11
    have i1 : e_inb (nI (P ++ S).length) 128 = true := e_inb_nI (by omega) (by decide)
    have k1 : (nI (P ++ S).length).toNatClampNeg = (P ++ S).length := nI_clamp (by omega)
    obtain ⟨u1, u2⟩ := h12.tail
    rw [zX4_workDown_0]
    simp only [zX4_workDown_1, zX4_workDown_4, zX4_workDown_7, zX4_workDown_8, zX4_workDown_11, zX4_workDown_12, zX4_workDown_15, zX4_workDown_16, zX4_workDown_17, zX4_workDown_18, zX4_workDown_21, zX4_workDown_24, zX4_workDown_25, zX4_workDown_28, zX4_workDown_29, zX4_workDown_32, zX4_workDown_33, zX4_workDown_34, zX4_workDown_35, zX4_workDown_38, zX4_workDown_39, zX4_workDown_42, zX4_workDown_43, zX4_workDown_46, zX4_workDown_49, h10, hp, e1, i1, k1, u2, d1, r_M_rank, d2, a1, e_k_int, e_k_ref, e_k_null, e_k_long, e_k_ret, e_cats_nil, e_cats_int, e_cats_ref, e_cats_ret, e_cats_long, Option.toList_some, Option.toList_none, List.nil_append, List.cons_append, Option.bind_some, Nat.reduceAdd, Nat.reduceLeDiff, Nat.add_zero, if_true, if_false, true_and, and_true, and_self, Int32.reduceToNatClampNeg, ok_1, ok_2, ok_3, ok_4, ok_5, ok_6, ok_7, ok_8, ok_9, ok_30, ok_31, ok_32, ok_33, ok_34, ok_35, ok_36, ok_37, ok_38, ok_39, ok_40, ok_41, ok_42, ok_43, ok_44, ok_45, ok_46, ok_47, ok_48, ok_49, ok_50, ok_51, ok_52, ln_1, ln_2, ln_4, ln_5, ln_6, ln_7, ln_8, ln_30, ln_31, ln_32, ln_33, ln_34, ln_35, ln_36, ln_37, ln_38, ln_39, ln_41, ln_42, ln_43, ln_44, ln_45, ln_46, ln_47, ln_48, ln_49, ln_50, ln_51, ln_52]
    exact q1
theorem r_M_workDown {d n : Nat} {T : Nat → Int32} {h g : e_H} {fl r : Int32} {p : Nat} {V W : List Int64} {S P : List Int32} (hS : m_top r S) (hl : W.length = P.length + 1) (hd : ∀ c ∈ P, m_dn r c) (hP : m_P T n h g fl p (W ++ V) (P ++ S)) : ∃ g2, e_X e_pg (d + 2) 105 [.ref 40, .int r] g = some (none, g2) ∧ m_P T n h g2 fl p (m_red P W :: V) S := by
  rw [xX4_workDown]
  exact r_M_down_loop hS P W g hl hd hP
def m_un : List Int32 → Int64 → Int64
  | [], v => v
  | u :: U, v => m_un U (if u = 1001 then (if v = 0 then 1 else 0) else -v)
set_option maxRecDepth 100000 in
theorem r_M_stands_loop {d n : Nat} {T : Nat → Int32} {h : e_H} {fl : Int32} {p : Nat} {V : List Int64} {S : List Int32} {v0 : Int64} (hV : V.length < 64) (hS : ∀ c R, S = c :: R → c ≤ 1000) : ∀ (U : List Int32) (w : Int64) (g : e_H), (∀ u ∈ U, u = 1001 ∨ u = 1002) → m_P T n h g fl p V (U ++ S) → ∃ g2, e_F kX4_stands (e_X e_pg d) 2 [.ref 40, .long v0, .null, .long w, .null] [] g = some (none, g2) ∧ m_P T n h g2 fl p (m_un U w :: V) S := by
  intro U
  induction U with
  | nil =>
    intro w g _ hP
    have hP2 := hP.pushV w hV
    refine ⟨_, ?_, hP2⟩
    obtain ⟨h1, h2, h3, h4, h5, h6, h7, h8, h9, h10, h11, h12⟩ := hP
    simp only [List.nil_append] at h10 h11 h12
    have i2 : e_inb (nI V.length) 64 = true := e_inb_nI hV (by decide)
    have k2 : (nI V.length).toNatClampNeg = V.length := nI_clamp (by omega)
    cases S with
    | nil =>
      rw [zX4_stands_2]
      simp only [zX4_stands_3, zX4_stands_6, zX4_stands_9, zX4_stands_10, zX4_stands_13, zX4_stands_14, zX4_stands_17, zX4_stands_18, zX4_stands_19, zX4_stands_20, zX4_stands_23, zX4_stands_26, zX4_stands_27, zX4_stands_30, zX4_stands_31, zX4_stands_34, zX4_stands_35, zX4_stands_36, zX4_stands_37, zX4_stands_40, zX4_stands_43, zX4_stands_44, zX4_stands_45, zX4_stands_46, zX4_stands_49, zX4_stands_50, zX4_stands_53, zX4_stands_54, zX4_stands_57, zX4_stands_58, zX4_stands_59, zX4_stands_60, zX4_stands_61, zX4_stands_62, zX4_stands_65, zX4_stands_66, zX4_stands_67, zX4_stands_70, zX4_stands_73, zX4_stands_74, zX4_stands_77, zX4_stands_78, zX4_stands_81, zX4_stands_82, zX4_stands_83, zX4_stands_84, zX4_stands_85, zX4_stands_88, zX4_stands_89, zX4_stands_90, zX4_stands_93, h10, h7, i2, k2, List.length_nil, show nI 0 ≤ 0 from by decide, e_gI_pJ, nI_1, e_k_int, e_k_ref, e_k_null, e_k_long, e_k_ret, e_cats_nil, e_cats_int, e_cats_ref, e_cats_ret, e_cats_long, Option.toList_some, Option.toList_none, List.nil_append, List.cons_append, Option.bind_some, Nat.reduceAdd, Nat.reduceLeDiff, Nat.add_zero, if_true, if_false, true_and, and_true, and_self, Int32.reduceToNatClampNeg, ok_1, ok_2, ok_3, ok_4, ok_5, ok_6, ok_7, ok_8, ok_9, ok_30, ok_31, ok_32, ok_33, ok_34, ok_35, ok_36, ok_37, ok_38, ok_39, ok_40, ok_41, ok_42, ok_43, ok_44, ok_45, ok_46, ok_47, ok_48, ok_49, ok_50, ok_51, ok_52, ln_1, ln_2, ln_4, ln_5, ln_6, ln_7, ln_8, ln_30, ln_31, ln_32, ln_33, ln_34, ln_35, ln_36, ln_37, ln_38, ln_39, ln_41, ln_42, ln_43, ln_44, ln_45, ln_46, ln_47, ln_48, ln_49, ln_50, ln_51, ln_52]
    | cons c R =>
      have hp : ¬ nI (c :: R).length ≤ 0 := nI_nle (by simp) (by simp at h11 ⊢; omega)
      have e1 : nI (c :: R).length - 1 = nI R.length := nI_pred _
      simp at h11
      have i1 : e_inb (nI R.length) 128 = true := e_inb_nI (by omega) (by decide)
      have k1 : (nI R.length).toNatClampNeg = R.length := nI_clamp (by omega)
      obtain ⟨u1, u2⟩ := h12.tail
      rw [zX4_stands_2]
      simp only [zX4_stands_3, zX4_stands_6, zX4_stands_9, zX4_stands_10, zX4_stands_13, zX4_stands_14, zX4_stands_17, zX4_stands_18, zX4_stands_19, zX4_stands_20, zX4_stands_23, zX4_stands_26, zX4_stands_27, zX4_stands_30, zX4_stands_31, zX4_stands_34, zX4_stands_35, zX4_stands_36, zX4_stands_37, zX4_stands_40, zX4_stands_43, zX4_stands_44, zX4_stands_45, zX4_stands_46, zX4_stands_49, zX4_stands_50, zX4_stands_53, zX4_stands_54, zX4_stands_57, zX4_stands_58, zX4_stands_59, zX4_stands_60, zX4_stands_61, zX4_stands_62, zX4_stands_65, zX4_stands_66, zX4_stands_67, zX4_stands_70, zX4_stands_73, zX4_stands_74, zX4_stands_77, zX4_stands_78, zX4_stands_81, zX4_stands_82, zX4_stands_83, zX4_stands_84, zX4_stands_85, zX4_stands_88, zX4_stands_89, zX4_stands_90, zX4_stands_93, h10, h7, hp, e1, i1, k1, u2, hS c R rfl, i2, k2, e_gI_pJ, nI_1, e_k_int, e_k_ref, e_k_null, e_k_long, e_k_ret, e_cats_nil, e_cats_int, e_cats_ref, e_cats_ret, e_cats_long, Option.toList_some, Option.toList_none, List.nil_append, List.cons_append, Option.bind_some, Nat.reduceAdd, Nat.reduceLeDiff, Nat.add_zero, if_true, if_false, true_and, and_true, and_self, Int32.reduceToNatClampNeg, ok_1, ok_2, ok_3, ok_4, ok_5, ok_6, ok_7, ok_8, ok_9, ok_30, ok_31, ok_32, ok_33, ok_34, ok_35, ok_36, ok_37, ok_38, ok_39, ok_40, ok_41, ok_42, ok_43, ok_44, ok_45, ok_46, ok_47, ok_48, ok_49, ok_50, ok_51, ok_52, ln_1, ln_2, ln_4, ln_5, ln_6, ln_7, ln_8, ln_30, ln_31, ln_32, ln_33, ln_34, ln_35, ln_36, ln_37, ln_38, ln_39, ln_41, ln_42, ln_43, ln_44, ln_45, ln_46, ln_47, ln_48, ln_49, ln_50, ln_51, ln_52]
  | cons u U ih =>
    intro w g hU hP
    have hP0 : m_P T n h g fl p V (u :: (U ++ S)) := hP
    have hq := ih (if u = 1001 then (if w = 0 then 1 else 0) else -w) (e_pI g 40 18 (nI (U ++ S).length)) (fun c hc => hU c (List.mem_cons_of_mem _ hc)) hP0.popS
    obtain ⟨g2, q1, q2⟩ := hq
    refine ⟨g2, ?_, q2⟩
    obtain ⟨h1, h2, h3, h4, h5, h6, h7, h8, h9, h10, h11, h12⟩ := hP0
    have hp : ¬ nI (u :: (U ++ S)).length ≤ 0 := nI_nle (by simp) (by simp at h11 ⊢; omega)
    have e1 : nI (u :: (U ++ S)).length - 1 = nI (U ++ S).length := nI_pred _
    simp only [List.length_cons] at h11
    have i1 : e_inb (nI (U ++ S).length) 128 = true := e_inb_nI (by omega) (by decide)
    have k1 : (nI (U ++ S).length).toNatClampNeg = (U ++ S).length := nI_clamp (by omega)
    obtain ⟨u1, u2⟩ := h12.tail
    rw [zX4_stands_2]
    rcases hU u List.mem_cons_self with hu | hu
    · subst hu
      simp only [if_true] at q1
      by_cases w0 : w = 0
      · subst w0
        simp only [if_true] at q1
        simp only [zX4_stands_3, zX4_stands_6, zX4_stands_9, zX4_stands_10, zX4_stands_13, zX4_stands_14, zX4_stands_17, zX4_stands_18, zX4_stands_19, zX4_stands_20, zX4_stands_23, zX4_stands_26, zX4_stands_27, zX4_stands_30, zX4_stands_31, zX4_stands_34, zX4_stands_35, zX4_stands_36, zX4_stands_37, zX4_stands_40, zX4_stands_43, zX4_stands_44, zX4_stands_45, zX4_stands_46, zX4_stands_49, zX4_stands_50, zX4_stands_53, zX4_stands_54, zX4_stands_57, zX4_stands_58, zX4_stands_59, zX4_stands_60, zX4_stands_61, zX4_stands_62, zX4_stands_65, zX4_stands_66, zX4_stands_67, zX4_stands_70, zX4_stands_73, zX4_stands_74, zX4_stands_77, zX4_stands_78, zX4_stands_81, zX4_stands_82, zX4_stands_83, zX4_stands_84, zX4_stands_85, zX4_stands_88, zX4_stands_89, zX4_stands_90, zX4_stands_93, h10, hp, e1, i1, k1, u2, show ¬ (1001 : Int32) ≤ 1000 from by decide, lc_eq, not_true_eq_false, e_k_int, e_k_ref, e_k_null, e_k_long, e_k_ret, e_cats_nil, e_cats_int, e_cats_ref, e_cats_ret, e_cats_long, Option.toList_some, Option.toList_none, List.nil_append, List.cons_append, Option.bind_some, Nat.reduceAdd, Nat.reduceLeDiff, Nat.add_zero, if_true, if_false, true_and, and_true, and_self, Int32.reduceToNatClampNeg, ok_1, ok_2, ok_3, ok_4, ok_5, ok_6, ok_7, ok_8, ok_9, ok_30, ok_31, ok_32, ok_33, ok_34, ok_35, ok_36, ok_37, ok_38, ok_39, ok_40, ok_41, ok_42, ok_43, ok_44, ok_45, ok_46, ok_47, ok_48, ok_49, ok_50, ok_51, ok_52, ln_1, ln_2, ln_4, ln_5, ln_6, ln_7, ln_8, ln_30, ln_31, ln_32, ln_33, ln_34, ln_35, ln_36, ln_37, ln_38, ln_39, ln_41, ln_42, ln_43, ln_44, ln_45, ln_46, ln_47, ln_48, ln_49, ln_50, ln_51, ln_52]
        exact q1
      · simp only [w0, if_false] at q1
        simp only [zX4_stands_3, zX4_stands_6, zX4_stands_9, zX4_stands_10, zX4_stands_13, zX4_stands_14, zX4_stands_17, zX4_stands_18, zX4_stands_19, zX4_stands_20, zX4_stands_23, zX4_stands_26, zX4_stands_27, zX4_stands_30, zX4_stands_31, zX4_stands_34, zX4_stands_35, zX4_stands_36, zX4_stands_37, zX4_stands_40, zX4_stands_43, zX4_stands_44, zX4_stands_45, zX4_stands_46, zX4_stands_49, zX4_stands_50, zX4_stands_53, zX4_stands_54, zX4_stands_57, zX4_stands_58, zX4_stands_59, zX4_stands_60, zX4_stands_61, zX4_stands_62, zX4_stands_65, zX4_stands_66, zX4_stands_67, zX4_stands_70, zX4_stands_73, zX4_stands_74, zX4_stands_77, zX4_stands_78, zX4_stands_81, zX4_stands_82, zX4_stands_83, zX4_stands_84, zX4_stands_85, zX4_stands_88, zX4_stands_89, zX4_stands_90, zX4_stands_93, h10, hp, e1, i1, k1, u2, show ¬ (1001 : Int32) ≤ 1000 from by decide, lc_eq, w0, not_true_eq_false, not_false_eq_true, e_k_int, e_k_ref, e_k_null, e_k_long, e_k_ret, e_cats_nil, e_cats_int, e_cats_ref, e_cats_ret, e_cats_long, Option.toList_some, Option.toList_none, List.nil_append, List.cons_append, Option.bind_some, Nat.reduceAdd, Nat.reduceLeDiff, Nat.add_zero, if_true, if_false, true_and, and_true, and_self, Int32.reduceToNatClampNeg, ok_1, ok_2, ok_3, ok_4, ok_5, ok_6, ok_7, ok_8, ok_9, ok_30, ok_31, ok_32, ok_33, ok_34, ok_35, ok_36, ok_37, ok_38, ok_39, ok_40, ok_41, ok_42, ok_43, ok_44, ok_45, ok_46, ok_47, ok_48, ok_49, ok_50, ok_51, ok_52, ln_1, ln_2, ln_4, ln_5, ln_6, ln_7, ln_8, ln_30, ln_31, ln_32, ln_33, ln_34, ln_35, ln_36, ln_37, ln_38, ln_39, ln_41, ln_42, ln_43, ln_44, ln_45, ln_46, ln_47, ln_48, ln_49, ln_50, ln_51, ln_52]
        exact q1
    · subst hu
      simp only [show ¬ (1002 : Int32) = 1001 from by decide, if_false] at q1
      simp only [zX4_stands_3, zX4_stands_6, zX4_stands_9, zX4_stands_10, zX4_stands_13, zX4_stands_14, zX4_stands_17, zX4_stands_18, zX4_stands_19, zX4_stands_20, zX4_stands_23, zX4_stands_26, zX4_stands_27, zX4_stands_30, zX4_stands_31, zX4_stands_34, zX4_stands_35, zX4_stands_36, zX4_stands_37, zX4_stands_40, zX4_stands_43, zX4_stands_44, zX4_stands_45, zX4_stands_46, zX4_stands_49, zX4_stands_50, zX4_stands_53, zX4_stands_54, zX4_stands_57, zX4_stands_58, zX4_stands_59, zX4_stands_60, zX4_stands_61, zX4_stands_62, zX4_stands_65, zX4_stands_66, zX4_stands_67, zX4_stands_70, zX4_stands_73, zX4_stands_74, zX4_stands_77, zX4_stands_78, zX4_stands_81, zX4_stands_82, zX4_stands_83, zX4_stands_84, zX4_stands_85, zX4_stands_88, zX4_stands_89, zX4_stands_90, zX4_stands_93, h10, hp, e1, i1, k1, u2, show ¬ (1002 : Int32) ≤ 1000 from by decide, show ¬ (1002 : Int32) = 1001 from by decide, not_false_eq_true, e_k_int, e_k_ref, e_k_null, e_k_long, e_k_ret, e_cats_nil, e_cats_int, e_cats_ref, e_cats_ret, e_cats_long, Option.toList_some, Option.toList_none, List.nil_append, List.cons_append, Option.bind_some, Nat.reduceAdd, Nat.reduceLeDiff, Nat.add_zero, if_true, if_false, true_and, and_true, and_self, Int32.reduceToNatClampNeg, ok_1, ok_2, ok_3, ok_4, ok_5, ok_6, ok_7, ok_8, ok_9, ok_30, ok_31, ok_32, ok_33, ok_34, ok_35, ok_36, ok_37, ok_38, ok_39, ok_40, ok_41, ok_42, ok_43, ok_44, ok_45, ok_46, ok_47, ok_48, ok_49, ok_50, ok_51, ok_52, ln_1, ln_2, ln_4, ln_5, ln_6, ln_7, ln_8, ln_30, ln_31, ln_32, ln_33, ln_34, ln_35, ln_36, ln_37, ln_38, ln_39, ln_41, ln_42, ln_43, ln_44, ln_45, ln_46, ln_47, ln_48, ln_49, ln_50, ln_51, ln_52]
      exact q1
theorem r_M_stands {d n : Nat} {T : Nat → Int32} {h g : e_H} {fl : Int32} {p : Nat} {V : List Int64} {U S : List Int32} {w : Int64} (hV : V.length < 64) (hS : ∀ c R, S = c :: R → c ≤ 1000) (hU : ∀ u ∈ U, u = 1001 ∨ u = 1002) (hP : m_P T n h g fl p V (U ++ S)) : ∃ g2, e_X e_pg (d + 1) 106 [.ref 40, .long w] g = some (none, g2) ∧ m_P T n h g2 fl p (m_un U w :: V) S := by
  rw [xX4_stands]
  simp only [zX4_stands_0, zX4_stands_1, e_k_int, e_k_ref, e_k_null, e_k_long, e_k_ret, e_cats_nil, e_cats_int, e_cats_ref, e_cats_ret, e_cats_long, Option.toList_some, Option.toList_none, List.nil_append, List.cons_append, Option.bind_some, Nat.reduceAdd, Nat.reduceLeDiff, Nat.add_zero, if_true, if_false, true_and, and_true, and_self, Int32.reduceToNatClampNeg]
  exact r_M_stands_loop hV hS U w g hU hP
/-- digits from first on: none if there is a seventh -/
def m_nd (T : Nat → Int32) (n first : Nat) : Nat → Nat → Int32 → Option (Nat × Int32)
  | 0, p, v => some (p, v)
  | f + 1, p, v => if n ≤ p then some (p, v) else if c_dig (T p) = 0 then some (p, v) else if first + 6 ≤ p then none else m_nd T n first f (p + 1) (10 * v + T p - 48)
theorem c_nm_nd {T : Nat → Int32} {n first : Nat} : ∀ (f : Nat) (s : c_S) (v : Int32), s.1 = -1 → (m_nd T n first f s.2.1 v = none → (c_nm T n first f s v).1 = 10 * nI first + 2) ∧ ∀ p w, m_nd T n first f s.2.1 v = some (p, w) → c_nm T n first f s v = c_emit (s.1, p, s.2.2) 1 w := by
  intro f
  induction f with
  | zero =>
    intro s v hs
    refine ⟨fun q => (by simp [m_nd] at q), fun p w q => ?_⟩
    simp only [m_nd, Option.some.injEq, Prod.mk.injEq] at q
    rw [c_nm, ← q.1, ← q.2]
  | succ f ih =>
    intro s v hs
    rw [m_nd, c_nm]
    by_cases c1 : n ≤ s.2.1
    · rw [if_pos c1, if_pos c1]
      refine ⟨fun q => (by cases q), fun p w q => ?_⟩
      simp only [Option.some.injEq, Prod.mk.injEq] at q
      rw [← q.1, ← q.2]
    · rw [if_neg c1, if_neg c1]
      by_cases c2 : c_dig (T s.2.1) = 0
      · rw [if_pos c2, if_pos c2]
        refine ⟨fun q => (by cases q), fun p w q => ?_⟩
        simp only [Option.some.injEq, Prod.mk.injEq] at q
        rw [← q.1, ← q.2]
      · rw [if_neg c2, if_neg c2]
        by_cases c3 : first + 6 ≤ s.2.1
        · rw [if_pos c3, if_pos c3]
          refine ⟨fun _ => ?_, fun p w q => (by cases q)⟩
          unfold c_spoil
          rw [if_neg (by rw [hs]; decide)]
        · rw [if_neg c3, if_neg c3]
          exact ih (s.1, s.2.1 + 1, s.2.2) _ hs
theorem c_dig_in (c : Int32) : (if c < 48 then 0 else if 57 < c then 0 else 1) = c_dig c := rfl
theorem nd_step {T v : Int32} (h1 : c_dig T ≠ 0) (h2 : 0 ≤ v.toInt) (h3 : v.toInt ≤ 99999) : 0 ≤ (10 * v + T - 48).toInt ∧ (10 * v + T - 48).toInt ≤ 10 * v.toInt + 9 ∧ (10 * v + T - 48).toInt64 = 10 * v.toInt64 + T.toInt64 - 48 := by
  unfold c_dig at h1
  have a1 : ¬ T < 48 := fun z => h1 (by rw [if_pos z])
  have a2 : ¬ 57 < T := fun z => h1 (by rw [if_neg a1, if_pos z])
  rw [Int32.lt_iff_toInt_lt] at a1 a2
  rw [show (48 : Int32).toInt = 48 from rfl] at a1
  rw [show (57 : Int32).toInt = 57 from rfl] at a2
  have m : (10 * v).toInt = 10 * v.toInt := by rw [ti_mul] <;> rw [show (10 : Int32).toInt = 10 from rfl] <;> omega
  have s1 : (10 * v + T).toInt = 10 * v.toInt + T.toInt := by rw [ti_add, m] <;> omega
  have s2 : (10 * v + T - 48).toInt = 10 * v.toInt + T.toInt - 48 := by rw [ti_sub, s1] <;> rw [show (48 : Int32).toInt = 48 from rfl] <;> omega
  refine ⟨by omega, by omega, ?_⟩
  have b64 : ∀ z : Int, -1000000 ≤ z → z ≤ 10000000 → z.bmod (2 ^ 64) = z := by
    intro z hz1 hz2
    rw [Int.bmod_def]
    by_cases hz : 0 ≤ z
    · rw [Int.emod_eq_of_lt hz (by omega), if_pos (by omega)]
    · have : z % ((2 ^ 64 : Nat) : Int) = z + 18446744073709551616 := by
        have e : z % ((2 ^ 64 : Nat) : Int) = (z + 18446744073709551616) % ((2 ^ 64 : Nat) : Int) := by
          rw [show (18446744073709551616 : Int) = ((2 ^ 64 : Nat) : Int) from rfl, Int.add_emod_right]
        rw [e, Int.emod_eq_of_lt (by omega) (by omega)]
      rw [this, if_neg (by omega)]
      omega
  rw [← Int64.toInt_inj, Int32.toInt_toInt64, s2, Int64.toInt_sub, Int64.toInt_add, Int64.toInt_mul, Int32.toInt_toInt64, Int32.toInt_toInt64, show (10 : Int64).toInt = 10 from rfl, show (48 : Int64).toInt = 48 from rfl]
  rw [b64 (10 * v.toInt) (by omega) (by omega), b64 (10 * v.toInt + T.toInt) (by omega) (by omega), b64 _ (by omega) (by omega)]
set_option maxRecDepth 100000 in
theorem r_M_digits_loop {d n first : Nat} (hn : n ≤ 40) {T : Nat → Int32} {h : e_H} {vs : List Int64} {ss : List Int32} : ∀ (f : Nat) (g : e_H) (p : Nat) (v : Int32), m_P T n h g (-1) p vs ss → first ≤ p → first + 7 ≤ p + f → p ≤ first + 6 → 0 ≤ v.toInt → v.toInt < 10 ^ (p - first) → (∃ g2, m_nd T n first f p v = none ∧ e_F kX4_digits (e_X e_pg (d + 1)) 7 [.ref 40, .int (nI first), .long v.toInt64, .null] [] g = some (some (.long 0), g2) ∧ ∃ p2, m_P T n h g2 (10 * nI first + 2) p2 vs ss) ∨ (∃ g2 p2 w, m_nd T n first f p v = some (p2, w) ∧ p ≤ p2 ∧ e_F kX4_digits (e_X e_pg (d + 1)) 7 [.ref 40, .int (nI first), .long v.toInt64, .null] [] g = some (some (.long w.toInt64), g2) ∧ m_P T n h g2 (-1) p2 vs ss) := by
  intro f
  induction f with
  | zero => intro g p v hP h1 h2 h3; omega
  | succ f ih =>
    intro g p v hP hf1 hf2 hf3 hv0 hv1
    have hP0 := hP
    obtain ⟨h1, h2, h3, h4, h5, h6, h7, h8, h9, h10, h11, h12⟩ := hP
    rw [m_nd, zX4_digits_7]
    by_cases c1 : n ≤ p
    · have hc : nI n ≤ nI p := nI_le c1 (by omega)
      refine Or.inr ⟨g, p, v, by rw [if_pos c1], Nat.le_refl _, ?_, hP0⟩
      simp only [zX4_digits_8, zX4_digits_11, zX4_digits_12, zX4_digits_15, zX4_digits_18, zX4_digits_19, zX4_digits_22, zX4_digits_23, zX4_digits_26, zX4_digits_27, zX4_digits_28, zX4_digits_31, zX4_digits_34, zX4_digits_37, zX4_digits_40, zX4_digits_41, zX4_digits_44, zX4_digits_45, zX4_digits_46, zX4_digits_48, zX4_digits_51, zX4_digits_52, zX4_digits_54, zX4_digits_55, zX4_digits_56, zX4_digits_57, zX4_digits_58, zX4_digits_61, zX4_digits_62, zX4_digits_63, zX4_digits_66, zX4_digits_67, zX4_digits_68, zX4_digits_69, zX4_digits_72, zX4_digits_73, zX4_digits_76, zX4_digits_77, zX4_digits_78, zX4_digits_79, zX4_digits_82, zX4_digits_83, zX4_digits_84, zX4_digits_85, zX4_digits_86, zX4_digits_89, zX4_digits_90, zX4_digits_91, zX4_digits_94, zX4_digits_97, zX4_digits_98, h1, h5, hc, e_k_int, e_k_ref, e_k_null, e_k_long, e_k_ret, e_cats_nil, e_cats_int, e_cats_ref, e_cats_ret, e_cats_long, Option.toList_some, Option.toList_none, List.nil_append, List.cons_append, Option.bind_some, Nat.reduceAdd, Nat.reduceLeDiff, Nat.add_zero, if_true, if_false, true_and, and_true, and_self, Int32.reduceToNatClampNeg]
    · have hc : ¬ nI n ≤ nI p := nI_ge (by omega) (by omega)
      have hb : e_inb (nI p) 40 = true := e_inb_nI (by omega) (by decide)
      have hcl : (nI p).toNatClampNeg = p := nI_clamp (by omega)
      have hin := r_in32 (d := d) (v := T p) (k := 48) (m := 57) (a := 48) (b := 57) (h := g) rfl rfl
      rw [c_dig_in] at hin
      rw [if_neg c1]
      by_cases c2 : c_dig (T p) = 0
      · refine Or.inr ⟨g, p, v, by rw [if_pos c2], Nat.le_refl _, ?_, hP0⟩
        simp only [zX4_digits_8, zX4_digits_11, zX4_digits_12, zX4_digits_15, zX4_digits_18, zX4_digits_19, zX4_digits_22, zX4_digits_23, zX4_digits_26, zX4_digits_27, zX4_digits_28, zX4_digits_31, zX4_digits_34, zX4_digits_37, zX4_digits_40, zX4_digits_41, zX4_digits_44, zX4_digits_45, zX4_digits_46, zX4_digits_48, zX4_digits_51, zX4_digits_52, zX4_digits_54, zX4_digits_55, zX4_digits_56, zX4_digits_57, zX4_digits_58, zX4_digits_61, zX4_digits_62, zX4_digits_63, zX4_digits_66, zX4_digits_67, zX4_digits_68, zX4_digits_69, zX4_digits_72, zX4_digits_73, zX4_digits_76, zX4_digits_77, zX4_digits_78, zX4_digits_79, zX4_digits_82, zX4_digits_83, zX4_digits_84, zX4_digits_85, zX4_digits_86, zX4_digits_89, zX4_digits_90, zX4_digits_91, zX4_digits_94, zX4_digits_97, zX4_digits_98, h1, h2, h5, hc, hb, hcl, hin, c2, e_k_int, e_k_ref, e_k_null, e_k_long, e_k_ret, e_cats_nil, e_cats_int, e_cats_ref, e_cats_ret, e_cats_long, Option.toList_some, Option.toList_none, List.nil_append, List.cons_append, Option.bind_some, Nat.reduceAdd, Nat.reduceLeDiff, Nat.add_zero, if_true, if_false, true_and, and_true, and_self, Int32.reduceToNatClampNeg, ok_1, ok_2, ok_3, ok_4, ok_5, ok_6, ok_7, ok_8, ok_9, ok_30, ok_31, ok_32, ok_33, ok_34, ok_35, ok_36, ok_37, ok_38, ok_39, ok_40, ok_41, ok_42, ok_43, ok_44, ok_45, ok_46, ok_47, ok_48, ok_49, ok_50, ok_51, ok_52, ln_1, ln_2, ln_4, ln_5, ln_6, ln_7, ln_8, ln_30, ln_31, ln_32, ln_33, ln_34, ln_35, ln_36, ln_37, ln_38, ln_39, ln_41, ln_42, ln_43, ln_44, ln_45, ln_46, ln_47, ln_48, ln_49, ln_50, ln_51, ln_52]
      · rw [if_neg c2]
        have hsub : nI p - nI first = nI (p - first) := pk_sub hf1
        by_cases c3 : first + 6 ≤ p
        · have h6c : nI (p - first) = 6 := by
            rw [show p - first = 6 by omega]
            rfl
          refine Or.inl ⟨e_pI g 40 14 (10 * nI first + 2), by rw [if_pos c3], ?_, p, hP0.fault _⟩
          simp only [zX4_digits_8, zX4_digits_11, zX4_digits_12, zX4_digits_15, zX4_digits_18, zX4_digits_19, zX4_digits_22, zX4_digits_23, zX4_digits_26, zX4_digits_27, zX4_digits_28, zX4_digits_31, zX4_digits_34, zX4_digits_37, zX4_digits_40, zX4_digits_41, zX4_digits_44, zX4_digits_45, zX4_digits_46, zX4_digits_48, zX4_digits_51, zX4_digits_52, zX4_digits_54, zX4_digits_55, zX4_digits_56, zX4_digits_57, zX4_digits_58, zX4_digits_61, zX4_digits_62, zX4_digits_63, zX4_digits_66, zX4_digits_67, zX4_digits_68, zX4_digits_69, zX4_digits_72, zX4_digits_73, zX4_digits_76, zX4_digits_77, zX4_digits_78, zX4_digits_79, zX4_digits_82, zX4_digits_83, zX4_digits_84, zX4_digits_85, zX4_digits_86, zX4_digits_89, zX4_digits_90, zX4_digits_91, zX4_digits_94, zX4_digits_97, zX4_digits_98, h1, h2, h5, hc, hb, hcl, hin, c2, hsub, h6c, not_true_eq_false, e_k_int, e_k_ref, e_k_null, e_k_long, e_k_ret, e_cats_nil, e_cats_int, e_cats_ref, e_cats_ret, e_cats_long, Option.toList_some, Option.toList_none, List.nil_append, List.cons_append, Option.bind_some, Nat.reduceAdd, Nat.reduceLeDiff, Nat.add_zero, if_true, if_false, true_and, and_true, and_self, Int32.reduceToNatClampNeg, ok_1, ok_2, ok_3, ok_4, ok_5, ok_6, ok_7, ok_8, ok_9, ok_30, ok_31, ok_32, ok_33, ok_34, ok_35, ok_36, ok_37, ok_38, ok_39, ok_40, ok_41, ok_42, ok_43, ok_44, ok_45, ok_46, ok_47, ok_48, ok_49, ok_50, ok_51, ok_52, ln_1, ln_2, ln_4, ln_5, ln_6, ln_7, ln_8, ln_30, ln_31, ln_32, ln_33, ln_34, ln_35, ln_36, ln_37, ln_38, ln_39, ln_41, ln_42, ln_43, ln_44, ln_45, ln_46, ln_47, ln_48, ln_49, ln_50, ln_51, ln_52]
        · have h6c : ¬ nI (p - first) = 6 := by
            rw [show (6 : Int32) = nI 6 from rfl, nI_eq (by omega) (by decide)]
            omega
          rw [if_neg c3]
          have hpw : v.toInt ≤ 99999 := by
            have : (10 : Int) ^ (p - first) ≤ 100000 := by
              rcases (show p - first = 0 ∨ p - first = 1 ∨ p - first = 2 ∨ p - first = 3 ∨ p - first = 4 ∨ p - first = 5 by omega) with z | z | z | z | z | z <;> rw [z] <;> decide
            omega
          obtain ⟨n1, n2, n3⟩ := nd_step c2 hv0 hpw
          have hq := ih (e_pI g 40 13 (nI (p + 1))) (p + 1) (10 * v + T p - 48) (hP0.place (by omega)) (by omega) (by omega) (by omega) n1 (by
            rw [show p + 1 - first = (p - first) + 1 by omega, Int.pow_succ]
            omega)
          rw [n3] at hq
          rcases hq with ⟨g2, q1, q2, q3⟩ | ⟨g2, p2, w, q1, q2, q3, q4⟩
          · refine Or.inl ⟨g2, q1, ?_, q3⟩
            simp only [zX4_digits_8, zX4_digits_11, zX4_digits_12, zX4_digits_15, zX4_digits_18, zX4_digits_19, zX4_digits_22, zX4_digits_23, zX4_digits_26, zX4_digits_27, zX4_digits_28, zX4_digits_31, zX4_digits_34, zX4_digits_37, zX4_digits_40, zX4_digits_41, zX4_digits_44, zX4_digits_45, zX4_digits_46, zX4_digits_48, zX4_digits_51, zX4_digits_52, zX4_digits_54, zX4_digits_55, zX4_digits_56, zX4_digits_57, zX4_digits_58, zX4_digits_61, zX4_digits_62, zX4_digits_63, zX4_digits_66, zX4_digits_67, zX4_digits_68, zX4_digits_69, zX4_digits_72, zX4_digits_73, zX4_digits_76, zX4_digits_77, zX4_digits_78, zX4_digits_79, zX4_digits_82, zX4_digits_83, zX4_digits_84, zX4_digits_85, zX4_digits_86, zX4_digits_89, zX4_digits_90, zX4_digits_91, zX4_digits_94, zX4_digits_97, zX4_digits_98, h1, h2, h5, hc, hb, hcl, hin, c2, hsub, h6c, nI_1, not_false_eq_true, e_k_int, e_k_ref, e_k_null, e_k_long, e_k_ret, e_cats_nil, e_cats_int, e_cats_ref, e_cats_ret, e_cats_long, Option.toList_some, Option.toList_none, List.nil_append, List.cons_append, Option.bind_some, Nat.reduceAdd, Nat.reduceLeDiff, Nat.add_zero, if_true, if_false, true_and, and_true, and_self, Int32.reduceToNatClampNeg, ok_1, ok_2, ok_3, ok_4, ok_5, ok_6, ok_7, ok_8, ok_9, ok_30, ok_31, ok_32, ok_33, ok_34, ok_35, ok_36, ok_37, ok_38, ok_39, ok_40, ok_41, ok_42, ok_43, ok_44, ok_45, ok_46, ok_47, ok_48, ok_49, ok_50, ok_51, ok_52, ln_1, ln_2, ln_4, ln_5, ln_6, ln_7, ln_8, ln_30, ln_31, ln_32, ln_33, ln_34, ln_35, ln_36, ln_37, ln_38, ln_39, ln_41, ln_42, ln_43, ln_44, ln_45, ln_46, ln_47, ln_48, ln_49, ln_50, ln_51, ln_52]
            exact q2
          · refine Or.inr ⟨g2, p2, w, q1, by omega, ?_, q4⟩
            simp only [zX4_digits_8, zX4_digits_11, zX4_digits_12, zX4_digits_15, zX4_digits_18, zX4_digits_19, zX4_digits_22, zX4_digits_23, zX4_digits_26, zX4_digits_27, zX4_digits_28, zX4_digits_31, zX4_digits_34, zX4_digits_37, zX4_digits_40, zX4_digits_41, zX4_digits_44, zX4_digits_45, zX4_digits_46, zX4_digits_48, zX4_digits_51, zX4_digits_52, zX4_digits_54, zX4_digits_55, zX4_digits_56, zX4_digits_57, zX4_digits_58, zX4_digits_61, zX4_digits_62, zX4_digits_63, zX4_digits_66, zX4_digits_67, zX4_digits_68, zX4_digits_69, zX4_digits_72, zX4_digits_73, zX4_digits_76, zX4_digits_77, zX4_digits_78, zX4_digits_79, zX4_digits_82, zX4_digits_83, zX4_digits_84, zX4_digits_85, zX4_digits_86, zX4_digits_89, zX4_digits_90, zX4_digits_91, zX4_digits_94, zX4_digits_97, zX4_digits_98, h1, h2, h5, hc, hb, hcl, hin, c2, hsub, h6c, nI_1, not_false_eq_true, e_k_int, e_k_ref, e_k_null, e_k_long, e_k_ret, e_cats_nil, e_cats_int, e_cats_ref, e_cats_ret, e_cats_long, Option.toList_some, Option.toList_none, List.nil_append, List.cons_append, Option.bind_some, Nat.reduceAdd, Nat.reduceLeDiff, Nat.add_zero, if_true, if_false, true_and, and_true, and_self, Int32.reduceToNatClampNeg, ok_1, ok_2, ok_3, ok_4, ok_5, ok_6, ok_7, ok_8, ok_9, ok_30, ok_31, ok_32, ok_33, ok_34, ok_35, ok_36, ok_37, ok_38, ok_39, ok_40, ok_41, ok_42, ok_43, ok_44, ok_45, ok_46, ok_47, ok_48, ok_49, ok_50, ok_51, ok_52, ln_1, ln_2, ln_4, ln_5, ln_6, ln_7, ln_8, ln_30, ln_31, ln_32, ln_33, ln_34, ln_35, ln_36, ln_37, ln_38, ln_39, ln_41, ln_42, ln_43, ln_44, ln_45, ln_46, ln_47, ln_48, ln_49, ln_50, ln_51, ln_52]
            exact q3
theorem r_M_digits {d n : Nat} (hn : n ≤ 40) {T : Nat → Int32} {h g : e_H} {p : Nat} {vs : List Int64} {ss : List Int32} (hP : m_P T n h g (-1) p vs ss) : (∃ g2, m_nd T n p 7 p 0 = none ∧ e_X e_pg (d + 2) 108 [.ref 40] g = some (some (.long 0), g2) ∧ ∃ p2, m_P T n h g2 (10 * nI p + 2) p2 vs ss) ∨ (∃ g2 p2 w, m_nd T n p 7 p 0 = some (p2, w) ∧ p ≤ p2 ∧ e_X e_pg (d + 2) 108 [.ref 40] g = some (some (.long w.toInt64), g2) ∧ m_P T n h g2 (-1) p2 vs ss) := by
  rw [xX4_digits]
  simp only [zX4_digits_0, zX4_digits_1, zX4_digits_4, zX4_digits_5, zX4_digits_6, hP.2.2.2.2.1, e_k_int, e_k_ref, e_k_null, e_k_long, e_k_ret, e_cats_nil, e_cats_int, e_cats_ref, e_cats_ret, e_cats_long, Option.toList_some, Option.toList_none, List.nil_append, List.cons_append, Option.bind_some, Nat.reduceAdd, Nat.reduceLeDiff, Nat.add_zero, if_true, if_false, true_and, and_true, and_self, Int32.reduceToNatClampNeg]
  exact r_M_digits_loop hn 7 g p 0 hP (Nat.le_refl _) (by omega) (by omega) (by decide) (by simp [ti_0])
