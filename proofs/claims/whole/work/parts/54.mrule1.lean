/-! the model's reader: its stacks -/
def m_Stk (f : Nat → Int32) (st : List Int32) : Prop := ∀ i, i < st.length → f i = st.getD (st.length - 1 - i) 0
theorem m_Stk.push {f : Nat → Int32} {st : List Int32} (h : m_Stk f st) {g : Nat → Int32} {v : Int32} (h1 : g st.length = v) (h2 : ∀ i, i < st.length → g i = f i) : m_Stk g (v :: st) := by
  intro i hi
  simp only [List.length_cons] at hi ⊢
  by_cases hi2 : i = st.length
  · subst hi2
    rw [h1]
    simp
  · rw [h2 i (by omega), h i (by omega)]
    rw [show st.length + 1 - 1 - i = (st.length - 1 - i) + 1 by omega, List.getD_cons_succ]
theorem m_Stk.tail {f : Nat → Int32} {x : Int32} {st : List Int32} (h : m_Stk f (x :: st)) : m_Stk f st ∧ f st.length = x := by
  refine ⟨fun i hi => ?_, ?_⟩
  · rw [h i (by simp; omega)]
    simp only [List.length_cons]
    rw [show st.length + 1 - 1 - i = (st.length - 1 - i) + 1 by omega, List.getD_cons_succ]
  · rw [h st.length (by simp)]
    simp
theorem m_Stk.eq {f g : Nat → Int32} {st : List Int32} (h : m_Stk f st) (he : ∀ i, i < st.length → g i = f i) : m_Stk g st := fun i hi => by rw [he i hi]; exact h i hi
theorem s_Stk.eq {f g : Nat → Int64} {st : List Int64} (h : s_Stk f st) (he : ∀ i, i < st.length → g i = f i) : s_Stk g st := fun i hi => by rw [he i hi]; exact h i hi
/-- the frame of the reader: what isn't its own -/
def m_Fr (h g : e_H) : Prop := e_fr [40, 45, 46] h g ∧ (∀ k, k ≠ 13 → k ≠ 14 → k ≠ 16 → k ≠ 18 → e_gI g 40 k = e_gI h 40 k) ∧ ∀ k, k ≠ 20 → e_gJ g 40 k = e_gJ h 40 k
theorem m_Fr.refl (h : e_H) : m_Fr h h := ⟨e_fr.refl _ _, fun _ _ _ _ _ => rfl, fun _ _ => rfl⟩
theorem m_Fr.p40 {h g : e_H} (a : m_Fr h g) {k : Nat} {v : Int32} (hk : k = 13 ∨ k = 14 ∨ k = 16 ∨ k = 18) : m_Fr h (e_pI g 40 k v) := by
  refine ⟨a.1.pI (by simp), fun j h1 h2 h3 h4 => ?_, fun j hj => a.2.2 j hj⟩
  rw [e_gI_pI, if_neg (by omega)]
  exact a.2.1 j h1 h2 h3 h4
theorem m_Fr.p46 {h g : e_H} (a : m_Fr h g) {k : Nat} {v : Int32} : m_Fr h (e_pI g 46 k v) := by
  refine ⟨a.1.pI (by simp), fun j h1 h2 h3 h4 => ?_, fun j hj => a.2.2 j hj⟩
  rw [e_gI_pI, if_neg (by omega)]
  exact a.2.1 j h1 h2 h3 h4
theorem m_Fr.p45 {h g : e_H} (a : m_Fr h g) {k : Nat} {v : Int64} : m_Fr h (e_pJ g 45 k v) := by
  refine ⟨a.1.pJ (by simp), fun j h1 h2 h3 h4 => a.2.1 j h1 h2 h3 h4, fun j hj => ?_⟩
  rw [e_gJ_pJ, if_neg (by omega)]
  exact a.2.2 j hj
def m_P (T : Nat → Int32) (n : Nat) (h g : e_H) (fl : Int32) (p : Nat) (vs : List Int64) (ss : List Int32) : Prop := e_gI g 40 10 = nI n ∧ (∀ k, e_gI g 44 k = T k) ∧ m_Fr h g ∧ e_gI g 40 14 = fl ∧ e_gI g 40 13 = nI p ∧ p ≤ n ∧ e_gI g 40 16 = nI vs.length ∧ vs.length ≤ 64 ∧ s_Stk (e_gJ g 45) vs ∧ e_gI g 40 18 = nI ss.length ∧ ss.length ≤ 128 ∧ m_Stk (e_gI g 46) ss
theorem m_P.place {T : Nat → Int32} {n : Nat} {h g : e_H} {fl : Int32} {p : Nat} {vs : List Int64} {ss : List Int32} (hP : m_P T n h g fl p vs ss) {q : Nat} (hq : q ≤ n) : m_P T n h (e_pI g 40 13 (nI q)) fl q vs ss := by
  obtain ⟨h1, h2, h3, h4, h5, h6, h7, h8, h9, h10, h11, h12⟩ := hP
  exact ⟨by simp [e_gI_pI, h1], fun k => by simp [e_gI_pI, h2], h3.p40 (by simp), by simp [e_gI_pI, h4], by simp [e_gI_pI], hq, by simp [e_gI_pI, h7], h8, h9, by simp [e_gI_pI, h10], h11, h12.eq (fun i _ => by simp [e_gI_pI])⟩
theorem m_P.inc {T : Nat → Int32} {n : Nat} {h g : e_H} {fl : Int32} {p : Nat} {vs : List Int64} {ss : List Int32} (hP : m_P T n h g fl p vs ss) (hq : p < n) : m_P T n h (e_pI g 40 13 (e_gI g 40 13 + 1)) fl (p + 1) vs ss := by
  rw [hP.2.2.2.2.1, nI_1]
  exact hP.place (by omega)
theorem m_P.fault {T : Nat → Int32} {n : Nat} {h g : e_H} {fl : Int32} {p : Nat} {vs : List Int64} {ss : List Int32} (hP : m_P T n h g fl p vs ss) (fl2 : Int32) : m_P T n h (e_pI g 40 14 fl2) fl2 p vs ss := by
  obtain ⟨h1, h2, h3, h4, h5, h6, h7, h8, h9, h10, h11, h12⟩ := hP
  exact ⟨by simp [e_gI_pI, h1], fun k => by simp [e_gI_pI, h2], h3.p40 (by simp), by simp [e_gI_pI], by simp [e_gI_pI, h5], h6, by simp [e_gI_pI, h7], h8, h9, by simp [e_gI_pI, h10], h11, h12.eq (fun i _ => by simp [e_gI_pI])⟩
theorem m_P.pushS {T : Nat → Int32} {n : Nat} {h g : e_H} {fl : Int32} {p : Nat} {vs : List Int64} {ss : List Int32} (hP : m_P T n h g fl p vs ss) (c : Int32) (hs : ss.length < 128) : m_P T n h (e_pI (e_pI g 46 ss.length c) 40 18 (nI (ss.length + 1))) fl p vs (c :: ss) := by
  obtain ⟨h1, h2, h3, h4, h5, h6, h7, h8, h9, h10, h11, h12⟩ := hP
  exact ⟨by simp [e_gI_pI, h1], fun k => by simp [e_gI_pI, h2], h3.p46.p40 (by simp), by simp [e_gI_pI, h4], by simp [e_gI_pI, h5], h6, by simp [e_gI_pI, h7], h8, h9, by simp [e_gI_pI], by simp; omega, h12.push (by simp [e_gI_pI]) (fun i hi => by simp [e_gI_pI]; omega)⟩
theorem m_P.popS {T : Nat → Int32} {n : Nat} {h g : e_H} {fl : Int32} {p : Nat} {vs : List Int64} {c : Int32} {ss : List Int32} (hP : m_P T n h g fl p vs (c :: ss)) : m_P T n h (e_pI g 40 18 (nI ss.length)) fl p vs ss := by
  obtain ⟨h1, h2, h3, h4, h5, h6, h7, h8, h9, h10, h11, h12⟩ := hP
  exact ⟨by simp [e_gI_pI, h1], fun k => by simp [e_gI_pI, h2], h3.p40 (by simp), by simp [e_gI_pI, h4], by simp [e_gI_pI, h5], h6, by simp [e_gI_pI, h7], h8, h9, by simp [e_gI_pI], by simp at h11; omega, h12.tail.1.eq (fun i _ => by simp [e_gI_pI])⟩
theorem m_P.popV {T : Nat → Int32} {n : Nat} {h g : e_H} {fl : Int32} {p : Nat} {v : Int64} {vs : List Int64} {ss : List Int32} (hP : m_P T n h g fl p (v :: vs) ss) : m_P T n h (e_pI g 40 16 (nI vs.length)) fl p vs ss := by
  obtain ⟨h1, h2, h3, h4, h5, h6, h7, h8, h9, h10, h11, h12⟩ := hP
  exact ⟨by simp [e_gI_pI, h1], fun k => by simp [e_gI_pI, h2], h3.p40 (by simp), by simp [e_gI_pI, h4], by simp [e_gI_pI, h5], h6, by simp [e_gI_pI], by simp at h8; omega, h9.tail.1, by simp [e_gI_pI, h10], h11, h12.eq (fun i _ => by simp [e_gI_pI])⟩
theorem m_P.pushV {T : Nat → Int32} {n : Nat} {h g : e_H} {fl : Int32} {p : Nat} {vs : List Int64} {ss : List Int32} (hP : m_P T n h g fl p vs ss) (v : Int64) (hs : vs.length < 64) : m_P T n h (e_pI (e_pJ g 45 vs.length v) 40 16 (nI (vs.length + 1))) fl p (v :: vs) ss := by
  obtain ⟨h1, h2, h3, h4, h5, h6, h7, h8, h9, h10, h11, h12⟩ := hP
  exact ⟨by simp [e_gI_pI, e_gI_pJ, h1], fun k => by simp [e_gI_pI, e_gI_pJ, h2], h3.p45.p40 (by simp), by simp [e_gI_pI, e_gI_pJ, h4], by simp [e_gI_pI, e_gI_pJ, h5], h6, by simp [e_gI_pI], by simp; omega, h9.push (by simp [e_gJ_pI, e_gJ_pJ]) (fun i hi => by simp [e_gJ_pI, e_gJ_pJ]; omega), by simp [e_gI_pI, e_gI_pJ, h10], h11, h12.eq (fun i _ => by simp [e_gI_pI, e_gI_pJ])⟩
/-- the top value is replaced -/
theorem m_P.setV {T : Nat → Int32} {n : Nat} {h g : e_H} {fl : Int32} {p : Nat} {u : Int64} {vs : List Int64} {ss : List Int32} (hP : m_P T n h g fl p (u :: vs) ss) (v : Int64) : m_P T n h (e_pJ g 45 vs.length v) fl p (v :: vs) ss := by
  obtain ⟨h1, h2, h3, h4, h5, h6, h7, h8, h9, h10, h11, h12⟩ := hP
  exact ⟨h1, h2, h3.p45, h4, h5, h6, h7, h8, h9.tail.1.push (by simp [e_gJ_pJ]) (fun i hi => by simp [e_gJ_pJ]; omega), h10, h11, h12⟩
set_option maxRecDepth 100000 in
theorem r_M_ahead_loop {d n : Nat} (hn : n ≤ 40) {T : Nat → Int32} {h : e_H} {fl : Int32} {vs : List Int64} {ss : List Int32} : ∀ (f : Nat) (g : e_H) (p : Nat), m_P T n h g fl p vs ss → n - p ≤ f → ∃ g2, e_F kX4_ahead (e_X e_pg d) 0 [.ref 40] [] g = some (some (.int (c_ch T n (c_sk T n f p))), g2) ∧ m_P T n h g2 fl (c_sk T n f p) vs ss := by
  intro f
  induction f with
  | zero =>
    intro g p hP hf
    refine ⟨g, ?_, hP⟩
    have h1 := hP.1
    have h3 := hP.2.2.2.2.1
    have h6 := hP.2.2.2.2.2.1
    have hc : nI n ≤ nI p := nI_le (by omega) (by omega)
    have e : c_sk T n 0 p = p := rfl
    rw [e, zX4_ahead_0]
    simp only [zX4_ahead_1, zX4_ahead_4, zX4_ahead_5, zX4_ahead_8, zX4_ahead_11, zX4_ahead_12, zX4_ahead_15, zX4_ahead_16, zX4_ahead_19, zX4_ahead_20, zX4_ahead_22, zX4_ahead_25, zX4_ahead_26, zX4_ahead_27, zX4_ahead_30, zX4_ahead_31, zX4_ahead_32, zX4_ahead_35, zX4_ahead_38, zX4_ahead_39, zX4_ahead_42, zX4_ahead_43, zX4_ahead_46, zX4_ahead_49, zX4_ahead_50, zX4_ahead_53, zX4_ahead_54, zX4_ahead_57, zX4_ahead_58, zX4_ahead_61, zX4_ahead_62, h1, h3, hc, c_ch, show ¬ p < n by omega, e_k_int, e_k_ref, e_k_null, e_k_long, e_k_ret, e_cats_nil, e_cats_int, e_cats_ref, e_cats_ret, e_cats_long, Option.toList_some, Option.toList_none, List.nil_append, List.cons_append, Option.bind_some, Nat.reduceAdd, Nat.reduceLeDiff, Nat.add_zero, if_true, if_false, true_and, and_true, and_self, Int32.reduceToNatClampNeg]
  | succ f ih =>
    intro g p hP hf
    have h1 := hP.1
    have h9 := hP.2.1
    have h3 := hP.2.2.2.2.1
    have h6 := hP.2.2.2.2.2.1
    by_cases hp : p < n
    · have hc : ¬ nI n ≤ nI p := nI_ge hp (by omega)
      have hb : e_inb (nI p) 40 = true := e_inb_nI (by omega) (by decide)
      have hcl : (nI p).toNatClampNeg = p := nI_clamp (by omega)
      by_cases h32 : T p = 32
      · have e : c_sk T n (f + 1) p = c_sk T n f (p + 1) := by rw [c_sk, if_pos hp, if_pos h32]
        have q := ih (e_pI g 40 13 (nI (p + 1))) (p + 1) (hP.place (by omega)) (by omega)
        rw [e, zX4_ahead_0]
        simp only [zX4_ahead_1, zX4_ahead_4, zX4_ahead_5, zX4_ahead_8, zX4_ahead_11, zX4_ahead_12, zX4_ahead_15, zX4_ahead_16, zX4_ahead_19, zX4_ahead_20, zX4_ahead_22, zX4_ahead_25, zX4_ahead_26, zX4_ahead_27, zX4_ahead_30, zX4_ahead_31, zX4_ahead_32, zX4_ahead_35, zX4_ahead_38, zX4_ahead_39, zX4_ahead_42, zX4_ahead_43, zX4_ahead_46, zX4_ahead_49, zX4_ahead_50, zX4_ahead_53, zX4_ahead_54, zX4_ahead_57, zX4_ahead_58, zX4_ahead_61, zX4_ahead_62, h1, h3, hc, hb, hcl, h9, h32, not_true_eq_false, nI_1, e_k_int, e_k_ref, e_k_null, e_k_long, e_k_ret, e_cats_nil, e_cats_int, e_cats_ref, e_cats_ret, e_cats_long, Option.toList_some, Option.toList_none, List.nil_append, List.cons_append, Option.bind_some, Nat.reduceAdd, Nat.reduceLeDiff, Nat.add_zero, if_true, if_false, true_and, and_true, and_self, Int32.reduceToNatClampNeg, ok_1, ok_2, ok_3, ok_4, ok_5, ok_6, ok_7, ok_8, ok_9, ok_30, ok_31, ok_32, ok_33, ok_34, ok_35, ok_36, ok_37, ok_38, ok_39, ok_40, ok_41, ok_42, ok_43, ok_44, ok_45, ok_46, ok_47, ok_48, ok_49, ok_50, ok_51, ok_52, ln_1, ln_2, ln_4, ln_5, ln_6, ln_7, ln_8, ln_30, ln_31, ln_32, ln_33, ln_34, ln_35, ln_36, ln_37, ln_38, ln_39, ln_41, ln_42, ln_43, ln_44, ln_45, ln_46, ln_47, ln_48, ln_49, ln_50, ln_51, ln_52]
        exact q
      · have e : c_sk T n (f + 1) p = p := by rw [c_sk, if_pos hp, if_neg h32]
        refine ⟨g, ?_, by rw [e]; exact hP⟩
        rw [e, zX4_ahead_0]
        simp only [zX4_ahead_1, zX4_ahead_4, zX4_ahead_5, zX4_ahead_8, zX4_ahead_11, zX4_ahead_12, zX4_ahead_15, zX4_ahead_16, zX4_ahead_19, zX4_ahead_20, zX4_ahead_22, zX4_ahead_25, zX4_ahead_26, zX4_ahead_27, zX4_ahead_30, zX4_ahead_31, zX4_ahead_32, zX4_ahead_35, zX4_ahead_38, zX4_ahead_39, zX4_ahead_42, zX4_ahead_43, zX4_ahead_46, zX4_ahead_49, zX4_ahead_50, zX4_ahead_53, zX4_ahead_54, zX4_ahead_57, zX4_ahead_58, zX4_ahead_61, zX4_ahead_62, h1, h3, hc, hb, hcl, h9, h32, hp, c_ch, not_false_eq_true, e_k_int, e_k_ref, e_k_null, e_k_long, e_k_ret, e_cats_nil, e_cats_int, e_cats_ref, e_cats_ret, e_cats_long, Option.toList_some, Option.toList_none, List.nil_append, List.cons_append, Option.bind_some, Nat.reduceAdd, Nat.reduceLeDiff, Nat.add_zero, if_true, if_false, true_and, and_true, and_self, Int32.reduceToNatClampNeg, ok_1, ok_2, ok_3, ok_4, ok_5, ok_6, ok_7, ok_8, ok_9, ok_30, ok_31, ok_32, ok_33, ok_34, ok_35, ok_36, ok_37, ok_38, ok_39, ok_40, ok_41, ok_42, ok_43, ok_44, ok_45, ok_46, ok_47, ok_48, ok_49, ok_50, ok_51, ok_52, ln_1, ln_2, ln_4, ln_5, ln_6, ln_7, ln_8, ln_30, ln_31, ln_32, ln_33, ln_34, ln_35, ln_36, ln_37, ln_38, ln_39, ln_41, ln_42, ln_43, ln_44, ln_45, ln_46, ln_47, ln_48, ln_49, ln_50, ln_51, ln_52]
    · have hc : nI n ≤ nI p := nI_le (by omega) (by omega)
      have e : c_sk T n (f + 1) p = p := by rw [c_sk, if_neg hp]
      refine ⟨g, ?_, by rw [e]; exact hP⟩
      rw [e, zX4_ahead_0]
      simp only [zX4_ahead_1, zX4_ahead_4, zX4_ahead_5, zX4_ahead_8, zX4_ahead_11, zX4_ahead_12, zX4_ahead_15, zX4_ahead_16, zX4_ahead_19, zX4_ahead_20, zX4_ahead_22, zX4_ahead_25, zX4_ahead_26, zX4_ahead_27, zX4_ahead_30, zX4_ahead_31, zX4_ahead_32, zX4_ahead_35, zX4_ahead_38, zX4_ahead_39, zX4_ahead_42, zX4_ahead_43, zX4_ahead_46, zX4_ahead_49, zX4_ahead_50, zX4_ahead_53, zX4_ahead_54, zX4_ahead_57, zX4_ahead_58, zX4_ahead_61, zX4_ahead_62, h1, h3, hc, hp, c_ch, e_k_int, e_k_ref, e_k_null, e_k_long, e_k_ret, e_cats_nil, e_cats_int, e_cats_ref, e_cats_ret, e_cats_long, Option.toList_some, Option.toList_none, List.nil_append, List.cons_append, Option.bind_some, Nat.reduceAdd, Nat.reduceLeDiff, Nat.add_zero, if_true, if_false, true_and, and_true, and_self, Int32.reduceToNatClampNeg]
theorem r_M_ahead {d n : Nat} (hn : n ≤ 40) {T : Nat → Int32} {h g : e_H} {fl : Int32} {p : Nat} {vs : List Int64} {ss : List Int32} (hP : m_P T n h g fl p vs ss) : ∃ g2, e_X e_pg (d + 1) 102 [.ref 40] g = some (some (.int (c_ch T n (c_skip T n p))), g2) ∧ m_P T n h g2 fl (c_skip T n p) vs ss := by
  rw [xX4_ahead]
  exact r_M_ahead_loop hn (n - p) g p hP (Nat.le_refl _)
def m_rank (c : Int32) : Int32 := if c = 38 then 2 else if c = 42 then 5 else if c = 43 then 4 else if c = 45 then 4 else if c = 47 then 5 else if c = 60 then 3 else if c = 61 then 3 else if c = 62 then 3 else if c = 124 then 1 else 0
theorem r_M_rank {d : Nat} {c : Int32} {h : e_H} : e_X e_pg (d + 1) 103 [.int c] h = some (some (.int (m_rank c)), h) := by
  rw [xX4_rank]
  unfold m_rank
  simp only [zX4_rank_0, zX4_rank_1, zX4_rank_84, zX4_rank_85, zX4_rank_86, zX4_rank_87, zX4_rank_88, zX4_rank_89, zX4_rank_90, zX4_rank_91, zX4_rank_92, zX4_rank_93, zX4_rank_94, zX4_rank_95, e_k_int, e_k_ref, e_k_null, e_k_long, e_k_ret, e_cats_nil, e_cats_int, e_cats_ref, e_cats_ret, e_cats_long, Option.toList_some, Option.toList_none, List.nil_append, List.cons_append, Option.bind_some, Nat.reduceAdd, Nat.reduceLeDiff, Nat.add_zero, if_true, if_false, true_and, and_true, and_self, Int32.reduceToNatClampNeg]
  repeat' split
  all_goals (first | rfl | (simp_all; done))
theorem r_M_nameOf {d : Nat} {c : Int32} {h : e_H} : e_X e_pg (d + 1) 107 [.int c] h = some (some (.int (c_let c)), h) := by
  rw [xX4_nameOf]
  unfold c_let
  simp only [zX4_nameOf_0, zX4_nameOf_1, zX4_nameOf_3, zX4_nameOf_6, zX4_nameOf_7, zX4_nameOf_10, zX4_nameOf_11, zX4_nameOf_13, zX4_nameOf_16, zX4_nameOf_17, zX4_nameOf_20, zX4_nameOf_21, zX4_nameOf_23, zX4_nameOf_26, zX4_nameOf_27, zX4_nameOf_30, zX4_nameOf_31, zX4_nameOf_33, zX4_nameOf_36, zX4_nameOf_37, zX4_nameOf_40, zX4_nameOf_41, zX4_nameOf_43, zX4_nameOf_46, zX4_nameOf_47, zX4_nameOf_50, zX4_nameOf_51, e_k_int, e_k_ref, e_k_null, e_k_long, e_k_ret, e_cats_nil, e_cats_int, e_cats_ref, e_cats_ret, e_cats_long, Option.toList_some, Option.toList_none, List.nil_append, List.cons_append, Option.bind_some, Nat.reduceAdd, Nat.reduceLeDiff, Nat.add_zero, if_true, if_false, true_and, and_true, and_self, Int32.reduceToNatClampNeg]
  repeat' split
  all_goals (first | rfl | (simp_all; done))
set_option maxRecDepth 100000 in
theorem r_M_workOut {d n : Nat} {T : Nat → Int32} {h g : e_H} {fl : Int32} {p : Nat} {a b : Int64} {vs : List Int64} {c : Int32} {ss : List Int32} (hP : m_P T n h g fl p (b :: a :: vs) (c :: ss)) : ∃ g2, e_X e_pg (d + 1) 104 [.ref 40] g = some (none, g2) ∧ m_P T n h g2 fl p (s_join c a b :: vs) ss := by
  have hP2 := (hP.popS.popV).setV (s_join c a b)
  refine ⟨_, ?_, hP2⟩
  obtain ⟨h1, h2, h3, h4, h5, h6, h7, h8, h9, h10, h11, h12⟩ := hP
  simp at h8 h11
  have e1 : nI (c :: ss).length - 1 = nI ss.length := nI_pred _
  have e2 : nI (b :: a :: vs).length - 1 = nI (a :: vs).length := nI_pred _
  have e3 : nI (a :: vs).length - 1 = nI vs.length := nI_pred _
  have i1 : e_inb (nI ss.length) 128 = true := e_inb_nI (by omega) (by decide)
  have i2 : e_inb (nI (a :: vs).length) 64 = true := e_inb_nI (by simp; omega) (by decide)
  have i3 : e_inb (nI vs.length) 64 = true := e_inb_nI (by omega) (by decide)
  have k1 : (nI ss.length).toNatClampNeg = ss.length := nI_clamp (by omega)
  have k2 : (nI (a :: vs).length).toNatClampNeg = (a :: vs).length := nI_clamp (by simp; omega)
  have k3 : (nI vs.length).toNatClampNeg = vs.length := nI_clamp (by omega)
  obtain ⟨t1, t2⟩ := h9.tail
  obtain ⟨t3, t4⟩ := t1.tail
  obtain ⟨u1, u2⟩ := h12.tail
  rw [xX4_workOut]
  unfold s_join
  simp only [zX4_workOut_0, zX4_workOut_1, zX4_workOut_2, zX4_workOut_5, zX4_workOut_6, zX4_workOut_7, zX4_workOut_10, zX4_workOut_11, zX4_workOut_12, zX4_workOut_15, zX4_workOut_16, zX4_workOut_17, zX4_workOut_20, zX4_workOut_21, zX4_workOut_24, zX4_workOut_25, zX4_workOut_28, zX4_workOut_29, zX4_workOut_30, zX4_workOut_31, zX4_workOut_32, zX4_workOut_33, zX4_workOut_36, zX4_workOut_37, zX4_workOut_40, zX4_workOut_41, zX4_workOut_42, zX4_workOut_43, zX4_workOut_45, zX4_workOut_46, zX4_workOut_49, zX4_workOut_50, zX4_workOut_53, zX4_workOut_54, zX4_workOut_128, zX4_workOut_129, zX4_workOut_130, zX4_workOut_131, zX4_workOut_134, zX4_workOut_135, zX4_workOut_136, zX4_workOut_137, zX4_workOut_140, zX4_workOut_141, zX4_workOut_144, zX4_workOut_145, zX4_workOut_147, zX4_workOut_150, zX4_workOut_151, zX4_workOut_152, zX4_workOut_153, zX4_workOut_156, zX4_workOut_157, zX4_workOut_158, zX4_workOut_159, zX4_workOut_162, zX4_workOut_163, zX4_workOut_166, zX4_workOut_167, zX4_workOut_169, zX4_workOut_172, zX4_workOut_173, zX4_workOut_174, zX4_workOut_175, zX4_workOut_178, zX4_workOut_179, zX4_workOut_182, zX4_workOut_183, zX4_workOut_185, zX4_workOut_188, zX4_workOut_189, zX4_workOut_190, zX4_workOut_191, zX4_workOut_194, zX4_workOut_195, zX4_workOut_198, zX4_workOut_199, zX4_workOut_201, zX4_workOut_204, zX4_workOut_205, zX4_workOut_206, zX4_workOut_207, zX4_workOut_210, zX4_workOut_211, zX4_workOut_214, zX4_workOut_215, zX4_workOut_217, zX4_workOut_220, zX4_workOut_221, zX4_workOut_222, zX4_workOut_223, zX4_workOut_225, zX4_workOut_228, zX4_workOut_229, zX4_workOut_230, zX4_workOut_231, zX4_workOut_233, zX4_workOut_236, zX4_workOut_237, zX4_workOut_238, zX4_workOut_239, zX4_workOut_241, zX4_workOut_244, zX4_workOut_245, zX4_workOut_246, zX4_workOut_247, zX4_workOut_250, zX4_workOut_251, zX4_workOut_254, zX4_workOut_255, zX4_workOut_256, zX4_workOut_257, zX4_workOut_259, zX4_workOut_260, zX4_workOut_263, zX4_workOut_264, zX4_workOut_267, zX4_workOut_268, zX4_workOut_269, zX4_workOut_271, zX4_workOut_272, h7, h10, e1, e2, e3, i1, i2, i3, k1, k2, k3, t2, t4, u2, e_gI_pI, e_gJ_pI, Nat.reduceEqDiff, false_and, and_false, lc_eq, lc_ge, lc_le, e_k_int, e_k_ref, e_k_null, e_k_long, e_k_ret, e_cats_nil, e_cats_int, e_cats_ref, e_cats_ret, e_cats_long, Option.toList_some, Option.toList_none, List.nil_append, List.cons_append, Option.bind_some, Nat.reduceAdd, Nat.reduceLeDiff, Nat.add_zero, if_true, if_false, true_and, and_true, and_self, Int32.reduceToNatClampNeg, ok_1, ok_2, ok_3, ok_4, ok_5, ok_6, ok_7, ok_8, ok_9, ok_30, ok_31, ok_32, ok_33, ok_34, ok_35, ok_36, ok_37, ok_38, ok_39, ok_40, ok_41, ok_42, ok_43, ok_44, ok_45, ok_46, ok_47, ok_48, ok_49, ok_50, ok_51, ok_52, ln_1, ln_2, ln_4, ln_5, ln_6, ln_7, ln_8, ln_30, ln_31, ln_32, ln_33, ln_34, ln_35, ln_36, ln_37, ln_38, ln_39, ln_41, ln_42, ln_43, ln_44, ln_45, ln_46, ln_47, ln_48, ln_49, ln_50, ln_51, ln_52]
  repeat' split
  all_goals (first | rfl | (simp_all; done) | grind)
