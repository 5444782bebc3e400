/-! the model's part of a heap tells the same state -/
def q_M (S h : e_H) : Prop := (e_gI h 40 0 = e_gI S 0 6 ∧ e_gI h 40 4 = e_gI S 0 7 ∧ e_gI h 40 5 = e_gI S 0 8 ∧ e_gI h 40 6 = e_gI S 0 9 ∧ e_gI h 40 7 = e_gI S 0 10 ∧ e_gI h 40 8 = e_gI S 0 11 ∧ e_gI h 40 10 = e_gI S 3 0 ∧ e_gJ h 40 11 = e_gJ S 0 12 ∧ e_gJ h 40 12 = e_gJ S 0 13) ∧ (∀ s, s < 2 → e_gI h 43 s = e_gI S 1 s) ∧ (∀ s k w, s < 2 → k < 5 → w < 9 → e_gI h 41 (9 * q_x s k + w) = q_N S s k w) ∧ (∀ s k, s < 2 → k < q_c S s → e_gI h 42 (q_x s k) = e_gI S (q_x s k + 10) 1) ∧ ∀ k, e_gI h 44 k = e_gI S 4 k
/-- what the model changes while it settles -/
def q_mr (h f : e_H) : Prop := e_fr [40, 45, 46, 47, 48, 49, 50, 51, 52] h f ∧ (∀ k, k ∉ [13, 14, 16, 18, 24, 25, 26, 29] → e_gI f 40 k = e_gI h 40 k) ∧ ∀ k, k ≠ 20 → e_gJ f 40 k = e_gJ h 40 k
theorem q_mr.refl (h : e_H) : q_mr h h := ⟨e_fr.refl _ _, fun _ _ => rfl, fun _ _ => rfl⟩
theorem q_mr.trans {h g f : e_H} (a : q_mr h g) (b : q_mr g f) : q_mr h f := ⟨a.1.trans b.1, fun k hk => (b.2.1 k hk).trans (a.2.1 k hk), fun k hk => (b.2.2 k hk).trans (a.2.2 k hk)⟩
theorem q_mr.I {h f : e_H} (a : q_mr h f) {o : Nat} (ho : o ∉ [40, 45, 46, 47, 48, 49, 50, 51, 52]) : e_gI f o = e_gI h o := a.1.I ho
theorem q_M.mf {S h f : e_H} (hM : q_M S h) (m : q_mr h f) : q_M S f := by
  obtain ⟨⟨a1, a2, a3, a4, a5, a6, a7, a8, a9⟩, b, c, e, g⟩ := hM
  refine ⟨⟨?_, ?_, ?_, ?_, ?_, ?_, ?_, ?_, ?_⟩, ?_, ?_, ?_, ?_⟩
  · rw [m.2.1 0 (by simp)]; exact a1
  · rw [m.2.1 4 (by simp)]; exact a2
  · rw [m.2.1 5 (by simp)]; exact a3
  · rw [m.2.1 6 (by simp)]; exact a4
  · rw [m.2.1 7 (by simp)]; exact a5
  · rw [m.2.1 8 (by simp)]; exact a6
  · rw [m.2.1 10 (by simp)]; exact a7
  · rw [m.2.2 11 (by simp)]; exact a8
  · rw [m.2.2 12 (by simp)]; exact a9
  · rw [m.I (by simp)]; exact b
  · rw [m.I (by simp)]; exact c
  · rw [m.I (by simp)]; exact e
  · rw [m.I (by simp)]; exact g
theorem q_M.n {S h : e_H} (hS : q_ok S) (m : q_M S h) : e_gI h 40 0 = nI (q_n S) := m.1.1.trans hS.n.1
theorem q_M.c {S h : e_H} (hS : q_ok S) (m : q_M S h) {s : Nat} (hs : s < 2) : e_gI h 43 s = nI (q_c S s) := (m.2.1 s hs).trans (hS.c hs).1
theorem q_M.N {S h : e_H} (m : q_M S h) {s k w : Nat} (hs : s < 2) (hk : k < 5) (hw : w < 9) : e_gI h 41 (9 * q_x s k + w) = q_N S s k w := m.2.2.1 s k w hs hk hw
theorem q_M.W {S h : e_H} (hS : q_ok S) (m : q_M S h) {s k : Nat} (hs : s < 2) (hk : k < q_c S s) : e_gI h 42 (q_x s k) = nI (q_W S s k) := (m.2.2.2.1 s k hs hk).trans (hS.W hs (by have := (hS.c hs).2; omega)).1
/-! functions of an envoy's numbers look at nine alone -/
theorem p_wages_cg {A B : Nat → Int32} (h : ∀ w, w < 9 → A w = B w) (x : Int32) : p_wages A x = p_wages B x := by unfold p_wages; rw [h 6 (by decide), h 7 (by decide)]
theorem p_worth_cg {A B : Nat → Int32} (h : ∀ w, w < 9 → A w = B w) (x y : Int32) : p_worth A x y = p_worth B x y := by unfold p_worth p_bonus; rw [p_wages_cg h, h 0 (by decide), h 1 (by decide), h 2 (by decide), h 3 (by decide)]
theorem p_acc_cg {A B : Nat → Int32} (h : ∀ w, w < 9 → A w = B w) (x y : Int32) : p_acc A x y = p_acc B x y := by unfold p_acc; rw [h 5 (by decide)]
theorem s_g0_cg {A B : Nat → Int32} (h : ∀ w, w < 9 → A w = B w) (n x : Nat) : s_g0 A n x = s_g0 B n x := by unfold s_g0; rw [p_worth_cg h, h 4 (by decide)]
theorem s_g1_cg {A B : Nat → Int32} (h : ∀ w, w < 9 → A w = B w) (n x : Nat) : s_g1 A n x = s_g1 B n x := by unfold s_g1; rw [p_worth_cg h, h 4 (by decide)]
theorem s_B_cg {A B C D : Nat → Int32} (h : ∀ w, w < 9 → A w = B w) (g : ∀ w, w < 9 → C w = D w) (n x : Nat) : s_B A C n x = s_B B D n x := by unfold s_B; rw [s_g0_cg h, s_g1_cg g, p_acc_cg h, p_acc_cg g]
theorem e_Rg_cg {A B : Nat → Int32} (h : ∀ w, w < 9 → A w = B w) (hB : e_Rg B) : e_Rg A := fun w hw => by rw [h w hw]; exact hB w hw
theorem q_M.Mn {S h : e_H} (m : q_M S h) {s k : Nat} (hs : s < 2) (hk : k < 5) : ∀ w, w < 9 → e_Mn h (5 * s + k) w = q_N S s k w := fun w hw => m.N hs hk hw
theorem p_Mworth_cg {A B : Nat → Int32} (h : ∀ w, w < 9 → A w = B w) (x y : Int32) : p_Mworth A x y = p_Mworth B x y := by unfold p_Mworth p_bonus p_Mpaid; rw [h 0 (by decide), h 1 (by decide), h 2 (by decide), h 3 (by decide), h 6 (by decide), h 7 (by decide)]
theorem p_Mpaid_cg {A B : Nat → Int32} (h : ∀ w, w < 9 → A w = B w) (x : Int32) : p_Mpaid A x = p_Mpaid B x := by unfold p_Mpaid; rw [h 6 (by decide), h 7 (by decide)]
theorem p_Mtake_cg {A B : Nat → Int32} (h : ∀ w, w < 9 → A w = B w) (x y : Int32) : p_Mtake A x y = p_Mtake B x y := by unfold p_Mtake; rw [p_Mworth_cg h, h 4 (by decide), h 5 (by decide)]
/-! the model's methods, over the state -/
theorem r_Mof {d s k w : Nat} {S h : e_H} {a b c : Int32} (m : q_M S h) (ha : a = nI s) (hb : b = nI k) (hc : c = nI w) (hs : s < 2) (hk : k < 5) (hw : w < 9) : e_X e_pg (d + 1) 88 [.ref 40, .int a, .int b, .int c] h = some (some (.int (q_N S s k w)), h) := by
  rw [r_M_of ha hb hc hs hk hw]
  rw [show e_gI h 41 (9 * (5 * s + k) + w) = q_N S s k w from m.N hs hk hw]
theorem r_Mworth {d s k x : Nat} {S h : e_H} {a b c : Int32} (hS : q_ok S) (m : q_M S h) (ha : a = nI s) (hb : b = nI k) (hc : c = nI x) (hs : s < 2) (hk : k < 5) (hx : x ≤ q_n S) : e_X e_pg (d + 3) 93 [.ref 40, .int a, .int b, .int c] h = some (some (.int (p_worth (q_N S s k) c (nI (q_n S)))), h) := by
  have hn2 := hS.n.2
  subst hc
  rw [r_M_worthOf ha hb hs hk, m.n hS, p_Mworth_cg (m.Mn hs hk), p_Mworth_eq (hS.N hs hk) (by omega)]
theorem r_Mpaid {d s k x : Nat} {S h : e_H} {a b c : Int32} (hS : q_ok S) (m : q_M S h) (ha : a = nI s) (hb : b = nI k) (hc : c = nI x) (hs : s < 2) (hk : k < 5) (hx : x ≤ q_n S) : e_X e_pg (d + 2) 94 [.ref 40, .int a, .int b, .int c] h = some (some (.int (p_wages (q_N S s k) c)), h) := by
  have hn2 := hS.n.2
  subst hc
  rw [r_M_paidTo ha hb hs hk, p_Mpaid_cg (m.Mn hs hk), p_Mpaid_eq (hS.N hs hk) (by omega)]
theorem r_Mtake {d s k x : Nat} {S h : e_H} {a b c : Int32} (hS : q_ok S) (m : q_M S h) (ha : a = nI s) (hb : b = nI k) (hc : c = nI x) (hs : s < 2) (hk : k < 5) (hx : x ≤ q_n S) : e_X e_pg (d + 4) 95 [.ref 40, .int a, .int b, .int c] h = some (some (.int (p_acc (q_N S s k) c (p_worth (q_N S s k) c (nI (q_n S)) - q_N S s k 4))), h) := by
  have hn2 := hS.n.2
  subst hc
  rw [r_M_doesTake ha hb hs hk, m.n hS, p_Mtake_cg (m.Mn hs hk), p_Mtake_eq (hS.N hs hk) hx hn2.2]
theorem r_M_isMan {d : Nat} {S h : e_H} {a b : Int32} (hS : q_ok S) (m : q_M S h) : e_X e_pg (d + 3) 87 [.ref 40, .int a, .int b] h = some (some (.int (p_isE (e_gI S 1) a b)), h) := by
  have go : ∀ s, s < 2 → ∀ x : Int32, x = nI s → e_gI h 43 s - 1 = nI (q_c S s - 1) ∧ ((if b < 0 then (0 : Int32) else if nI (q_c S s - 1) < b then 0 else 1) = if b < 0 then 0 else if e_gI S 1 s ≤ b then 0 else 1) := by
    intro s hs x hx
    have cc := (hS.c hs).2
    refine ⟨by rw [m.c hS hs, show (1 : Int32) = nI 1 from rfl, pk_sub cc.1], ?_⟩
    rw [(hS.c hs).1]
    by_cases c : b < 0
    · rw [if_pos c, if_pos c]
    · rw [if_neg c, if_neg c]
      obtain ⟨k, hk, rfl⟩ := nI_of c
      have e : (nI (q_c S s - 1) < nI k) ↔ (nI (q_c S s) ≤ nI k) := by
        rw [nI_ltI (by omega) hk, nI_leI (by omega) hk]
        omega
      simp only [e]
  rw [xX4_isMan]
  unfold p_isE
  by_cases h0 : a = 0
  · subst h0
    obtain ⟨g1, g2⟩ := go 0 (by decide) 0 rfl
    rw [if_pos rfl, ← g2]
    have hin := fun g => r_in32 (d := d + 1) (v := b) (k := 0) (m := nI (q_c S 0 - 1)) (a := 0) (b := (nI (q_c S 0 - 1)).toInt64) (h := g) rfl rfl
    simp only [zX4_isMan_0, zX4_isMan_1, zX4_isMan_4, zX4_isMan_7, zX4_isMan_8, zX4_isMan_9, zX4_isMan_10, zX4_isMan_11, zX4_isMan_14, zX4_isMan_15, zX4_isMan_16, zX4_isMan_17, zX4_isMan_18, zX4_isMan_19, zX4_isMan_22, zX4_isMan_25, zX4_isMan_26, zX4_isMan_29, zX4_isMan_30, r_M_isSide, p_side, g1, hin, ne_0_1, ne_0_2, ne_0_3, ne_1_0, ne_1_2, ne_1_3, ne_2_0, ne_2_1, ne_2_3, ne_3_0, ne_3_1, ne_3_2, e_k_int, e_k_ref, e_k_null, e_k_long, e_k_ret, e_cats_nil, e_cats_int, e_cats_ref, e_cats_ret, e_cats_long, Option.toList_some, Option.toList_none, List.nil_append, List.cons_append, Option.bind_some, Nat.reduceAdd, Nat.reduceLeDiff, Nat.add_zero, if_true, if_false, true_and, and_true, and_self, Int32.reduceToNatClampNeg, ok_1, ok_2, ok_3, ok_4, ok_5, ok_6, ok_7, ok_8, ok_9, ok_30, ok_31, ok_32, ok_33, ok_34, ok_35, ok_36, ok_37, ok_38, ok_39, ok_40, ok_41, ok_42, ok_43, ok_44, ok_45, ok_46, ok_47, ok_48, ok_49, ok_50, ok_51, ok_52, ln_1, ln_2, ln_4, ln_5, ln_6, ln_7, ln_8, ln_30, ln_31, ln_32, ln_33, ln_34, ln_35, ln_36, ln_37, ln_38, ln_39, ln_41, ln_42, ln_43, ln_44, ln_45, ln_46, ln_47, ln_48, ln_49, ln_50, ln_51, ln_52, ib_0_9, ib_1_9, ib_2_9, ib_3_9, ib_4_9, ib_5_9, ib_6_9, ib_7_9, ib_8_9, ib_0_2, ib_1_2, ib_0_5, ib_1_5, ib_2_5, ib_3_5, ib_4_5, ib_0_25, ib_0_10, ib_5_10, ib_0_90, ib_45_90, ib_0_64]
    repeat' split
    all_goals simp_all
  · by_cases h1 : a = 1
    · subst h1
      obtain ⟨g1, g2⟩ := go 1 (by decide) 1 rfl
      rw [if_neg h0, if_pos rfl, ← g2]
      have hin := fun g => r_in32 (d := d + 1) (v := b) (k := 0) (m := nI (q_c S 1 - 1)) (a := 0) (b := (nI (q_c S 1 - 1)).toInt64) (h := g) rfl rfl
      simp only [zX4_isMan_0, zX4_isMan_1, zX4_isMan_4, zX4_isMan_7, zX4_isMan_8, zX4_isMan_9, zX4_isMan_10, zX4_isMan_11, zX4_isMan_14, zX4_isMan_15, zX4_isMan_16, zX4_isMan_17, zX4_isMan_18, zX4_isMan_19, zX4_isMan_22, zX4_isMan_25, zX4_isMan_26, zX4_isMan_29, zX4_isMan_30, r_M_isSide, p_side, h0, g1, hin, not_true_eq_false, ne_0_1, ne_0_2, ne_0_3, ne_1_0, ne_1_2, ne_1_3, ne_2_0, ne_2_1, ne_2_3, ne_3_0, ne_3_1, ne_3_2, e_k_int, e_k_ref, e_k_null, e_k_long, e_k_ret, e_cats_nil, e_cats_int, e_cats_ref, e_cats_ret, e_cats_long, Option.toList_some, Option.toList_none, List.nil_append, List.cons_append, Option.bind_some, Nat.reduceAdd, Nat.reduceLeDiff, Nat.add_zero, if_true, if_false, true_and, and_true, and_self, Int32.reduceToNatClampNeg, ok_1, ok_2, ok_3, ok_4, ok_5, ok_6, ok_7, ok_8, ok_9, ok_30, ok_31, ok_32, ok_33, ok_34, ok_35, ok_36, ok_37, ok_38, ok_39, ok_40, ok_41, ok_42, ok_43, ok_44, ok_45, ok_46, ok_47, ok_48, ok_49, ok_50, ok_51, ok_52, ln_1, ln_2, ln_4, ln_5, ln_6, ln_7, ln_8, ln_30, ln_31, ln_32, ln_33, ln_34, ln_35, ln_36, ln_37, ln_38, ln_39, ln_41, ln_42, ln_43, ln_44, ln_45, ln_46, ln_47, ln_48, ln_49, ln_50, ln_51, ln_52, ib_0_9, ib_1_9, ib_2_9, ib_3_9, ib_4_9, ib_5_9, ib_6_9, ib_7_9, ib_8_9, ib_0_2, ib_1_2, ib_0_5, ib_1_5, ib_2_5, ib_3_5, ib_4_5, ib_0_25, ib_0_10, ib_5_10, ib_0_90, ib_45_90, ib_0_64]
      repeat' split
      all_goals simp_all
    · rw [if_neg h0, if_neg h1]
      simp only [zX4_isMan_0, zX4_isMan_1, zX4_isMan_4, zX4_isMan_7, zX4_isMan_8, zX4_isMan_9, zX4_isMan_10, zX4_isMan_11, zX4_isMan_14, zX4_isMan_15, zX4_isMan_16, zX4_isMan_17, zX4_isMan_18, zX4_isMan_19, zX4_isMan_22, zX4_isMan_25, zX4_isMan_26, zX4_isMan_29, zX4_isMan_30, r_M_isSide, p_side, h0, h1, not_false_eq_true, true_or, e_k_int, e_k_ref, e_k_null, e_k_long, e_k_ret, e_cats_nil, e_cats_int, e_cats_ref, e_cats_ret, e_cats_long, Option.toList_some, Option.toList_none, List.nil_append, List.cons_append, Option.bind_some, Nat.reduceAdd, Nat.reduceLeDiff, Nat.add_zero, if_true, if_false, true_and, and_true, and_self, Int32.reduceToNatClampNeg]
theorem p_isE_01 (c : Nat → Int32) (a b : Int32) : p_isE c a b = 0 ∨ p_isE c a b = 1 := by
  unfold p_isE
  repeat' split
  all_goals simp
theorem r_M_arePair {d : Nat} {S h : e_H} {a b : Int32} (hS : q_ok S) (m : q_M S h) : e_X e_pg (d + 4) 120 [.ref 40, .int a, .int b] h = some (some (.int (if p_isE (e_gI S 1) 0 a = 0 then 0 else p_isE (e_gI S 1) 1 b)), h) := by
  rw [xX4_arePair]
  simp only [zX4_arePair_0, zX4_arePair_1, zX4_arePair_2, zX4_arePair_3, zX4_arePair_6, zX4_arePair_9, zX4_arePair_10, zX4_arePair_11, zX4_arePair_12, zX4_arePair_15, zX4_arePair_18, zX4_arePair_19, zX4_arePair_22, zX4_arePair_23, r_M_isMan hS m, e_k_int, e_k_ref, e_k_null, e_k_long, e_k_ret, e_cats_nil, e_cats_int, e_cats_ref, e_cats_ret, e_cats_long, Option.toList_some, Option.toList_none, List.nil_append, List.cons_append, Option.bind_some, Nat.reduceAdd, Nat.reduceLeDiff, Nat.add_zero, if_true, if_false, true_and, and_true, and_self, Int32.reduceToNatClampNeg]
  rcases p_isE_01 (e_gI S 1) 0 a with z | z <;> rcases p_isE_01 (e_gI S 1) 1 b with y | y <;> simp only [z, y, ne_0_1, ne_0_2, ne_0_3, ne_1_0, ne_1_2, ne_1_3, ne_2_0, ne_2_1, ne_2_3, ne_3_0, ne_3_1, ne_3_2, true_or, or_true, if_true, if_false]
/-! settling -/
theorem q_mr_of2 {g f : e_H} {a b c : Int32} (h : s_MF2 g f a b c) : q_mr g f := ⟨h.1.mono (fun o ho => by simp at ho ⊢; omega), fun k hk => h.2.1 k (by simp at hk; omega) (by simp at hk; omega) (by simp at hk; omega) (by simp at hk; omega) (by simp at hk; omega) (by simp at hk; omega) (by simp at hk; omega), fun k hk => h.2.2.1 k hk⟩
def q_oth (S : e_H) (x : Int32) : Int32 := if e_gI S 0 7 = 2 then x else -5
/-- the model has settled -/
def q_MMet (S h f : e_H) (Ni Nj B : Nat → Int32) : Prop := q_mr h f ∧ e_gI f 48 = e_gI h 48 ∧ e_gI f 40 24 = (q_rB S Ni Nj B).1 ∧ e_gI f 40 25 = q_oth S (q_rB S Ni Nj B).2.1 ∧ e_gI f 40 26 = (q_rB S Ni Nj B).2.2 ∧ e_gI f 40 29 = e_gI h 40 29 ∧ e_gI f 51 = e_gI h 51 ∧ e_gI f 52 = e_gI h 52
theorem q_MMet_of {S h f : e_H} {Ni Nj B : Nat → Int32} {a b c : Int32} (m : s_MF2 h f a b c) (ha : a = (q_rB S Ni Nj B).1) (hb : b = q_oth S (q_rB S Ni Nj B).2.1) (hc : c = (q_rB S Ni Nj B).2.2) : q_MMet S h f Ni Nj B := by
  refine ⟨q_mr_of2 m, m.1.I (by simp), by rw [← ha]; exact m.2.2.2.1, by rw [← hb]; exact m.2.2.2.2.1, by rw [← hc]; exact m.2.2.2.2.2, m.2.1 29 (by decide) (by decide) (by decide) (by decide) (by decide) (by decide) (by decide), m.1.I (by simp), m.1.I (by simp)⟩
theorem r_M_settleBy {d : Nat} {S h : e_H} {Ni Nj B : Nat → Int32} {w0 w1 : Int32} (hS : q_ok S) (m : q_M S h) (hNi : e_Rg Ni) (hNj : e_Rg Nj) (h0 : w0 = Ni 4) (h1 : w1 = Nj 4) (hx : ∀ x, x ≤ q_n S → e_gI h 49 x = s_g0 Ni (q_n S) x ∧ e_gI h 50 x = s_g1 Nj (q_n S) x ∧ e_gI h 48 x = B x) : ∃ f, e_X e_pg (d + 6) 113 [.ref 40, .int w0, .int w1] h = some (none, f) ∧ q_MMet S h f Ni Nj B := by
  have hn := hS.n.2
  have hR := hS.R.2
  have hnh := m.n hS
  have way := hS.way
  have hway : e_gI h 40 4 = e_gI S 0 7 := m.1.2.1
  obtain ⟨g, hg⟩ : ∃ g, g = e_pI (e_pI (e_pI h 40 24 (-5)) 40 25 (-5)) 40 26 (-1) := ⟨_, rfl⟩
  have hF : s_MFin h g (-5) (-5) (-1) := by
    rw [hg]
    refine ⟨(((e_fr.refl _ h).pI (by simp)).pI (by simp)).pI (by simp), fun k k1 k2 k3 => ?_, fun k => rfl, by simp [e_gI_pI], by simp [e_gI_pI], by simp [e_gI_pI]⟩
    rw [e_gI_pI, if_neg (by omega), e_gI_pI, if_neg (by omega), e_gI_pI, if_neg (by omega)]
  have gw : e_gI g 40 4 = e_gI S 0 7 := by rw [hF.2.1 4 (by decide) (by decide) (by decide)]; exact hway
  have gn : e_gI g 40 0 = nI (q_n S) := by rw [hF.2.1 0 (by decide) (by decide) (by decide)]; exact hnh
  rw [xX4_settleBy]
  rcases way with w | w | w | w
  · obtain ⟨f, a1, a2⟩ := r_M_byProducts (d := d + 4) hn.2 hnh hF
    refine ⟨f, ?_, ?_⟩
    · rw [hg] at a1 gw
      simp only [zX4_settleBy_0, zX4_settleBy_1, zX4_settleBy_3, zX4_settleBy_6, zX4_settleBy_7, zX4_settleBy_9, zX4_settleBy_12, zX4_settleBy_13, zX4_settleBy_14, zX4_settleBy_17, zX4_settleBy_18, zX4_settleBy_21, zX4_settleBy_24, zX4_settleBy_25, zX4_settleBy_28, zX4_settleBy_31, zX4_settleBy_32, zX4_settleBy_35, zX4_settleBy_36, zX4_settleBy_39, zX4_settleBy_40, zX4_settleBy_43, zX4_settleBy_46, zX4_settleBy_47, zX4_settleBy_50, zX4_settleBy_51, zX4_settleBy_54, zX4_settleBy_55, zX4_settleBy_56, zX4_settleBy_57, zX4_settleBy_59, zX4_settleBy_62, zX4_settleBy_65, zX4_settleBy_66, zX4_settleBy_67, zX4_settleBy_68, zX4_settleBy_70, zX4_settleBy_73, zX4_settleBy_76, zX4_settleBy_79, zX4_settleBy_80, zX4_settleBy_81, zX4_settleBy_82, zX4_settleBy_85, gw, w, a1, not_true_eq_false, e_k_int, e_k_ref, e_k_null, e_k_long, e_k_ret, e_cats_nil, e_cats_int, e_cats_ref, e_cats_ret, e_cats_long, Option.toList_some, Option.toList_none, List.nil_append, List.cons_append, Option.bind_some, Nat.reduceAdd, Nat.reduceLeDiff, Nat.add_zero, if_true, if_false, true_and, and_true, and_self, Int32.reduceToNatClampNeg]
    · have e : s_prod (e_gI h 49) (e_gI h 50) (e_gI h 48) (q_n S + 1) = s_prod (s_g0 Ni (q_n S)) (s_g1 Nj (q_n S)) B (q_n S + 1) := s_prod_cg _ (fun x q => hx x (by omega))
      rw [e] at a2
      refine q_MMet_of a2.two ?_ ?_ ?_
      · unfold q_rB s_res; rw [w, if_neg (by decide), if_neg (by decide), if_neg (by decide)]
      · unfold q_oth; rw [w, if_neg (by decide)]
      · unfold q_rB s_res; rw [w, if_neg (by decide), if_neg (by decide), if_neg (by decide)]
  · obtain ⟨f, a1, a2⟩ := r_M_byOffers (d := d + 2) (t := q_R S) (dl := e_gI S 0 9) hn.2 hR.2 hnh m.1.2.2.2.1 (m.1.2.2.1.trans hS.R.1) hF
    refine ⟨f, ?_, ?_⟩
    · rw [hg] at a1 gw
      simp only [zX4_settleBy_0, zX4_settleBy_1, zX4_settleBy_3, zX4_settleBy_6, zX4_settleBy_7, zX4_settleBy_9, zX4_settleBy_12, zX4_settleBy_13, zX4_settleBy_14, zX4_settleBy_17, zX4_settleBy_18, zX4_settleBy_21, zX4_settleBy_24, zX4_settleBy_25, zX4_settleBy_28, zX4_settleBy_31, zX4_settleBy_32, zX4_settleBy_35, zX4_settleBy_36, zX4_settleBy_39, zX4_settleBy_40, zX4_settleBy_43, zX4_settleBy_46, zX4_settleBy_47, zX4_settleBy_50, zX4_settleBy_51, zX4_settleBy_54, zX4_settleBy_55, zX4_settleBy_56, zX4_settleBy_57, zX4_settleBy_59, zX4_settleBy_62, zX4_settleBy_65, zX4_settleBy_66, zX4_settleBy_67, zX4_settleBy_68, zX4_settleBy_70, zX4_settleBy_73, zX4_settleBy_76, zX4_settleBy_79, zX4_settleBy_80, zX4_settleBy_81, zX4_settleBy_82, zX4_settleBy_85, gw, w, a1, ne_0_1, ne_0_2, ne_0_3, ne_1_0, ne_1_2, ne_1_3, ne_2_0, ne_2_1, ne_2_3, ne_3_0, ne_3_1, ne_3_2, not_true_eq_false, not_false_eq_true, e_k_int, e_k_ref, e_k_null, e_k_long, e_k_ret, e_cats_nil, e_cats_int, e_cats_ref, e_cats_ret, e_cats_long, Option.toList_some, Option.toList_none, List.nil_append, List.cons_append, Option.bind_some, Nat.reduceAdd, Nat.reduceLeDiff, Nat.add_zero, if_true, if_false, true_and, and_true, and_self, Int32.reduceToNatClampNeg]
    · have e := s_off_cg (dl := e_gI S 0 9) hn.2 hx (q_R S) (-5, -1) (Or.inl rfl)
      rw [e] at a2
      refine q_MMet_of a2.two ?_ ?_ ?_
      · unfold q_rB s_res; rw [w, if_pos rfl]
      · unfold q_oth; rw [w, if_neg (by decide)]
      · unfold q_rB s_res; rw [w, if_pos rfl]
  · have a1 := r_M_bestFor0 (d := d + 3) (w := -1000000) hn.2 gn
    obtain ⟨B0, hB0⟩ : ∃ B0, B0 = s_best (e_gI g 49) (e_gI g 50) (e_gI g 48) (-1000000) (q_n S + 1) := ⟨_, rfl⟩
    rw [← hB0] at a1
    have hF2 : s_MFin h (e_pI g 40 24 B0) B0 (-5) (-1) := hF.share
    have gn2 : e_gI (e_pI g 40 24 B0) 40 0 = nI (q_n S) := by rw [e_gI_pI, if_neg (by omega)]; exact gn
    have a2 := r_M_bestFor1 (d := d + 3) (w := -1000000) hn.2 gn2
    rw [hF2.arr (show 50 ≠ 40 by decide), hF2.arr (show 49 ≠ 40 by decide), hF2.arr (show 48 ≠ 40 by decide)] at a2
    rw [hF.arr (show 50 ≠ 40 by decide), hF.arr (show 49 ≠ 40 by decide), hF.arr (show 48 ≠ 40 by decide)] at hB0
    have lo0 : ∀ x, x ≤ q_n S → ¬ s_g0 Ni (q_n S) x < -1000000 := fun x q => by
      have r := p_worth_rg hNi q hn.2
      have r4 := hNi.at4
      unfold s_g0
      rw [Int32.lt_iff_toInt_lt, ti_sub (by omega) (by omega), show (-1000000 : Int32).toInt = -1000000 from rfl]
      omega
    have lo1 : ∀ x, x ≤ q_n S → ¬ s_g1 Nj (q_n S) x < -1000000 := fun x q => by
      have r := p_worth_rg hNj (show q_n S - x ≤ q_n S by omega) hn.2
      have r4 := hNj.at4
      unfold s_g1
      rw [Int32.lt_iff_toInt_lt, ti_sub (by omega) (by omega), show (-1000000 : Int32).toInt = -1000000 from rfl]
      omega
    have e0 : B0 = s_best (s_g0 Ni (q_n S)) (s_g1 Nj (q_n S)) B (-2147483648) (q_n S + 1) := by
      rw [hB0, s_best_cg (q_n S + 1) (by omega) (fun x q => hx x (by omega))]
      exact s_best_low _ (fun x q => ⟨lo1 x (by omega), i32_min _⟩)
    have e1 : s_best (e_gI h 50) (e_gI h 49) (e_gI h 48) (-1000000) (q_n S + 1) = s_best (s_g1 Nj (q_n S)) (s_g0 Ni (q_n S)) B (-2147483648) (q_n S + 1) := by
      rw [s_best_cg (q_n S + 1) (by omega) (fun x q => ⟨(hx x (by omega)).2.1, (hx x (by omega)).1, (hx x (by omega)).2.2⟩)]
      exact s_best_low _ (fun x q => ⟨lo0 x (by omega), i32_min _⟩)
    rw [e1] at a2
    refine ⟨e_pI (e_pI g 40 24 B0) 40 25 (s_best (s_g1 Nj (q_n S)) (s_g0 Ni (q_n S)) B (-2147483648) (q_n S + 1)), ?_, ?_⟩
    · rw [hg] at a1 a2 gw ⊢
      simp only [zX4_settleBy_0, zX4_settleBy_1, zX4_settleBy_3, zX4_settleBy_6, zX4_settleBy_7, zX4_settleBy_9, zX4_settleBy_12, zX4_settleBy_13, zX4_settleBy_14, zX4_settleBy_17, zX4_settleBy_18, zX4_settleBy_21, zX4_settleBy_24, zX4_settleBy_25, zX4_settleBy_28, zX4_settleBy_31, zX4_settleBy_32, zX4_settleBy_35, zX4_settleBy_36, zX4_settleBy_39, zX4_settleBy_40, zX4_settleBy_43, zX4_settleBy_46, zX4_settleBy_47, zX4_settleBy_50, zX4_settleBy_51, zX4_settleBy_54, zX4_settleBy_55, zX4_settleBy_56, zX4_settleBy_57, zX4_settleBy_59, zX4_settleBy_62, zX4_settleBy_65, zX4_settleBy_66, zX4_settleBy_67, zX4_settleBy_68, zX4_settleBy_70, zX4_settleBy_73, zX4_settleBy_76, zX4_settleBy_79, zX4_settleBy_80, zX4_settleBy_81, zX4_settleBy_82, zX4_settleBy_85, gw, w, a1, a2, ne_0_1, ne_0_2, ne_0_3, ne_1_0, ne_1_2, ne_1_3, ne_2_0, ne_2_1, ne_2_3, ne_3_0, ne_3_1, ne_3_2, not_true_eq_false, not_false_eq_true, e_k_int, e_k_ref, e_k_null, e_k_long, e_k_ret, e_cats_nil, e_cats_int, e_cats_ref, e_cats_ret, e_cats_long, Option.toList_some, Option.toList_none, List.nil_append, List.cons_append, Option.bind_some, Nat.reduceAdd, Nat.reduceLeDiff, Nat.add_zero, if_true, if_false, true_and, and_true, and_self, Int32.reduceToNatClampNeg]
    · refine q_MMet_of hF2.other.two ?_ ?_ ?_
      · unfold q_rB s_res; rw [w, if_neg (by decide), if_pos rfl, e0]
      · unfold q_oth q_rB s_res; rw [w, if_pos rfl, if_neg (by decide), if_pos rfl]
      · unfold q_rB s_res; rw [w, if_neg (by decide), if_pos rfl]
  · have hr := hS.rule
    obtain ⟨f, a1, a2⟩ := r_M_byRule (d := d) (n := q_n S) (nT := q_L S) (w0 := w0) (w1 := w1) hn.2 hr.1.2.2 hF hnh (T := e_gI S 4) (m.1.2.2.2.2.2.2.1.trans hr.1.1) m.2.2.2.2 (tl := q_tl S w0 w1) (fun _ l u v hv => by
      unfold q_tl
      rw [hr.2.2.2.2.1]
      exact s_run_pu (by rw [← hr.2.2.2.2.1]; exact hr.2.2.2.1.2.2) hr.2.2.2.2.2 hv)
    refine ⟨f, ?_, ?_⟩
    · rw [hg] at a1 gw
      simp only [zX4_settleBy_0, zX4_settleBy_1, zX4_settleBy_3, zX4_settleBy_6, zX4_settleBy_7, zX4_settleBy_9, zX4_settleBy_12, zX4_settleBy_13, zX4_settleBy_14, zX4_settleBy_17, zX4_settleBy_18, zX4_settleBy_21, zX4_settleBy_24, zX4_settleBy_25, zX4_settleBy_28, zX4_settleBy_31, zX4_settleBy_32, zX4_settleBy_35, zX4_settleBy_36, zX4_settleBy_39, zX4_settleBy_40, zX4_settleBy_43, zX4_settleBy_46, zX4_settleBy_47, zX4_settleBy_50, zX4_settleBy_51, zX4_settleBy_54, zX4_settleBy_55, zX4_settleBy_56, zX4_settleBy_57, zX4_settleBy_59, zX4_settleBy_62, zX4_settleBy_65, zX4_settleBy_66, zX4_settleBy_67, zX4_settleBy_68, zX4_settleBy_70, zX4_settleBy_73, zX4_settleBy_76, zX4_settleBy_79, zX4_settleBy_80, zX4_settleBy_81, zX4_settleBy_82, zX4_settleBy_85, gw, w, a1, show ((3 : Int32) = 0) = False from eq_false (by decide), show ((3 : Int32) = 1) = False from eq_false (by decide), show ((3 : Int32) = 2) = False from eq_false (by decide), not_true_eq_false, not_false_eq_true, e_k_int, e_k_ref, e_k_null, e_k_long, e_k_ret, e_cats_nil, e_cats_int, e_cats_ref, e_cats_ret, e_cats_long, Option.toList_some, Option.toList_none, List.nil_append, List.cons_append, Option.bind_some, Nat.reduceAdd, Nat.reduceLeDiff, Nat.add_zero, if_true, if_false, true_and, and_true, and_self, Int32.reduceToNatClampNeg]
    · rw [s_rul_cg (C := B) (fun x q => (hx x q).2.2), ← hr.2.2.1, h0, h1] at a2
      refine q_MMet_of a2 ?_ ?_ ?_
      · unfold q_rB s_res; rw [w, if_neg (by decide), if_neg (by decide), if_pos rfl]
      · unfold q_oth; rw [w, if_neg (by decide)]
      · unfold q_rB s_res; rw [w, if_neg (by decide), if_neg (by decide), if_pos rfl]
/-- a pair has met -/
def q_MM (S h f : e_H) (i j : Nat) : Prop := q_mr h f ∧ (∀ x, x ≤ q_n S → e_gI f 48 x = q_bt S i j x) ∧ e_gI f 40 24 = (q_res S i j).1 ∧ e_gI f 40 25 = q_oth S (q_res S i j).2.1 ∧ e_gI f 40 26 = (q_res S i j).2.2 ∧ e_gI f 40 29 = e_gI h 40 29 ∧ e_gI f 51 = e_gI h 51 ∧ e_gI f 52 = e_gI h 52
theorem q_mr_seat {h g : e_H} (hf : e_fr [48, 49, 50] h g) : q_mr h g := ⟨hf.mono (fun o ho => by simp at ho ⊢; omega), fun k _ => hf.1 40 k (by simp), fun k _ => hf.2 40 k (by simp)⟩
theorem r_M_lay {d i j : Nat} {S h : e_H} {a b : Int32} (hS : q_ok S) (m : q_M S h) (ha : a = nI i) (hb : b = nI j) (hi : i < 5) (hj : j < 5) : ∃ g, e_X e_pg (d + 5) 111 [.ref 40, .int a, .int b] h = some (none, g) ∧ e_fr [48, 49, 50] h g ∧ ∀ x, x ≤ q_n S → e_gI g 49 x = s_g0 (q_N S 0 i) (q_n S) x ∧ e_gI g 50 x = s_g1 (q_N S 1 j) (q_n S) x ∧ e_gI g 48 x = q_bt S i j x := by
  have ci := m.Mn (show 0 < 2 by decide) hi
  have cj := m.Mn (show 1 < 2 by decide) hj
  obtain ⟨g, a1, a2, a3⟩ := r_M_layOut (d := d) ha hb hi hj hS.n.2.2 (m.n hS) (e_Rg_cg ci (hS.N (by decide) hi)) (e_Rg_cg cj (hS.N (by decide) hj))
  refine ⟨g, a1, a3, fun x hx => ?_⟩
  obtain ⟨b1, b2, b3⟩ := a2 x (by omega)
  rw [b1, b2, b3]
  exact ⟨s_g0_cg ci _ _, s_g1_cg cj _ _, s_B_cg ci cj _ _⟩
theorem r_M_settleTwo {d i j : Nat} {S h : e_H} {a b : Int32} (hS : q_ok S) (m : q_M S h) (ha : a = nI i) (hb : b = nI j) (hi : i < 5) (hj : j < 5) : ∃ f, e_X e_pg (d + 7) 112 [.ref 40, .int a, .int b] h = some (none, f) ∧ q_MM S h f i j := by
  obtain ⟨g, a1, a2, a3⟩ := r_M_lay (d := d + 1) hS m ha hb hi hj
  have mf := q_mr_seat a2
  have m2 := m.mf mf
  obtain ⟨f, b1, b2⟩ := r_M_settleBy (d := d) (w0 := q_N S 0 i 4) (w1 := q_N S 1 j 4) (B := q_bt S i j) hS m2 (hS.N (by decide) hi) (hS.N (by decide) hj) rfl rfl a3
  refine ⟨f, ?_, mf.trans b2.1, fun x hx => by rw [b2.2.1]; exact (a3 x hx).2.2, b2.2.2.1, b2.2.2.2.1, b2.2.2.2.2.1, ?_, ?_, ?_⟩
  · rw [xX4_settleTwo]
    simp only [zX4_settleTwo_0, zX4_settleTwo_1, zX4_settleTwo_2, zX4_settleTwo_3, zX4_settleTwo_6, zX4_settleTwo_7, zX4_settleTwo_8, zX4_settleTwo_9, zX4_settleTwo_10, zX4_settleTwo_11, zX4_settleTwo_14, zX4_settleTwo_15, zX4_settleTwo_16, zX4_settleTwo_17, zX4_settleTwo_18, zX4_settleTwo_21, zX4_settleTwo_24, a1, r_Mof (s := 0) (k := i) (w := 4) (a := 0) (c := 4) m2 rfl ha rfl (by decide) hi (by decide), r_Mof (s := 1) (k := j) (w := 4) (a := 1) (c := 4) m2 rfl hb rfl (by decide) hj (by decide), b1, e_k_int, e_k_ref, e_k_null, e_k_long, e_k_ret, e_cats_nil, e_cats_int, e_cats_ref, e_cats_ret, e_cats_long, Option.toList_some, Option.toList_none, List.nil_append, List.cons_append, Option.bind_some, Nat.reduceAdd, Nat.reduceLeDiff, Nat.add_zero, if_true, if_false, true_and, and_true, and_self, Int32.reduceToNatClampNeg]
  · rw [b2.2.2.2.2.2.1]; exact a2.1 40 29 (by simp)
  · rw [b2.2.2.2.2.2.2.1]; exact a2.I (by simp)
  · rw [b2.2.2.2.2.2.2.2]; exact a2.I (by simp)
