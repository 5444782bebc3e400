/-! the class: two meet; what a side has -/
theorem q_cell {i j : Nat} : nI i * 5 + nI j = nI (5 * i + j) := by rw [show (5 : Int32) = nI 5 from rfl, pk_mul, nI_add, Nat.mul_comm]
theorem q_cellM {i j : Nat} : 5 * nI i + nI j = nI (5 * i + j) := by rw [show (5 : Int32) = nI 5 from rfl, pk_mul, nI_add]
def q_Met (S g f : e_H) (i j : Nat) : Prop := e_fr [7, 8, 9, 30, 32, 33, 35, 36] g f ∧ e_gI f 9 5 = (q_res S i j).1 ∧ e_gI f 9 6 = (q_res S i j).2.1 ∧ e_gI f 9 7 = (q_res S i j).2.2 ∧ (∀ x, x ≤ q_n S → e_gI f 30 x = q_bt S i j x) ∧ (∀ x, e_gI f 35 x = if x = 5 * i + j then (q_res S i j).1 else e_gI g 35 x) ∧ ∀ x, e_gI f 36 x = if x = 5 * i + j then (q_res S i j).2.1 else e_gI g 36 x
theorem r_meet {d i j : Nat} {S g : e_H} {a b : Int32} (hS : q_ok S) (hC : q_C S g) (ha : a = nI i) (hb : b = nI j) (hi : i < 5) (hj : j < 5) : ∃ f, e_X e_pg (d + 5) 66 [.ref 0, .int a, .int b] g = some (some (.int (q_res S i j).1), f) ∧ q_Met S g f i j := by
  subst ha; subst hb
  have hn := hS.n
  have g0 : e_gI g 0 = e_gI S 0 := hC.at (by simp)
  obtain ⟨g1, s1, s2⟩ := r_seat (d := d) (i := q_x 0 i) (j := q_x 1 j) (q_x_lt (by decide) hi) (q_x_lt (by decide) hj) hn.2.2 (h := g)
  rw [hC.N (by decide) hi, hC.N (by decide) hj] at s2
  obtain ⟨⟨t1, t2, t3, t4, t5⟩, t6, t7, t8⟩ := s2
  have hC1 : q_C S g1 := hC.fr t5 (fun o ho => by simp at ho ⊢; omega)
  obtain ⟨f, c1, c2⟩ := r_concl (d := d) (B := q_bt S i j) hS hC1 t1 t2 t3 t6 t7 t8 (fun x hx => t4 x (by omega))
  obtain ⟨c3, c4, c5, c6, c7⟩ := c2
  have hib : e_inb (nI (5 * i + j)) 25 = true := e_inb_nI (by omega) (by decide)
  have hcl : (nI (5 * i + j)).toNatClampNeg = 5 * i + j := nI_clamp (by omega)
  refine ⟨e_pI (e_pI f 35 (5 * i + j) (q_res S i j).1) 36 (5 * i + j) (q_res S i j).2.1, ?_, ?_⟩
  · rw [xX3_meet]
    simp only [zX3_meet_0, zX3_meet_1, zX3_meet_4, zX3_meet_5, zX3_meet_8, zX3_meet_9, zX3_meet_10, zX3_meet_11, zX3_meet_14, zX3_meet_15, zX3_meet_16, zX3_meet_17, zX3_meet_20, zX3_meet_23, zX3_meet_24, zX3_meet_27, zX3_meet_28, zX3_meet_29, zX3_meet_32, zX3_meet_33, zX3_meet_34, zX3_meet_35, zX3_meet_36, zX3_meet_39, zX3_meet_40, zX3_meet_43, zX3_meet_46, zX3_meet_47, zX3_meet_48, zX3_meet_51, zX3_meet_52, zX3_meet_53, zX3_meet_54, zX3_meet_55, zX3_meet_58, zX3_meet_59, zX3_meet_62, zX3_meet_65, zX3_meet_66, zX3_meet_67, zX3_meet_70, zX3_meet_73, g0, hn.1, r_eAt (s := 0) (k := i) (a := 0) rfl rfl (by decide) hi, r_eAt (s := 1) (k := j) (a := 1) rfl rfl (by decide) hj, s1, c1, r_cell, q_cell, hib, hcl, c5, c6, e_gI_pI, Nat.reduceEqDiff, false_and, q_res, e_k_int, e_k_ref, e_k_null, e_k_long, e_k_ret, e_cats_nil, e_cats_int, e_cats_ref, e_cats_ret, e_cats_long, Option.toList_some, Option.toList_none, List.nil_append, List.cons_append, Option.bind_some, Nat.reduceAdd, Nat.reduceLeDiff, Nat.add_zero, if_true, if_false, true_and, and_true, and_self, Int32.reduceToNatClampNeg, ok_1, ok_2, ok_3, ok_4, ok_5, ok_6, ok_7, ok_8, ok_9, ok_30, ok_31, ok_32, ok_33, ok_34, ok_35, ok_36, ok_37, ok_38, ok_39, ok_40, ok_41, ok_42, ok_43, ok_44, ok_45, ok_46, ok_47, ok_48, ok_49, ok_50, ok_51, ok_52, ln_1, ln_2, ln_4, ln_5, ln_6, ln_7, ln_8, ln_30, ln_31, ln_32, ln_33, ln_34, ln_35, ln_36, ln_37, ln_38, ln_39, ln_41, ln_42, ln_43, ln_44, ln_45, ln_46, ln_47, ln_48, ln_49, ln_50, ln_51, ln_52, ib_0_9, ib_1_9, ib_2_9, ib_3_9, ib_4_9, ib_5_9, ib_6_9, ib_7_9, ib_8_9, ib_0_2, ib_1_2, ib_0_5, ib_1_5, ib_2_5, ib_3_5, ib_4_5, ib_0_25, ib_0_10, ib_5_10, ib_0_90, ib_45_90, ib_0_64]
  · have fr1 : e_fr [7, 8, 9, 30, 32, 33, 35, 36] g f := (t5.mono (fun o ho => by simp at ho ⊢; omega)).trans (c3.mono (fun o ho => by simp at ho ⊢; omega))
    refine ⟨(fr1.pI (by simp)).pI (by simp), ?_, ?_, ?_, fun x hx => ?_, fun x => ?_, fun x => ?_⟩
    · simp [e_gI_pI, c5, q_res]
    · simp [e_gI_pI, c6, q_res]
    · simp [e_gI_pI, c7, q_res]
    · simp only [e_gI_pI, Nat.reduceEqDiff, false_and, if_false]
      rw [c3.1 30 x (by simp)]
      exact (t4 x (by omega)).2.2
    · simp only [e_gI_pI, Nat.reduceEqDiff, false_and, if_false, true_and]
      rw [c3.1 35 x (by simp), t5.1 35 x (by simp)]
    · simp only [e_gI_pI, Nat.reduceEqDiff, false_and, if_false, true_and]
      rw [c3.1 36 x (by simp), t5.1 36 x (by simp)]
/-! what a side has by a share, or without -/
def q_own (S : e_H) (s : Nat) (x : Int32) : Int32 := if s = 0 then x else nI (q_n S) - x
def q_byS (S : e_H) (s k : Nat) (x : Int32) : Int32 := p_worth (q_N S s 0) (q_own S s x) (nI (q_n S)) - q_N S s k 8 - p_wages (q_N S s k) (q_own S s x)
def q_un (S : e_H) (s k : Nat) : Int32 := q_N S s 0 4 - q_N S s k 8
def q_by (S : e_H) (s k : Nat) (x : Int32) : Int32 := if x = -5 then q_un S s k else q_byS S s k x
def q_hd (S : e_H) (s k : Nat) (x y : Int32) : Int32 := if e_gI S 0 7 = 2 then nI (q_a S) * q_by S s k x + (nI (q_b S) - nI (q_a S)) * q_by S s k y else q_by S s k x
def q_has (S : e_H) (s i j : Nat) : Int32 := q_hd S s (if s = 0 then i else j) (q_res S i j).1 (q_res S i j).2.1
theorem nI_s {s : Nat} (hs : s < 2) : (nI s = 0) = (s = 0) := by
  rcases (show s = 0 ∨ s = 1 by omega) with rfl | rfl <;> simp <;> decide
theorem r_holdsUnsettled {d s k : Nat} {S g : e_H} {a : Int32} (hC : q_C S g) (ha : a = nI s) (hs : s < 2) (hk : k < 5) : e_X e_pg (d + 2) 72 [.ref 0, .int a, .ref (q_x s k + 10)] g = some (some (.int (q_un S s k)), g) := by
  have h1 : q_x s 0 < 10 := q_x_lt hs (by decide)
  have h2 : q_x s k < 10 := q_x_lt hs hk
  have e1 := hC.N hs (show 0 < 5 by decide)
  have e2 := hC.N hs hk
  rw [xX3_holdsUnsettled]
  simp only [zX3_holdsUnsettled_0, zX3_holdsUnsettled_1, zX3_holdsUnsettled_2, zX3_holdsUnsettled_3, zX3_holdsUnsettled_6, zX3_holdsUnsettled_9, zX3_holdsUnsettled_10, zX3_holdsUnsettled_11, zX3_holdsUnsettled_12, zX3_holdsUnsettled_15, zX3_holdsUnsettled_17, zX3_holdsUnsettled_18, zX3_holdsUnsettled_19, r_eAt (k := 0) (b := 0) ha rfl hs (by decide), h1, h2, e_ok_N h1, e_ok_N h2, e_len_N h1, e_len_N h2, e1, e2, q_un, e_k_int, e_k_ref, e_k_null, e_k_long, e_k_ret, e_cats_nil, e_cats_int, e_cats_ref, e_cats_ret, e_cats_long, Option.toList_some, Option.toList_none, List.nil_append, List.cons_append, Option.bind_some, Nat.reduceAdd, Nat.reduceLeDiff, Nat.add_zero, if_true, if_false, true_and, and_true, and_self, Int32.reduceToNatClampNeg, ib_0_9, ib_1_9, ib_2_9, ib_3_9, ib_4_9, ib_5_9, ib_6_9, ib_7_9, ib_8_9, ib_0_2, ib_1_2, ib_0_5, ib_1_5, ib_2_5, ib_3_5, ib_4_5, ib_0_25, ib_0_10, ib_5_10, ib_0_90, ib_45_90, ib_0_64]
theorem r_holdsBy {d s k : Nat} {S g : e_H} {a x : Int32} (hS : q_ok S) (hC : q_C S g) (ha : a = nI s) (hs : s < 2) (hk : k < 5) : e_X e_pg (d + 3) 73 [.ref 0, .int a, .ref (q_x s k + 10), .int x] g = some (some (.int (q_byS S s k x)), g) := by
  have h1 : q_x s 0 < 10 := q_x_lt hs (by decide)
  have h2 : q_x s k < 10 := q_x_lt hs hk
  have e1 := hC.N hs (show 0 < 5 by decide)
  have e2 := hC.N hs hk
  have g0 : e_gI g 0 6 = nI (q_n S) := by rw [hC.at (by simp)]; exact hS.n.1
  have en := r_eAt (d := d + 1) (h := g) (k := 0) (b := 0) ha rfl hs (by decide)
  rw [xX3_holdsBy]
  rcases (show s = 0 ∨ s = 1 by omega) with rfl | rfl
  · have ha : a = 0 := ha
    subst ha
    simp only [zX3_holdsBy_0, zX3_holdsBy_1, zX3_holdsBy_4, zX3_holdsBy_5, zX3_holdsBy_8, zX3_holdsBy_9, zX3_holdsBy_12, zX3_holdsBy_13, zX3_holdsBy_14, zX3_holdsBy_16, zX3_holdsBy_17, zX3_holdsBy_18, zX3_holdsBy_19, zX3_holdsBy_22, zX3_holdsBy_24, zX3_holdsBy_25, zX3_holdsBy_28, zX3_holdsBy_31, zX3_holdsBy_32, zX3_holdsBy_35, zX3_holdsBy_37, zX3_holdsBy_38, zX3_holdsBy_39, zX3_holdsBy_40, zX3_holdsBy_42, zX3_holdsBy_45, zX3_holdsBy_46, not_true_eq_false, en, h1, h2, e_ok_N h1, e_ok_N h2, e_len_N h1, e_len_N h2, r_worthOf h1, r_wagesFor h2, g0, e1, e2, q_byS, q_own, e_k_int, e_k_ref, e_k_null, e_k_long, e_k_ret, e_cats_nil, e_cats_int, e_cats_ref, e_cats_ret, e_cats_long, Option.toList_some, Option.toList_none, List.nil_append, List.cons_append, Option.bind_some, Nat.reduceAdd, Nat.reduceLeDiff, Nat.add_zero, if_true, if_false, true_and, and_true, and_self, Int32.reduceToNatClampNeg, ib_0_9, ib_1_9, ib_2_9, ib_3_9, ib_4_9, ib_5_9, ib_6_9, ib_7_9, ib_8_9, ib_0_2, ib_1_2, ib_0_5, ib_1_5, ib_2_5, ib_3_5, ib_4_5, ib_0_25, ib_0_10, ib_5_10, ib_0_90, ib_45_90, ib_0_64]
  · have ha : a = 1 := ha
    subst ha
    simp only [zX3_holdsBy_0, zX3_holdsBy_1, zX3_holdsBy_4, zX3_holdsBy_5, zX3_holdsBy_8, zX3_holdsBy_9, zX3_holdsBy_12, zX3_holdsBy_13, zX3_holdsBy_14, zX3_holdsBy_16, zX3_holdsBy_17, zX3_holdsBy_18, zX3_holdsBy_19, zX3_holdsBy_22, zX3_holdsBy_24, zX3_holdsBy_25, zX3_holdsBy_28, zX3_holdsBy_31, zX3_holdsBy_32, zX3_holdsBy_35, zX3_holdsBy_37, zX3_holdsBy_38, zX3_holdsBy_39, zX3_holdsBy_40, zX3_holdsBy_42, zX3_holdsBy_45, zX3_holdsBy_46, ne_0_1, ne_0_2, ne_0_3, ne_1_0, ne_1_2, ne_1_3, ne_2_0, ne_2_1, ne_2_3, ne_3_0, ne_3_1, ne_3_2, not_false_eq_true, en, h1, h2, e_ok_N h1, e_ok_N h2, e_len_N h1, e_len_N h2, r_worthOf h1, r_wagesFor h2, g0, e1, e2, q_byS, q_own, Nat.reduceEqDiff, Nat.one_ne_zero, e_k_int, e_k_ref, e_k_null, e_k_long, e_k_ret, e_cats_nil, e_cats_int, e_cats_ref, e_cats_ret, e_cats_long, Option.toList_some, Option.toList_none, List.nil_append, List.cons_append, Option.bind_some, Nat.reduceAdd, Nat.reduceLeDiff, Nat.add_zero, if_true, if_false, true_and, and_true, and_self, Int32.reduceToNatClampNeg, ib_0_9, ib_1_9, ib_2_9, ib_3_9, ib_4_9, ib_5_9, ib_6_9, ib_7_9, ib_8_9, ib_0_2, ib_1_2, ib_0_5, ib_1_5, ib_2_5, ib_3_5, ib_4_5, ib_0_25, ib_0_10, ib_5_10, ib_0_90, ib_45_90, ib_0_64]
/-! ranges -/
theorem tl_bm {a : Int} (h1 : -2147483648 ≤ a) (h2 : a < 2147483648) : a.bmod (2 ^ 64) = a := by
  rw [Int.bmod_def]
  have h3 : (a % (2 ^ 64 : Nat) : Int) = if 0 ≤ a then a else a + 18446744073709551616 := by
    split
    · rw [Int.emod_eq_of_lt (by omega) (by omega)]
    · have : a % ((2 ^ 64 : Nat) : Int) = (a + 18446744073709551616) % ((2 ^ 64 : Nat) : Int) := by
        rw [show (18446744073709551616 : Int) = ((2 ^ 64 : Nat) : Int) from rfl, Int.add_emod_right]
      rw [this, Int.emod_eq_of_lt (by omega) (by omega)]
  rw [h3]
  split <;> split <;> omega
theorem tl_add {x y : Int32} (h1 : -2147483648 ≤ x.toInt + y.toInt) (h2 : x.toInt + y.toInt < 2147483648) : (x + y).toInt64 = x.toInt64 + y.toInt64 := by
  rw [← Int64.toInt_inj, Int32.toInt_toInt64, ti_add h1 h2, Int64.toInt_add, Int32.toInt_toInt64, Int32.toInt_toInt64, tl_bm h1 h2]
theorem tl_mul {x y : Int32} (h1 : -2147483648 ≤ x.toInt * y.toInt) (h2 : x.toInt * y.toInt < 2147483648) : (x * y).toInt64 = x.toInt64 * y.toInt64 := by
  rw [← Int64.toInt_inj, Int32.toInt_toInt64, ti_mul h1 h2, Int64.toInt_mul, Int32.toInt_toInt64, Int32.toInt_toInt64, tl_bm h1 h2]
theorem q_own_rg {S : e_H} (hS : q_ok S) {s : Nat} {x : Int32} (hx : s_sh (q_n S) x) (h5 : ¬ x = -5) : ∃ j, j ≤ q_n S ∧ q_own S s x = nI j := by
  rcases hx with e | ⟨j, e1, e2⟩
  · exact absurd e h5
  · unfold q_own
    split
    · exact ⟨j, e1, e2⟩
    · exact ⟨q_n S - j, by omega, by rw [e2, pk_sub e1]⟩
theorem q_byS_rg {S : e_H} (hS : q_ok S) {s k j : Nat} (hs : s < 2) (hk : k < 5) {x : Int32} (hj : j ≤ q_n S) (e : q_own S s x = nI j) : -5000 ≤ (q_byS S s k x).toInt ∧ (q_byS S s k x).toInt ≤ 5000 := by
  have hn := hS.n.2.2
  have a := p_worth_rg (hS.N hs (show 0 < 5 by decide)) hj hn
  have b := p_wages_rg (hS.N hs hk) (x := j) (by omega)
  have c := (hS.N hs hk).at8
  unfold q_byS
  rw [e]
  have e1 : (p_worth (q_N S s 0) (nI j) (nI (q_n S)) - q_N S s k 8).toInt = (p_worth (q_N S s 0) (nI j) (nI (q_n S))).toInt - (q_N S s k 8).toInt := by rw [ti_sub] <;> omega
  rw [ti_sub] <;> omega
theorem q_un_rg {S : e_H} (hS : q_ok S) {s k : Nat} (hs : s < 2) (hk : k < 5) : -5000 ≤ (q_un S s k).toInt ∧ (q_un S s k).toInt ≤ 5000 := by
  have a := (hS.N hs (show 0 < 5 by decide)).at4
  have c := (hS.N hs hk).at8
  unfold q_un
  rw [ti_sub] <;> omega
theorem q_by_rg {S : e_H} (hS : q_ok S) {s k : Nat} (hs : s < 2) (hk : k < 5) {x : Int32} (hx : s_sh (q_n S) x) : -5000 ≤ (q_by S s k x).toInt ∧ (q_by S s k x).toInt ≤ 5000 := by
  unfold q_by
  split
  · exact q_un_rg hS hs hk
  · rename_i c
    obtain ⟨j, h1, h2⟩ := q_own_rg hS (s := s) hx c
    exact q_byS_rg hS hs hk h1 h2
theorem od_rg {a b : Int} (h1 : 0 ≤ a) (h2 : a ≤ 9) (h3 : -5000 ≤ b) (h4 : b ≤ 5000) : -45000 ≤ a * b ∧ a * b ≤ 45000 := by
  rcases (show a = 0 ∨ a = 1 ∨ a = 2 ∨ a = 3 ∨ a = 4 ∨ a = 5 ∨ a = 6 ∨ a = 7 ∨ a = 8 ∨ a = 9 by omega) with rfl | rfl | rfl | rfl | rfl | rfl | rfl | rfl | rfl | rfl <;> omega
theorem q_hd_rg {S : e_H} (hS : q_ok S) {s k : Nat} (hs : s < 2) (hk : k < 5) {x y : Int32} (hx : s_sh (q_n S) x) (hy : s_sh (q_n S) y) : -90000 ≤ (q_hd S s k x y).toInt ∧ (q_hd S s k x y).toInt ≤ 90000 := by
  have a := q_by_rg hS hs hk hx
  have b := q_by_rg hS hs hk hy
  obtain ⟨a1, a2, a3⟩ := hS.a
  obtain ⟨b1, b2, b3⟩ := hS.b
  have ea := nI_ti (x := q_a S) (by omega)
  have eb := nI_ti (x := q_b S) (by omega)
  unfold q_hd
  split
  · have m1 := od_rg (a := (nI (q_a S)).toInt) (by omega) (by omega) a.1 a.2
    have e1 := ti_mul (x := nI (q_a S)) (y := q_by S s k x) (by omega) (by omega)
    rw [pk_sub a3]
    have ec := nI_ti (x := q_b S - q_a S) (by omega)
    have m2 := od_rg (a := (nI (q_b S - q_a S)).toInt) (by omega) (by omega) b.1 b.2
    have e2 := ti_mul (x := nI (q_b S - q_a S)) (y := q_by S s k y) (by omega) (by omega)
    rw [ti_add] <;> omega
  · omega
theorem r_holds {d s k : Nat} {S g : e_H} {a x y : Int32} (hS : q_ok S) (hC : q_C S g) (ha : a = nI s) (hs : s < 2) (hk : k < 5) (hx : s_sh (q_n S) x) (hy : s_sh (q_n S) y) (hxy : e_gI S 0 7 = 2 → (x = -5 ↔ y = -5)) : e_X e_pg (d + 4) 74 [.ref 0, .int a, .ref (q_x s k + 10), .int x, .int y] g = some (some (.long (q_hd S s k x y).toInt64), g) := by
  have g0 : e_gI g 0 = e_gI S 0 := hC.at (by simp)
  have un := r_holdsUnsettled (d := d + 1) hC ha hs hk
  have by1 := fun x => r_holdsBy (d := d) (x := x) hS hC ha hs hk
  obtain ⟨a1, a2, a3⟩ := hS.a
  obtain ⟨b1, b2, b3⟩ := hS.b
  have ea := nI_ti (x := q_a S) (by omega)
  have eb := nI_ti (x := q_b S) (by omega)
  have ec := nI_ti (x := q_b S - q_a S) (by omega)
  have rx := q_by_rg hS hs hk hx
  have ry := q_by_rg hS hs hk hy
  rw [xX3_holds]
  by_cases w : e_gI S 0 7 = 2
  · by_cases c : x = -5
    · have c2 := (hxy w).mp c
      have m := od_rg (a := (nI (q_b S)).toInt) (by omega) (by omega) (q_un_rg hS hs hk).1 (q_un_rg hS hs hk).2
      have e : q_hd S s k x y = nI (q_b S) * q_un S s k := by
        unfold q_hd q_by
        rw [if_pos w, if_pos c, if_pos c2]
        grind
      rw [e, tl_mul (by omega) (by omega)]
      simp only [zX3_holds_0, zX3_holds_1, zX3_holds_3, zX3_holds_6, zX3_holds_7, zX3_holds_10, zX3_holds_11, zX3_holds_12, zX3_holds_13, zX3_holds_14, zX3_holds_17, zX3_holds_18, zX3_holds_19, zX3_holds_20, zX3_holds_21, zX3_holds_24, zX3_holds_25, zX3_holds_28, zX3_holds_29, zX3_holds_30, zX3_holds_31, zX3_holds_32, zX3_holds_35, zX3_holds_36, zX3_holds_37, zX3_holds_38, zX3_holds_41, zX3_holds_42, zX3_holds_43, zX3_holds_44, zX3_holds_45, zX3_holds_46, zX3_holds_49, zX3_holds_50, zX3_holds_51, zX3_holds_53, zX3_holds_55, zX3_holds_56, zX3_holds_59, zX3_holds_60, zX3_holds_63, zX3_holds_64, zX3_holds_65, zX3_holds_66, zX3_holds_67, zX3_holds_68, zX3_holds_70, zX3_holds_73, zX3_holds_74, zX3_holds_75, zX3_holds_76, c, not_true_eq_false, r_scale, un, g0, w, b1, e_k_int, e_k_ref, e_k_null, e_k_long, e_k_ret, e_cats_nil, e_cats_int, e_cats_ref, e_cats_ret, e_cats_long, Option.toList_some, Option.toList_none, List.nil_append, List.cons_append, Option.bind_some, Nat.reduceAdd, Nat.reduceLeDiff, Nat.add_zero, if_true, if_false, true_and, and_true, and_self, Int32.reduceToNatClampNeg]
    · have c2 : ¬ y = -5 := fun q => c ((hxy w).mpr q)
      have ex : q_by S s k x = q_byS S s k x := if_neg c
      have ey : q_by S s k y = q_byS S s k y := if_neg c2
      rw [ex] at rx
      rw [ey] at ry
      have m1 := od_rg (a := (nI (q_a S)).toInt) (by omega) (by omega) rx.1 rx.2
      have m2 := od_rg (a := (nI (q_b S - q_a S)).toInt) (by omega) (by omega) ry.1 ry.2
      have e1 := ti_mul (x := nI (q_a S)) (y := q_byS S s k x) (by omega) (by omega)
      have e2 := ti_mul (x := nI (q_b S - q_a S)) (y := q_byS S s k y) (by omega) (by omega)
      have e : (q_hd S s k x y).toInt64 = (nI (q_a S)).toInt64 * (q_byS S s k x).toInt64 + (nI (q_b S) - nI (q_a S)).toInt64 * (q_byS S s k y).toInt64 := by
        unfold q_hd
        rw [if_pos w, ex, ey, pk_sub a3, tl_add (by omega) (by omega), tl_mul (by omega) (by omega), tl_mul (by omega) (by omega)]
      rw [e]
      simp only [zX3_holds_0, zX3_holds_1, zX3_holds_3, zX3_holds_6, zX3_holds_7, zX3_holds_10, zX3_holds_11, zX3_holds_12, zX3_holds_13, zX3_holds_14, zX3_holds_17, zX3_holds_18, zX3_holds_19, zX3_holds_20, zX3_holds_21, zX3_holds_24, zX3_holds_25, zX3_holds_28, zX3_holds_29, zX3_holds_30, zX3_holds_31, zX3_holds_32, zX3_holds_35, zX3_holds_36, zX3_holds_37, zX3_holds_38, zX3_holds_41, zX3_holds_42, zX3_holds_43, zX3_holds_44, zX3_holds_45, zX3_holds_46, zX3_holds_49, zX3_holds_50, zX3_holds_51, zX3_holds_53, zX3_holds_55, zX3_holds_56, zX3_holds_59, zX3_holds_60, zX3_holds_63, zX3_holds_64, zX3_holds_65, zX3_holds_66, zX3_holds_67, zX3_holds_68, zX3_holds_70, zX3_holds_73, zX3_holds_74, zX3_holds_75, zX3_holds_76, c, not_false_eq_true, by1, g0, w, a1, b1, e_k_int, e_k_ref, e_k_null, e_k_long, e_k_ret, e_cats_nil, e_cats_int, e_cats_ref, e_cats_ret, e_cats_long, Option.toList_some, Option.toList_none, List.nil_append, List.cons_append, Option.bind_some, Nat.reduceAdd, Nat.reduceLeDiff, Nat.add_zero, if_true, if_false, true_and, and_true, and_self, Int32.reduceToNatClampNeg]
  · have e : q_hd S s k x y = q_by S s k x := if_neg w
    rw [e]
    by_cases c : x = -5
    · have e2 : q_by S s k x = q_un S s k := if_pos c
      rw [e2]
      simp only [zX3_holds_0, zX3_holds_1, zX3_holds_3, zX3_holds_6, zX3_holds_7, zX3_holds_10, zX3_holds_11, zX3_holds_12, zX3_holds_13, zX3_holds_14, zX3_holds_17, zX3_holds_18, zX3_holds_19, zX3_holds_20, zX3_holds_21, zX3_holds_24, zX3_holds_25, zX3_holds_28, zX3_holds_29, zX3_holds_30, zX3_holds_31, zX3_holds_32, zX3_holds_35, zX3_holds_36, zX3_holds_37, zX3_holds_38, zX3_holds_41, zX3_holds_42, zX3_holds_43, zX3_holds_44, zX3_holds_45, zX3_holds_46, zX3_holds_49, zX3_holds_50, zX3_holds_51, zX3_holds_53, zX3_holds_55, zX3_holds_56, zX3_holds_59, zX3_holds_60, zX3_holds_63, zX3_holds_64, zX3_holds_65, zX3_holds_66, zX3_holds_67, zX3_holds_68, zX3_holds_70, zX3_holds_73, zX3_holds_74, zX3_holds_75, zX3_holds_76, c, not_true_eq_false, r_scale, un, g0, w, e_k_int, e_k_ref, e_k_null, e_k_long, e_k_ret, e_cats_nil, e_cats_int, e_cats_ref, e_cats_ret, e_cats_long, Option.toList_some, Option.toList_none, List.nil_append, List.cons_append, Option.bind_some, Nat.reduceAdd, Nat.reduceLeDiff, Nat.add_zero, if_true, if_false, true_and, and_true, and_self, Int32.reduceToNatClampNeg]
      rw [show (1 : Int32).toInt64 = 1 from rfl, Int64.one_mul]
    · have e2 : q_by S s k x = q_byS S s k x := if_neg c
      rw [e2]
      simp only [zX3_holds_0, zX3_holds_1, zX3_holds_3, zX3_holds_6, zX3_holds_7, zX3_holds_10, zX3_holds_11, zX3_holds_12, zX3_holds_13, zX3_holds_14, zX3_holds_17, zX3_holds_18, zX3_holds_19, zX3_holds_20, zX3_holds_21, zX3_holds_24, zX3_holds_25, zX3_holds_28, zX3_holds_29, zX3_holds_30, zX3_holds_31, zX3_holds_32, zX3_holds_35, zX3_holds_36, zX3_holds_37, zX3_holds_38, zX3_holds_41, zX3_holds_42, zX3_holds_43, zX3_holds_44, zX3_holds_45, zX3_holds_46, zX3_holds_49, zX3_holds_50, zX3_holds_51, zX3_holds_53, zX3_holds_55, zX3_holds_56, zX3_holds_59, zX3_holds_60, zX3_holds_63, zX3_holds_64, zX3_holds_65, zX3_holds_66, zX3_holds_67, zX3_holds_68, zX3_holds_70, zX3_holds_73, zX3_holds_74, zX3_holds_75, zX3_holds_76, c, not_false_eq_true, by1, g0, w, e_k_int, e_k_ref, e_k_null, e_k_long, e_k_ret, e_cats_nil, e_cats_int, e_cats_ref, e_cats_ret, e_cats_long, Option.toList_some, Option.toList_none, List.nil_append, List.cons_append, Option.bind_some, Nat.reduceAdd, Nat.reduceLeDiff, Nat.add_zero, if_true, if_false, true_and, and_true, and_self, Int32.reduceToNatClampNeg]
