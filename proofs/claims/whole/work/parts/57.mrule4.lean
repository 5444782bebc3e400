theorem m_ne {T : Nat → Int32} {n p : Nat} (hle : c_skip T n p ≤ n) (hn : n ≤ 40) (k : Nat) (hk : k ≤ 3) : ¬ 10 * nI (c_skip T n p) + nI k = -1 := by
  intro z
  have hh : (10 * nI (c_skip T n p) + nI k).toInt = -1 := by rw [z]; rfl
  rw [show (10 : Int32) = nI 10 from rfl, pk_mul, nI_add, nI_toInt (by omega)] at hh
  omega
/-- 7: ) -/
theorem m_s_close {d op n : Nat} (hn : n ≤ 40) {a4 : Value} {T : Nat → Int32} {h g : e_H} {p : Nat} {V W : List Int64} {P U S : List Int32} (hP : m_P T n h g (-1) p (W ++ V) (P ++ 1000 :: (U ++ S))) (hc : c_ch T n (c_skip T n p) = 41) (hop : 0 < op) (hop8 : op ≤ 8) (hl : W.length = P.length + 1) (hd : ∀ c ∈ P, m_dn 1 c) (hV : V.length < 64) (hS : ∀ c R, S = c :: R → c ≤ 1000) (hU : ∀ u ∈ U, u = 1001 ∨ u = 1002) :
    ∃ g2 a5, m_H d op 0 a4 g = m_H d (op - 1) 0 a5 g2 ∧ m_P T n h g2 (-1) (c_skip T n p + 1) (m_un U (m_red P W) :: V) S := by
  obtain ⟨g1, a1, a2⟩ := r_M_ahead (d := d + 2) hn hP
  have f0 := hP.2.2.2.1
  have hlt : c_skip T n p < n := c_ch_lt (by rw [hc]; decide)
  have hP2 := a2.inc hlt
  obtain ⟨g2, b1, b2⟩ := r_M_workDown (d := d + 1) (r := 1) (S := 1000 :: (U ++ S)) (fun c R e => by cases e; exact Or.inl (by decide)) hl hd hP2
  have p18 := b2.2.2.2.2.2.2.2.2.2.1
  have p16 := b2.2.2.2.2.2.2.1
  have e18 : nI (1000 :: (U ++ S)).length - 1 = nI (U ++ S).length := nI_pred _
  have e16 : nI (m_red P W :: V).length - 1 = nI V.length := nI_pred _
  have hv := b2.2.2.2.2.2.2.2.2.1.tail.2
  have iv : e_inb (nI V.length) 64 = true := e_inb_nI hV (by decide)
  have kv : (nI V.length).toNatClampNeg = V.length := nI_clamp (by omega)
  have hP4 := b2.popS.popV
  obtain ⟨g3, s1, s2⟩ := r_M_stands (d := d + 2) (w := m_red P W) hV hS hU hP4
  have ho : ¬ nI op ≤ 0 := nI_nle hop (by omega)
  have hod : nI op - 1 = nI (op - 1) := by
    obtain ⟨k, rfl⟩ : ∃ k, op = k + 1 := ⟨op - 1, by omega⟩
    exact nI_pred k
  refine ⟨g3, .int 41, ?_, s2⟩
  unfold m_H
  rw [hc] at a1
  rw [zX4_reads_26]
  simp only [zX4_reads_27, zX4_reads_30, zX4_reads_31, zX4_reads_34, zX4_reads_35, zX4_reads_38, zX4_reads_39, zX4_reads_42, zX4_reads_44, zX4_reads_45, zX4_reads_254, zX4_reads_256, zX4_reads_258, zX4_reads_261, zX4_reads_262, zX4_reads_265, zX4_reads_266, zX4_reads_267, zX4_reads_270, zX4_reads_271, zX4_reads_272, zX4_reads_275, zX4_reads_278, zX4_reads_279, zX4_reads_280, zX4_reads_283, zX4_reads_284, zX4_reads_285, zX4_reads_288, zX4_reads_289, zX4_reads_290, zX4_reads_293, zX4_reads_294, zX4_reads_295, zX4_reads_298, zX4_reads_299, zX4_reads_300, zX4_reads_303, zX4_reads_304, zX4_reads_305, zX4_reads_308, zX4_reads_309, zX4_reads_312, zX4_reads_313, zX4_reads_316, zX4_reads_485, f0, a1, ho, i32_m1, hod, b1, p18, p16, e18, e16, iv, kv, hv, s1, e_gI_pI, e_gJ_pI, Nat.reduceEqDiff, and_false, false_and, ne_0_1, ne_0_2, ne_0_3, ne_1_0, ne_1_2, ne_1_3, ne_2_0, ne_2_1, ne_2_3, ne_3_0, ne_3_1, ne_3_2, not_true_eq_false, not_false_eq_true, e_k_int, e_k_ref, e_k_null, e_k_long, e_k_ret, e_cats_nil, e_cats_int, e_cats_ref, e_cats_ret, e_cats_long, Option.toList_some, Option.toList_none, List.nil_append, List.cons_append, Option.bind_some, Nat.reduceAdd, Nat.reduceLeDiff, Nat.add_zero, if_true, if_false, true_and, and_true, and_self, Int32.reduceToNatClampNeg, ok_1, ok_2, ok_3, ok_4, ok_5, ok_6, ok_7, ok_8, ok_9, ok_30, ok_31, ok_32, ok_33, ok_34, ok_35, ok_36, ok_37, ok_38, ok_39, ok_40, ok_41, ok_42, ok_43, ok_44, ok_45, ok_46, ok_47, ok_48, ok_49, ok_50, ok_51, ok_52, ln_1, ln_2, ln_4, ln_5, ln_6, ln_7, ln_8, ln_30, ln_31, ln_32, ln_33, ln_34, ln_35, ln_36, ln_37, ln_38, ln_39, ln_41, ln_42, ln_43, ln_44, ln_45, ln_46, ln_47, ln_48, ln_49, ln_50, ln_51, ln_52]
def m_wr (c : Int32) : Int32 := if m_rank c = 3 then 4 else m_rank c
/-- 8: a sign between: worked down, then laid -/
theorem m_s_op {d op n : Nat} (hn : n ≤ 40) {a4 : Value} {T : Nat → Int32} {h g : e_H} {p : Nat} {V W : List Int64} {P S : List Int32} (hP : m_P T n h g (-1) p (W ++ V) (P ++ S)) (hc : 0 < m_rank (c_ch T n (c_skip T n p))) (hl : W.length = P.length + 1) (hd : ∀ c ∈ P, m_dn (m_wr (c_ch T n (c_skip T n p))) c) (hS : m_top (m_wr (c_ch T n (c_skip T n p))) S) (h3 : m_rank (c_ch T n (c_skip T n p)) = 3 → ∀ c R, S = c :: R → 1000 ≤ c ∨ ¬ m_rank c = 3) (hs : S.length < 120) :
    ∃ g2 a5, m_H d op 0 a4 g = m_H d op 1 a5 g2 ∧ m_P T n h g2 (-1) (c_skip T n p + 1) (m_red P W :: V) (c_ch T n (c_skip T n p) :: S) := by
  obtain ⟨g1, a1, a2⟩ := r_M_ahead (d := d + 2) hn hP
  have f0 := hP.2.2.2.1
  generalize hcc : c_ch T n (c_skip T n p) = c at *
  have hlt : c_skip T n p < n := c_ch_lt (by
    rw [hcc]
    intro z
    rw [z] at hc
    exact absurd hc (by decide))
  have h41 : ¬ c = 41 := by
    intro z
    rw [z] at hc
    exact absurd hc (by decide)
  obtain ⟨g2, b1, b2⟩ := r_M_workDown (d := d + 1) hS hl hd a2
  have hP2 := (b2.inc hlt).pushS c (by omega)
  have p18 := b2.2.2.2.2.2.2.2.2.2.1
  have p13 := b2.2.2.2.2.1
  have st := b2.2.2.2.2.2.2.2.2.2.2.2
  have hrk : ¬ m_rank c ≤ 0 := Int32.not_le.mpr hc
  have ib : e_inb (nI S.length) 128 = true := e_inb_nI (by omega) (by decide)
  have ic : (nI S.length).toNatClampNeg = S.length := nI_clamp (by omega)
  refine ⟨_, .int c, ?_, hP2⟩
  unfold m_H
  rw [zX4_reads_26]
  by_cases c3 : m_rank c = 3
  · have b1' : e_X e_pg (d + 3) 105 [.ref 40, .int 4] g1 = some (none, g2) := by
      have : m_wr c = 4 := by unfold m_wr; rw [if_pos c3]
      rw [this] at b1
      exact b1
    have h30 : ¬ (3 : Int32) ≤ 0 := by decide
    cases S with
    | nil =>
      have l0 : nI ([] : List Int32).length ≤ 0 := by decide
      simp only [zX4_reads_27, zX4_reads_30, zX4_reads_31, zX4_reads_34, zX4_reads_35, zX4_reads_38, zX4_reads_39, zX4_reads_42, zX4_reads_44, zX4_reads_45, zX4_reads_254, zX4_reads_256, zX4_reads_258, zX4_reads_319, zX4_reads_321, zX4_reads_324, zX4_reads_327, zX4_reads_328, zX4_reads_330, zX4_reads_333, zX4_reads_334, zX4_reads_337, zX4_reads_338, zX4_reads_341, zX4_reads_343, zX4_reads_346, zX4_reads_349, zX4_reads_351, zX4_reads_354, zX4_reads_355, zX4_reads_358, zX4_reads_359, zX4_reads_362, zX4_reads_365, zX4_reads_366, zX4_reads_369, zX4_reads_370, zX4_reads_373, zX4_reads_374, zX4_reads_375, zX4_reads_376, zX4_reads_379, zX4_reads_382, zX4_reads_383, zX4_reads_386, zX4_reads_387, zX4_reads_390, zX4_reads_391, zX4_reads_392, zX4_reads_393, zX4_reads_396, zX4_reads_397, zX4_reads_400, zX4_reads_401, zX4_reads_403, zX4_reads_404, zX4_reads_407, zX4_reads_408, zX4_reads_409, zX4_reads_410, zX4_reads_413, zX4_reads_416, zX4_reads_417, zX4_reads_418, zX4_reads_421, zX4_reads_422, zX4_reads_423, zX4_reads_426, zX4_reads_427, zX4_reads_430, zX4_reads_431, zX4_reads_434, zX4_reads_436, zX4_reads_437, zX4_reads_438, zX4_reads_439, zX4_reads_442, zX4_reads_443, zX4_reads_444, zX4_reads_447, zX4_reads_448, zX4_reads_449, zX4_reads_485, f0, a1, h41, r_M_rank, c3, h30, b1', p18, p13, l0, ib, ic, e_gI_pI, Nat.reduceEqDiff, and_false, false_and, nI_1, ne_0_1, ne_0_2, ne_0_3, ne_1_0, ne_1_2, ne_1_3, ne_2_0, ne_2_1, ne_2_3, ne_3_0, ne_3_1, ne_3_2, not_true_eq_false, not_false_eq_true, e_k_int, e_k_ref, e_k_null, e_k_long, e_k_ret, e_cats_nil, e_cats_int, e_cats_ref, e_cats_ret, e_cats_long, Option.toList_some, Option.toList_none, List.nil_append, List.cons_append, Option.bind_some, Nat.reduceAdd, Nat.reduceLeDiff, Nat.add_zero, if_true, if_false, true_and, and_true, and_self, Int32.reduceToNatClampNeg, ok_1, ok_2, ok_3, ok_4, ok_5, ok_6, ok_7, ok_8, ok_9, ok_30, ok_31, ok_32, ok_33, ok_34, ok_35, ok_36, ok_37, ok_38, ok_39, ok_40, ok_41, ok_42, ok_43, ok_44, ok_45, ok_46, ok_47, ok_48, ok_49, ok_50, ok_51, ok_52, ln_1, ln_2, ln_4, ln_5, ln_6, ln_7, ln_8, ln_30, ln_31, ln_32, ln_33, ln_34, ln_35, ln_36, ln_37, ln_38, ln_39, ln_41, ln_42, ln_43, ln_44, ln_45, ln_46, ln_47, ln_48, ln_49, ln_50, ln_51, ln_52]
    | cons t R =>
      have l0 : ¬ nI (t :: R).length ≤ 0 := nI_nle (by simp) (by simp at hs ⊢; omega)
      have e18 : nI (t :: R).length - 1 = nI R.length := nI_pred _
      simp at hs
      have i2 : e_inb (nI R.length) 128 = true := e_inb_nI (by omega) (by decide)
      have k2 : (nI R.length).toNatClampNeg = R.length := nI_clamp (by omega)
      have tt := st.tail.2
      by_cases t1 : 1000 ≤ t
      · simp only [zX4_reads_27, zX4_reads_30, zX4_reads_31, zX4_reads_34, zX4_reads_35, zX4_reads_38, zX4_reads_39, zX4_reads_42, zX4_reads_44, zX4_reads_45, zX4_reads_254, zX4_reads_256, zX4_reads_258, zX4_reads_319, zX4_reads_321, zX4_reads_324, zX4_reads_327, zX4_reads_328, zX4_reads_330, zX4_reads_333, zX4_reads_334, zX4_reads_337, zX4_reads_338, zX4_reads_341, zX4_reads_343, zX4_reads_346, zX4_reads_349, zX4_reads_351, zX4_reads_354, zX4_reads_355, zX4_reads_358, zX4_reads_359, zX4_reads_362, zX4_reads_365, zX4_reads_366, zX4_reads_369, zX4_reads_370, zX4_reads_373, zX4_reads_374, zX4_reads_375, zX4_reads_376, zX4_reads_379, zX4_reads_382, zX4_reads_383, zX4_reads_386, zX4_reads_387, zX4_reads_390, zX4_reads_391, zX4_reads_392, zX4_reads_393, zX4_reads_396, zX4_reads_397, zX4_reads_400, zX4_reads_401, zX4_reads_403, zX4_reads_404, zX4_reads_407, zX4_reads_408, zX4_reads_409, zX4_reads_410, zX4_reads_413, zX4_reads_416, zX4_reads_417, zX4_reads_418, zX4_reads_421, zX4_reads_422, zX4_reads_423, zX4_reads_426, zX4_reads_427, zX4_reads_430, zX4_reads_431, zX4_reads_434, zX4_reads_436, zX4_reads_437, zX4_reads_438, zX4_reads_439, zX4_reads_442, zX4_reads_443, zX4_reads_444, zX4_reads_447, zX4_reads_448, zX4_reads_449, zX4_reads_485, f0, a1, h41, r_M_rank, c3, h30, b1', p18, p13, l0, e18, i2, k2, tt, t1, ib, ic, e_gI_pI, Nat.reduceEqDiff, and_false, false_and, nI_1, ne_0_1, ne_0_2, ne_0_3, ne_1_0, ne_1_2, ne_1_3, ne_2_0, ne_2_1, ne_2_3, ne_3_0, ne_3_1, ne_3_2, not_true_eq_false, not_false_eq_true, e_k_int, e_k_ref, e_k_null, e_k_long, e_k_ret, e_cats_nil, e_cats_int, e_cats_ref, e_cats_ret, e_cats_long, Option.toList_some, Option.toList_none, List.nil_append, List.cons_append, Option.bind_some, Nat.reduceAdd, Nat.reduceLeDiff, Nat.add_zero, if_true, if_false, true_and, and_true, and_self, Int32.reduceToNatClampNeg, ok_1, ok_2, ok_3, ok_4, ok_5, ok_6, ok_7, ok_8, ok_9, ok_30, ok_31, ok_32, ok_33, ok_34, ok_35, ok_36, ok_37, ok_38, ok_39, ok_40, ok_41, ok_42, ok_43, ok_44, ok_45, ok_46, ok_47, ok_48, ok_49, ok_50, ok_51, ok_52, ln_1, ln_2, ln_4, ln_5, ln_6, ln_7, ln_8, ln_30, ln_31, ln_32, ln_33, ln_34, ln_35, ln_36, ln_37, ln_38, ln_39, ln_41, ln_42, ln_43, ln_44, ln_45, ln_46, ln_47, ln_48, ln_49, ln_50, ln_51, ln_52]
      · have t2 : ¬ m_rank t = 3 := by
          rcases h3 c3 t R rfl with z | z
          · exact absurd z t1
          · exact z
        simp only [zX4_reads_27, zX4_reads_30, zX4_reads_31, zX4_reads_34, zX4_reads_35, zX4_reads_38, zX4_reads_39, zX4_reads_42, zX4_reads_44, zX4_reads_45, zX4_reads_254, zX4_reads_256, zX4_reads_258, zX4_reads_319, zX4_reads_321, zX4_reads_324, zX4_reads_327, zX4_reads_328, zX4_reads_330, zX4_reads_333, zX4_reads_334, zX4_reads_337, zX4_reads_338, zX4_reads_341, zX4_reads_343, zX4_reads_346, zX4_reads_349, zX4_reads_351, zX4_reads_354, zX4_reads_355, zX4_reads_358, zX4_reads_359, zX4_reads_362, zX4_reads_365, zX4_reads_366, zX4_reads_369, zX4_reads_370, zX4_reads_373, zX4_reads_374, zX4_reads_375, zX4_reads_376, zX4_reads_379, zX4_reads_382, zX4_reads_383, zX4_reads_386, zX4_reads_387, zX4_reads_390, zX4_reads_391, zX4_reads_392, zX4_reads_393, zX4_reads_396, zX4_reads_397, zX4_reads_400, zX4_reads_401, zX4_reads_403, zX4_reads_404, zX4_reads_407, zX4_reads_408, zX4_reads_409, zX4_reads_410, zX4_reads_413, zX4_reads_416, zX4_reads_417, zX4_reads_418, zX4_reads_421, zX4_reads_422, zX4_reads_423, zX4_reads_426, zX4_reads_427, zX4_reads_430, zX4_reads_431, zX4_reads_434, zX4_reads_436, zX4_reads_437, zX4_reads_438, zX4_reads_439, zX4_reads_442, zX4_reads_443, zX4_reads_444, zX4_reads_447, zX4_reads_448, zX4_reads_449, zX4_reads_485, f0, a1, h41, r_M_rank, c3, h30, b1', p18, p13, l0, e18, i2, k2, tt, t1, t2, ib, ic, e_gI_pI, Nat.reduceEqDiff, and_false, false_and, nI_1, ne_0_1, ne_0_2, ne_0_3, ne_1_0, ne_1_2, ne_1_3, ne_2_0, ne_2_1, ne_2_3, ne_3_0, ne_3_1, ne_3_2, not_true_eq_false, not_false_eq_true, e_k_int, e_k_ref, e_k_null, e_k_long, e_k_ret, e_cats_nil, e_cats_int, e_cats_ref, e_cats_ret, e_cats_long, Option.toList_some, Option.toList_none, List.nil_append, List.cons_append, Option.bind_some, Nat.reduceAdd, Nat.reduceLeDiff, Nat.add_zero, if_true, if_false, true_and, and_true, and_self, Int32.reduceToNatClampNeg, ok_1, ok_2, ok_3, ok_4, ok_5, ok_6, ok_7, ok_8, ok_9, ok_30, ok_31, ok_32, ok_33, ok_34, ok_35, ok_36, ok_37, ok_38, ok_39, ok_40, ok_41, ok_42, ok_43, ok_44, ok_45, ok_46, ok_47, ok_48, ok_49, ok_50, ok_51, ok_52, ln_1, ln_2, ln_4, ln_5, ln_6, ln_7, ln_8, ln_30, ln_31, ln_32, ln_33, ln_34, ln_35, ln_36, ln_37, ln_38, ln_39, ln_41, ln_42, ln_43, ln_44, ln_45, ln_46, ln_47, ln_48, ln_49, ln_50, ln_51, ln_52]
  · have b1' : e_X e_pg (d + 3) 105 [.ref 40, .int (m_rank c)] g1 = some (none, g2) := by
      have : m_wr c = m_rank c := by unfold m_wr; rw [if_neg c3]
      rw [this] at b1
      exact b1
    simp only [zX4_reads_27, zX4_reads_30, zX4_reads_31, zX4_reads_34, zX4_reads_35, zX4_reads_38, zX4_reads_39, zX4_reads_42, zX4_reads_44, zX4_reads_45, zX4_reads_254, zX4_reads_256, zX4_reads_258, zX4_reads_319, zX4_reads_321, zX4_reads_324, zX4_reads_327, zX4_reads_328, zX4_reads_330, zX4_reads_333, zX4_reads_334, zX4_reads_337, zX4_reads_338, zX4_reads_341, zX4_reads_343, zX4_reads_346, zX4_reads_349, zX4_reads_351, zX4_reads_354, zX4_reads_355, zX4_reads_358, zX4_reads_359, zX4_reads_362, zX4_reads_365, zX4_reads_366, zX4_reads_369, zX4_reads_370, zX4_reads_373, zX4_reads_374, zX4_reads_375, zX4_reads_376, zX4_reads_379, zX4_reads_382, zX4_reads_383, zX4_reads_386, zX4_reads_387, zX4_reads_390, zX4_reads_391, zX4_reads_392, zX4_reads_393, zX4_reads_396, zX4_reads_397, zX4_reads_400, zX4_reads_401, zX4_reads_403, zX4_reads_404, zX4_reads_407, zX4_reads_408, zX4_reads_409, zX4_reads_410, zX4_reads_413, zX4_reads_416, zX4_reads_417, zX4_reads_418, zX4_reads_421, zX4_reads_422, zX4_reads_423, zX4_reads_426, zX4_reads_427, zX4_reads_430, zX4_reads_431, zX4_reads_434, zX4_reads_436, zX4_reads_437, zX4_reads_438, zX4_reads_439, zX4_reads_442, zX4_reads_443, zX4_reads_444, zX4_reads_447, zX4_reads_448, zX4_reads_449, zX4_reads_485, f0, a1, h41, r_M_rank, c3, hrk, b1', p18, p13, ib, ic, e_gI_pI, Nat.reduceEqDiff, and_false, false_and, nI_1, ne_0_1, ne_0_2, ne_0_3, ne_1_0, ne_1_2, ne_1_3, ne_2_0, ne_2_1, ne_2_3, ne_3_0, ne_3_1, ne_3_2, not_true_eq_false, not_false_eq_true, e_k_int, e_k_ref, e_k_null, e_k_long, e_k_ret, e_cats_nil, e_cats_int, e_cats_ref, e_cats_ret, e_cats_long, Option.toList_some, Option.toList_none, List.nil_append, List.cons_append, Option.bind_some, Nat.reduceAdd, Nat.reduceLeDiff, Nat.add_zero, if_true, if_false, true_and, and_true, and_self, Int32.reduceToNatClampNeg, ok_1, ok_2, ok_3, ok_4, ok_5, ok_6, ok_7, ok_8, ok_9, ok_30, ok_31, ok_32, ok_33, ok_34, ok_35, ok_36, ok_37, ok_38, ok_39, ok_40, ok_41, ok_42, ok_43, ok_44, ok_45, ok_46, ok_47, ok_48, ok_49, ok_50, ok_51, ok_52, ln_1, ln_2, ln_4, ln_5, ln_6, ln_7, ln_8, ln_30, ln_31, ln_32, ln_33, ln_34, ln_35, ln_36, ln_37, ln_38, ln_39, ln_41, ln_42, ln_43, ln_44, ln_45, ln_46, ln_47, ln_48, ln_49, ln_50, ln_51, ln_52]
/-- 8b: a second comparison -/
theorem m_s_cmp {d op n : Nat} (hn : n ≤ 40) {a4 : Value} {T : Nat → Int32} {h g : e_H} {p : Nat} {V W : List Int64} {P R : List Int32} {t : Int32} (hP : m_P T n h g (-1) p (W ++ V) (P ++ t :: R)) (hc : m_rank (c_ch T n (c_skip T n p)) = 3) (hl : W.length = P.length + 1) (hd : ∀ c ∈ P, m_dn 4 c) (t1 : ¬ 1000 ≤ t) (t2 : m_rank t = 3) :
    ∃ g2, m_H d op 0 a4 g = some (some (.int 0), g2) ∧ m_E h g2 (10 * nI (c_skip T n p) + 1) 0 := by
  obtain ⟨g1, a1, a2⟩ := r_M_ahead (d := d + 2) hn hP
  have f0 := hP.2.2.2.1
  have hle := (c_skip_le (T := T) hP.2.2.2.2.2.1).2
  generalize hcc : c_ch T n (c_skip T n p) = c at *
  have h41 : ¬ c = 41 := by
    intro z
    rw [z] at hc
    exact absurd hc (by decide)
  obtain ⟨g2, b1, b2⟩ := r_M_workDown (d := d + 1) (r := 4) (S := t :: R) (fun c S e => by cases e; exact Or.inr (by rw [t2]; decide)) hl hd a2
  have p18 := b2.2.2.2.2.2.2.2.2.2.1
  have p13 := b2.2.2.2.2.1
  have st := b2.2.2.2.2.2.2.2.2.2.2.2
  have h11 := b2.2.2.2.2.2.2.2.2.2.2.1
  have l0 : ¬ nI (t :: R).length ≤ 0 := nI_nle (by simp) (by simp at h11 ⊢; omega)
  have e18 : nI (t :: R).length - 1 = nI R.length := nI_pred _
  simp at h11
  have i2 : e_inb (nI R.length) 128 = true := e_inb_nI (by omega) (by decide)
  have k2 : (nI R.length).toNatClampNeg = R.length := nI_clamp (by omega)
  have tt := st.tail.2
  have h30 : ¬ (3 : Int32) ≤ 0 := by decide
  obtain ⟨g4, e1, e2⟩ := m_end (d := d) (op := op) (w := 0) (a4 := .int c) (b2.fault (10 * nI (c_skip T n p) + 1)) (m_ne hle hn 1 (by decide))
  refine ⟨g4, ?_, e2⟩
  unfold m_H at e1 ⊢
  rw [zX4_reads_26]
  simp only [zX4_reads_27, zX4_reads_30, zX4_reads_31, zX4_reads_34, zX4_reads_35, zX4_reads_38, zX4_reads_39, zX4_reads_42, zX4_reads_44, zX4_reads_45, zX4_reads_254, zX4_reads_256, zX4_reads_258, zX4_reads_319, zX4_reads_321, zX4_reads_324, zX4_reads_327, zX4_reads_328, zX4_reads_330, zX4_reads_333, zX4_reads_334, zX4_reads_337, zX4_reads_338, zX4_reads_341, zX4_reads_343, zX4_reads_346, zX4_reads_349, zX4_reads_351, zX4_reads_354, zX4_reads_355, zX4_reads_358, zX4_reads_359, zX4_reads_362, zX4_reads_365, zX4_reads_366, zX4_reads_369, zX4_reads_370, zX4_reads_373, zX4_reads_374, zX4_reads_375, zX4_reads_376, zX4_reads_379, zX4_reads_382, zX4_reads_383, zX4_reads_386, zX4_reads_387, zX4_reads_390, zX4_reads_391, zX4_reads_392, zX4_reads_393, zX4_reads_396, zX4_reads_397, zX4_reads_400, zX4_reads_401, zX4_reads_403, zX4_reads_404, zX4_reads_407, zX4_reads_408, zX4_reads_409, zX4_reads_410, zX4_reads_413, zX4_reads_416, zX4_reads_417, zX4_reads_418, zX4_reads_421, zX4_reads_422, zX4_reads_423, zX4_reads_426, zX4_reads_427, zX4_reads_430, zX4_reads_431, zX4_reads_434, zX4_reads_436, zX4_reads_437, zX4_reads_438, zX4_reads_439, zX4_reads_442, zX4_reads_443, zX4_reads_444, zX4_reads_447, zX4_reads_448, zX4_reads_449, zX4_reads_485, f0, a1, h41, r_M_rank, hc, h30, b1, p18, p13, l0, e18, i2, k2, tt, t1, t2, ne_0_1, ne_0_2, ne_0_3, ne_1_0, ne_1_2, ne_1_3, ne_2_0, ne_2_1, ne_2_3, ne_3_0, ne_3_1, ne_3_2, not_true_eq_false, not_false_eq_true, e_k_int, e_k_ref, e_k_null, e_k_long, e_k_ret, e_cats_nil, e_cats_int, e_cats_ref, e_cats_ret, e_cats_long, Option.toList_some, Option.toList_none, List.nil_append, List.cons_append, Option.bind_some, Nat.reduceAdd, Nat.reduceLeDiff, Nat.add_zero, if_true, if_false, true_and, and_true, and_self, Int32.reduceToNatClampNeg, ok_1, ok_2, ok_3, ok_4, ok_5, ok_6, ok_7, ok_8, ok_9, ok_30, ok_31, ok_32, ok_33, ok_34, ok_35, ok_36, ok_37, ok_38, ok_39, ok_40, ok_41, ok_42, ok_43, ok_44, ok_45, ok_46, ok_47, ok_48, ok_49, ok_50, ok_51, ok_52, ln_1, ln_2, ln_4, ln_5, ln_6, ln_7, ln_8, ln_30, ln_31, ln_32, ln_33, ln_34, ln_35, ln_36, ln_37, ln_38, ln_39, ln_41, ln_42, ln_43, ln_44, ln_45, ln_46, ln_47, ln_48, ln_49, ln_50, ln_51, ln_52]
  exact e1
/-- 9: the end -/
theorem m_s_end {d n : Nat} (hn : n ≤ 40) {a4 : Value} {T : Nat → Int32} {h g : e_H} {p : Nat} {W : List Int64} {P : List Int32} (hP : m_P T n h g (-1) p W P) (hc : c_ch T n (c_skip T n p) = -1) (hl : W.length = P.length + 1) (hd : ∀ c ∈ P, m_dn 1 c) :
    ∃ g2, m_H d 0 0 a4 g = some (some (.int 1), g2) ∧ m_E h g2 (-1) (m_red P W) := by
  obtain ⟨g1, a1, a2⟩ := r_M_ahead (d := d + 2) hn hP
  have f0 := hP.2.2.2.1
  have a2' : m_P T n h g1 (-1) (c_skip T n p) (W ++ []) (P ++ []) := by rw [List.append_nil, List.append_nil]; exact a2
  obtain ⟨g2, b1, b2⟩ := r_M_workDown (d := d + 1) (r := 1) (S := []) (fun c R e => by cases e) hl hd a2'
  have f14 := b2.2.2.2.1
  have hv := b2.2.2.2.2.2.2.2.2.1.tail.2
  have hv0 : e_gJ g2 45 0 = m_red P W := hv
  have ib : e_inb 0 64 = true := rfl
  refine ⟨e_pJ g2 40 20 (m_red P W), ?_, b2.2.2.1.p20, by rw [e_gI_pJ]; exact f14, by rw [e_gJ_pJ, if_pos ⟨rfl, rfl⟩]⟩
  unfold m_H
  rw [hc] at a1
  rw [zX4_reads_26]
  simp only [zX4_reads_27, zX4_reads_30, zX4_reads_31, zX4_reads_34, zX4_reads_35, zX4_reads_38, zX4_reads_39, zX4_reads_42, zX4_reads_44, zX4_reads_45, zX4_reads_254, zX4_reads_256, zX4_reads_258, zX4_reads_319, zX4_reads_321, zX4_reads_324, zX4_reads_452, zX4_reads_454, zX4_reads_455, zX4_reads_458, zX4_reads_459, zX4_reads_462, zX4_reads_463, zX4_reads_464, zX4_reads_467, zX4_reads_468, zX4_reads_469, zX4_reads_472, zX4_reads_473, zX4_reads_475, zX4_reads_476, zX4_reads_479, zX4_reads_480, zX4_reads_481, zX4_reads_482, zX4_reads_485, f0, a1, show ¬ (-1 : Int32) = 41 from by decide, r_M_rank, show m_rank (-1) = 0 from rfl, show (0 : Int32) ≤ 0 from by decide, show ¬ ¬ nI 0 = (0 : Int32) from by decide, b1, ne_0_1, ne_0_2, ne_0_3, ne_1_0, ne_1_2, ne_1_3, ne_2_0, ne_2_1, ne_2_3, ne_3_0, ne_3_1, ne_3_2, not_true_eq_false, not_false_eq_true, e_k_int, e_k_ref, e_k_null, e_k_long, e_k_ret, e_cats_nil, e_cats_int, e_cats_ref, e_cats_ret, e_cats_long, Option.toList_some, Option.toList_none, List.nil_append, List.cons_append, Option.bind_some, Nat.reduceAdd, Nat.reduceLeDiff, Nat.add_zero, if_true, if_false, true_and, and_true, and_self, Int32.reduceToNatClampNeg]
  rw [zX4_reads_26]
  simp only [zX4_reads_27, zX4_reads_488, zX4_reads_489, zX4_reads_490, zX4_reads_493, zX4_reads_494, zX4_reads_497, zX4_reads_498, zX4_reads_501, zX4_reads_502, zX4_reads_503, zX4_reads_506, zX4_reads_507, zX4_reads_510, zX4_reads_511, zX4_reads_514, zX4_reads_515, zX4_reads_518, zX4_reads_519, zX4_reads_522, zX4_reads_523, f14, hv0, ib, e_gI_pJ, not_true_eq_false, ne_0_1, ne_0_2, ne_0_3, ne_1_0, ne_1_2, ne_1_3, ne_2_0, ne_2_1, ne_2_3, ne_3_0, ne_3_1, ne_3_2, or_true, e_k_int, e_k_ref, e_k_null, e_k_long, e_k_ret, e_cats_nil, e_cats_int, e_cats_ref, e_cats_ret, e_cats_long, Option.toList_some, Option.toList_none, List.nil_append, List.cons_append, Option.bind_some, Nat.reduceAdd, Nat.reduceLeDiff, Nat.add_zero, if_true, if_false, true_and, and_true, and_self, Int32.reduceToNatClampNeg, ok_1, ok_2, ok_3, ok_4, ok_5, ok_6, ok_7, ok_8, ok_9, ok_30, ok_31, ok_32, ok_33, ok_34, ok_35, ok_36, ok_37, ok_38, ok_39, ok_40, ok_41, ok_42, ok_43, ok_44, ok_45, ok_46, ok_47, ok_48, ok_49, ok_50, ok_51, ok_52, ln_1, ln_2, ln_4, ln_5, ln_6, ln_7, ln_8, ln_30, ln_31, ln_32, ln_33, ln_34, ln_35, ln_36, ln_37, ln_38, ln_39, ln_41, ln_42, ln_43, ln_44, ln_45, ln_46, ln_47, ln_48, ln_49, ln_50, ln_51, ln_52]
/-- 10: nothing that can stand there -/
theorem m_s_stray {d op n : Nat} (hn : n ≤ 40) {a4 : Value} {T : Nat → Int32} {h g : e_H} {p : Nat} {V : List Int64} {ss : List Int32} (hP : m_P T n h g (-1) p V ss) (hop : op ≤ 8) (h1 : c_ch T n (c_skip T n p) = 41 → op = 0) (h2 : m_rank (c_ch T n (c_skip T n p)) = 0) (h3 : c_ch T n (c_skip T n p) = -1 → 0 < op) :
    ∃ g2, m_H d op 0 a4 g = some (some (.int 0), g2) ∧ m_E h g2 (10 * nI (c_skip T n p) + 1) 0 := by
  obtain ⟨g1, a1, a2⟩ := r_M_ahead (d := d + 2) hn hP
  have f0 := hP.2.2.2.1
  have hle := (c_skip_le (T := T) hP.2.2.2.2.2.1).2
  have p13 := a2.2.2.2.2.1
  have z0 : (0 : Int32) ≤ 0 := by decide
  obtain ⟨g4, e1, e2⟩ := m_end (d := d) (op := op) (w := 0) (a4 := .int (c_ch T n (c_skip T n p))) (a2.fault (10 * nI (c_skip T n p) + 1)) (m_ne hle hn 1 (by decide))
  refine ⟨g4, ?_, e2⟩
  unfold m_H at e1 ⊢
  generalize hcc : c_ch T n (c_skip T n p) = c at *
  rw [zX4_reads_26]
  by_cases c41 : c = 41
  · have ho : nI op ≤ 0 := by rw [h1 c41]; decide
    by_cases cm1 : c = -1
    · rw [cm1] at c41; exact absurd c41 (by decide)
    · simp only [zX4_reads_27, zX4_reads_30, zX4_reads_31, zX4_reads_34, zX4_reads_35, zX4_reads_38, zX4_reads_39, zX4_reads_42, zX4_reads_44, zX4_reads_45, zX4_reads_254, zX4_reads_256, zX4_reads_258, zX4_reads_261, zX4_reads_262, zX4_reads_319, zX4_reads_321, zX4_reads_324, zX4_reads_452, zX4_reads_454, zX4_reads_455, zX4_reads_458, zX4_reads_459, zX4_reads_462, zX4_reads_463, zX4_reads_464, zX4_reads_467, zX4_reads_468, zX4_reads_469, zX4_reads_472, zX4_reads_473, zX4_reads_475, zX4_reads_476, zX4_reads_479, zX4_reads_480, zX4_reads_481, zX4_reads_482, zX4_reads_485, f0, a1, c41, ho, r_M_rank, show m_rank 41 = 0 from rfl, z0, show ¬ (41 : Int32) = -1 from by decide, p13, ne_0_1, ne_0_2, ne_0_3, ne_1_0, ne_1_2, ne_1_3, ne_2_0, ne_2_1, ne_2_3, ne_3_0, ne_3_1, ne_3_2, not_true_eq_false, not_false_eq_true, e_k_int, e_k_ref, e_k_null, e_k_long, e_k_ret, e_cats_nil, e_cats_int, e_cats_ref, e_cats_ret, e_cats_long, Option.toList_some, Option.toList_none, List.nil_append, List.cons_append, Option.bind_some, Nat.reduceAdd, Nat.reduceLeDiff, Nat.add_zero, if_true, if_false, true_and, and_true, and_self, Int32.reduceToNatClampNeg]
      rw [c41] at e1
      exact e1
  · by_cases cm1 : c = -1
    · have ho : ¬ nI op = 0 := nI_ne0 (h3 cm1) (by omega)
      simp only [zX4_reads_27, zX4_reads_30, zX4_reads_31, zX4_reads_34, zX4_reads_35, zX4_reads_38, zX4_reads_39, zX4_reads_42, zX4_reads_44, zX4_reads_45, zX4_reads_254, zX4_reads_256, zX4_reads_258, zX4_reads_319, zX4_reads_321, zX4_reads_324, zX4_reads_452, zX4_reads_454, zX4_reads_455, zX4_reads_458, zX4_reads_459, zX4_reads_462, zX4_reads_463, zX4_reads_464, zX4_reads_467, zX4_reads_468, zX4_reads_469, zX4_reads_472, zX4_reads_473, zX4_reads_475, zX4_reads_476, zX4_reads_479, zX4_reads_480, zX4_reads_481, zX4_reads_482, zX4_reads_485, f0, a1, cm1, show ¬ (-1 : Int32) = 41 from by decide, ho, r_M_rank, show m_rank (-1) = 0 from rfl, z0, p13, ne_0_1, ne_0_2, ne_0_3, ne_1_0, ne_1_2, ne_1_3, ne_2_0, ne_2_1, ne_2_3, ne_3_0, ne_3_1, ne_3_2, not_true_eq_false, not_false_eq_true, e_k_int, e_k_ref, e_k_null, e_k_long, e_k_ret, e_cats_nil, e_cats_int, e_cats_ref, e_cats_ret, e_cats_long, Option.toList_some, Option.toList_none, List.nil_append, List.cons_append, Option.bind_some, Nat.reduceAdd, Nat.reduceLeDiff, Nat.add_zero, if_true, if_false, true_and, and_true, and_self, Int32.reduceToNatClampNeg]
      rw [cm1] at e1
      exact e1
    · simp only [zX4_reads_27, zX4_reads_30, zX4_reads_31, zX4_reads_34, zX4_reads_35, zX4_reads_38, zX4_reads_39, zX4_reads_42, zX4_reads_44, zX4_reads_45, zX4_reads_254, zX4_reads_256, zX4_reads_258, zX4_reads_319, zX4_reads_321, zX4_reads_324, zX4_reads_452, zX4_reads_454, zX4_reads_455, zX4_reads_458, zX4_reads_459, zX4_reads_462, zX4_reads_463, zX4_reads_464, zX4_reads_467, zX4_reads_468, zX4_reads_469, zX4_reads_472, zX4_reads_473, zX4_reads_475, zX4_reads_476, zX4_reads_479, zX4_reads_480, zX4_reads_481, zX4_reads_482, zX4_reads_485, f0, a1, c41, cm1, r_M_rank, h2, z0, p13, ne_0_1, ne_0_2, ne_0_3, ne_1_0, ne_1_2, ne_1_3, ne_2_0, ne_2_1, ne_2_3, ne_3_0, ne_3_1, ne_3_2, not_true_eq_false, not_false_eq_true, e_k_int, e_k_ref, e_k_null, e_k_long, e_k_ret, e_cats_nil, e_cats_int, e_cats_ref, e_cats_ret, e_cats_long, Option.toList_some, Option.toList_none, List.nil_append, List.cons_append, Option.bind_some, Nat.reduceAdd, Nat.reduceLeDiff, Nat.add_zero, if_true, if_false, true_and, and_true, and_self, Int32.reduceToNatClampNeg]
      exact e1
