/-! the law's loop -/
theorem q_n2 (a : Nat) : nI a + 2 = nI (a + 2) := nI_add a 2
theorem q_n3 (a : Nat) : nI a + 3 = nI (a + 3) := nI_add a 3
theorem q_n4 (a : Nat) : nI a + 4 = nI (a + 4) := nI_add a 4
theorem q_n5 (a : Nat) : nI a + 5 = nI (a + 5) := nI_add a 5
abbrev q_loc (k : Nat) : List Value := [.retAddr 0, .ref 0, .ref 40, .int (nI k)]
theorem v_steps {L k : Nat} {xs : Nat → Int32} {h : e_H} (hI : q_I h) (hk : k + 5 ≤ L) (hL : L ≤ 2560) : ∃ g, e_F (kL_law L xs) (e_X e_pg 260) 156 (q_loc k) [] h = e_F (kL_law L xs) (e_X e_pg 260) 1009 (q_loc k) [] g ∧ q_I g := by
  obtain ⟨v, f, g, e1, e2, hg⟩ : q_pairI 260 31 89 [.int (xs (k + 1))] h := tp_steps hI
  have b1 : e_inb (nI (k + 1)) L = true := e_inb_nI (by omega) (by omega)
  have b2 : e_inb (nI (k + 2)) L = true := e_inb_nI (by omega) (by omega)
  have b3 : e_inb (nI (k + 3)) L = true := e_inb_nI (by omega) (by omega)
  have b4 : e_inb (nI (k + 4)) L = true := e_inb_nI (by omega) (by omega)
  have c1 : (nI (k + 1)).toNatClampNeg = k + 1 := nI_clamp (by omega)
  have c2 : (nI (k + 2)).toNatClampNeg = k + 2 := nI_clamp (by omega)
  have c3 : (nI (k + 3)).toNatClampNeg = k + 3 := nI_clamp (by omega)
  have c4 : (nI (k + 4)).toNatClampNeg = k + 4 := nI_clamp (by omega)
  refine ⟨g, ?_, hg⟩
  simp only [zL_law_156, zL_law_157, zL_law_158, zL_law_159, zL_law_160, zL_law_161, zL_law_162, zL_law_165, zL_law_166, zL_law_167, zL_law_168, zL_law_169, zL_law_170, zL_law_171, zL_law_174, zL_law_177, zL_law_178, nI_1, q_n2, q_n3, q_n4, b1, b2, b3, b4, c1, c2, c3, c4, e1, e2, lc_eq, e_k_int, e_k_ref, e_k_null, e_k_long, e_k_ret, e_cats_nil, e_cats_int, e_cats_ref, e_cats_ret, e_cats_long, Option.toList_some, Option.toList_none, List.nil_append, List.cons_append, Option.bind_some, Nat.reduceAdd, Nat.reduceLeDiff, Nat.add_zero, if_true, if_false, true_and, and_true, and_self, Int32.reduceToNatClampNeg]
theorem v_envoy {L k : Nat} {xs : Nat → Int32} {h : e_H} (hI : q_I h) (hk : k + 5 ≤ L) (hL : L ≤ 2560) : ∃ g, e_F (kL_law L xs) (e_X e_pg 260) 179 (q_loc k) [] h = e_F (kL_law L xs) (e_X e_pg 260) 1009 (q_loc k) [] g ∧ q_I g := by
  obtain ⟨v, f, g, e1, e2, hg⟩ : q_pairI 260 32 90 [.int (xs (k + 1))] h := tp_envoy hI
  have b1 : e_inb (nI (k + 1)) L = true := e_inb_nI (by omega) (by omega)
  have b2 : e_inb (nI (k + 2)) L = true := e_inb_nI (by omega) (by omega)
  have b3 : e_inb (nI (k + 3)) L = true := e_inb_nI (by omega) (by omega)
  have b4 : e_inb (nI (k + 4)) L = true := e_inb_nI (by omega) (by omega)
  have c1 : (nI (k + 1)).toNatClampNeg = k + 1 := nI_clamp (by omega)
  have c2 : (nI (k + 2)).toNatClampNeg = k + 2 := nI_clamp (by omega)
  have c3 : (nI (k + 3)).toNatClampNeg = k + 3 := nI_clamp (by omega)
  have c4 : (nI (k + 4)).toNatClampNeg = k + 4 := nI_clamp (by omega)
  refine ⟨g, ?_, hg⟩
  simp only [zL_law_179, zL_law_180, zL_law_181, zL_law_182, zL_law_183, zL_law_184, zL_law_185, zL_law_188, zL_law_189, zL_law_190, zL_law_191, zL_law_192, zL_law_193, zL_law_194, zL_law_197, zL_law_200, zL_law_201, nI_1, q_n2, q_n3, q_n4, b1, b2, b3, b4, c1, c2, c3, c4, e1, e2, lc_eq, e_k_int, e_k_ref, e_k_null, e_k_long, e_k_ret, e_cats_nil, e_cats_int, e_cats_ref, e_cats_ret, e_cats_long, Option.toList_some, Option.toList_none, List.nil_append, List.cons_append, Option.bind_some, Nat.reduceAdd, Nat.reduceLeDiff, Nat.add_zero, if_true, if_false, true_and, and_true, and_self, Int32.reduceToNatClampNeg]
theorem v_put {L k : Nat} {xs : Nat → Int32} {h : e_H} (hI : q_I h) (hk : k + 5 ≤ L) (hL : L ≤ 2560) : ∃ g, e_F (kL_law L xs) (e_X e_pg 260) 202 (q_loc k) [] h = e_F (kL_law L xs) (e_X e_pg 260) 1009 (q_loc k) [] g ∧ q_I g := by
  obtain ⟨v, f, g, e1, e2, hg⟩ : q_pairI 260 33 92 [.int (xs (k + 1)), .int (xs (k + 2)), .int (xs (k + 3)), .int (xs (k + 4))] h := tp_put hI
  have b1 : e_inb (nI (k + 1)) L = true := e_inb_nI (by omega) (by omega)
  have b2 : e_inb (nI (k + 2)) L = true := e_inb_nI (by omega) (by omega)
  have b3 : e_inb (nI (k + 3)) L = true := e_inb_nI (by omega) (by omega)
  have b4 : e_inb (nI (k + 4)) L = true := e_inb_nI (by omega) (by omega)
  have c1 : (nI (k + 1)).toNatClampNeg = k + 1 := nI_clamp (by omega)
  have c2 : (nI (k + 2)).toNatClampNeg = k + 2 := nI_clamp (by omega)
  have c3 : (nI (k + 3)).toNatClampNeg = k + 3 := nI_clamp (by omega)
  have c4 : (nI (k + 4)).toNatClampNeg = k + 4 := nI_clamp (by omega)
  refine ⟨g, ?_, hg⟩
  simp only [zL_law_202, zL_law_203, zL_law_204, zL_law_205, zL_law_206, zL_law_207, zL_law_208, zL_law_209, zL_law_210, zL_law_211, zL_law_212, zL_law_213, zL_law_214, zL_law_215, zL_law_216, zL_law_217, zL_law_218, zL_law_219, zL_law_220, zL_law_221, zL_law_222, zL_law_223, zL_law_226, zL_law_227, zL_law_228, zL_law_229, zL_law_230, zL_law_231, zL_law_232, zL_law_233, zL_law_234, zL_law_235, zL_law_236, zL_law_237, zL_law_238, zL_law_239, zL_law_240, zL_law_241, zL_law_242, zL_law_243, zL_law_244, zL_law_245, zL_law_246, zL_law_247, zL_law_250, zL_law_253, zL_law_254, nI_1, q_n2, q_n3, q_n4, b1, b2, b3, b4, c1, c2, c3, c4, e1, e2, lc_eq, e_k_int, e_k_ref, e_k_null, e_k_long, e_k_ret, e_cats_nil, e_cats_int, e_cats_ref, e_cats_ret, e_cats_long, Option.toList_some, Option.toList_none, List.nil_append, List.cons_append, Option.bind_some, Nat.reduceAdd, Nat.reduceLeDiff, Nat.add_zero, if_true, if_false, true_and, and_true, and_self, Int32.reduceToNatClampNeg]
theorem v_worth {L k : Nat} {xs : Nat → Int32} {h : e_H} (hI : q_I h) (hk : k + 5 ≤ L) (hL : L ≤ 2560) : ∃ g, e_F (kL_law L xs) (e_X e_pg 260) 255 (q_loc k) [] h = e_F (kL_law L xs) (e_X e_pg 260) 1009 (q_loc k) [] g ∧ q_I g := by
  obtain ⟨v, f, g, e1, e2, hg⟩ : q_pairI 260 34 96 [.int (xs (k + 1)), .int (xs (k + 2)), .int (xs (k + 3))] h := tp_worth hI
  have b1 : e_inb (nI (k + 1)) L = true := e_inb_nI (by omega) (by omega)
  have b2 : e_inb (nI (k + 2)) L = true := e_inb_nI (by omega) (by omega)
  have b3 : e_inb (nI (k + 3)) L = true := e_inb_nI (by omega) (by omega)
  have b4 : e_inb (nI (k + 4)) L = true := e_inb_nI (by omega) (by omega)
  have c1 : (nI (k + 1)).toNatClampNeg = k + 1 := nI_clamp (by omega)
  have c2 : (nI (k + 2)).toNatClampNeg = k + 2 := nI_clamp (by omega)
  have c3 : (nI (k + 3)).toNatClampNeg = k + 3 := nI_clamp (by omega)
  have c4 : (nI (k + 4)).toNatClampNeg = k + 4 := nI_clamp (by omega)
  refine ⟨g, ?_, hg⟩
  simp only [zL_law_255, zL_law_256, zL_law_257, zL_law_258, zL_law_259, zL_law_260, zL_law_261, zL_law_262, zL_law_263, zL_law_264, zL_law_265, zL_law_266, zL_law_267, zL_law_268, zL_law_269, zL_law_270, zL_law_271, zL_law_274, zL_law_275, zL_law_276, zL_law_277, zL_law_278, zL_law_279, zL_law_280, zL_law_281, zL_law_282, zL_law_283, zL_law_284, zL_law_285, zL_law_286, zL_law_287, zL_law_288, zL_law_289, zL_law_290, zL_law_293, zL_law_296, zL_law_297, nI_1, q_n2, q_n3, q_n4, b1, b2, b3, b4, c1, c2, c3, c4, e1, e2, lc_eq, e_k_int, e_k_ref, e_k_null, e_k_long, e_k_ret, e_cats_nil, e_cats_int, e_cats_ref, e_cats_ret, e_cats_long, Option.toList_some, Option.toList_none, List.nil_append, List.cons_append, Option.bind_some, Nat.reduceAdd, Nat.reduceLeDiff, Nat.add_zero, if_true, if_false, true_and, and_true, and_self, Int32.reduceToNatClampNeg]
theorem v_takes {L k : Nat} {xs : Nat → Int32} {h : e_H} (hI : q_I h) (hk : k + 5 ≤ L) (hL : L ≤ 2560) : ∃ g, e_F (kL_law L xs) (e_X e_pg 260) 298 (q_loc k) [] h = e_F (kL_law L xs) (e_X e_pg 260) 1009 (q_loc k) [] g ∧ q_I g := by
  obtain ⟨v, f, g, e1, e2, hg⟩ : q_pairI 260 35 97 [.int (xs (k + 1)), .int (xs (k + 2)), .int (xs (k + 3))] h := tp_takes hI
  have b1 : e_inb (nI (k + 1)) L = true := e_inb_nI (by omega) (by omega)
  have b2 : e_inb (nI (k + 2)) L = true := e_inb_nI (by omega) (by omega)
  have b3 : e_inb (nI (k + 3)) L = true := e_inb_nI (by omega) (by omega)
  have b4 : e_inb (nI (k + 4)) L = true := e_inb_nI (by omega) (by omega)
  have c1 : (nI (k + 1)).toNatClampNeg = k + 1 := nI_clamp (by omega)
  have c2 : (nI (k + 2)).toNatClampNeg = k + 2 := nI_clamp (by omega)
  have c3 : (nI (k + 3)).toNatClampNeg = k + 3 := nI_clamp (by omega)
  have c4 : (nI (k + 4)).toNatClampNeg = k + 4 := nI_clamp (by omega)
  refine ⟨g, ?_, hg⟩
  simp only [zL_law_298, zL_law_299, zL_law_300, zL_law_301, zL_law_302, zL_law_303, zL_law_304, zL_law_305, zL_law_306, zL_law_307, zL_law_308, zL_law_309, zL_law_310, zL_law_311, zL_law_312, zL_law_313, zL_law_314, zL_law_317, zL_law_318, zL_law_319, zL_law_320, zL_law_321, zL_law_322, zL_law_323, zL_law_324, zL_law_325, zL_law_326, zL_law_327, zL_law_328, zL_law_329, zL_law_330, zL_law_331, zL_law_332, zL_law_333, zL_law_336, zL_law_339, zL_law_340, nI_1, q_n2, q_n3, q_n4, b1, b2, b3, b4, c1, c2, c3, c4, e1, e2, lc_eq, e_k_int, e_k_ref, e_k_null, e_k_long, e_k_ret, e_cats_nil, e_cats_int, e_cats_ref, e_cats_ret, e_cats_long, Option.toList_some, Option.toList_none, List.nil_append, List.cons_append, Option.bind_some, Nat.reduceAdd, Nat.reduceLeDiff, Nat.add_zero, if_true, if_false, true_and, and_true, and_self, Int32.reduceToNatClampNeg]
theorem v_set {L k : Nat} {xs : Nat → Int32} {h : e_H} (hI : q_I h) (hk : k + 5 ≤ L) (hL : L ≤ 2560) : ∃ g, e_F (kL_law L xs) (e_X e_pg 260) 341 (q_loc k) [] h = e_F (kL_law L xs) (e_X e_pg 260) 1009 (q_loc k) [] g ∧ q_I g := by
  obtain ⟨v, f, g, e1, e2, hg⟩ : q_pairI 260 36 98 [.int (xs (k + 1)), .int (xs (k + 2))] h := tp_set hI
  have b1 : e_inb (nI (k + 1)) L = true := e_inb_nI (by omega) (by omega)
  have b2 : e_inb (nI (k + 2)) L = true := e_inb_nI (by omega) (by omega)
  have b3 : e_inb (nI (k + 3)) L = true := e_inb_nI (by omega) (by omega)
  have b4 : e_inb (nI (k + 4)) L = true := e_inb_nI (by omega) (by omega)
  have c1 : (nI (k + 1)).toNatClampNeg = k + 1 := nI_clamp (by omega)
  have c2 : (nI (k + 2)).toNatClampNeg = k + 2 := nI_clamp (by omega)
  have c3 : (nI (k + 3)).toNatClampNeg = k + 3 := nI_clamp (by omega)
  have c4 : (nI (k + 4)).toNatClampNeg = k + 4 := nI_clamp (by omega)
  refine ⟨g, ?_, hg⟩
  simp only [zL_law_341, zL_law_342, zL_law_343, zL_law_344, zL_law_345, zL_law_346, zL_law_347, zL_law_348, zL_law_349, zL_law_350, zL_law_351, zL_law_352, zL_law_355, zL_law_356, zL_law_357, zL_law_358, zL_law_359, zL_law_360, zL_law_361, zL_law_362, zL_law_363, zL_law_364, zL_law_365, zL_law_366, zL_law_369, zL_law_372, zL_law_373, nI_1, q_n2, q_n3, q_n4, b1, b2, b3, b4, c1, c2, c3, c4, e1, e2, lc_eq, e_k_int, e_k_ref, e_k_null, e_k_long, e_k_ret, e_cats_nil, e_cats_int, e_cats_ref, e_cats_ret, e_cats_long, Option.toList_some, Option.toList_none, List.nil_append, List.cons_append, Option.bind_some, Nat.reduceAdd, Nat.reduceLeDiff, Nat.add_zero, if_true, if_false, true_and, and_true, and_self, Int32.reduceToNatClampNeg]
theorem v_lot {L k : Nat} {xs : Nat → Int32} {h : e_H} (hI : q_I h) (hk : k + 5 ≤ L) (hL : L ≤ 2560) : ∃ g, e_F (kL_law L xs) (e_X e_pg 260) 374 (q_loc k) [] h = e_F (kL_law L xs) (e_X e_pg 260) 1009 (q_loc k) [] g ∧ q_I g := by
  obtain ⟨v, f, g, e1, e2, hg⟩ : q_pairI 260 37 99 [.int (xs (k + 1)), .int (xs (k + 2))] h := tp_lot hI
  have b1 : e_inb (nI (k + 1)) L = true := e_inb_nI (by omega) (by omega)
  have b2 : e_inb (nI (k + 2)) L = true := e_inb_nI (by omega) (by omega)
  have b3 : e_inb (nI (k + 3)) L = true := e_inb_nI (by omega) (by omega)
  have b4 : e_inb (nI (k + 4)) L = true := e_inb_nI (by omega) (by omega)
  have c1 : (nI (k + 1)).toNatClampNeg = k + 1 := nI_clamp (by omega)
  have c2 : (nI (k + 2)).toNatClampNeg = k + 2 := nI_clamp (by omega)
  have c3 : (nI (k + 3)).toNatClampNeg = k + 3 := nI_clamp (by omega)
  have c4 : (nI (k + 4)).toNatClampNeg = k + 4 := nI_clamp (by omega)
  refine ⟨g, ?_, hg⟩
  simp only [zL_law_374, zL_law_375, zL_law_376, zL_law_377, zL_law_378, zL_law_379, zL_law_380, zL_law_381, zL_law_382, zL_law_383, zL_law_384, zL_law_385, zL_law_388, zL_law_389, zL_law_390, zL_law_391, zL_law_392, zL_law_393, zL_law_394, zL_law_395, zL_law_396, zL_law_397, zL_law_398, zL_law_399, zL_law_402, zL_law_405, zL_law_406, nI_1, q_n2, q_n3, q_n4, b1, b2, b3, b4, c1, c2, c3, c4, e1, e2, lc_eq, e_k_int, e_k_ref, e_k_null, e_k_long, e_k_ret, e_cats_nil, e_cats_int, e_cats_ref, e_cats_ret, e_cats_long, Option.toList_some, Option.toList_none, List.nil_append, List.cons_append, Option.bind_some, Nat.reduceAdd, Nat.reduceLeDiff, Nat.add_zero, if_true, if_false, true_and, and_true, and_self, Int32.reduceToNatClampNeg]
theorem v_write {L k : Nat} {xs : Nat → Int32} {h : e_H} (hI : q_I h) (hk : k + 5 ≤ L) (hL : L ≤ 2560) : ∃ g, e_F (kL_law L xs) (e_X e_pg 260) 407 (q_loc k) [] h = e_F (kL_law L xs) (e_X e_pg 260) 1009 (q_loc k) [] g ∧ q_I g := by
  obtain ⟨v, f, g, e1, e2, hg⟩ : q_pairI 260 38 100 [.int (xs (k + 1))] h := tp_write hI
  have b1 : e_inb (nI (k + 1)) L = true := e_inb_nI (by omega) (by omega)
  have b2 : e_inb (nI (k + 2)) L = true := e_inb_nI (by omega) (by omega)
  have b3 : e_inb (nI (k + 3)) L = true := e_inb_nI (by omega) (by omega)
  have b4 : e_inb (nI (k + 4)) L = true := e_inb_nI (by omega) (by omega)
  have c1 : (nI (k + 1)).toNatClampNeg = k + 1 := nI_clamp (by omega)
  have c2 : (nI (k + 2)).toNatClampNeg = k + 2 := nI_clamp (by omega)
  have c3 : (nI (k + 3)).toNatClampNeg = k + 3 := nI_clamp (by omega)
  have c4 : (nI (k + 4)).toNatClampNeg = k + 4 := nI_clamp (by omega)
  refine ⟨g, ?_, hg⟩
  simp only [zL_law_407, zL_law_408, zL_law_409, zL_law_410, zL_law_411, zL_law_412, zL_law_413, zL_law_416, zL_law_417, zL_law_418, zL_law_419, zL_law_420, zL_law_421, zL_law_422, zL_law_425, zL_law_428, zL_law_429, nI_1, q_n2, q_n3, q_n4, b1, b2, b3, b4, c1, c2, c3, c4, e1, e2, lc_eq, e_k_int, e_k_ref, e_k_null, e_k_long, e_k_ret, e_cats_nil, e_cats_int, e_cats_ref, e_cats_ret, e_cats_long, Option.toList_some, Option.toList_none, List.nil_append, List.cons_append, Option.bind_some, Nat.reduceAdd, Nat.reduceLeDiff, Nat.add_zero, if_true, if_false, true_and, and_true, and_self, Int32.reduceToNatClampNeg]
theorem v_erase {L k : Nat} {xs : Nat → Int32} {h : e_H} (hI : q_I h) (hk : k + 5 ≤ L) (hL : L ≤ 2560) : ∃ g, e_F (kL_law L xs) (e_X e_pg 260) 430 (q_loc k) [] h = e_F (kL_law L xs) (e_X e_pg 260) 1009 (q_loc k) [] g ∧ q_I g := by
  obtain ⟨v, f, g, e1, e2, hg⟩ : q_pairI 260 39 101 [] h := tp_erase hI
  have b1 : e_inb (nI (k + 1)) L = true := e_inb_nI (by omega) (by omega)
  have b2 : e_inb (nI (k + 2)) L = true := e_inb_nI (by omega) (by omega)
  have b3 : e_inb (nI (k + 3)) L = true := e_inb_nI (by omega) (by omega)
  have b4 : e_inb (nI (k + 4)) L = true := e_inb_nI (by omega) (by omega)
  have c1 : (nI (k + 1)).toNatClampNeg = k + 1 := nI_clamp (by omega)
  have c2 : (nI (k + 2)).toNatClampNeg = k + 2 := nI_clamp (by omega)
  have c3 : (nI (k + 3)).toNatClampNeg = k + 3 := nI_clamp (by omega)
  have c4 : (nI (k + 4)).toNatClampNeg = k + 4 := nI_clamp (by omega)
  refine ⟨g, ?_, hg⟩
  simp only [zL_law_430, zL_law_431, zL_law_434, zL_law_435, zL_law_438, zL_law_441, zL_law_442, nI_1, q_n2, q_n3, q_n4, b1, b2, b3, b4, c1, c2, c3, c4, e1, e2, lc_eq, e_k_int, e_k_ref, e_k_null, e_k_long, e_k_ret, e_cats_nil, e_cats_int, e_cats_ref, e_cats_ret, e_cats_long, Option.toList_some, Option.toList_none, List.nil_append, List.cons_append, Option.bind_some, Nat.reduceAdd, Nat.reduceLeDiff, Nat.add_zero, if_true, if_false, true_and, and_true, and_self, Int32.reduceToNatClampNeg]
theorem v_fault {L k : Nat} {xs : Nat → Int32} {h : e_H} (hI : q_I h) (hk : k + 5 ≤ L) (hL : L ≤ 2560) : ∃ g, e_F (kL_law L xs) (e_X e_pg 260) 443 (q_loc k) [] h = e_F (kL_law L xs) (e_X e_pg 260) 1009 (q_loc k) [] g ∧ q_I g := by
  obtain ⟨v, f, g, e1, e2, hg⟩ : q_pairI 260 40 110 [] h := tp_fault hI
  have b1 : e_inb (nI (k + 1)) L = true := e_inb_nI (by omega) (by omega)
  have b2 : e_inb (nI (k + 2)) L = true := e_inb_nI (by omega) (by omega)
  have b3 : e_inb (nI (k + 3)) L = true := e_inb_nI (by omega) (by omega)
  have b4 : e_inb (nI (k + 4)) L = true := e_inb_nI (by omega) (by omega)
  have c1 : (nI (k + 1)).toNatClampNeg = k + 1 := nI_clamp (by omega)
  have c2 : (nI (k + 2)).toNatClampNeg = k + 2 := nI_clamp (by omega)
  have c3 : (nI (k + 3)).toNatClampNeg = k + 3 := nI_clamp (by omega)
  have c4 : (nI (k + 4)).toNatClampNeg = k + 4 := nI_clamp (by omega)
  refine ⟨g, ?_, hg⟩
  simp only [zL_law_443, zL_law_444, zL_law_447, zL_law_448, zL_law_451, zL_law_454, zL_law_455, nI_1, q_n2, q_n3, q_n4, b1, b2, b3, b4, c1, c2, c3, c4, e1, e2, lc_eq, e_k_int, e_k_ref, e_k_null, e_k_long, e_k_ret, e_cats_nil, e_cats_int, e_cats_ref, e_cats_ret, e_cats_long, Option.toList_some, Option.toList_none, List.nil_append, List.cons_append, Option.bind_some, Nat.reduceAdd, Nat.reduceLeDiff, Nat.add_zero, if_true, if_false, true_and, and_true, and_self, Int32.reduceToNatClampNeg]
theorem v_settle {L k : Nat} {xs : Nat → Int32} {h : e_H} (hI : q_I h) (hk : k + 5 ≤ L) (hL : L ≤ 2560) : ∃ g, e_F (kL_law L xs) (e_X e_pg 260) 456 (q_loc k) [] h = e_F (kL_law L xs) (e_X e_pg 260) 1009 (q_loc k) [] g ∧ q_I g := by
  obtain ⟨v, f, g, e1, e2, hg⟩ : q_pairI 260 41 121 [.int (xs (k + 1)), .int (xs (k + 2))] h := tp_settle hI
  have b1 : e_inb (nI (k + 1)) L = true := e_inb_nI (by omega) (by omega)
  have b2 : e_inb (nI (k + 2)) L = true := e_inb_nI (by omega) (by omega)
  have b3 : e_inb (nI (k + 3)) L = true := e_inb_nI (by omega) (by omega)
  have b4 : e_inb (nI (k + 4)) L = true := e_inb_nI (by omega) (by omega)
  have c1 : (nI (k + 1)).toNatClampNeg = k + 1 := nI_clamp (by omega)
  have c2 : (nI (k + 2)).toNatClampNeg = k + 2 := nI_clamp (by omega)
  have c3 : (nI (k + 3)).toNatClampNeg = k + 3 := nI_clamp (by omega)
  have c4 : (nI (k + 4)).toNatClampNeg = k + 4 := nI_clamp (by omega)
  refine ⟨g, ?_, hg⟩
  simp only [zL_law_456, zL_law_457, zL_law_458, zL_law_459, zL_law_460, zL_law_461, zL_law_462, zL_law_463, zL_law_464, zL_law_465, zL_law_466, zL_law_467, zL_law_470, zL_law_471, zL_law_472, zL_law_473, zL_law_474, zL_law_475, zL_law_476, zL_law_477, zL_law_478, zL_law_479, zL_law_480, zL_law_481, zL_law_484, zL_law_487, zL_law_488, nI_1, q_n2, q_n3, q_n4, b1, b2, b3, b4, c1, c2, c3, c4, e1, e2, lc_eq, e_k_int, e_k_ref, e_k_null, e_k_long, e_k_ret, e_cats_nil, e_cats_int, e_cats_ref, e_cats_ret, e_cats_long, Option.toList_some, Option.toList_none, List.nil_append, List.cons_append, Option.bind_some, Nat.reduceAdd, Nat.reduceLeDiff, Nat.add_zero, if_true, if_false, true_and, and_true, and_self, Int32.reduceToNatClampNeg]
theorem v_round {L k : Nat} {xs : Nat → Int32} {h : e_H} (hI : q_I h) (hk : k + 5 ≤ L) (hL : L ≤ 2560) : ∃ g, e_F (kL_law L xs) (e_X e_pg 260) 489 (q_loc k) [] h = e_F (kL_law L xs) (e_X e_pg 260) 1009 (q_loc k) [] g ∧ q_I g := by
  obtain ⟨v, f, g, e1, e2, hg⟩ : q_pairI 260 42 122 [.int (xs (k + 1)), .int (xs (k + 2))] h := tp_round hI
  have b1 : e_inb (nI (k + 1)) L = true := e_inb_nI (by omega) (by omega)
  have b2 : e_inb (nI (k + 2)) L = true := e_inb_nI (by omega) (by omega)
  have b3 : e_inb (nI (k + 3)) L = true := e_inb_nI (by omega) (by omega)
  have b4 : e_inb (nI (k + 4)) L = true := e_inb_nI (by omega) (by omega)
  have c1 : (nI (k + 1)).toNatClampNeg = k + 1 := nI_clamp (by omega)
  have c2 : (nI (k + 2)).toNatClampNeg = k + 2 := nI_clamp (by omega)
  have c3 : (nI (k + 3)).toNatClampNeg = k + 3 := nI_clamp (by omega)
  have c4 : (nI (k + 4)).toNatClampNeg = k + 4 := nI_clamp (by omega)
  refine ⟨g, ?_, hg⟩
  simp only [zL_law_489, zL_law_490, zL_law_491, zL_law_492, zL_law_493, zL_law_494, zL_law_495, zL_law_496, zL_law_497, zL_law_498, zL_law_499, zL_law_500, zL_law_503, zL_law_504, zL_law_505, zL_law_506, zL_law_507, zL_law_508, zL_law_509, zL_law_510, zL_law_511, zL_law_512, zL_law_513, zL_law_514, zL_law_517, zL_law_520, zL_law_521, nI_1, q_n2, q_n3, q_n4, b1, b2, b3, b4, c1, c2, c3, c4, e1, e2, lc_eq, e_k_int, e_k_ref, e_k_null, e_k_long, e_k_ret, e_cats_nil, e_cats_int, e_cats_ref, e_cats_ret, e_cats_long, Option.toList_some, Option.toList_none, List.nil_append, List.cons_append, Option.bind_some, Nat.reduceAdd, Nat.reduceLeDiff, Nat.add_zero, if_true, if_false, true_and, and_true, and_self, Int32.reduceToNatClampNeg]
theorem v_has {L k : Nat} {xs : Nat → Int32} {h : e_H} (hI : q_I h) (hk : k + 5 ≤ L) (hL : L ≤ 2560) : ∃ g, e_F (kL_law L xs) (e_X e_pg 260) 522 (q_loc k) [] h = e_F (kL_law L xs) (e_X e_pg 260) 1009 (q_loc k) [] g ∧ q_I g := by
  obtain ⟨v, f, g, e1, e2, hg⟩ : q_pairI 260 43 127 [.int (xs (k + 1)), .int (xs (k + 2)), .int (xs (k + 3))] h := tp_has hI
  have b1 : e_inb (nI (k + 1)) L = true := e_inb_nI (by omega) (by omega)
  have b2 : e_inb (nI (k + 2)) L = true := e_inb_nI (by omega) (by omega)
  have b3 : e_inb (nI (k + 3)) L = true := e_inb_nI (by omega) (by omega)
  have b4 : e_inb (nI (k + 4)) L = true := e_inb_nI (by omega) (by omega)
  have c1 : (nI (k + 1)).toNatClampNeg = k + 1 := nI_clamp (by omega)
  have c2 : (nI (k + 2)).toNatClampNeg = k + 2 := nI_clamp (by omega)
  have c3 : (nI (k + 3)).toNatClampNeg = k + 3 := nI_clamp (by omega)
  have c4 : (nI (k + 4)).toNatClampNeg = k + 4 := nI_clamp (by omega)
  refine ⟨g, ?_, hg⟩
  simp only [zL_law_522, zL_law_523, zL_law_524, zL_law_525, zL_law_526, zL_law_527, zL_law_528, zL_law_529, zL_law_530, zL_law_531, zL_law_532, zL_law_533, zL_law_534, zL_law_535, zL_law_536, zL_law_537, zL_law_538, zL_law_541, zL_law_542, zL_law_543, zL_law_544, zL_law_545, zL_law_546, zL_law_547, zL_law_548, zL_law_549, zL_law_550, zL_law_551, zL_law_552, zL_law_553, zL_law_554, zL_law_555, zL_law_556, zL_law_557, zL_law_560, zL_law_563, zL_law_564, nI_1, q_n2, q_n3, q_n4, b1, b2, b3, b4, c1, c2, c3, c4, e1, e2, lc_eq, e_k_int, e_k_ref, e_k_null, e_k_long, e_k_ret, e_cats_nil, e_cats_int, e_cats_ref, e_cats_ret, e_cats_long, Option.toList_some, Option.toList_none, List.nil_append, List.cons_append, Option.bind_some, Nat.reduceAdd, Nat.reduceLeDiff, Nat.add_zero, if_true, if_false, true_and, and_true, and_self, Int32.reduceToNatClampNeg]
theorem v_best {L k : Nat} {xs : Nat → Int32} {h : e_H} (hI : q_I h) (hk : k + 5 ≤ L) (hL : L ≤ 2560) : ∃ g, e_F (kL_law L xs) (e_X e_pg 260) 565 (q_loc k) [] h = e_F (kL_law L xs) (e_X e_pg 260) 1009 (q_loc k) [] g ∧ q_I g := by
  obtain ⟨v, f, g, e1, e2, hg⟩ : q_pairI 260 44 130 [.int (xs (k + 1)), .int (xs (k + 2))] h := tp_best hI
  have b1 : e_inb (nI (k + 1)) L = true := e_inb_nI (by omega) (by omega)
  have b2 : e_inb (nI (k + 2)) L = true := e_inb_nI (by omega) (by omega)
  have b3 : e_inb (nI (k + 3)) L = true := e_inb_nI (by omega) (by omega)
  have b4 : e_inb (nI (k + 4)) L = true := e_inb_nI (by omega) (by omega)
  have c1 : (nI (k + 1)).toNatClampNeg = k + 1 := nI_clamp (by omega)
  have c2 : (nI (k + 2)).toNatClampNeg = k + 2 := nI_clamp (by omega)
  have c3 : (nI (k + 3)).toNatClampNeg = k + 3 := nI_clamp (by omega)
  have c4 : (nI (k + 4)).toNatClampNeg = k + 4 := nI_clamp (by omega)
  refine ⟨g, ?_, hg⟩
  simp only [zL_law_565, zL_law_566, zL_law_567, zL_law_568, zL_law_569, zL_law_570, zL_law_571, zL_law_572, zL_law_573, zL_law_574, zL_law_575, zL_law_576, zL_law_579, zL_law_580, zL_law_581, zL_law_582, zL_law_583, zL_law_584, zL_law_585, zL_law_586, zL_law_587, zL_law_588, zL_law_589, zL_law_590, zL_law_593, zL_law_596, zL_law_597, nI_1, q_n2, q_n3, q_n4, b1, b2, b3, b4, c1, c2, c3, c4, e1, e2, lc_eq, e_k_int, e_k_ref, e_k_null, e_k_long, e_k_ret, e_cats_nil, e_cats_int, e_cats_ref, e_cats_ret, e_cats_long, Option.toList_some, Option.toList_none, List.nil_append, List.cons_append, Option.bind_some, Nat.reduceAdd, Nat.reduceLeDiff, Nat.add_zero, if_true, if_false, true_and, and_true, and_self, Int32.reduceToNatClampNeg]
theorem v_rest {L k : Nat} {xs : Nat → Int32} {h : e_H} (hI : q_I h) (hk : k + 5 ≤ L) (hL : L ≤ 2560) : ∃ g, e_F (kL_law L xs) (e_X e_pg 260) 598 (q_loc k) [] h = e_F (kL_law L xs) (e_X e_pg 260) 1009 (q_loc k) [] g ∧ q_I g := by
  obtain ⟨v, f, g, e1, e2, hg⟩ : q_pairI 260 45 134 [.int (xs (k + 1))] h := tp_rest hI
  have b1 : e_inb (nI (k + 1)) L = true := e_inb_nI (by omega) (by omega)
  have b2 : e_inb (nI (k + 2)) L = true := e_inb_nI (by omega) (by omega)
  have b3 : e_inb (nI (k + 3)) L = true := e_inb_nI (by omega) (by omega)
  have b4 : e_inb (nI (k + 4)) L = true := e_inb_nI (by omega) (by omega)
  have c1 : (nI (k + 1)).toNatClampNeg = k + 1 := nI_clamp (by omega)
  have c2 : (nI (k + 2)).toNatClampNeg = k + 2 := nI_clamp (by omega)
  have c3 : (nI (k + 3)).toNatClampNeg = k + 3 := nI_clamp (by omega)
  have c4 : (nI (k + 4)).toNatClampNeg = k + 4 := nI_clamp (by omega)
  refine ⟨g, ?_, hg⟩
  simp only [zL_law_598, zL_law_599, zL_law_600, zL_law_601, zL_law_602, zL_law_603, zL_law_604, zL_law_607, zL_law_608, zL_law_609, zL_law_610, zL_law_611, zL_law_612, zL_law_613, zL_law_616, zL_law_619, zL_law_620, nI_1, q_n2, q_n3, q_n4, b1, b2, b3, b4, c1, c2, c3, c4, e1, e2, lc_eq, e_k_int, e_k_ref, e_k_null, e_k_long, e_k_ret, e_cats_nil, e_cats_int, e_cats_ref, e_cats_ret, e_cats_long, Option.toList_some, Option.toList_none, List.nil_append, List.cons_append, Option.bind_some, Nat.reduceAdd, Nat.reduceLeDiff, Nat.add_zero, if_true, if_false, true_and, and_true, and_self, Int32.reduceToNatClampNeg]
theorem v_lose {L k : Nat} {xs : Nat → Int32} {h : e_H} (hI : q_I h) (hk : k + 5 ≤ L) (hL : L ≤ 2560) : ∃ g, e_F (kL_law L xs) (e_X e_pg 260) 621 (q_loc k) [] h = e_F (kL_law L xs) (e_X e_pg 260) 1009 (q_loc k) [] g ∧ q_I g := by
  obtain ⟨v, f, g, e1, e2, hg⟩ : q_pairI 260 46 135 [.int (xs (k + 1))] h := tp_lose hI
  have b1 : e_inb (nI (k + 1)) L = true := e_inb_nI (by omega) (by omega)
  have b2 : e_inb (nI (k + 2)) L = true := e_inb_nI (by omega) (by omega)
  have b3 : e_inb (nI (k + 3)) L = true := e_inb_nI (by omega) (by omega)
  have b4 : e_inb (nI (k + 4)) L = true := e_inb_nI (by omega) (by omega)
  have c1 : (nI (k + 1)).toNatClampNeg = k + 1 := nI_clamp (by omega)
  have c2 : (nI (k + 2)).toNatClampNeg = k + 2 := nI_clamp (by omega)
  have c3 : (nI (k + 3)).toNatClampNeg = k + 3 := nI_clamp (by omega)
  have c4 : (nI (k + 4)).toNatClampNeg = k + 4 := nI_clamp (by omega)
  refine ⟨g, ?_, hg⟩
  simp only [zL_law_621, zL_law_622, zL_law_623, zL_law_624, zL_law_625, zL_law_626, zL_law_627, zL_law_630, zL_law_631, zL_law_632, zL_law_633, zL_law_634, zL_law_635, zL_law_636, zL_law_639, zL_law_642, zL_law_643, nI_1, q_n2, q_n3, q_n4, b1, b2, b3, b4, c1, c2, c3, c4, e1, e2, lc_eq, e_k_int, e_k_ref, e_k_null, e_k_long, e_k_ret, e_cats_nil, e_cats_int, e_cats_ref, e_cats_ret, e_cats_long, Option.toList_some, Option.toList_none, List.nil_append, List.cons_append, Option.bind_some, Nat.reduceAdd, Nat.reduceLeDiff, Nat.add_zero, if_true, if_false, true_and, and_true, and_self, Int32.reduceToNatClampNeg]
theorem v_weight {L k : Nat} {xs : Nat → Int32} {h : e_H} (hI : q_I h) (hk : k + 5 ≤ L) (hL : L ≤ 2560) : ∃ g, e_F (kL_law L xs) (e_X e_pg 260) 644 (q_loc k) [] h = e_F (kL_law L xs) (e_X e_pg 260) 1009 (q_loc k) [] g ∧ q_I g := by
  obtain ⟨v, f, g, e1, e2, hg⟩ : q_pairI 260 47 136 [.int (xs (k + 1)), .int (xs (k + 2)), .int (xs (k + 3))] h := tp_weight hI
  have b1 : e_inb (nI (k + 1)) L = true := e_inb_nI (by omega) (by omega)
  have b2 : e_inb (nI (k + 2)) L = true := e_inb_nI (by omega) (by omega)
  have b3 : e_inb (nI (k + 3)) L = true := e_inb_nI (by omega) (by omega)
  have b4 : e_inb (nI (k + 4)) L = true := e_inb_nI (by omega) (by omega)
  have c1 : (nI (k + 1)).toNatClampNeg = k + 1 := nI_clamp (by omega)
  have c2 : (nI (k + 2)).toNatClampNeg = k + 2 := nI_clamp (by omega)
  have c3 : (nI (k + 3)).toNatClampNeg = k + 3 := nI_clamp (by omega)
  have c4 : (nI (k + 4)).toNatClampNeg = k + 4 := nI_clamp (by omega)
  refine ⟨g, ?_, hg⟩
  simp only [zL_law_644, zL_law_645, zL_law_646, zL_law_647, zL_law_648, zL_law_649, zL_law_650, zL_law_651, zL_law_652, zL_law_653, zL_law_654, zL_law_655, zL_law_656, zL_law_657, zL_law_658, zL_law_659, zL_law_660, zL_law_663, zL_law_664, zL_law_665, zL_law_666, zL_law_667, zL_law_668, zL_law_669, zL_law_670, zL_law_671, zL_law_672, zL_law_673, zL_law_674, zL_law_675, zL_law_676, zL_law_677, zL_law_678, zL_law_679, zL_law_682, zL_law_685, zL_law_686, nI_1, q_n2, q_n3, q_n4, b1, b2, b3, b4, c1, c2, c3, c4, e1, e2, lc_eq, e_k_int, e_k_ref, e_k_null, e_k_long, e_k_ret, e_cats_nil, e_cats_int, e_cats_ref, e_cats_ret, e_cats_long, Option.toList_some, Option.toList_none, List.nil_append, List.cons_append, Option.bind_some, Nat.reduceAdd, Nat.reduceLeDiff, Nat.add_zero, if_true, if_false, true_and, and_true, and_self, Int32.reduceToNatClampNeg]
theorem v_thought {L k : Nat} {xs : Nat → Int32} {h : e_H} (hI : q_I h) (hk : k + 5 ≤ L) (hL : L ≤ 2560) : ∃ g, e_F (kL_law L xs) (e_X e_pg 260) 687 (q_loc k) [] h = e_F (kL_law L xs) (e_X e_pg 260) 1009 (q_loc k) [] g ∧ q_I g := by
  obtain ⟨v, f, g, e1, e2, hg⟩ : q_pairI 260 48 137 [.int (xs (k + 1))] h := tp_thought hI
  have b1 : e_inb (nI (k + 1)) L = true := e_inb_nI (by omega) (by omega)
  have b2 : e_inb (nI (k + 2)) L = true := e_inb_nI (by omega) (by omega)
  have b3 : e_inb (nI (k + 3)) L = true := e_inb_nI (by omega) (by omega)
  have b4 : e_inb (nI (k + 4)) L = true := e_inb_nI (by omega) (by omega)
  have c1 : (nI (k + 1)).toNatClampNeg = k + 1 := nI_clamp (by omega)
  have c2 : (nI (k + 2)).toNatClampNeg = k + 2 := nI_clamp (by omega)
  have c3 : (nI (k + 3)).toNatClampNeg = k + 3 := nI_clamp (by omega)
  have c4 : (nI (k + 4)).toNatClampNeg = k + 4 := nI_clamp (by omega)
  refine ⟨g, ?_, hg⟩
  simp only [zL_law_687, zL_law_688, zL_law_689, zL_law_690, zL_law_691, zL_law_692, zL_law_693, zL_law_696, zL_law_697, zL_law_698, zL_law_699, zL_law_700, zL_law_701, zL_law_702, zL_law_705, zL_law_708, zL_law_709, nI_1, q_n2, q_n3, q_n4, b1, b2, b3, b4, c1, c2, c3, c4, e1, e2, lc_eq, e_k_int, e_k_ref, e_k_null, e_k_long, e_k_ret, e_cats_nil, e_cats_int, e_cats_ref, e_cats_ret, e_cats_long, Option.toList_some, Option.toList_none, List.nil_append, List.cons_append, Option.bind_some, Nat.reduceAdd, Nat.reduceLeDiff, Nat.add_zero, if_true, if_false, true_and, and_true, and_self, Int32.reduceToNatClampNeg]
theorem v_paid {L k : Nat} {xs : Nat → Int32} {h : e_H} (hI : q_I h) (hk : k + 5 ≤ L) (hL : L ≤ 2560) : ∃ g, e_F (kL_law L xs) (e_X e_pg 260) 710 (q_loc k) [] h = e_F (kL_law L xs) (e_X e_pg 260) 1009 (q_loc k) [] g ∧ q_I g := by
  obtain ⟨v, f, g, e1, e2, hg⟩ : q_pairI 260 49 138 [.int (xs (k + 1)), .int (xs (k + 2)), .int (xs (k + 3))] h := tp_paid hI
  have b1 : e_inb (nI (k + 1)) L = true := e_inb_nI (by omega) (by omega)
  have b2 : e_inb (nI (k + 2)) L = true := e_inb_nI (by omega) (by omega)
  have b3 : e_inb (nI (k + 3)) L = true := e_inb_nI (by omega) (by omega)
  have b4 : e_inb (nI (k + 4)) L = true := e_inb_nI (by omega) (by omega)
  have c1 : (nI (k + 1)).toNatClampNeg = k + 1 := nI_clamp (by omega)
  have c2 : (nI (k + 2)).toNatClampNeg = k + 2 := nI_clamp (by omega)
  have c3 : (nI (k + 3)).toNatClampNeg = k + 3 := nI_clamp (by omega)
  have c4 : (nI (k + 4)).toNatClampNeg = k + 4 := nI_clamp (by omega)
  refine ⟨g, ?_, hg⟩
  simp only [zL_law_710, zL_law_711, zL_law_712, zL_law_713, zL_law_714, zL_law_715, zL_law_716, zL_law_717, zL_law_718, zL_law_719, zL_law_720, zL_law_721, zL_law_722, zL_law_723, zL_law_724, zL_law_725, zL_law_726, zL_law_729, zL_law_730, zL_law_731, zL_law_732, zL_law_733, zL_law_734, zL_law_735, zL_law_736, zL_law_737, zL_law_738, zL_law_739, zL_law_740, zL_law_741, zL_law_742, zL_law_743, zL_law_744, zL_law_745, zL_law_748, zL_law_751, zL_law_752, nI_1, q_n2, q_n3, q_n4, b1, b2, b3, b4, c1, c2, c3, c4, e1, e2, lc_eq, e_k_int, e_k_ref, e_k_null, e_k_long, e_k_ret, e_cats_nil, e_cats_int, e_cats_ref, e_cats_ret, e_cats_long, Option.toList_some, Option.toList_none, List.nil_append, List.cons_append, Option.bind_some, Nat.reduceAdd, Nat.reduceLeDiff, Nat.add_zero, if_true, if_false, true_and, and_true, and_self, Int32.reduceToNatClampNeg]
theorem v_hard {L k : Nat} {xs : Nat → Int32} {h : e_H} (hI : q_I h) (hk : k + 5 ≤ L) (hL : L ≤ 2560) : ∃ g, e_F (kL_law L xs) (e_X e_pg 260) 753 (q_loc k) [] h = e_F (kL_law L xs) (e_X e_pg 260) 1009 (q_loc k) [] g ∧ q_I g := by
  obtain ⟨v, f, g, e1, e2, hg⟩ : q_pairI 260 50 139 [.int (xs (k + 1)), .int (xs (k + 2)), .int (xs (k + 3))] h := tp_hard hI
  have b1 : e_inb (nI (k + 1)) L = true := e_inb_nI (by omega) (by omega)
  have b2 : e_inb (nI (k + 2)) L = true := e_inb_nI (by omega) (by omega)
  have b3 : e_inb (nI (k + 3)) L = true := e_inb_nI (by omega) (by omega)
  have b4 : e_inb (nI (k + 4)) L = true := e_inb_nI (by omega) (by omega)
  have c1 : (nI (k + 1)).toNatClampNeg = k + 1 := nI_clamp (by omega)
  have c2 : (nI (k + 2)).toNatClampNeg = k + 2 := nI_clamp (by omega)
  have c3 : (nI (k + 3)).toNatClampNeg = k + 3 := nI_clamp (by omega)
  have c4 : (nI (k + 4)).toNatClampNeg = k + 4 := nI_clamp (by omega)
  refine ⟨g, ?_, hg⟩
  simp only [zL_law_753, zL_law_754, zL_law_755, zL_law_756, zL_law_757, zL_law_758, zL_law_759, zL_law_760, zL_law_761, zL_law_762, zL_law_763, zL_law_764, zL_law_765, zL_law_766, zL_law_767, zL_law_768, zL_law_769, zL_law_772, zL_law_773, zL_law_774, zL_law_775, zL_law_776, zL_law_777, zL_law_778, zL_law_779, zL_law_780, zL_law_781, zL_law_782, zL_law_783, zL_law_784, zL_law_785, zL_law_786, zL_law_787, zL_law_788, zL_law_791, zL_law_794, zL_law_795, nI_1, q_n2, q_n3, q_n4, b1, b2, b3, b4, c1, c2, c3, c4, e1, e2, lc_eq, e_k_int, e_k_ref, e_k_null, e_k_long, e_k_ret, e_cats_nil, e_cats_int, e_cats_ref, e_cats_ret, e_cats_long, Option.toList_some, Option.toList_none, List.nil_append, List.cons_append, Option.bind_some, Nat.reduceAdd, Nat.reduceLeDiff, Nat.add_zero, if_true, if_false, true_and, and_true, and_self, Int32.reduceToNatClampNeg]
theorem v_committee {L k : Nat} {xs : Nat → Int32} {h : e_H} (hI : q_I h) (hk : k + 5 ≤ L) (hL : L ≤ 2560) : ∃ g, e_F (kL_law L xs) (e_X e_pg 260) 796 (q_loc k) [] h = e_F (kL_law L xs) (e_X e_pg 260) 1009 (q_loc k) [] g ∧ q_I g := by
  obtain ⟨v, f, g, e1, e2, hg⟩ : q_pairI 260 51 140 [.int (xs (k + 1)), .int (xs (k + 2)), .int (xs (k + 3))] h := tp_committee hI
  have b1 : e_inb (nI (k + 1)) L = true := e_inb_nI (by omega) (by omega)
  have b2 : e_inb (nI (k + 2)) L = true := e_inb_nI (by omega) (by omega)
  have b3 : e_inb (nI (k + 3)) L = true := e_inb_nI (by omega) (by omega)
  have b4 : e_inb (nI (k + 4)) L = true := e_inb_nI (by omega) (by omega)
  have c1 : (nI (k + 1)).toNatClampNeg = k + 1 := nI_clamp (by omega)
  have c2 : (nI (k + 2)).toNatClampNeg = k + 2 := nI_clamp (by omega)
  have c3 : (nI (k + 3)).toNatClampNeg = k + 3 := nI_clamp (by omega)
  have c4 : (nI (k + 4)).toNatClampNeg = k + 4 := nI_clamp (by omega)
  refine ⟨g, ?_, hg⟩
  simp only [zL_law_796, zL_law_797, zL_law_798, zL_law_799, zL_law_800, zL_law_801, zL_law_802, zL_law_803, zL_law_804, zL_law_805, zL_law_806, zL_law_807, zL_law_808, zL_law_809, zL_law_810, zL_law_811, zL_law_812, zL_law_815, zL_law_816, zL_law_817, zL_law_818, zL_law_819, zL_law_820, zL_law_821, zL_law_822, zL_law_823, zL_law_824, zL_law_825, zL_law_826, zL_law_827, zL_law_828, zL_law_829, zL_law_830, zL_law_831, zL_law_834, zL_law_837, zL_law_838, nI_1, q_n2, q_n3, q_n4, b1, b2, b3, b4, c1, c2, c3, c4, e1, e2, lc_eq, e_k_int, e_k_ref, e_k_null, e_k_long, e_k_ret, e_cats_nil, e_cats_int, e_cats_ref, e_cats_ret, e_cats_long, Option.toList_some, Option.toList_none, List.nil_append, List.cons_append, Option.bind_some, Nat.reduceAdd, Nat.reduceLeDiff, Nat.add_zero, if_true, if_false, true_and, and_true, and_self, Int32.reduceToNatClampNeg]
theorem v_recall {L k : Nat} {xs : Nat → Int32} {h : e_H} (hI : q_I h) (hk : k + 5 ≤ L) (hL : L ≤ 2560) : ∃ g, e_F (kL_law L xs) (e_X e_pg 260) 839 (q_loc k) [] h = e_F (kL_law L xs) (e_X e_pg 260) 1009 (q_loc k) [] g ∧ q_I g := by
  obtain ⟨v, f, g, e1, e2, hg⟩ : q_pairI 260 52 141 [.int (xs (k + 1)), .int (xs (k + 2)), .int (xs (k + 3))] h := tp_recall hI
  have b1 : e_inb (nI (k + 1)) L = true := e_inb_nI (by omega) (by omega)
  have b2 : e_inb (nI (k + 2)) L = true := e_inb_nI (by omega) (by omega)
  have b3 : e_inb (nI (k + 3)) L = true := e_inb_nI (by omega) (by omega)
  have b4 : e_inb (nI (k + 4)) L = true := e_inb_nI (by omega) (by omega)
  have c1 : (nI (k + 1)).toNatClampNeg = k + 1 := nI_clamp (by omega)
  have c2 : (nI (k + 2)).toNatClampNeg = k + 2 := nI_clamp (by omega)
  have c3 : (nI (k + 3)).toNatClampNeg = k + 3 := nI_clamp (by omega)
  have c4 : (nI (k + 4)).toNatClampNeg = k + 4 := nI_clamp (by omega)
  refine ⟨g, ?_, hg⟩
  simp only [zL_law_839, zL_law_840, zL_law_841, zL_law_842, zL_law_843, zL_law_844, zL_law_845, zL_law_846, zL_law_847, zL_law_848, zL_law_849, zL_law_850, zL_law_851, zL_law_852, zL_law_853, zL_law_854, zL_law_855, zL_law_858, zL_law_859, zL_law_860, zL_law_861, zL_law_862, zL_law_863, zL_law_864, zL_law_865, zL_law_866, zL_law_867, zL_law_868, zL_law_869, zL_law_870, zL_law_871, zL_law_872, zL_law_873, zL_law_874, zL_law_877, zL_law_880, zL_law_881, nI_1, q_n2, q_n3, q_n4, b1, b2, b3, b4, c1, c2, c3, c4, e1, e2, lc_eq, e_k_int, e_k_ref, e_k_null, e_k_long, e_k_ret, e_cats_nil, e_cats_int, e_cats_ref, e_cats_ret, e_cats_long, Option.toList_some, Option.toList_none, List.nil_append, List.cons_append, Option.bind_some, Nat.reduceAdd, Nat.reduceLeDiff, Nat.add_zero, if_true, if_false, true_and, and_true, and_self, Int32.reduceToNatClampNeg]
theorem v_middle {L k : Nat} {xs : Nat → Int32} {h : e_H} (hI : q_I h) (hk : k + 5 ≤ L) (hL : L ≤ 2560) : ∃ g, e_F (kL_law L xs) (e_X e_pg 260) 882 (q_loc k) [] h = e_F (kL_law L xs) (e_X e_pg 260) 1009 (q_loc k) [] g ∧ q_I g := by
  obtain ⟨v, f, g, e1, e2, hg⟩ : q_pairI 260 53 142 [.int (xs (k + 1)), .int (xs (k + 2)), .int (xs (k + 3))] h := tp_middle hI
  have b1 : e_inb (nI (k + 1)) L = true := e_inb_nI (by omega) (by omega)
  have b2 : e_inb (nI (k + 2)) L = true := e_inb_nI (by omega) (by omega)
  have b3 : e_inb (nI (k + 3)) L = true := e_inb_nI (by omega) (by omega)
  have b4 : e_inb (nI (k + 4)) L = true := e_inb_nI (by omega) (by omega)
  have c1 : (nI (k + 1)).toNatClampNeg = k + 1 := nI_clamp (by omega)
  have c2 : (nI (k + 2)).toNatClampNeg = k + 2 := nI_clamp (by omega)
  have c3 : (nI (k + 3)).toNatClampNeg = k + 3 := nI_clamp (by omega)
  have c4 : (nI (k + 4)).toNatClampNeg = k + 4 := nI_clamp (by omega)
  refine ⟨g, ?_, hg⟩
  simp only [zL_law_882, zL_law_883, zL_law_884, zL_law_885, zL_law_886, zL_law_887, zL_law_888, zL_law_889, zL_law_890, zL_law_891, zL_law_892, zL_law_893, zL_law_894, zL_law_895, zL_law_896, zL_law_897, zL_law_898, zL_law_901, zL_law_902, zL_law_903, zL_law_904, zL_law_905, zL_law_906, zL_law_907, zL_law_908, zL_law_909, zL_law_910, zL_law_911, zL_law_912, zL_law_913, zL_law_914, zL_law_915, zL_law_916, zL_law_917, zL_law_920, zL_law_923, zL_law_924, nI_1, q_n2, q_n3, q_n4, b1, b2, b3, b4, c1, c2, c3, c4, e1, e2, lc_eq, e_k_int, e_k_ref, e_k_null, e_k_long, e_k_ret, e_cats_nil, e_cats_int, e_cats_ref, e_cats_ret, e_cats_long, Option.toList_some, Option.toList_none, List.nil_append, List.cons_append, Option.bind_some, Nat.reduceAdd, Nat.reduceLeDiff, Nat.add_zero, if_true, if_false, true_and, and_true, and_self, Int32.reduceToNatClampNeg]
theorem v_edge {L k : Nat} {xs : Nat → Int32} {h : e_H} (hI : q_I h) (hk : k + 5 ≤ L) (hL : L ≤ 2560) : ∃ g, e_F (kL_law L xs) (e_X e_pg 260) 925 (q_loc k) [] h = e_F (kL_law L xs) (e_X e_pg 260) 1009 (q_loc k) [] g ∧ q_I g := by
  obtain ⟨v, f, g, e1, e2, hg⟩ : q_pairI 260 54 143 [.int (xs (k + 1))] h := tp_edge hI
  have b1 : e_inb (nI (k + 1)) L = true := e_inb_nI (by omega) (by omega)
  have b2 : e_inb (nI (k + 2)) L = true := e_inb_nI (by omega) (by omega)
  have b3 : e_inb (nI (k + 3)) L = true := e_inb_nI (by omega) (by omega)
  have b4 : e_inb (nI (k + 4)) L = true := e_inb_nI (by omega) (by omega)
  have c1 : (nI (k + 1)).toNatClampNeg = k + 1 := nI_clamp (by omega)
  have c2 : (nI (k + 2)).toNatClampNeg = k + 2 := nI_clamp (by omega)
  have c3 : (nI (k + 3)).toNatClampNeg = k + 3 := nI_clamp (by omega)
  have c4 : (nI (k + 4)).toNatClampNeg = k + 4 := nI_clamp (by omega)
  refine ⟨g, ?_, hg⟩
  simp only [zL_law_925, zL_law_926, zL_law_927, zL_law_928, zL_law_929, zL_law_930, zL_law_931, zL_law_934, zL_law_935, zL_law_936, zL_law_937, zL_law_938, zL_law_939, zL_law_940, zL_law_943, zL_law_946, zL_law_947, nI_1, q_n2, q_n3, q_n4, b1, b2, b3, b4, c1, c2, c3, c4, e1, e2, lc_eq, e_k_int, e_k_ref, e_k_null, e_k_long, e_k_ret, e_cats_nil, e_cats_int, e_cats_ref, e_cats_ret, e_cats_long, Option.toList_some, Option.toList_none, List.nil_append, List.cons_append, Option.bind_some, Nat.reduceAdd, Nat.reduceLeDiff, Nat.add_zero, if_true, if_false, true_and, and_true, and_self, Int32.reduceToNatClampNeg]
theorem v_part {L k : Nat} {xs : Nat → Int32} {h : e_H} (hI : q_I h) (hk : k + 5 ≤ L) (hL : L ≤ 2560) : ∃ g, e_F (kL_law L xs) (e_X e_pg 260) 948 (q_loc k) [] h = e_F (kL_law L xs) (e_X e_pg 260) 1009 (q_loc k) [] g ∧ q_I g := by
  obtain ⟨v, f, g, e1, e2, hg⟩ : q_pairJ 260 55 144 [.int (xs (k + 1))] h := tp_part hI
  have b1 : e_inb (nI (k + 1)) L = true := e_inb_nI (by omega) (by omega)
  have b2 : e_inb (nI (k + 2)) L = true := e_inb_nI (by omega) (by omega)
  have b3 : e_inb (nI (k + 3)) L = true := e_inb_nI (by omega) (by omega)
  have b4 : e_inb (nI (k + 4)) L = true := e_inb_nI (by omega) (by omega)
  have c1 : (nI (k + 1)).toNatClampNeg = k + 1 := nI_clamp (by omega)
  have c2 : (nI (k + 2)).toNatClampNeg = k + 2 := nI_clamp (by omega)
  have c3 : (nI (k + 3)).toNatClampNeg = k + 3 := nI_clamp (by omega)
  have c4 : (nI (k + 4)).toNatClampNeg = k + 4 := nI_clamp (by omega)
  refine ⟨g, ?_, hg⟩
  simp only [zL_law_948, zL_law_949, zL_law_950, zL_law_951, zL_law_952, zL_law_953, zL_law_954, zL_law_957, zL_law_958, zL_law_959, zL_law_960, zL_law_961, zL_law_962, zL_law_963, zL_law_966, zL_law_967, zL_law_970, zL_law_971, nI_1, q_n2, q_n3, q_n4, b1, b2, b3, b4, c1, c2, c3, c4, e1, e2, lc_eq, e_k_int, e_k_ref, e_k_null, e_k_long, e_k_ret, e_cats_nil, e_cats_int, e_cats_ref, e_cats_ret, e_cats_long, Option.toList_some, Option.toList_none, List.nil_append, List.cons_append, Option.bind_some, Nat.reduceAdd, Nat.reduceLeDiff, Nat.add_zero, if_true, if_false, true_and, and_true, and_self, Int32.reduceToNatClampNeg]
theorem v_count {L k : Nat} {xs : Nat → Int32} {h : e_H} (hI : q_I h) (hk : k + 5 ≤ L) (hL : L ≤ 2560) : ∃ g, e_F (kL_law L xs) (e_X e_pg 260) 972 (q_loc k) [] h = e_F (kL_law L xs) (e_X e_pg 260) 1009 (q_loc k) [] g ∧ q_I g := by
  obtain ⟨v, f, g, e1, e2, hg⟩ : q_pairI 260 56 145 [.int (xs (k + 1))] h := tp_count hI
  have b1 : e_inb (nI (k + 1)) L = true := e_inb_nI (by omega) (by omega)
  have b2 : e_inb (nI (k + 2)) L = true := e_inb_nI (by omega) (by omega)
  have b3 : e_inb (nI (k + 3)) L = true := e_inb_nI (by omega) (by omega)
  have b4 : e_inb (nI (k + 4)) L = true := e_inb_nI (by omega) (by omega)
  have c1 : (nI (k + 1)).toNatClampNeg = k + 1 := nI_clamp (by omega)
  have c2 : (nI (k + 2)).toNatClampNeg = k + 2 := nI_clamp (by omega)
  have c3 : (nI (k + 3)).toNatClampNeg = k + 3 := nI_clamp (by omega)
  have c4 : (nI (k + 4)).toNatClampNeg = k + 4 := nI_clamp (by omega)
  refine ⟨g, ?_, hg⟩
  simp only [zL_law_972, zL_law_973, zL_law_974, zL_law_975, zL_law_976, zL_law_977, zL_law_978, zL_law_981, zL_law_982, zL_law_983, zL_law_984, zL_law_985, zL_law_986, zL_law_987, zL_law_990, zL_law_993, zL_law_994, nI_1, q_n2, q_n3, q_n4, b1, b2, b3, b4, c1, c2, c3, c4, e1, e2, lc_eq, e_k_int, e_k_ref, e_k_null, e_k_long, e_k_ret, e_cats_nil, e_cats_int, e_cats_ref, e_cats_ret, e_cats_long, Option.toList_some, Option.toList_none, List.nil_append, List.cons_append, Option.bind_some, Nat.reduceAdd, Nat.reduceLeDiff, Nat.add_zero, if_true, if_false, true_and, and_true, and_self, Int32.reduceToNatClampNeg]
theorem v_digest {L k : Nat} {xs : Nat → Int32} {h : e_H} (hI : q_I h) (hk : k + 5 ≤ L) (hL : L ≤ 2560) : ∃ g, e_F (kL_law L xs) (e_X e_pg 260) 995 (q_loc k) [] h = e_F (kL_law L xs) (e_X e_pg 260) 1009 (q_loc k) [] g ∧ q_I g := by
  obtain ⟨v, f, g, e1, e2, hg⟩ : q_pairJ 260 57 146 [] h := tp_digest hI
  have b1 : e_inb (nI (k + 1)) L = true := e_inb_nI (by omega) (by omega)
  have b2 : e_inb (nI (k + 2)) L = true := e_inb_nI (by omega) (by omega)
  have b3 : e_inb (nI (k + 3)) L = true := e_inb_nI (by omega) (by omega)
  have b4 : e_inb (nI (k + 4)) L = true := e_inb_nI (by omega) (by omega)
  have c1 : (nI (k + 1)).toNatClampNeg = k + 1 := nI_clamp (by omega)
  have c2 : (nI (k + 2)).toNatClampNeg = k + 2 := nI_clamp (by omega)
  have c3 : (nI (k + 3)).toNatClampNeg = k + 3 := nI_clamp (by omega)
  have c4 : (nI (k + 4)).toNatClampNeg = k + 4 := nI_clamp (by omega)
  refine ⟨g, ?_, hg⟩
  simp only [zL_law_995, zL_law_996, zL_law_999, zL_law_1000, zL_law_1003, zL_law_1004, zL_law_1007, zL_law_1008, nI_1, q_n2, q_n3, q_n4, b1, b2, b3, b4, c1, c2, c3, c4, e1, e2, lc_eq, e_k_int, e_k_ref, e_k_null, e_k_long, e_k_ret, e_cats_nil, e_cats_int, e_cats_ref, e_cats_ret, e_cats_long, Option.toList_some, Option.toList_none, List.nil_append, List.cons_append, Option.bind_some, Nat.reduceAdd, Nat.reduceLeDiff, Nat.add_zero, if_true, if_false, true_and, and_true, and_self, Int32.reduceToNatClampNeg]
theorem v_step {L k : Nat} {xs : Nat → Int32} {h : e_H} (hI : q_I h) (hk : k + 5 ≤ L) (hL : L ≤ 2560) : ∃ g, e_F (kL_law L xs) (e_X e_pg 260) 18 (q_loc k) [] h = e_F (kL_law L xs) (e_X e_pg 260) 18 (q_loc (k + 5)) [] g ∧ q_I g := by
  have b0 : e_inb (nI k) L = true := e_inb_nI (by omega) (by omega)
  have c0 : (nI k).toNatClampNeg = k := nI_clamp (by omega)
  have hc : ¬ Int32.ofNat L - 5 < nI k := by
    rw [show Int32.ofNat L - 5 = nI (L - 5) from pk_sub (show 5 ≤ L by omega)]
    exact nI_nlt (by omega) (by omega)
  have fin : ∀ g, q_I g → ∃ g2, e_F (kL_law L xs) (e_X e_pg 260) 1009 (q_loc k) [] g = e_F (kL_law L xs) (e_X e_pg 260) 18 (q_loc (k + 5)) [] g2 ∧ q_I g2 := fun g hg => by
    refine ⟨g, ?_, hg⟩
    rw [zL_law_1009, zL_law_1012, q_n5]
    simp only [e_k_ref]
  have go : ∀ pc, (∃ g, e_F (kL_law L xs) (e_X e_pg 260) pc (q_loc k) [] h = e_F (kL_law L xs) (e_X e_pg 260) 1009 (q_loc k) [] g ∧ q_I g) → ∃ g, e_F (kL_law L xs) (e_X e_pg 260) pc (q_loc k) [] h = e_F (kL_law L xs) (e_X e_pg 260) 18 (q_loc (k + 5)) [] g ∧ q_I g := fun pc ⟨g, e1, hg⟩ => by
    obtain ⟨g2, e2, h2⟩ := fin g hg
    exact ⟨g2, e1.trans e2, h2⟩
  rw [zL_law_18, zL_law_19, zL_law_20, zL_law_21, zL_law_22, zL_law_23, if_neg hc, zL_law_26, zL_law_27, zL_law_28, if_pos b0, c0, zL_law_29, zL_law_31, zL_law_32]
  by_cases w0 : xs k &&& 31 = 0
  · rw [if_pos w0]
    exact go 156 (v_steps hI hk hL)
  rw [if_neg w0]
  by_cases w1 : xs k &&& 31 = 1
  · rw [if_pos w1]
    exact go 179 (v_envoy hI hk hL)
  rw [if_neg w1]
  by_cases w2 : xs k &&& 31 = 2
  · rw [if_pos w2]
    exact go 202 (v_put hI hk hL)
  rw [if_neg w2]
  by_cases w3 : xs k &&& 31 = 3
  · rw [if_pos w3]
    exact go 255 (v_worth hI hk hL)
  rw [if_neg w3]
  by_cases w4 : xs k &&& 31 = 4
  · rw [if_pos w4]
    exact go 298 (v_takes hI hk hL)
  rw [if_neg w4]
  by_cases w5 : xs k &&& 31 = 5
  · rw [if_pos w5]
    exact go 341 (v_set hI hk hL)
  rw [if_neg w5]
  by_cases w6 : xs k &&& 31 = 6
  · rw [if_pos w6]
    exact go 374 (v_lot hI hk hL)
  rw [if_neg w6]
  by_cases w7 : xs k &&& 31 = 7
  · rw [if_pos w7]
    exact go 407 (v_write hI hk hL)
  rw [if_neg w7]
  by_cases w8 : xs k &&& 31 = 8
  · rw [if_pos w8]
    exact go 430 (v_erase hI hk hL)
  rw [if_neg w8]
  by_cases w9 : xs k &&& 31 = 9
  · rw [if_pos w9]
    exact go 443 (v_fault hI hk hL)
  rw [if_neg w9]
  by_cases w10 : xs k &&& 31 = 10
  · rw [if_pos w10]
    exact go 456 (v_settle hI hk hL)
  rw [if_neg w10]
  by_cases w11 : xs k &&& 31 = 11
  · rw [if_pos w11]
    exact go 489 (v_round hI hk hL)
  rw [if_neg w11]
  by_cases w12 : xs k &&& 31 = 12
  · rw [if_pos w12]
    exact go 522 (v_has hI hk hL)
  rw [if_neg w12]
  by_cases w13 : xs k &&& 31 = 13
  · rw [if_pos w13]
    exact go 565 (v_best hI hk hL)
  rw [if_neg w13]
  by_cases w14 : xs k &&& 31 = 14
  · rw [if_pos w14]
    exact go 598 (v_rest hI hk hL)
  rw [if_neg w14]
  by_cases w15 : xs k &&& 31 = 15
  · rw [if_pos w15]
    exact go 621 (v_lose hI hk hL)
  rw [if_neg w15]
  by_cases w16 : xs k &&& 31 = 16
  · rw [if_pos w16]
    exact go 644 (v_weight hI hk hL)
  rw [if_neg w16]
  by_cases w17 : xs k &&& 31 = 17
  · rw [if_pos w17]
    exact go 687 (v_thought hI hk hL)
  rw [if_neg w17]
  by_cases w18 : xs k &&& 31 = 18
  · rw [if_pos w18]
    exact go 710 (v_paid hI hk hL)
  rw [if_neg w18]
  by_cases w19 : xs k &&& 31 = 19
  · rw [if_pos w19]
    exact go 753 (v_hard hI hk hL)
  rw [if_neg w19]
  by_cases w20 : xs k &&& 31 = 20
  · rw [if_pos w20]
    exact go 796 (v_committee hI hk hL)
  rw [if_neg w20]
  by_cases w21 : xs k &&& 31 = 21
  · rw [if_pos w21]
    exact go 839 (v_recall hI hk hL)
  rw [if_neg w21]
  by_cases w22 : xs k &&& 31 = 22
  · rw [if_pos w22]
    exact go 882 (v_middle hI hk hL)
  rw [if_neg w22]
  by_cases w23 : xs k &&& 31 = 23
  · rw [if_pos w23]
    exact go 925 (v_edge hI hk hL)
  rw [if_neg w23]
  by_cases w24 : xs k &&& 31 = 24
  · rw [if_pos w24]
    exact go 948 (v_part hI hk hL)
  rw [if_neg w24]
  by_cases w25 : xs k &&& 31 = 25
  · rw [if_pos w25]
    exact go 972 (v_count hI hk hL)
  rw [if_neg w25]
  by_cases w26 : xs k &&& 31 = 26
  · rw [if_pos w26]
    exact go 995 (v_digest hI hk hL)
  rw [if_neg w26]
  exact fin h hI
theorem v_loop {L : Nat} {xs : Nat → Int32} (hL : L ≤ 2560) : ∀ (n k : Nat) (h : e_H), L - k ≤ n → k ≤ 3000 → q_I h → ∃ g, e_F (kL_law L xs) (e_X e_pg 260) 18 (q_loc k) [] h = some (some (.int 1), g) := by
  intro n
  induction n with
  | zero =>
    intro k h hn hk hI
    have hc : Int32.ofNat L - 5 < nI k := by
      have e1 : (nI L - nI 5).toInt = (L : Int) - 5 := pk_sub_toInt (by omega) (by decide)
      have e2 : (nI k).toInt = (k : Int) := nI_toInt (by omega)
      rw [show Int32.ofNat L - 5 = nI L - nI 5 from rfl, Int32.lt_iff_toInt_lt, e1, e2]
      omega
    refine ⟨h, ?_⟩
    rw [zL_law_18, zL_law_19, zL_law_20, zL_law_21, zL_law_22, zL_law_23, if_pos hc, zL_law_1015, zL_law_1016, if_pos (Or.inr rfl)]
  | succ n ih =>
    intro k h hn hk hI
    by_cases c : k + 5 ≤ L
    · obtain ⟨g, e, hg⟩ := v_step (xs := xs) hI c hL
      obtain ⟨g2, e2⟩ := ih (k + 5) g (by omega) (by omega) hg
      exact ⟨g2, e.trans e2⟩
    · have hc : Int32.ofNat L - 5 < nI k := by
        have e1 : (nI L - nI 5).toInt = (L : Int) - 5 := pk_sub_toInt (by omega) (by decide)
        have e2 : (nI k).toInt = (k : Int) := nI_toInt (by omega)
        rw [show Int32.ofNat L - 5 = nI L - nI 5 from rfl, Int32.lt_iff_toInt_lt, e1, e2]
        omega
      refine ⟨h, ?_⟩
      rw [zL_law_18, zL_law_19, zL_law_20, zL_law_21, zL_law_22, zL_law_23, if_pos hc, zL_law_1015, zL_law_1016, if_pos (Or.inr rfl)]
theorem v_law {L : Nat} {xs : Nat → Int32} (hL : L ≤ 2560) {h : e_H} (hI : q_I h) {a3 : Value} : ∃ g, e_F (kL_law L xs) (e_X e_pg 260) 16 [.retAddr 0, .ref 0, .ref 40, a3] [] h = some (some (.int 1), g) := by
  rw [zL_law_16, zL_law_17]
  simp only [e_k_ref]
  exact v_loop hL L 0 h (by omega) (by omega) hI
