/-! the rule's codes, worked on a stack -/
def s_join (c : Int32) (a b : Int64) : Int64 := if c = 38 then (if a = 0 then 0 else if b = 0 then 0 else 1) else if c = 42 then a * b else if c = 43 then a + b else if c = 45 then a - b else if c = 60 then (if b ≤ a then 0 else 1) else if c = 61 then (if a = b then 1 else 0) else if c = 62 then (if a ≤ b then 0 else 1) else if c = 124 then (if a = 0 then (if b = 0 then 0 else 1) else 1) else (if b = 0 then 0 else a / b)
set_option maxRecDepth 100000 in
theorem r_join {d : Nat} {c : Int32} {a b : Int64} {h : e_H} : e_X e_pg (d + 1) 30 [.int c, .long a, .long b] h = some (some (.long (s_join c a b)), h) := by
  rw [xX2_join]
  unfold s_join
  simp only [zX2_join_0, zX2_join_1, zX2_join_76, zX2_join_77, zX2_join_78, zX2_join_79, zX2_join_82, zX2_join_83, zX2_join_84, zX2_join_85, zX2_join_88, zX2_join_89, zX2_join_92, zX2_join_93, zX2_join_94, zX2_join_95, zX2_join_96, zX2_join_97, zX2_join_100, zX2_join_101, zX2_join_102, zX2_join_103, zX2_join_106, zX2_join_107, zX2_join_110, zX2_join_111, zX2_join_112, zX2_join_113, zX2_join_114, zX2_join_115, zX2_join_118, zX2_join_119, zX2_join_122, zX2_join_123, zX2_join_124, zX2_join_125, zX2_join_126, zX2_join_127, zX2_join_130, zX2_join_131, zX2_join_134, zX2_join_135, zX2_join_136, zX2_join_137, zX2_join_138, zX2_join_139, zX2_join_142, zX2_join_143, zX2_join_146, zX2_join_147, zX2_join_148, zX2_join_149, zX2_join_150, zX2_join_151, zX2_join_152, zX2_join_153, zX2_join_154, zX2_join_155, zX2_join_156, zX2_join_157, zX2_join_158, zX2_join_159, zX2_join_160, zX2_join_161, zX2_join_162, zX2_join_163, zX2_join_166, zX2_join_167, zX2_join_170, zX2_join_171, zX2_join_172, zX2_join_173, lc_eq, lc_ge, lc_le, e_k_int, e_k_ref, e_k_null, e_k_long, e_k_ret, e_cats_nil, e_cats_int, e_cats_ref, e_cats_ret, e_cats_long, Option.toList_some, Option.toList_none, List.nil_append, List.cons_append, Option.bind_some, Nat.reduceAdd, Nat.reduceLeDiff, Nat.add_zero, if_true, if_false, true_and, and_true, and_self, Int32.reduceToNatClampNeg]
  repeat' split
  all_goals (first | rfl | (simp_all; done) | grind)
/-- a code on the stack, its top first -/
def s_wst (Lt : Nat → Int64) (c o : Int32) (st : List Int64) : List Int64 :=
  if c = 1 ∨ c = 2 then (if 40 ≤ st.length then st else (if c = 2 ∧ ¬ o < 0 ∧ ¬ 5 ≤ o then Lt o.toNatClampNeg else o.toInt64) :: st)
  else if c = 3 ∨ c = 33 then (match st with
    | [] => []
    | x :: r => (if c = 33 then (if x = 0 then 1 else 0) else -x) :: r)
  else (match st with
    | b :: a :: r => s_join c a b :: r
    | s => s)
def s_run (C O : Nat → Int32) (Lt : Nat → Int64) : Nat → List Int64
  | 0 => []
  | k + 1 => s_wst Lt (C k) (O k) (s_run C O Lt k)
theorem s_wst_len {Lt : Nat → Int64} {c o : Int32} {st : List Int64} (h : st.length ≤ 40) : (s_wst Lt c o st).length ≤ 40 := by
  unfold s_wst
  split
  · split
    · exact h
    · simp; omega
  · split
    · split
      · simp
      · simpa using h
    · split
      · simp at h ⊢; omega
      · exact h
theorem s_run_len {C O : Nat → Int32} {Lt : Nat → Int64} : ∀ k, (s_run C O Lt k).length ≤ 40 := by
  intro k
  induction k with
  | zero => simp [s_run]
  | succ k ih => exact s_wst_len ih
/-- the row 7 holds the stack, its bottom at place 0 -/
def s_Stk (f : Nat → Int64) (st : List Int64) : Prop := ∀ i, i < st.length → f i = st.getD (st.length - 1 - i) 0
theorem s_Stk.push {f : Nat → Int64} {st : List Int64} (h : s_Stk f st) {g : Nat → Int64} {v : Int64} (h1 : g st.length = v) (h2 : ∀ i, i < st.length → g i = f i) : s_Stk g (v :: st) := by
  intro i hi
  simp only [List.length_cons] at hi ⊢
  by_cases hi2 : i = st.length
  · subst hi2
    rw [h1]
    simp
  · rw [h2 i (by omega), h i (by omega)]
    rw [show st.length + 1 - 1 - i = (st.length - 1 - i) + 1 by omega, List.getD_cons_succ]
theorem s_Stk.tail {f : Nat → Int64} {x : Int64} {st : List Int64} (h : s_Stk f (x :: st)) : s_Stk f st ∧ f st.length = x := by
  refine ⟨fun i hi => ?_, ?_⟩
  · rw [h i (by simp; omega)]
    simp only [List.length_cons]
    rw [show st.length + 1 - 1 - i = (st.length - 1 - i) + 1 by omega, List.getD_cons_succ]
  · rw [h st.length (by simp)]
    simp
def s_lt (l u n w v : Int32) : Nat → Int64 := fun k => if k = 0 then l.toInt64 else if k = 1 then u.toInt64 else if k = 2 then n.toInt64 else if k = 3 then w.toInt64 else v.toInt64
