/-! THE ABSTRACT MACHINE. The objects of the two systems have fixed numbers (0 .. 52); a heap is two functions: ints and longs, by object and place. -/
abbrev e_H : Type := (Nat → Nat → Int32) × (Nat → Nat → Int64)
abbrev e_R : Type := Option Value × e_H
abbrev e_O : Type := Nat → List Value → e_H → Option e_R
abbrev e_C : Type := Nat × List Value × List Value × e_H
abbrev e_Op : Type := e_O → List Value → List Value → e_H → Option (e_C ⊕ e_R)
abbrev e_Cd : Type := List (List (Nat × e_Op))
/-- the operation at a place of a method's code -/
def e_at (cd : e_Cd) (pc : Nat) : Option e_Op := (cd[pc / 64]?).bind (fun r => (r.find? (fun q => q.1 == pc)).map (fun q => q.2))
def e_step (cd : e_Cd) (O : e_O) (c : e_C) : Option (e_C ⊕ e_R) := (e_at cd c.1).bind (fun op => op O c.2.1 c.2.2.1 c.2.2.2)
def e_it (cd : e_Cd) (O : e_O) : Nat → e_C → Option e_R
  | 0, _ => none
  | n + 1, c => match e_step cd O c with
    | none => none
    | some (.inl c2) => e_it cd O n c2
    | some (.inr r) => some r
theorem e_it_mono {cd : e_Cd} {O : e_O} : ∀ {n : Nat} {c : e_C} {r : e_R}, e_it cd O n c = some r → ∀ m, e_it cd O (n + m) c = some r := by
  intro n
  induction n with
  | zero => intro c r h; cases h
  | succ n ih =>
    intro c r h m
    rw [Nat.succ_add]
    unfold e_it at h ⊢
    cases hs : e_step cd O c with
    | none => rw [hs] at h; cases h
    | some x =>
      rw [hs] at h
      cases x with
      | inl c2 => exact ih h m
      | inr r2 => exact h
theorem e_it_det {cd : e_Cd} {O : e_O} {n m : Nat} {c : e_C} {r q : e_R} (h1 : e_it cd O n c = some r) (h2 : e_it cd O m c = some q) : r = q := by
  have a := e_it_mono h1 m
  have b := e_it_mono h2 n
  rw [Nat.add_comm m n] at b
  exact Option.some.inj (a.symm.trans b)
/-- what comes of it in the end, from any configuration on -/
noncomputable def e_E (cd : e_Cd) (O : e_O) (c : e_C) : Option e_R := by
  classical
  exact if h : ∃ r, ∃ n, e_it cd O n c = some r then some (Classical.choose h) else none
theorem e_E_some {cd : e_Cd} {O : e_O} {c : e_C} {r : e_R} : e_E cd O c = some r ↔ ∃ n, e_it cd O n c = some r := by
  classical
  unfold e_E
  constructor
  · intro h
    split at h
    · rename_i hx
      have h2 := Classical.choose_spec hx
      rw [Option.some.inj h] at h2
      exact h2
    · cases h
  · intro h
    have hx : ∃ r, ∃ n, e_it cd O n c = some r := ⟨r, h⟩
    rw [dif_pos hx]
    obtain ⟨n, hn⟩ := h
    obtain ⟨m, hm⟩ := Classical.choose_spec hx
    rw [e_it_det hm hn]
theorem e_E_ext {cd : e_Cd} {O : e_O} {c : e_C} {x : Option e_R} (h : ∀ r, e_E cd O c = some r ↔ x = some r) : e_E cd O c = x := by
  cases hx : x with
  | some r => exact (h r).mpr hx
  | none =>
    cases he : e_E cd O c with
    | none => rfl
    | some r => rw [(h r).mp he] at hx; cases hx
theorem e_E_next {cd : e_Cd} {O : e_O} {c c2 : e_C} (h : e_step cd O c = some (.inl c2)) : e_E cd O c = e_E cd O c2 := by
  refine e_E_ext (fun r => ?_)
  rw [e_E_some, e_E_some]
  constructor
  · rintro ⟨n, hn⟩
    cases n with
    | zero => cases hn
    | succ n => unfold e_it at hn; rw [h] at hn; exact ⟨n, hn⟩
  · rintro ⟨n, hn⟩
    refine ⟨n + 1, ?_⟩
    unfold e_it
    rw [h]
    exact hn
theorem e_E_done {cd : e_Cd} {O : e_O} {c : e_C} {r : e_R} (h : e_step cd O c = some (.inr r)) : e_E cd O c = some r := by
  rw [e_E_some]
  refine ⟨1, ?_⟩
  unfold e_it
  rw [h]
theorem e_E_stuck {cd : e_Cd} {O : e_O} {c : e_C} (h : e_step cd O c = none) : e_E cd O c = none := by
  refine e_E_ext (fun r => ?_)
  rw [e_E_some]
  constructor
  · rintro ⟨n, hn⟩
    cases n with
    | zero => cases hn
    | succ n => unfold e_it at hn; rw [h] at hn; cases hn
  · intro q; cases q
/-- a walk of the abstract machine, its parts apart -/
noncomputable def e_F (cd : e_Cd) (O : e_O) (pc : Nat) (ls st : List Value) (h : e_H) : Option e_R := e_E cd O (pc, ls, st, h)
theorem e_F_op {cd : e_Cd} {O : e_O} {pc : Nat} {ls st : List Value} {h : e_H} {op : e_Op} (ha : e_at cd pc = some op) {pc2 : Nat} {ls2 st2 : List Value} {h2 : e_H} (ho : op O ls st h = some (.inl (pc2, ls2, st2, h2))) : e_F cd O pc ls st h = e_F cd O pc2 ls2 st2 h2 := by
  unfold e_F
  refine e_E_next ?_
  unfold e_step
  rw [show e_at cd (pc, ls, st, h).1 = some op from ha]
  exact ho
theorem e_F_end {cd : e_Cd} {O : e_O} {pc : Nat} {ls st : List Value} {h : e_H} {op : e_Op} (ha : e_at cd pc = some op) {r : e_R} (ho : op O ls st h = some (.inr r)) : e_F cd O pc ls st h = some r := by
  unfold e_F
  refine e_E_done ?_
  unfold e_step
  rw [show e_at cd (pc, ls, st, h).1 = some op from ha]
  exact ho
theorem e_F_none {cd : e_Cd} {O : e_O} {pc : Nat} {ls st : List Value} {h : e_H} {op : e_Op} (ha : e_at cd pc = some op) (ho : op O ls st h = none) : e_F cd O pc ls st h = none := by
  unfold e_F
  refine e_E_stuck ?_
  unfold e_step
  rw [show e_at cd (pc, ls, st, h).1 = some op from ha]
  exact ho
/-! what the objects are -/
def e_N : Nat := 53
/-- 0 int[], 1 long[], 2 boolean[], 3 Envoy[], 4 int[][], 5 long[][]; 10 and on: an object of a class -/
def e_kd (i : Nat) : Nat := bif Nat.blt i 10 then [13, 0, 3, 12, 0, 0, 0, 1, 1, 11].getD i 9 else bif Nat.blt i 20 then 10 else bif Nat.blt i 30 then 0 else [2, 4, 0, 0, 4, 0, 0, 5, 1, 1, 14, 0, 0, 0, 0, 1, 0, 1, 2, 0, 0, 0, 0].getD (i - 30) 9
def e_len (i : Nat) : Nat := bif Nat.blt i 10 then [0, 2, 10, 0, 40, 40, 40, 40, 5, 0].getD i 0 else bif Nat.blt i 20 then 0 else bif Nat.blt i 30 then 9 else [25, 2, 25, 25, 2, 25, 25, 2, 25, 25, 0, 90, 10, 2, 40, 64, 128, 5, 25, 25, 25, 25, 25].getD (i - 30) 0
/-- which object a reference field, or a place of an array of references, holds -/
def e_rf (i k : Nat) : Nat := bif Nat.blt i 10 then (bif Nat.beq i 0 then [1, 2, 3, 9, 34, 37].getD k 0 else bif Nat.beq i 2 then 10 + k else bif Nat.beq i 3 then k + 2 else 30 + k) else bif Nat.blt i 20 then i + 10 else bif Nat.blt i 40 then i + 1 + k else [0, 41, 42, 43, 0, 0, 0, 0, 0, 44, 0, 0, 0, 0, 0, 45, 0, 46, 0, 47, 0, 48, 49, 50, 0, 0, 0, 51, 52, 0].getD k 0
def e_ty (ci k : Nat) : FieldType := match ci with
  | 0 => tyX0 k
  | 1 => tyX1 k
  | 2 => tyX2 k
  | 3 => tyX3 k
  | _ => tyX4 k
def e_nf (ci : Nat) : Nat := [2, 8, 9, 14, 30].getD ci 0
def e_fv (ad : Nat → Nat) (h : e_H) (i : Nat) (ty : FieldType) (k : Nat) : Value := match ty with
  | .int => .int (h.1 i k)
  | .long => .long (h.2 i k)
  | _ => .ref (ad (e_rf i k))
/-- the cell of an object, with its objects at the addresses ad, the array classes cA -/
def e_cell (ad : Nat → Nat) (cA : Nat → ClassId) (h : e_H) (i : Nat) : va_E := match e_kd i with
  | 0 => .inl (cA 0, e_len i, .inl (h.1 i))
  | 1 => .inl (cA 1, e_len i, .inr (.inl (h.2 i)))
  | 2 => .inl (cA 2, e_len i, .inl (h.1 i))
  | 3 => .inl (cA 3, e_len i, .inr (.inr (.inr (.inr (fun k => some (ad (e_rf i k)))))))
  | 4 => .inl (cA 4, e_len i, .inr (.inr (.inr (.inr (fun k => some (ad (e_rf i k)))))))
  | 5 => .inl (cA 5, e_len i, .inr (.inr (.inr (.inr (fun k => some (ad (e_rf i k)))))))
  | k => .inr (k - 10, (List.range (e_nf (k - 10))).map (fun f => e_fv ad h i (e_ty (k - 10) f) f))
def e_w (ad : Nat → Nat) (cA : Nat → ClassId) (h : e_H) : va_W := (List.range e_N).map (fun i => (ad i, e_cell ad cA h i))
abbrev e_tys (cA : Nat → ClassId) : List (ClassId × FieldType) := [(cA 0, .int), (cA 1, .long), (cA 2, .boolean), (cA 3, .object "HardEnvoys$Envoy"), (cA 4, .array .int), (cA 5, .array .long)]
def e_u {α : Type} (g : Nat → Nat → α) (i k : Nat) (v : α) : Nat → Nat → α := fun a b => if a = i ∧ b = k then v else g a b
theorem e_w_get {ad : Nat → Nat} {cA : Nat → ClassId} {h : e_H} {i : Nat} (hi : i < e_N) : (e_w ad cA h)[i]? = some (ad i, e_cell ad cA h i) := by
  unfold e_w
  rw [List.getElem?_map, List.getElem?_range hi]
  rfl
theorem e_w_none {ad : Nat → Nat} {cA : Nat → ClassId} {h : e_H} {i : Nat} (hi : ¬ i < e_N) : (e_w ad cA h)[i]? = none := by
  unfold e_w
  rw [List.getElem?_map, List.getElem?_eq_none (by rw [List.length_range]; omega)]
  rfl
theorem e_cell_eq {ad : Nat → Nat} {cA : Nat → ClassId} {h h2 : e_H} {i : Nat} (h1 : h2.1 i = h.1 i) (h3 : h2.2 i = h.2 i) : e_cell ad cA h2 i = e_cell ad cA h i := by
  have e1 : ∀ (ty : FieldType) (k : Nat), e_fv ad h2 i ty k = e_fv ad h i ty k := fun ty k => by
    unfold e_fv
    rw [h1, h3]
  unfold e_cell
  rw [h1, h3]
  simp only [e1]
theorem e_w_set {ad : Nat → Nat} {cA : Nat → ClassId} {h h2 : e_H} {i : Nat} (hi : i < e_N) (h1 : ∀ j, j ≠ i → h2.1 j = h.1 j) (h3 : ∀ j, j ≠ i → h2.2 j = h.2 j) {x : va_E} (hx : x = e_cell ad cA h2 i) : (e_w ad cA h).set i (ad i, x) = e_w ad cA h2 := by
  subst hx
  apply List.ext_getElem?
  intro j
  have hl : i < (e_w ad cA h).length := by unfold e_w; rw [List.length_map, List.length_range]; exact hi
  by_cases hj : j = i
  · subst hj
    rw [List.getElem?_set_self hl, e_w_get hi]
  · rw [List.getElem?_set_ne (fun q => hj q.symm)]
    by_cases hjN : j < e_N
    · rw [e_w_get hjN, e_w_get hjN, e_cell_eq (h1 j hj) (h3 j hj)]
    · rw [e_w_none hjN, e_w_none hjN]
theorem e_u_ne {α : Type} {g : Nat → Nat → α} {i k j : Nat} {v : α} (h : j ≠ i) : e_u g i k v j = g j := by
  funext b
  exact if_neg (fun q => h q.1)
theorem e_u_i {g : Nat → Nat → Int32} {i k : Nat} {v : Int32} : e_u g i k v i = upd (g i) k v := by
  funext b
  show (if i = i ∧ b = k then v else g i b) = if b = k then v else g i b
  by_cases h : b = k
  · rw [if_pos h, if_pos ⟨rfl, h⟩]
  · rw [if_neg h, if_neg (fun q => h q.2)]
theorem e_u_l {g : Nat → Nat → Int64} {i k : Nat} {v : Int64} : e_u g i k v i = vp_updL (g i) k v := by
  funext b
  show (if i = i ∧ b = k then v else g i b) = if b = k then v else g i b
  by_cases h : b = k
  · rw [if_pos h, if_pos ⟨rfl, h⟩]
  · rw [if_neg h, if_neg (fun q => h q.2)]
/-- the values of a configuration as the machine has them: objects by ad, what is only read by ro -/
def e_t (ad ro : Nat → Nat) : Value → Value
  | .ref i => .ref (ad i)
  | .retAddr k => .ref (ro k)
  | v => v
theorem e_t_cat (ad ro : Nat → Nat) (v : Value) : (e_t ad ro v).category = v.category := by cases v <;> rfl
def e_cats (st : List Value) : Nat := (st.map (fun v => v.category)).sum
theorem e_cats_t (ad ro : Nat → Nat) (st : List Value) : ((st.map (e_t ad ro)).map (fun v => v.category)).sum = e_cats st := by
  unfold e_cats
  rw [List.map_map]
  congr 1
  apply List.map_congr_left
  intro v _
  exact e_t_cat ad ro v
/-! locals -/
def e_k : Value → Value
  | .long _ => .null
  | .double _ => .null
  | v => v
def e_s1 (ls : List Value) (i : Nat) (v : Value) : List Value := match i with
  | 0 => ls.set 0 v
  | j + 1 => (ls.modify j e_k).set (j + 1) v
def e_s2 (ls : List Value) (i : Nat) (v : Value) : List Value := (e_s1 ls i v).set (i + 1) .null
def e_Ll (t : Value → Value) (ls : List Value) : List (Nat × Value) := (List.range ls.length).filterMap (fun i => (ls[i]?).bind (fun v => if v = Value.null then none else some (i, t v)))
theorem e_Ll_mem {t : Value → Value} {ls : List Value} {q : Nat × Value} : q ∈ e_Ll t ls ↔ ∃ v, ls[q.1]? = some v ∧ v ≠ Value.null ∧ q.2 = t v := by
  unfold e_Ll
  rw [List.mem_filterMap]
  constructor
  · rintro ⟨i, hi, h⟩
    cases hv : ls[i]? with
    | none => rw [hv] at h; cases h
    | some v =>
      rw [hv] at h
      by_cases hn : v = Value.null
      · simp [hn] at h
      · simp only [Option.bind_some, hn, if_false] at h
        cases h
        exact ⟨v, hv, hn, rfl⟩
  · rintro ⟨v, h1, h2, h3⟩
    refine ⟨q.1, List.mem_range.mpr (List.getElem?_eq_some_iff.mp h1).1, ?_⟩
    rw [h1]
    simp only [Option.bind_some, h2, if_false]
    rw [← h3]
/-- the locals: what is known of them -/
def e_L (t : Value → Value) (lc : Array Slot) (nL : Nat) (ls : List Value) : Prop := ls.length = nL ∧ lv_has lc nL (e_Ll t ls)
theorem lv_has_sub {lc : Array Slot} {nL : Nat} {a b : List (Nat × Value)} (h : lv_has lc nL a) (hs : ∀ q ∈ b, q ∈ a) : lv_has lc nL b := ⟨h.1, h.2.1, fun q hq => h.2.2 q (hs q hq)⟩
theorem e_L_at {t : Value → Value} {lc : Array Slot} {nL : Nat} {ls : List Value} (h : e_L t lc nL ls) {i : Nat} {v : Value} (hv : ls[i]? = some v) (hn : v ≠ .null) : lc[i]? = some (.val (t v)) := h.2.2.2 (i, t v) (e_Ll_mem.mpr ⟨v, hv, hn, rfl⟩)
theorem e_s1_len (ls : List Value) (i : Nat) (v : Value) : (e_s1 ls i v).length = ls.length := by
  unfold e_s1
  split <;> simp
theorem e_s2_len (ls : List Value) (i : Nat) (v : Value) : (e_s2 ls i v).length = ls.length := by
  unfold e_s2
  rw [List.length_set, e_s1_len]
theorem e_s1_get {ls : List Value} {i j : Nat} {v w : Value} (h : (e_s1 ls i v)[j]? = some w) (hw : w ≠ .null) : (j = i ∧ w = v) ∨ (j ≠ i ∧ ls[j]? = some w ∧ (j + 1 = i → ¬ w.category = 2)) := by
  by_cases hj : j = i
  · subst hj
    refine Or.inl ⟨rfl, ?_⟩
    unfold e_s1 at h
    split at h
    · rw [List.getElem?_set] at h
      simp only [if_true] at h
      split at h
      · exact (Option.some.inj h).symm
      · cases h
    · rw [List.getElem?_set] at h
      simp only [if_true] at h
      split at h
      · exact (Option.some.inj h).symm
      · cases h
  · refine Or.inr ⟨hj, ?_⟩
    unfold e_s1 at h
    split at h
    · rw [List.getElem?_set_ne (fun q => hj q.symm)] at h
      exact ⟨h, fun q => by omega⟩
    · rename_i j0
      rw [List.getElem?_set_ne (fun q => hj q.symm), List.getElem?_modify] at h
      by_cases h0 : j0 = j
      · subst h0
        simp only [if_true] at h
        cases hl : ls[j0]? with
        | none => rw [hl] at h; cases h
        | some x =>
          rw [hl] at h
          have h2 : e_k x = w := Option.some.inj h
          cases x <;> first | (exact absurd h2.symm hw) | (subst h2; exact ⟨rfl, fun _ q => by cases q⟩)
      · simp only [h0, if_false] at h
        have h3 : ls[j]? = some w := by cases hl : ls[j]? with
          | none => rw [hl] at h; cases h
          | some x => rw [hl] at h; exact h
        exact ⟨h3, fun q => by omega⟩
