/-! EQUATIONS of the abstract machine, by the kind of the instruction -/
def e_gI (h : e_H) (o f : Nat) : Int32 := h.1 o f
def e_gJ (h : e_H) (o f : Nat) : Int64 := h.2 o f
def e_pI (h : e_H) (o f : Nat) (v : Int32) : e_H := (e_u h.1 o f v, h.2)
def e_pJ (h : e_H) (o f : Nat) (v : Int64) : e_H := (h.1, e_u h.2 o f v)
def e_cp (h : e_H) (a b n : Nat) : e_H := (fun x y => if x = b ∧ y < n then h.1 a y else h.1 x y, h.2)
theorem e_gI_pI (h : e_H) (o f : Nat) (v : Int32) (a b : Nat) : e_gI (e_pI h o f v) a b = if a = o ∧ b = f then v else e_gI h a b := Eq.trans rfl (Eq.refl _)
theorem e_gI_pJ (h : e_H) (o f : Nat) (v : Int64) (a b : Nat) : e_gI (e_pJ h o f v) a b = e_gI h a b := Eq.trans rfl (Eq.refl _)
theorem e_gJ_pJ (h : e_H) (o f : Nat) (v : Int64) (a b : Nat) : e_gJ (e_pJ h o f v) a b = if a = o ∧ b = f then v else e_gJ h a b := Eq.trans rfl (Eq.refl _)
theorem e_gJ_pI (h : e_H) (o f : Nat) (v : Int32) (a b : Nat) : e_gJ (e_pI h o f v) a b = e_gJ h a b := Eq.trans rfl (Eq.refl _)
theorem e_gI_cp (h : e_H) (o p n : Nat) (a b : Nat) : e_gI (e_cp h o p n) a b = if a = p ∧ b < n then e_gI h o b else e_gI h a b := Eq.trans rfl (Eq.refl _)
theorem e_gJ_cp (h : e_H) (o p n : Nat) (a b : Nat) : e_gJ (e_cp h o p n) a b = e_gJ h a b := Eq.trans rfl (Eq.refl _)
theorem e_H_ext {h g : e_H} (h1 : ∀ o f, e_gI h o f = e_gI g o f) (h2 : ∀ o f, e_gJ h o f = e_gJ g o f) : h = g := by
  obtain ⟨a, b⟩ := h
  obtain ⟨c, d⟩ := g
  have e1 : a = c := funext fun o => funext fun f => h1 o f
  have e2 : b = d := funext fun o => funext fun f => h2 o f
  rw [e1, e2]
theorem e_k_int (x : Int32) : e_k (.int x) = .int x := rfl
theorem e_k_ref (x : Nat) : e_k (.ref x) = .ref x := rfl
theorem e_k_ret (x : Nat) : e_k (.retAddr x) = .retAddr x := rfl
theorem e_k_null : e_k .null = .null := rfl
theorem e_k_long (x : Int64) : e_k (.long x) = .null := rfl
theorem e_cats_nil : e_cats [] = 0 := rfl
theorem e_cats_int (x : Int32) (st : List Value) : e_cats (.int x :: st) = 1 + e_cats st := by unfold e_cats; rw [List.map_cons, List.sum_cons]; rfl
theorem e_cats_ref (x : Nat) (st : List Value) : e_cats (.ref x :: st) = 1 + e_cats st := by unfold e_cats; rw [List.map_cons, List.sum_cons]; rfl
theorem e_cats_ret (x : Nat) (st : List Value) : e_cats (.retAddr x :: st) = 1 + e_cats st := by unfold e_cats; rw [List.map_cons, List.sum_cons]; rfl
theorem e_cats_long (x : Int64) (st : List Value) : e_cats (.long x :: st) = 2 + e_cats st := by unfold e_cats; rw [List.map_cons, List.sum_cons]; rfl
theorem f_cond {α : Type} {c : Bool} {P : Prop} [hd : Decidable P] {a b : α} (h : c = true ↔ P) : (bif c then a else b) = if P then a else b := by
  cases c with
  | true => rw [if_pos (h.mp rfl)]; rfl
  | false => rw [if_neg (fun p => by have := h.mpr p; cases this)]; rfl
theorem f_bif {cd : e_Cd} {O : e_O} {pc : Nat} {ls st : List Value} {h : e_H} {op : e_Op} (ha : e_at cd pc = some op) {c : Bool} {n : Nat} {ls2 st2 : List Value} {h2 : e_H} (ho : op O ls st h = bif c then some (.inl (n, ls2, st2, h2)) else none) {P : Prop} [hd : Decidable P] (hP : c = true ↔ P) : e_F cd O pc ls st h = if P then e_F cd O n ls2 st2 h2 else none := by
  by_cases hp : P
  · rw [if_pos hp]
    refine e_F_op ha ?_
    rw [ho, hP.mpr hp]
    rfl
  · rw [if_neg hp]
    refine e_F_none ha ?_
    rw [ho]
    cases c with
    | true => exact absurd (hP.mp rfl) hp
    | false => rfl
theorem f_if {cd : e_Cd} {O : e_O} {pc : Nat} {ls st : List Value} {h : e_H} {P : Int32 → Prop} [hd : DecidablePred P] {t n : Nat} {x : Int32} (ha : e_at cd pc = some (o_if (fun x => decide (P x)) t n)) : e_F cd O pc ls (.int x :: st) h = if P x then e_F cd O t ls st h else e_F cd O n ls st h := by
  have h1 : e_F cd O pc ls (.int x :: st) h = e_F cd O (bif decide (P x) then t else n) ls st h := e_F_op ha rfl
  rw [h1]
  by_cases hp : P x
  · rw [if_pos hp, decide_eq_true hp]; rfl
  · rw [if_neg hp, decide_eq_false hp]; rfl
theorem f_ic {cd : e_Cd} {O : e_O} {pc : Nat} {ls st : List Value} {h : e_H} {P : Int32 → Int32 → Prop} [hd : ∀ x y, Decidable (P x y)] {t n : Nat} {x y : Int32} (ha : e_at cd pc = some (o_ic (fun x y => decide (P x y)) t n)) : e_F cd O pc ls (.int y :: .int x :: st) h = if P x y then e_F cd O t ls st h else e_F cd O n ls st h := by
  have h1 : e_F cd O pc ls (.int y :: .int x :: st) h = e_F cd O (bif decide (P x y) then t else n) ls st h := e_F_op ha rfl
  rw [h1]
  by_cases hp : P x y
  · rw [if_pos hp, decide_eq_true hp]; rfl
  · rw [if_neg hp, decide_eq_false hp]; rfl
def e_Fs (cd : e_Cd) (O : e_O) (ls st : List Value) (h : e_H) (d : Nat) (x : Int32) : List (Int32 × Nat) → Option e_R → Prop
  | [], r => r = e_F cd O d ls st h
  | (k, t) :: q, r => (x = k → r = e_F cd O t ls st h) ∧ (¬ x = k → e_Fs cd O ls st h d x q r)
theorem f_sw {cd : e_Cd} {O : e_O} {pc : Nat} {ls st : List Value} {h : e_H} {ks : List (Int32 × Nat)} {d : Nat} {x : Int32} (ha : e_at cd pc = some (o_sw ks d)) : e_F cd O pc ls (.int x :: st) h = e_F cd O (e_sw d x ks) ls st h := e_F_op ha rfl
theorem f_sw0 {cd : e_Cd} {O : e_O} {ls st : List Value} {h : e_H} {d : Nat} {x : Int32} : e_F cd O (e_sw d x []) ls st h = e_F cd O d ls st h := rfl
theorem f_sw1 {cd : e_Cd} {O : e_O} {ls st : List Value} {h : e_H} {d t : Nat} {x k : Int32} {q : List (Int32 × Nat)} : e_F cd O (e_sw d x ((k, t) :: q)) ls st h = if x = k then e_F cd O t ls st h else e_F cd O (e_sw d x q) ls st h := by
  by_cases hx : x = k
  · rw [if_pos hx]
    show e_F cd O (if x = k then t else e_sw d x q) ls st h = _
    rw [if_pos hx]
  · rw [if_neg hx]
    show e_F cd O (if x = k then t else e_sw d x q) ls st h = _
    rw [if_neg hx]
theorem f_nz {α : Type} {y : α} {z : α} {b : Bool} {P : Prop} [hd : Decidable P] (h : b = true ↔ P) {A B : Option e_R} : (bif b then A else B) = if P then A else B := f_cond h
theorem f_irem {cd : e_Cd} {O : e_O} {pc : Nat} {ls st : List Value} {h : e_H} {n : Nat} {x y : Int32} (ha : e_at cd pc = some (o_irem n)) : e_F cd O pc ls (.int y :: .int x :: st) h = if y = 0 then none else e_F cd O n ls (.int (x - x / y * y) :: st) h := by
  by_cases hy : y = 0
  · rw [if_pos hy]
    exact e_F_none ha (by show (bif decide (y = 0) then none else _) = none; rw [decide_eq_true hy]; rfl)
  · rw [if_neg hy]
    exact e_F_op ha (by show (bif decide (y = 0) then none else _) = _; rw [decide_eq_false hy]; rfl)
theorem f_ldiv {cd : e_Cd} {O : e_O} {pc : Nat} {ls st : List Value} {h : e_H} {n : Nat} {x y : Int64} (ha : e_at cd pc = some (o_ldiv n)) : e_F cd O pc ls (.long y :: .long x :: st) h = if y = 0 then none else e_F cd O n ls (.long (x / y) :: st) h := by
  by_cases hy : y = 0
  · rw [if_pos hy]
    exact e_F_none ha (by show (bif decide (y = 0) then none else _) = none; rw [decide_eq_true hy]; rfl)
  · rw [if_neg hy]
    exact e_F_op ha (by show (bif decide (y = 0) then none else _) = _; rw [decide_eq_false hy]; rfl)
theorem f_lrem {cd : e_Cd} {O : e_O} {pc : Nat} {ls st : List Value} {h : e_H} {n : Nat} {x y : Int64} (ha : e_at cd pc = some (o_lrem n)) : e_F cd O pc ls (.long y :: .long x :: st) h = if y = 0 then none else e_F cd O n ls (.long (x - x / y * y) :: st) h := by
  by_cases hy : y = 0
  · rw [if_pos hy]
    exact e_F_none ha (by show (bif decide (y = 0) then none else _) = none; rw [decide_eq_true hy]; rfl)
  · rw [if_neg hy]
    exact e_F_op ha (by show (bif decide (y = 0) then none else _) = _; rw [decide_eq_false hy]; rfl)
theorem e_ok_E {i : Nat} (hi : i < 10) : e_ok (i + 10) 10 = true := by
  have : ∀ i, i < 10 → e_ok (i + 10) 10 = true := by decide
  exact this i hi
theorem e_ok_N {i : Nat} (hi : i < 10) : e_ok (i + 20) 0 = true := by
  have : ∀ i, i < 10 → e_ok (i + 20) 0 = true := by decide
  exact this i hi
theorem e_len_N {i : Nat} (hi : i < 10) : e_len (i + 20) = 9 := by
  have : ∀ i, i < 10 → e_len (i + 20) = 9 := by decide
  exact this i hi
theorem e_rf_E {i : Nat} (hi : i < 10) (k : Nat) : e_rf (i + 10) k = i + 20 := by
  have h1 : Nat.blt (i + 10) 10 = false := by
    cases hb : Nat.blt (i + 10) 10 with
    | false => rfl
    | true => have := Nat.ble_eq.mp hb; omega
  have h2 : Nat.blt (i + 10) 20 = true := Nat.ble_eq.mpr (by omega)
  unfold e_rf
  rw [h1, h2]
  rfl
theorem f_getIE {cd : e_Cd} {O : e_O} {pc : Nat} {ls st : List Value} {h : e_H} {f n i : Nat} (ha : e_at cd pc = some (o_getI 0 f n)) (hi : i < 10) : e_F cd O pc ls (.ref (i + 10) :: st) h = e_F cd O n ls (.int (e_gI h (i + 10) f) :: st) h := by
  refine e_F_op ha ?_
  show (bif e_ok (i + 10) 10 then _ else none) = _
  rw [e_ok_E hi]
  rfl
theorem f_getRE {cd : e_Cd} {O : e_O} {pc : Nat} {ls st : List Value} {h : e_H} {f n i : Nat} (ha : e_at cd pc = some (o_getR 0 f n)) (hi : i < 10) : e_F cd O pc ls (.ref (i + 10) :: st) h = e_F cd O n ls (.ref (i + 20) :: st) h := by
  refine e_F_op ha ?_
  show (bif e_ok (i + 10) 10 then _ else none) = _
  rw [e_ok_E hi, e_rf_E hi]
  rfl
theorem f_putIE {cd : e_Cd} {O : e_O} {pc : Nat} {ls st : List Value} {h : e_H} {f n i : Nat} {x : Int32} (ha : e_at cd pc = some (o_putI 0 f n)) (hi : i < 10) : e_F cd O pc ls (.int x :: .ref (i + 10) :: st) h = e_F cd O n ls st (e_pI h (i + 10) f x) := by
  refine e_F_op ha ?_
  show (bif e_ok (i + 10) 10 then _ else none) = _
  rw [e_ok_E hi]
  rfl
theorem f_iald {cd : e_Cd} {O : e_O} {pc : Nat} {ls st : List Value} {h : e_H} {n a : Nat} {i : Int32} (ha : e_at cd pc = some (o_iald n)) : e_F cd O pc ls (.int i :: .ref a :: st) h = if e_ok a 0 = true ∧ e_inb i (e_len a) = true then e_F cd O n ls (.int (e_gI h a i.toNatClampNeg) :: st) h else none := f_bif ha (c := e_ok a 0 && e_inb i (e_len a)) rfl (Bool.and_eq_true _ _ ▸ Iff.rfl)
theorem f_zald {cd : e_Cd} {O : e_O} {pc : Nat} {ls st : List Value} {h : e_H} {n a : Nat} {i : Int32} (ha : e_at cd pc = some (o_zald n)) : e_F cd O pc ls (.int i :: .ref a :: st) h = if e_ok a 2 = true ∧ e_inb i (e_len a) = true then e_F cd O n ls (.int (e_gI h a i.toNatClampNeg) :: st) h else none := f_bif ha (c := e_ok a 2 && e_inb i (e_len a)) rfl (Bool.and_eq_true _ _ ▸ Iff.rfl)
theorem f_lald {cd : e_Cd} {O : e_O} {pc : Nat} {ls st : List Value} {h : e_H} {n a : Nat} {i : Int32} (ha : e_at cd pc = some (o_lald n)) : e_F cd O pc ls (.int i :: .ref a :: st) h = if e_ok a 1 = true ∧ e_inb i (e_len a) = true then e_F cd O n ls (.long (e_gJ h a i.toNatClampNeg) :: st) h else none := f_bif ha (c := e_ok a 1 && e_inb i (e_len a)) rfl (Bool.and_eq_true _ _ ▸ Iff.rfl)
theorem f_aald {cd : e_Cd} {O : e_O} {pc : Nat} {ls st : List Value} {h : e_H} {n a kd N b : Nat} {i : Int32} (ha : e_at cd pc = some (o_aald kd n)) (hok : e_ok a kd = true) (hN : e_len a = N) (hb : ∀ k, e_rf a k = k + b) : e_F cd O pc ls (.int i :: .ref a :: st) h = if e_inb i N = true then e_F cd O n ls (.ref (i.toNatClampNeg + b) :: st) h else none := by
  rw [← hb]
  refine f_bif ha (c := e_ok a kd && e_inb i (e_len a)) rfl ?_
  rw [hok, hN, Bool.true_and]
theorem f_iast {cd : e_Cd} {O : e_O} {pc : Nat} {ls st : List Value} {h : e_H} {n a : Nat} {i x : Int32} (ha : e_at cd pc = some (o_iast n)) : e_F cd O pc ls (.int x :: .int i :: .ref a :: st) h = if e_ok a 0 = true ∧ e_inb i (e_len a) = true then e_F cd O n ls st (e_pI h a i.toNatClampNeg (x)) else none := f_bif ha (c := e_ok a 0 && e_inb i (e_len a)) rfl (Bool.and_eq_true _ _ ▸ Iff.rfl)
theorem f_zast {cd : e_Cd} {O : e_O} {pc : Nat} {ls st : List Value} {h : e_H} {n a : Nat} {i x : Int32} (ha : e_at cd pc = some (o_zast n)) : e_F cd O pc ls (.int x :: .int i :: .ref a :: st) h = if e_ok a 2 = true ∧ e_inb i (e_len a) = true then e_F cd O n ls st (e_pI h a i.toNatClampNeg (vp_nar .boolean x)) else none := f_bif ha (c := e_ok a 2 && e_inb i (e_len a)) rfl (Bool.and_eq_true _ _ ▸ Iff.rfl)
theorem f_last {cd : e_Cd} {O : e_O} {pc : Nat} {ls st : List Value} {h : e_H} {n a : Nat} {i : Int32} {x : Int64} (ha : e_at cd pc = some (o_last n)) : e_F cd O pc ls (.long x :: .int i :: .ref a :: st) h = if e_ok a 1 = true ∧ e_inb i (e_len a) = true then e_F cd O n ls st (e_pJ h a i.toNatClampNeg (x)) else none := f_bif ha (c := e_ok a 1 && e_inb i (e_len a)) rfl (Bool.and_eq_true _ _ ▸ Iff.rfl)
theorem f_tlo {cd : e_Cd} {O : e_O} {pc : Nat} {ls st : List Value} {h : e_H} {n : Nat} {i : Int32} (ha : e_at cd pc = some (o_tlo n)) : e_F cd O pc ls (.int i :: .retAddr 1 :: st) h = if e_inb i 9 = true then e_F cd O n ls (.int (e_lo i.toNatClampNeg) :: st) h else none := f_bif ha (c := e_inb i 9) rfl Iff.rfl
theorem f_thi {cd : e_Cd} {O : e_O} {pc : Nat} {ls st : List Value} {h : e_H} {n : Nat} {i : Int32} (ha : e_at cd pc = some (o_thi n)) : e_F cd O pc ls (.int i :: .retAddr 2 :: st) h = if e_inb i 9 = true then e_F cd O n ls (.int (e_hi i.toNatClampNeg) :: st) h else none := f_bif ha (c := e_inb i 9) rfl Iff.rfl
theorem f_tby {cd : e_Cd} {O : e_O} {pc : Nat} {ls st : List Value} {h : e_H} {n : Nat} {i : Int32} (ha : e_at cd pc = some (o_tby n)) : e_F cd O pc ls (.int i :: .retAddr 4 :: st) h = if e_inb i 5 = true then e_F cd O n ls (.int (e_by i.toNatClampNeg) :: st) h else none := f_bif ha (c := e_inb i 5) rfl Iff.rfl
theorem f_sld {cd : e_Cd} {O : e_O} {pc : Nat} {ls st : List Value} {h : e_H} {n L : Nat} {xs : Nat → Int32} {i : Int32} (ha : e_at cd pc = some (o_sld L xs n)) : e_F cd O pc ls (.int i :: .retAddr 0 :: st) h = if e_inb i L = true then e_F cd O n ls (.int (xs i.toNatClampNeg) :: st) h else none := f_bif ha (c := e_inb i L) rfl Iff.rfl
theorem f_m1 {cd : e_Cd} {O : e_O} {pc : Nat} {ls st : List Value} {h : e_H} {n : Nat} {f : Int32 → Int32} {x : Int32} (ha : e_at cd pc = some (o_m1 f n)) : e_F cd O pc ls (.int x :: st) h = if e_cats st ≤ 8 then e_F cd O n ls (.int (f x) :: st) h else none := f_bif ha (c := Nat.ble (e_cats st) 8) rfl (Iff.of_eq Nat.ble_eq)
theorem f_m2 {cd : e_Cd} {O : e_O} {pc : Nat} {ls st : List Value} {h : e_H} {n : Nat} {f : Int32 → Int32 → Int32} {x y : Int32} (ha : e_at cd pc = some (o_m2 f n)) : e_F cd O pc ls (.int y :: .int x :: st) h = if e_cats st ≤ 8 then e_F cd O n ls (.int (f x y) :: st) h else none := f_bif ha (c := Nat.ble (e_cats st) 8) rfl (Iff.of_eq Nat.ble_eq)
theorem f_m1l {cd : e_Cd} {O : e_O} {pc : Nat} {ls st : List Value} {h : e_H} {n : Nat} {f : Int64 → Int64} {x : Int64} (ha : e_at cd pc = some (o_m1l f n)) : e_F cd O pc ls (.long x :: st) h = if e_cats st ≤ 8 then e_F cd O n ls (.long (f x) :: st) h else none := f_bif ha (c := Nat.ble (e_cats st) 8) rfl (Iff.of_eq Nat.ble_eq)
theorem f_m2l {cd : e_Cd} {O : e_O} {pc : Nat} {ls st : List Value} {h : e_H} {n : Nat} {f : Int64 → Int64 → Int64} {x y : Int64} (ha : e_at cd pc = some (o_m2l f n)) : e_F cd O pc ls (.long y :: .long x :: st) h = if e_cats st ≤ 8 then e_F cd O n ls (.long (f x y) :: st) h else none := f_bif ha (c := Nat.ble (e_cats st) 8) rfl (Iff.of_eq Nat.ble_eq)
theorem f_retZ {cd : e_Cd} {O : e_O} {pc : Nat} {ls : List Value} {h : e_H} {x : Int32} (ha : e_at cd pc = some o_retZ) : e_F cd O pc ls [.int x] h = if x = 0 ∨ x = 1 then some (some (.int x), h) else none := by
  by_cases hx : x = 0 ∨ x = 1
  · rw [if_pos hx]
    exact e_F_end ha (by
      show (bif decide (x = 0) || decide (x = 1) then _ else none) = _
      rw [show (decide (x = 0) || decide (x = 1)) = true from by simpa using hx]
      rfl)
  · rw [if_neg hx]
    exact e_F_none ha (by
      show (bif decide (x = 0) || decide (x = 1) then _ else none) = none
      rw [show (decide (x = 0) || decide (x = 1)) = false from by simpa using hx]
      rfl)
theorem f_copy {cd : e_Cd} {O : e_O} {pc : Nat} {ls st : List Value} {h : e_H} {n a b : Nat} {k : Int32} (ha : e_at cd pc = some (o_copy n)) : e_F cd O pc ls (.int k :: .int 0 :: .ref b :: .int 0 :: .ref a :: st) h = if ((e_ok a 0 = true ∧ e_ok b 0 = true) ∧ ((¬ k < 0) ∧ k.toNatClampNeg ≤ e_len a ∧ k.toNatClampNeg ≤ e_len b) ∧ e_cats st ≤ 8) then e_F cd O n ls st (e_cp h a b k.toNatClampNeg) else none := by
  refine f_bif ha (c := (decide ((0 : Int32) = 0) && decide ((0 : Int32) = 0)) && ((e_ok a 0 && e_ok b 0) && ((decide (¬ k < 0) && (Nat.ble k.toNatClampNeg (e_len a) && Nat.ble k.toNatClampNeg (e_len b))) && Nat.ble (e_cats st) 8))) rfl ?_
  simp only [Bool.and_eq_true, decide_eq_true_eq, Nat.ble_eq, true_and]
theorem f_call {cd : e_Cd} {O : e_O} {pc : Nat} {ls st : List Value} {h : e_H} {op : e_Op} (ha : e_at cd pc = some op) {c : Bool} {n : Nat} {x : Option e_R} {rest : List Value} (ho : op O ls st h = bif c then x.bind (fun q => some (.inl (n, ls, q.1.toList ++ rest, q.2))) else none) {P : Prop} [hd : Decidable P] (hP : c = true ↔ P) : e_F cd O pc ls st h = if P then x.bind (fun q => e_F cd O n ls (q.1.toList ++ rest) q.2) else none := by
  by_cases hp : P
  · rw [if_pos hp]
    rw [hP.mpr hp] at ho
    cases x with
    | none => exact e_F_none ha ho
    | some q => exact e_F_op ha ho
  · rw [if_neg hp]
    refine e_F_none ha ?_
    rw [ho]
    cases c with
    | true => exact absurd (hP.mp rfl) hp
    | false => rfl
theorem f_cV {cd : e_Cd} {O : e_O} {pc : Nat} {ls st2 st : List Value} {h : e_H} {ci k a n o : Nat} {as : List Value} (ha : e_at cd pc = some (o_cV ci k a n)) (hd : st2.drop a = .ref o :: st) (ht : (st2.take a).reverse = as) (hok : e_ok o (10 + ci) = true) : e_F cd O pc ls st2 h = if e_cats st ≤ 8 then (O k (.ref o :: as) h).bind (fun q => e_F cd O n ls (q.1.toList ++ st) q.2) else none := by
  subst ht
  have hl : a ≤ st2.length := by
    have h1 : (st2.drop a).length = st.length + 1 := by rw [hd]; rfl
    rw [List.length_drop] at h1
    omega
  refine f_call ha (c := e_ok o (10 + ci) && (Nat.ble a st2.length && Nat.ble (e_cats st) 8)) (x := O k (.ref o :: (st2.take a).reverse) h) (rest := st) ?_ ?_
  · unfold o_cV
    rw [hd]
  · rw [hok, Nat.ble_eq.mpr hl, Bool.true_and, Bool.true_and]
    exact Iff.of_eq Nat.ble_eq
theorem f_cR {cd : e_Cd} {O : e_O} {pc : Nat} {ls st2 st : List Value} {h : e_H} {k a n : Nat} {as : List Value} (ha : e_at cd pc = some (o_cR k a n)) (hd : st2.drop a = .retAddr 3 :: st) (ht : (st2.take a).reverse = as) : e_F cd O pc ls st2 h = if e_cats st ≤ 8 then (O k (.retAddr 3 :: as) h).bind (fun q => e_F cd O n ls (q.1.toList ++ st) q.2) else none := by
  subst ht
  have hl : a ≤ st2.length := by
    have h1 : (st2.drop a).length = st.length + 1 := by rw [hd]; rfl
    rw [List.length_drop] at h1
    omega
  refine f_call ha (c := Nat.beq 3 3 && (Nat.ble a st2.length && Nat.ble (e_cats st) 8)) (x := O k (.retAddr 3 :: (st2.take a).reverse) h) (rest := st) ?_ ?_
  · unfold o_cR
    rw [hd]
  · rw [Nat.ble_eq.mpr hl, Bool.true_and]
    exact Iff.of_eq Nat.ble_eq
theorem f_cS {cd : e_Cd} {O : e_O} {pc : Nat} {ls st2 st : List Value} {h : e_H} {k a n : Nat} {as : List Value} (ha : e_at cd pc = some (o_cS k a n)) (hd : st2.drop a = st) (ht : (st2.take a).reverse = as) (hl : as.length = a) : e_F cd O pc ls st2 h = if e_cats st ≤ 8 then (O k as h).bind (fun q => e_F cd O n ls (q.1.toList ++ st) q.2) else none := by
  subst ht
  subst hd
  have hl : a ≤ st2.length := by
    rw [List.length_reverse, List.length_take] at hl
    omega
  refine f_call ha (c := Nat.ble a st2.length && Nat.ble (e_cats (st2.drop a)) 8) (x := O k (st2.take a).reverse h) (rest := st2.drop a) rfl ?_
  rw [Nat.ble_eq.mpr hl, Bool.true_and]
  exact Iff.of_eq Nat.ble_eq
