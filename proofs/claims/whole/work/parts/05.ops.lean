/-! THE OPERATIONS of the abstract machine; n is the next place -/
def e_ok (o kd : Nat) : Bool := Nat.blt o e_N && Nat.beq (e_kd o) kd
def e_inb (i : Int32) (n : Nat) : Bool := !(decide (i < 0) || Nat.ble n i.toNatClampNeg)
theorem e_inb_in {i : Int32} {n : Nat} (h : e_inb i n = true) : vp_in i n := by
  unfold e_inb at h
  intro q
  rcases q with q | q
  · simp [q] at h
  · rw [Nat.ble_eq.mpr q] at h
    simp at h
theorem e_inb_of {i : Int32} {n : Nat} (h : vp_in i n) : e_inb i n = true := by
  unfold e_inb
  have h1 : ¬ i < 0 := fun q => h (Or.inl q)
  have h2 : Nat.ble n i.toNatClampNeg = false := by
    cases hb : Nat.ble n i.toNatClampNeg with
    | false => rfl
    | true => exact absurd (Or.inr (Nat.ble_eq.mp hb)) h
  rw [h2, decide_eq_false h1]
  rfl
def o_const (v : Value) (n : Nat) : e_Op := fun _ ls st h => some (.inl (n, ls, v :: st, h))
def o_iload (i n : Nat) : e_Op := fun _ ls st h => match ls[i]? with
  | some (.int x) => some (.inl (n, ls, .int x :: st, h))
  | _ => none
def o_lload (i n : Nat) : e_Op := fun _ ls st h => match ls[i]? with
  | some (.long x) => some (.inl (n, ls, .long x :: st, h))
  | _ => none
def o_aload (i n : Nat) : e_Op := fun _ ls st h => match ls[i]? with
  | some (.ref x) => some (.inl (n, ls, .ref x :: st, h))
  | some (.retAddr x) => some (.inl (n, ls, .retAddr x :: st, h))
  | _ => none
def o_istore (i n : Nat) : e_Op := fun _ ls st h => match st with
  | .int x :: r => bif Nat.blt i ls.length then some (.inl (n, e_s1 ls i (.int x), r, h)) else none
  | _ => none
def o_lstore (i n : Nat) : e_Op := fun _ ls st h => match st with
  | .long x :: r => bif Nat.blt (i + 1) ls.length then some (.inl (n, e_s2 ls i (.long x), r, h)) else none
  | _ => none
def o_astore (i n : Nat) : e_Op := fun _ ls st h => match st with
  | .ref x :: r => bif Nat.blt i ls.length then some (.inl (n, e_s1 ls i (.ref x), r, h)) else none
  | _ => none
def o_iinc (i : Nat) (v : Int32) (n : Nat) : e_Op := fun _ ls st h => match ls[i]? with
  | some (.int x) => some (.inl (n, e_s1 ls i (.int (x + v)), st, h))
  | _ => none
def o_ib (f : Int32 → Int32 → Int32) (n : Nat) : e_Op := fun _ ls st h => match st with
  | .int y :: .int x :: r => some (.inl (n, ls, .int (f x y) :: r, h))
  | _ => none
def o_irem (n : Nat) : e_Op := fun _ ls st h => match st with
  | .int y :: .int x :: r => bif decide (y = 0) then none else some (.inl (n, ls, .int (x - x / y * y) :: r, h))
  | _ => none
def o_iu (f : Int32 → Int32) (n : Nat) : e_Op := fun _ ls st h => match st with
  | .int x :: r => some (.inl (n, ls, .int (f x) :: r, h))
  | _ => none
def o_lb (f : Int64 → Int64 → Int64) (n : Nat) : e_Op := fun _ ls st h => match st with
  | .long y :: .long x :: r => some (.inl (n, ls, .long (f x y) :: r, h))
  | _ => none
def o_ldiv (n : Nat) : e_Op := fun _ ls st h => match st with
  | .long y :: .long x :: r => bif decide (y = 0) then none else some (.inl (n, ls, .long (x / y) :: r, h))
  | _ => none
def o_lrem (n : Nat) : e_Op := fun _ ls st h => match st with
  | .long y :: .long x :: r => bif decide (y = 0) then none else some (.inl (n, ls, .long (x - x / y * y) :: r, h))
  | _ => none
def o_lneg (n : Nat) : e_Op := fun _ ls st h => match st with
  | .long x :: r => some (.inl (n, ls, .long (-x) :: r, h))
  | _ => none
def o_i2l (n : Nat) : e_Op := fun _ ls st h => match st with
  | .int x :: r => some (.inl (n, ls, .long x.toInt64 :: r, h))
  | _ => none
def o_l2i (n : Nat) : e_Op := fun _ ls st h => match st with
  | .long x :: r => some (.inl (n, ls, .int x.toInt32 :: r, h))
  | _ => none
def o_lcmp (n : Nat) : e_Op := fun _ ls st h => match st with
  | .long y :: .long x :: r => some (.inl (n, ls, .int (lg_cmp x y) :: r, h))
  | _ => none
def o_dup (n : Nat) : e_Op := fun _ ls st h => match st with
  | v :: r => bif Nat.beq v.category 1 then some (.inl (n, ls, v :: v :: r, h)) else none
  | _ => none
def o_dup2 (n : Nat) : e_Op := fun _ ls st h => match st with
  | v :: w :: r => bif Nat.beq v.category 1 && Nat.beq w.category 1 then some (.inl (n, ls, v :: w :: v :: w :: r, h)) else none
  | _ => none
def o_pop (n : Nat) : e_Op := fun _ ls st h => match st with
  | v :: r => bif Nat.beq v.category 1 then some (.inl (n, ls, r, h)) else none
  | _ => none
def o_goto (t : Nat) : e_Op := fun _ ls st h => some (.inl (t, ls, st, h))
/-- a branch by the top int, by the two top ints; t: where it goes if it holds -/
def o_if (c : Int32 → Bool) (t n : Nat) : e_Op := fun _ ls st h => match st with
  | .int x :: r => some (.inl (bif c x then t else n, ls, r, h))
  | _ => none
def o_ic (c : Int32 → Int32 → Bool) (t n : Nat) : e_Op := fun _ ls st h => match st with
  | .int y :: .int x :: r => some (.inl (bif c x y then t else n, ls, r, h))
  | _ => none
def e_sw (d : Nat) (x : Int32) : List (Int32 × Nat) → Nat
  | [] => d
  | (k, t) :: q => if x = k then t else e_sw d x q
def o_sw (ks : List (Int32 × Nat)) (d : Nat) : e_Op := fun _ ls st h => match st with
  | .int x :: r => some (.inl (e_sw d x ks, ls, r, h))
  | _ => none
def o_getI (ci f n : Nat) : e_Op := fun _ ls st h => match st with
  | .ref o :: r => bif e_ok o (10 + ci) then some (.inl (n, ls, .int (h.1 o f) :: r, h)) else none
  | _ => none
def o_getJ (ci f n : Nat) : e_Op := fun _ ls st h => match st with
  | .ref o :: r => bif e_ok o (10 + ci) then some (.inl (n, ls, .long (h.2 o f) :: r, h)) else none
  | _ => none
def o_getR (ci f n : Nat) : e_Op := fun _ ls st h => match st with
  | .ref o :: r => bif e_ok o (10 + ci) then some (.inl (n, ls, .ref (e_rf o f) :: r, h)) else none
  | _ => none
def o_putI (ci f n : Nat) : e_Op := fun _ ls st h => match st with
  | .int v :: .ref o :: r => bif e_ok o (10 + ci) then some (.inl (n, ls, r, (e_u h.1 o f v, h.2))) else none
  | _ => none
def o_putJ (ci f n : Nat) : e_Op := fun _ ls st h => match st with
  | .long v :: .ref o :: r => bif e_ok o (10 + ci) then some (.inl (n, ls, r, (h.1, e_u h.2 o f v))) else none
  | _ => none
def o_iald (n : Nat) : e_Op := fun _ ls st h => match st with
  | .int i :: .ref a :: r => bif e_ok a 0 && e_inb i (e_len a) then some (.inl (n, ls, .int (h.1 a i.toNatClampNeg) :: r, h)) else none
  | _ => none
def o_zald (n : Nat) : e_Op := fun _ ls st h => match st with
  | .int i :: .ref a :: r => bif e_ok a 2 && e_inb i (e_len a) then some (.inl (n, ls, .int (h.1 a i.toNatClampNeg) :: r, h)) else none
  | _ => none
def o_lald (n : Nat) : e_Op := fun _ ls st h => match st with
  | .int i :: .ref a :: r => bif e_ok a 1 && e_inb i (e_len a) then some (.inl (n, ls, .long (h.2 a i.toNatClampNeg) :: r, h)) else none
  | _ => none
def o_aald (kd n : Nat) : e_Op := fun _ ls st h => match st with
  | .int i :: .ref a :: r => bif e_ok a kd && e_inb i (e_len a) then some (.inl (n, ls, .ref (e_rf a i.toNatClampNeg) :: r, h)) else none
  | _ => none
def o_iast (n : Nat) : e_Op := fun _ ls st h => match st with
  | .int x :: .int i :: .ref a :: r => bif e_ok a 0 && e_inb i (e_len a) then some (.inl (n, ls, r, (e_u h.1 a i.toNatClampNeg x, h.2))) else none
  | _ => none
def o_zast (n : Nat) : e_Op := fun _ ls st h => match st with
  | .int x :: .int i :: .ref a :: r => bif e_ok a 2 && e_inb i (e_len a) then some (.inl (n, ls, r, (e_u h.1 a i.toNatClampNeg (vp_nar .boolean x), h.2))) else none
  | _ => none
def o_last (n : Nat) : e_Op := fun _ ls st h => match st with
  | .long x :: .int i :: .ref a :: r => bif e_ok a 1 && e_inb i (e_len a) then some (.inl (n, ls, r, (h.1, e_u h.2 a i.toNatClampNeg x))) else none
  | _ => none
def o_alen (n : Nat) : e_Op := fun _ ls st h => match st with
  | .ref a :: r => bif Nat.blt a e_N && Nat.ble (e_kd a) 2 then some (.inl (n, ls, .int (Int32.ofNat (e_len a)) :: r, h)) else none
  | _ => none
/-! what is only read: 0 the script, 1 and 2 the bounds of put, 3 the letters, 4 their bytes -/
def e_lo (j : Nat) : Int32 := [0, 0, 0, 0, -500, 0, 0, 0, 0].getD j 0
def e_hi (j : Nat) : Int32 := [60, 24, 200, 60, 500, 24, 24, 60, 200].getD j 0
def e_by (j : Nat) : Int32 := [108, 117, 110, 119, 118].getD j 0
def o_sld (L : Nat) (xs : Nat → Int32) (n : Nat) : e_Op := fun _ ls st h => match st with
  | .int i :: .retAddr k :: r => bif Nat.beq k 0 && e_inb i L then some (.inl (n, ls, .int (xs i.toNatClampNeg) :: r, h)) else none
  | _ => none
def o_slen (L n : Nat) : e_Op := fun _ ls st h => match st with
  | .retAddr k :: r => bif Nat.beq k 0 then some (.inl (n, ls, .int (Int32.ofNat L) :: r, h)) else none
  | _ => none
def o_tlo (n : Nat) : e_Op := fun _ ls st h => match st with
  | .int i :: .retAddr k :: r => bif Nat.beq k 1 && e_inb i 9 then some (.inl (n, ls, .int (e_lo i.toNatClampNeg) :: r, h)) else none
  | _ => none
def o_thi (n : Nat) : e_Op := fun _ ls st h => match st with
  | .int i :: .retAddr k :: r => bif Nat.beq k 2 && e_inb i 9 then some (.inl (n, ls, .int (e_hi i.toNatClampNeg) :: r, h)) else none
  | _ => none
def o_tby (n : Nat) : e_Op := fun _ ls st h => match st with
  | .int i :: .retAddr k :: r => bif Nat.beq k 4 && e_inb i 5 then some (.inl (n, ls, .int (e_by i.toNatClampNeg) :: r, h)) else none
  | _ => none
def o_blen (n : Nat) : e_Op := fun _ ls st h => match st with
  | .retAddr k :: r => bif Nat.beq k 4 then some (.inl (n, ls, .int 5 :: r, h)) else none
  | _ => none
def o_strV (n : Nat) : e_Op := fun _ ls st h => match st with
  | .retAddr k :: r => bif Nat.beq k 3 then some (.inl (n, ls, .retAddr 4 :: r, h)) else none
  | _ => none
def o_strC (n : Nat) : e_Op := fun _ ls st h => match st with
  | .retAddr k :: r => bif Nat.beq k 3 then some (.inl (n, ls, .int 0 :: r, h)) else none
  | _ => none
/-! calls: k the method's number, a how many arguments beside the receiver -/
def o_cV (ci k a n : Nat) : e_Op := fun O ls st h => match st.drop a with
  | .ref o :: r => bif e_ok o (10 + ci) && (Nat.ble a st.length && Nat.ble (e_cats r) 8) then (O k (.ref o :: (st.take a).reverse) h).bind (fun q => some (.inl (n, ls, q.1.toList ++ r, q.2))) else none
  | _ => none
def o_cR (k a n : Nat) : e_Op := fun O ls st h => match st.drop a with
  | .retAddr o :: r => bif Nat.beq o 3 && (Nat.ble a st.length && Nat.ble (e_cats r) 8) then (O k (.retAddr o :: (st.take a).reverse) h).bind (fun q => some (.inl (n, ls, q.1.toList ++ r, q.2))) else none
  | _ => none
def o_cS (k a n : Nat) : e_Op := fun O ls st h => bif Nat.ble a st.length && Nat.ble (e_cats (st.drop a)) 8 then (O k (st.take a).reverse h).bind (fun q => some (.inl (n, ls, q.1.toList ++ st.drop a, q.2))) else none
/-! Math and System.arraycopy -/
def o_m2 (f : Int32 → Int32 → Int32) (n : Nat) : e_Op := fun _ ls st h => match st with
  | .int y :: .int x :: r => bif Nat.ble (e_cats r) 8 then some (.inl (n, ls, .int (f x y) :: r, h)) else none
  | _ => none
def o_m1 (f : Int32 → Int32) (n : Nat) : e_Op := fun _ ls st h => match st with
  | .int x :: r => bif Nat.ble (e_cats r) 8 then some (.inl (n, ls, .int (f x) :: r, h)) else none
  | _ => none
def o_m2l (f : Int64 → Int64 → Int64) (n : Nat) : e_Op := fun _ ls st h => match st with
  | .long y :: .long x :: r => bif Nat.ble (e_cats r) 8 then some (.inl (n, ls, .long (f x y) :: r, h)) else none
  | _ => none
def o_m1l (f : Int64 → Int64) (n : Nat) : e_Op := fun _ ls st h => match st with
  | .long x :: r => bif Nat.ble (e_cats r) 8 then some (.inl (n, ls, .long (f x) :: r, h)) else none
  | _ => none
/-- arraycopy of k ints from the first places of one array to the first places of another -/
def o_copy (n : Nat) : e_Op := fun _ ls st h => match st with
  | .int k :: .int dp :: .ref b :: .int sp :: .ref a :: r => bif (decide (dp = 0) && decide (sp = 0)) && ((e_ok a 0 && e_ok b 0) && ((decide (¬ k < 0) && (Nat.ble k.toNatClampNeg (e_len a) && Nat.ble k.toNatClampNeg (e_len b))) && Nat.ble (e_cats r) 8)) then some (.inl (n, ls, r, (fun x y => if x = b ∧ y < k.toNatClampNeg then h.1 a y else h.1 x y, h.2))) else none
  | _ => none
/-! ends -/
def o_retV : e_Op := fun _ _ st h => match st with
  | [] => some (.inr (none, h))
  | _ => none
def o_retI : e_Op := fun _ _ st h => match st with
  | [.int v] => some (.inr (some (.int v), h))
  | _ => none
def o_retZ : e_Op := fun _ _ st h => match st with
  | [.int v] => bif decide (v = 0) || decide (v = 1) then some (.inr (some (.int v), h)) else none
  | _ => none
def o_retJ : e_Op := fun _ _ st h => match st with
  | [.long v] => some (.inr (some (.long v), h))
  | _ => none
def o_retA : e_Op := fun _ _ st h => match st with
  | [.ref v] => some (.inr (some (.ref v), h))
  | _ => none
/-! the machine of a table of methods: how many locals, the code -/
def e_ar : List Value → List Value
  | [] => []
  | .long x :: r => .long x :: .null :: e_ar r
  | .double x :: r => .double x :: .null :: e_ar r
  | v :: r => v :: e_ar r
def e_in (nL : Nat) (args : List Value) : List Value := e_ar args ++ List.replicate (nL - (e_ar args).length) Value.null
abbrev e_Pg : Type := Nat → Nat × e_Cd
noncomputable def e_X (pg : e_Pg) : Nat → e_O
  | 0 => fun _ _ _ => none
  | d + 1 => fun k args h => bif Nat.ble (e_ar args).length (pg k).1 then e_F (pg k).2 (e_X pg d) 0 (e_in (pg k).1 args) [] h else none
