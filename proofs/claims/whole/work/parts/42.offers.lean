/-! offers in turns, lots -/
def s_Fin (g f : e_H) (a b c : Int32) : Prop := e_fr [9] g f ∧ (∀ k, k < 5 → e_gI f 9 k = e_gI g 9 k) ∧ e_gI f 9 5 = a ∧ e_gI f 9 6 = b ∧ e_gI f 9 7 = c
theorem s_Fin.agree {g f : e_H} {a b c x y z : Int32} (h : s_Fin g f a b c) : s_Fin g (e_pI (e_pI (e_pI f 9 5 x) 9 6 y) 9 7 z) x y z := by
  obtain ⟨h1, h2, h3, h4, h5⟩ := h
  refine ⟨((h1.pI (by simp)).pI (by simp)).pI (by simp), fun k hk => ?_, ?_, ?_, ?_⟩
  · rw [e_gI_pI, if_neg (by omega), e_gI_pI, if_neg (by omega), e_gI_pI, if_neg (by omega)]
    exact h2 k hk
  · simp [e_gI_pI]
  · simp [e_gI_pI]
  · simp [e_gI_pI]
theorem s_Fin.arr {g f : e_H} {a b c : Int32} (h : s_Fin g f a b c) {o : Nat} (ho : o ≠ 9) : e_gI f o = e_gI g o := funext fun k => h.1.1 o k (by simpa using ho)
def s_go (G : Nat → Int32) (delay t : Int32) (a : Int32 × Int32) : Int32 := if a.1 = -5 then 0 else G a.1.toNatClampNeg - delay * (a.2 - t)
def s_ost (G0 G1 B : Nat → Int32) (n : Nat) (delay : Int32) (t : Nat) (a : Int32 × Int32) : Int32 × Int32 :=
  if t % 2 = 0 then
    (if s_best G0 G1 B (s_go G1 delay (nI t) a) (n + 1) = -5 then a else if G0 (s_best G0 G1 B (s_go G1 delay (nI t) a) (n + 1)).toNatClampNeg < s_go G0 delay (nI t) a then a else (s_best G0 G1 B (s_go G1 delay (nI t) a) (n + 1), nI t))
  else
    (if s_best G1 G0 B (s_go G0 delay (nI t) a) (n + 1) = -5 then a else if G1 (s_best G1 G0 B (s_go G0 delay (nI t) a) (n + 1)).toNatClampNeg < s_go G1 delay (nI t) a then a else (s_best G1 G0 B (s_go G0 delay (nI t) a) (n + 1), nI t))
def s_off (G0 G1 B : Nat → Int32) (n : Nat) (delay : Int32) : Nat → Int32 × Int32 → Int32 × Int32
  | 0, a => a
  | t + 1, a => s_off G0 G1 B n delay t (s_ost G0 G1 B n delay t a)
/-- a share that is settled is one of 0 .. n -/
def s_sh (n : Nat) (v : Int32) : Prop := v = -5 ∨ ∃ j, j ≤ n ∧ v = nI j
theorem s_sh_inb {n : Nat} {v : Int32} (h : s_sh n v) (hn : n ≤ 24) (hv : ¬ v = -5) : e_inb v 25 = true := by
  rcases h with h | ⟨j, h1, h2⟩
  · exact absurd h hv
  · rw [h2]; exact e_inb_nI (by omega) (by decide)
theorem s_best_sh (own oth B : Nat → Int32) (least : Int32) (n : Nat) : s_sh n (s_best own oth B least (n + 1)) := by
  rcases s_best_in own oth B least (n + 1) with h | ⟨j, h1, h2⟩
  · exact Or.inl h
  · exact Or.inr ⟨j, by omega, h2⟩
theorem s_ost_sh {G0 G1 B : Nat → Int32} {n : Nat} {delay : Int32} {t : Nat} {a : Int32 × Int32} (h : s_sh n a.1) : s_sh n (s_ost G0 G1 B n delay t a).1 := by
  unfold s_ost
  repeat' split
  all_goals first | exact h | exact s_best_sh _ _ _ _ _
theorem r_byGoingOn {d n s : Nat} {g : e_H} {side t delay : Int32} (hs : side = nI s) (hs2 : s < 2) (hn : n ≤ 24) (hsh : s_sh n (e_gI g 9 5)) : e_X e_pg (d + 1) 10 [.ref 9, .int side, .int t, .int delay] g = some (some (.int (s_go (e_gI g (s + 32)) delay t (e_gI g 9 5, e_gI g 9 7))), g) := by
  subst hs
  rw [xX1_byGoingOn]
  have hb : e_inb (nI s) 2 = true := e_inb_nI hs2 (by decide)
  have hcl : (nI s).toNatClampNeg = s := nI_clamp (by omega)
  have hok : e_ok (s + 32) 0 = true ∧ e_len (s + 32) = 25 := by
    rcases (show s = 0 ∨ s = 1 by omega) with rfl | rfl <;> exact ⟨rfl, rfl⟩
  by_cases c : e_gI g 9 5 = -5
  · simp only [zX1_byGoingOn_0, zX1_byGoingOn_1, zX1_byGoingOn_4, zX1_byGoingOn_6, zX1_byGoingOn_9, zX1_byGoingOn_10, zX1_byGoingOn_13, zX1_byGoingOn_14, zX1_byGoingOn_17, zX1_byGoingOn_18, zX1_byGoingOn_19, zX1_byGoingOn_20, zX1_byGoingOn_23, zX1_byGoingOn_24, zX1_byGoingOn_25, zX1_byGoingOn_26, zX1_byGoingOn_29, zX1_byGoingOn_30, zX1_byGoingOn_31, zX1_byGoingOn_32, zX1_byGoingOn_33, c, s_go, not_true_eq_false, e_k_int, e_k_ref, e_k_null, e_k_long, e_k_ret, e_cats_nil, e_cats_int, e_cats_ref, e_cats_ret, e_cats_long, Option.toList_some, Option.toList_none, List.nil_append, List.cons_append, Option.bind_some, Nat.reduceAdd, Nat.reduceLeDiff, Nat.add_zero, if_true, if_false, true_and, and_true, and_self, Int32.reduceToNatClampNeg]
  · simp only [zX1_byGoingOn_0, zX1_byGoingOn_1, zX1_byGoingOn_4, zX1_byGoingOn_6, zX1_byGoingOn_9, zX1_byGoingOn_10, zX1_byGoingOn_13, zX1_byGoingOn_14, zX1_byGoingOn_17, zX1_byGoingOn_18, zX1_byGoingOn_19, zX1_byGoingOn_20, zX1_byGoingOn_23, zX1_byGoingOn_24, zX1_byGoingOn_25, zX1_byGoingOn_26, zX1_byGoingOn_29, zX1_byGoingOn_30, zX1_byGoingOn_31, zX1_byGoingOn_32, zX1_byGoingOn_33, c, s_go, hb, hcl, hok.1, hok.2, s_sh_inb hsh hn c, not_false_eq_true, e_k_int, e_k_ref, e_k_null, e_k_long, e_k_ret, e_cats_nil, e_cats_int, e_cats_ref, e_cats_ret, e_cats_long, Option.toList_some, Option.toList_none, List.nil_append, List.cons_append, Option.bind_some, Nat.reduceAdd, Nat.reduceLeDiff, Nat.add_zero, if_true, if_false, true_and, and_true, and_self, Int32.reduceToNatClampNeg]
theorem i32_m1 (x : Int32) : x + (-1) = x - 1 := by grind
set_option maxRecDepth 100000 in
theorem r_off_loop {d n : Nat} {rd delay : Int32} (hn : n ≤ 24) {g : e_H} (hg : e_gI g 9 2 = nI n) : ∀ (t : Nat) (f : e_H) (a : Int32 × Int32) (a4 a5 : Value), t ≤ 100 → s_sh n a.1 → s_Fin g f a.1 a.1 a.2 → ∃ f2, e_F kX1_offerInTurns (e_X e_pg (d + 1)) 4 [.ref 9, .int rd, .int delay, .int (nI t - 1), a4, a5] [] f = some (none, f2) ∧ s_Fin g f2 (s_off (e_gI g 32) (e_gI g 33) (e_gI g 30) n delay t a).1 (s_off (e_gI g 32) (e_gI g 33) (e_gI g 30) n delay t a).1 (s_off (e_gI g 32) (e_gI g 33) (e_gI g 30) n delay t a).2 := by
  intro t
  induction t with
  | zero =>
    intro f a a4 a5 _ _ hF
    refine ⟨f, ?_, hF⟩
    rw [zX1_offerInTurns_4]
    simp only [zX1_offerInTurns_5, zX1_offerInTurns_8, zX1_offerInTurns_9, zX1_offerInTurns_10, zX1_offerInTurns_11, zX1_offerInTurns_13, zX1_offerInTurns_14, zX1_offerInTurns_16, zX1_offerInTurns_17, zX1_offerInTurns_18, zX1_offerInTurns_20, zX1_offerInTurns_21, zX1_offerInTurns_22, zX1_offerInTurns_23, zX1_offerInTurns_26, zX1_offerInTurns_29, zX1_offerInTurns_31, zX1_offerInTurns_33, zX1_offerInTurns_35, zX1_offerInTurns_38, zX1_offerInTurns_39, zX1_offerInTurns_42, zX1_offerInTurns_44, zX1_offerInTurns_45, zX1_offerInTurns_47, zX1_offerInTurns_48, zX1_offerInTurns_49, zX1_offerInTurns_51, zX1_offerInTurns_52, zX1_offerInTurns_53, zX1_offerInTurns_56, zX1_offerInTurns_59, zX1_offerInTurns_60, zX1_offerInTurns_62, zX1_offerInTurns_64, zX1_offerInTurns_65, zX1_offerInTurns_68, zX1_offerInTurns_71, zX1_offerInTurns_74, show nI 0 - 1 < 0 from by decide, e_k_int, e_k_ref, e_k_null, e_k_long, e_k_ret, e_cats_nil, e_cats_int, e_cats_ref, e_cats_ret, e_cats_long, Option.toList_some, Option.toList_none, List.nil_append, List.cons_append, Option.bind_some, Nat.reduceAdd, Nat.reduceLeDiff, Nat.add_zero, if_true, if_false, true_and, and_true, and_self, Int32.reduceToNatClampNeg]
  | succ t ih =>
    intro f a a4 a5 ht hsh hF
    have e1 : nI (t + 1) - 1 = nI t := nI_pred t
    have hc : ¬ nI t < 0 := nI_pos (by omega)
    have e2 : nI t - nI t / 2 * 2 = nI (t % 2) := pk_rem (by omega) (by decide) (by decide)
    have q := fun (b : Int32 × Int32) f a4 a5 hb hFb => ih f b a4 a5 (by omega) hb hFb
    have f2 : e_gI f 9 2 = nI n := by rw [hF.2.1 2 (by decide)]; exact hg
    have f5 : e_gI f 9 5 = a.1 := hF.2.2.1
    have f7 : e_gI f 9 7 = a.2 := hF.2.2.2.2
    have r0 : e_gI f 32 = e_gI g 32 := hF.arr (by decide)
    have r1 : e_gI f 33 = e_gI g 33 := hF.arr (by decide)
    have r3 : e_gI f 30 = e_gI g 30 := hF.arr (by decide)
    have hsf : s_sh n (e_gI f 9 5) := by rw [f5]; exact hsh
    have goA := fun (s : Nat) (side : Int32) (hs : side = nI s) (hs2 : s < 2) => r_byGoingOn (d := d) (t := nI t) (delay := delay) hs hs2 hn hsf
    rw [e1, zX1_offerInTurns_4]
    show ∃ f2, _ ∧ s_Fin g f2 (s_off (e_gI g 32) (e_gI g 33) (e_gI g 30) n delay t (s_ost (e_gI g 32) (e_gI g 33) (e_gI g 30) n delay t a)).1 (s_off (e_gI g 32) (e_gI g 33) (e_gI g 30) n delay t (s_ost (e_gI g 32) (e_gI g 33) (e_gI g 30) n delay t a)).1 (s_off (e_gI g 32) (e_gI g 33) (e_gI g 30) n delay t (s_ost (e_gI g 32) (e_gI g 33) (e_gI g 30) n delay t a)).2
    by_cases hp : t % 2 = 0
    · rw [hp] at e2
      have hb := s_best_sh (e_gI g 32) (e_gI g 33) (e_gI g 30) (s_go (e_gI g 33) delay (nI t) a) n
      have mm := r_mostFor0 (d := d) (w := s_go (e_gI g 33) delay (nI t) a) hn f2
      rw [r0, r1, r3] at mm
      have g1 := goA 1 1 rfl (by decide)
      have g0 := goA 0 0 rfl (by decide)
      simp only [Nat.reduceAdd, r0, r1, f5, f7] at g0 g1
      have u : s_ost (e_gI g 32) (e_gI g 33) (e_gI g 30) n delay t a = (if s_best (e_gI g 32) (e_gI g 33) (e_gI g 30) (s_go (e_gI g 33) delay (nI t) a) (n + 1) = -5 then a else if e_gI g 32 (s_best (e_gI g 32) (e_gI g 33) (e_gI g 30) (s_go (e_gI g 33) delay (nI t) a) (n + 1)).toNatClampNeg < s_go (e_gI g 32) delay (nI t) a then a else (s_best (e_gI g 32) (e_gI g 33) (e_gI g 30) (s_go (e_gI g 33) delay (nI t) a) (n + 1), nI t)) := by
        unfold s_ost
        rw [if_pos hp]
      rw [u]
      generalize hS : s_best (e_gI g 32) (e_gI g 33) (e_gI g 30) (s_go (e_gI g 33) delay (nI t) a) (n + 1) = S at *
      by_cases c1 : S = -5
      · simp only [zX1_offerInTurns_5, zX1_offerInTurns_8, zX1_offerInTurns_9, zX1_offerInTurns_10, zX1_offerInTurns_11, zX1_offerInTurns_13, zX1_offerInTurns_14, zX1_offerInTurns_16, zX1_offerInTurns_17, zX1_offerInTurns_18, zX1_offerInTurns_20, zX1_offerInTurns_21, zX1_offerInTurns_22, zX1_offerInTurns_23, zX1_offerInTurns_26, zX1_offerInTurns_29, zX1_offerInTurns_31, zX1_offerInTurns_33, zX1_offerInTurns_35, zX1_offerInTurns_38, zX1_offerInTurns_39, zX1_offerInTurns_42, zX1_offerInTurns_44, zX1_offerInTurns_45, zX1_offerInTurns_47, zX1_offerInTurns_48, zX1_offerInTurns_49, zX1_offerInTurns_51, zX1_offerInTurns_52, zX1_offerInTurns_53, zX1_offerInTurns_56, zX1_offerInTurns_59, zX1_offerInTurns_60, zX1_offerInTurns_62, zX1_offerInTurns_64, zX1_offerInTurns_65, zX1_offerInTurns_68, zX1_offerInTurns_71, zX1_offerInTurns_74, hc, e2, show (1 : Int32) - 0 = 1 from rfl, show nI 0 = (0 : Int32) from rfl, g1, mm, c1, i32_m1, show ((2 : Int32) = 0) = False from eq_false (by decide), e_k_int, e_k_ref, e_k_null, e_k_long, e_k_ret, e_cats_nil, e_cats_int, e_cats_ref, e_cats_ret, e_cats_long, Option.toList_some, Option.toList_none, List.nil_append, List.cons_append, Option.bind_some, Nat.reduceAdd, Nat.reduceLeDiff, Nat.add_zero, if_true, if_false, true_and, and_true, and_self, Int32.reduceToNatClampNeg]
        exact q a f _ _ hsh hF
      · by_cases c2 : e_gI g 32 S.toNatClampNeg < s_go (e_gI g 32) delay (nI t) a
        · simp only [zX1_offerInTurns_5, zX1_offerInTurns_8, zX1_offerInTurns_9, zX1_offerInTurns_10, zX1_offerInTurns_11, zX1_offerInTurns_13, zX1_offerInTurns_14, zX1_offerInTurns_16, zX1_offerInTurns_17, zX1_offerInTurns_18, zX1_offerInTurns_20, zX1_offerInTurns_21, zX1_offerInTurns_22, zX1_offerInTurns_23, zX1_offerInTurns_26, zX1_offerInTurns_29, zX1_offerInTurns_31, zX1_offerInTurns_33, zX1_offerInTurns_35, zX1_offerInTurns_38, zX1_offerInTurns_39, zX1_offerInTurns_42, zX1_offerInTurns_44, zX1_offerInTurns_45, zX1_offerInTurns_47, zX1_offerInTurns_48, zX1_offerInTurns_49, zX1_offerInTurns_51, zX1_offerInTurns_52, zX1_offerInTurns_53, zX1_offerInTurns_56, zX1_offerInTurns_59, zX1_offerInTurns_60, zX1_offerInTurns_62, zX1_offerInTurns_64, zX1_offerInTurns_65, zX1_offerInTurns_68, zX1_offerInTurns_71, zX1_offerInTurns_74, hc, e2, show (1 : Int32) - 0 = 1 from rfl, show nI 0 = (0 : Int32) from rfl, g0, g1, mm, c1, c2, r0, s_sh_inb hb hn c1, i32_m1, show ((2 : Int32) = 0) = False from eq_false (by decide), e_k_int, e_k_ref, e_k_null, e_k_long, e_k_ret, e_cats_nil, e_cats_int, e_cats_ref, e_cats_ret, e_cats_long, Option.toList_some, Option.toList_none, List.nil_append, List.cons_append, Option.bind_some, Nat.reduceAdd, Nat.reduceLeDiff, Nat.add_zero, if_true, if_false, true_and, and_true, and_self, Int32.reduceToNatClampNeg, ok_1, ok_2, ok_3, ok_4, ok_5, ok_6, ok_7, ok_8, ok_9, ok_30, ok_31, ok_32, ok_33, ok_34, ok_35, ok_36, ok_37, ok_38, ok_39, ok_40, ok_41, ok_42, ok_43, ok_44, ok_45, ok_46, ok_47, ok_48, ok_49, ok_50, ok_51, ok_52, ln_1, ln_2, ln_4, ln_5, ln_6, ln_7, ln_8, ln_30, ln_31, ln_32, ln_33, ln_34, ln_35, ln_36, ln_37, ln_38, ln_39, ln_41, ln_42, ln_43, ln_44, ln_45, ln_46, ln_47, ln_48, ln_49, ln_50, ln_51, ln_52, ib_0_9, ib_1_9, ib_2_9, ib_3_9, ib_4_9, ib_5_9, ib_6_9, ib_7_9, ib_8_9, ib_0_2, ib_1_2, ib_0_5, ib_1_5, ib_2_5, ib_3_5, ib_4_5, ib_0_25, ib_0_10, ib_5_10, ib_0_90, ib_45_90, ib_0_64]
          exact q a f _ _ hsh hF
        · simp only [zX1_offerInTurns_5, zX1_offerInTurns_8, zX1_offerInTurns_9, zX1_offerInTurns_10, zX1_offerInTurns_11, zX1_offerInTurns_13, zX1_offerInTurns_14, zX1_offerInTurns_16, zX1_offerInTurns_17, zX1_offerInTurns_18, zX1_offerInTurns_20, zX1_offerInTurns_21, zX1_offerInTurns_22, zX1_offerInTurns_23, zX1_offerInTurns_26, zX1_offerInTurns_29, zX1_offerInTurns_31, zX1_offerInTurns_33, zX1_offerInTurns_35, zX1_offerInTurns_38, zX1_offerInTurns_39, zX1_offerInTurns_42, zX1_offerInTurns_44, zX1_offerInTurns_45, zX1_offerInTurns_47, zX1_offerInTurns_48, zX1_offerInTurns_49, zX1_offerInTurns_51, zX1_offerInTurns_52, zX1_offerInTurns_53, zX1_offerInTurns_56, zX1_offerInTurns_59, zX1_offerInTurns_60, zX1_offerInTurns_62, zX1_offerInTurns_64, zX1_offerInTurns_65, zX1_offerInTurns_68, zX1_offerInTurns_71, zX1_offerInTurns_74, hc, e2, show (1 : Int32) - 0 = 1 from rfl, show nI 0 = (0 : Int32) from rfl, g0, g1, mm, c1, c2, r0, s_sh_inb hb hn c1, r_agree, i32_m1, show ((2 : Int32) = 0) = False from eq_false (by decide), e_k_int, e_k_ref, e_k_null, e_k_long, e_k_ret, e_cats_nil, e_cats_int, e_cats_ref, e_cats_ret, e_cats_long, Option.toList_some, Option.toList_none, List.nil_append, List.cons_append, Option.bind_some, Nat.reduceAdd, Nat.reduceLeDiff, Nat.add_zero, if_true, if_false, true_and, and_true, and_self, Int32.reduceToNatClampNeg, ok_1, ok_2, ok_3, ok_4, ok_5, ok_6, ok_7, ok_8, ok_9, ok_30, ok_31, ok_32, ok_33, ok_34, ok_35, ok_36, ok_37, ok_38, ok_39, ok_40, ok_41, ok_42, ok_43, ok_44, ok_45, ok_46, ok_47, ok_48, ok_49, ok_50, ok_51, ok_52, ln_1, ln_2, ln_4, ln_5, ln_6, ln_7, ln_8, ln_30, ln_31, ln_32, ln_33, ln_34, ln_35, ln_36, ln_37, ln_38, ln_39, ln_41, ln_42, ln_43, ln_44, ln_45, ln_46, ln_47, ln_48, ln_49, ln_50, ln_51, ln_52, ib_0_9, ib_1_9, ib_2_9, ib_3_9, ib_4_9, ib_5_9, ib_6_9, ib_7_9, ib_8_9, ib_0_2, ib_1_2, ib_0_5, ib_1_5, ib_2_5, ib_3_5, ib_4_5, ib_0_25, ib_0_10, ib_5_10, ib_0_90, ib_45_90, ib_0_64]
          exact q (S, nI t) _ _ _ hb hF.agree
    · have hp1 : t % 2 = 1 := by omega
      rw [hp1] at e2
      have hb := s_best_sh (e_gI g 33) (e_gI g 32) (e_gI g 30) (s_go (e_gI g 32) delay (nI t) a) n
      have mm := r_mostFor1 (d := d) (w := s_go (e_gI g 32) delay (nI t) a) hn f2
      rw [r0, r1, r3] at mm
      have g1 := goA 1 1 rfl (by decide)
      have g0 := goA 0 0 rfl (by decide)
      simp only [Nat.reduceAdd, r0, r1, f5, f7] at g0 g1
      have u : s_ost (e_gI g 32) (e_gI g 33) (e_gI g 30) n delay t a = (if s_best (e_gI g 33) (e_gI g 32) (e_gI g 30) (s_go (e_gI g 32) delay (nI t) a) (n + 1) = -5 then a else if e_gI g 33 (s_best (e_gI g 33) (e_gI g 32) (e_gI g 30) (s_go (e_gI g 32) delay (nI t) a) (n + 1)).toNatClampNeg < s_go (e_gI g 33) delay (nI t) a then a else (s_best (e_gI g 33) (e_gI g 32) (e_gI g 30) (s_go (e_gI g 32) delay (nI t) a) (n + 1), nI t)) := by
        unfold s_ost
        rw [if_neg hp]
      rw [u]
      generalize hS : s_best (e_gI g 33) (e_gI g 32) (e_gI g 30) (s_go (e_gI g 32) delay (nI t) a) (n + 1) = S at *
      by_cases c1 : S = -5
      · simp only [zX1_offerInTurns_5, zX1_offerInTurns_8, zX1_offerInTurns_9, zX1_offerInTurns_10, zX1_offerInTurns_11, zX1_offerInTurns_13, zX1_offerInTurns_14, zX1_offerInTurns_16, zX1_offerInTurns_17, zX1_offerInTurns_18, zX1_offerInTurns_20, zX1_offerInTurns_21, zX1_offerInTurns_22, zX1_offerInTurns_23, zX1_offerInTurns_26, zX1_offerInTurns_29, zX1_offerInTurns_31, zX1_offerInTurns_33, zX1_offerInTurns_35, zX1_offerInTurns_38, zX1_offerInTurns_39, zX1_offerInTurns_42, zX1_offerInTurns_44, zX1_offerInTurns_45, zX1_offerInTurns_47, zX1_offerInTurns_48, zX1_offerInTurns_49, zX1_offerInTurns_51, zX1_offerInTurns_52, zX1_offerInTurns_53, zX1_offerInTurns_56, zX1_offerInTurns_59, zX1_offerInTurns_60, zX1_offerInTurns_62, zX1_offerInTurns_64, zX1_offerInTurns_65, zX1_offerInTurns_68, zX1_offerInTurns_71, zX1_offerInTurns_74, hc, e2, show (1 : Int32) - 1 = 0 from rfl, show nI 1 = (1 : Int32) from rfl, g0, mm, c1, i32_m1, show ((2 : Int32) = 0) = False from eq_false (by decide), e_k_int, e_k_ref, e_k_null, e_k_long, e_k_ret, e_cats_nil, e_cats_int, e_cats_ref, e_cats_ret, e_cats_long, Option.toList_some, Option.toList_none, List.nil_append, List.cons_append, Option.bind_some, Nat.reduceAdd, Nat.reduceLeDiff, Nat.add_zero, if_true, if_false, true_and, and_true, and_self, Int32.reduceToNatClampNeg]
        exact q a f _ _ hsh hF
      · by_cases c2 : e_gI g 33 S.toNatClampNeg < s_go (e_gI g 33) delay (nI t) a
        · simp only [zX1_offerInTurns_5, zX1_offerInTurns_8, zX1_offerInTurns_9, zX1_offerInTurns_10, zX1_offerInTurns_11, zX1_offerInTurns_13, zX1_offerInTurns_14, zX1_offerInTurns_16, zX1_offerInTurns_17, zX1_offerInTurns_18, zX1_offerInTurns_20, zX1_offerInTurns_21, zX1_offerInTurns_22, zX1_offerInTurns_23, zX1_offerInTurns_26, zX1_offerInTurns_29, zX1_offerInTurns_31, zX1_offerInTurns_33, zX1_offerInTurns_35, zX1_offerInTurns_38, zX1_offerInTurns_39, zX1_offerInTurns_42, zX1_offerInTurns_44, zX1_offerInTurns_45, zX1_offerInTurns_47, zX1_offerInTurns_48, zX1_offerInTurns_49, zX1_offerInTurns_51, zX1_offerInTurns_52, zX1_offerInTurns_53, zX1_offerInTurns_56, zX1_offerInTurns_59, zX1_offerInTurns_60, zX1_offerInTurns_62, zX1_offerInTurns_64, zX1_offerInTurns_65, zX1_offerInTurns_68, zX1_offerInTurns_71, zX1_offerInTurns_74, hc, e2, show (1 : Int32) - 1 = 0 from rfl, show nI 1 = (1 : Int32) from rfl, g0, g1, mm, c1, c2, r1, s_sh_inb hb hn c1, i32_m1, show ((2 : Int32) = 0) = False from eq_false (by decide), e_k_int, e_k_ref, e_k_null, e_k_long, e_k_ret, e_cats_nil, e_cats_int, e_cats_ref, e_cats_ret, e_cats_long, Option.toList_some, Option.toList_none, List.nil_append, List.cons_append, Option.bind_some, Nat.reduceAdd, Nat.reduceLeDiff, Nat.add_zero, if_true, if_false, true_and, and_true, and_self, Int32.reduceToNatClampNeg, ok_1, ok_2, ok_3, ok_4, ok_5, ok_6, ok_7, ok_8, ok_9, ok_30, ok_31, ok_32, ok_33, ok_34, ok_35, ok_36, ok_37, ok_38, ok_39, ok_40, ok_41, ok_42, ok_43, ok_44, ok_45, ok_46, ok_47, ok_48, ok_49, ok_50, ok_51, ok_52, ln_1, ln_2, ln_4, ln_5, ln_6, ln_7, ln_8, ln_30, ln_31, ln_32, ln_33, ln_34, ln_35, ln_36, ln_37, ln_38, ln_39, ln_41, ln_42, ln_43, ln_44, ln_45, ln_46, ln_47, ln_48, ln_49, ln_50, ln_51, ln_52, ib_0_9, ib_1_9, ib_2_9, ib_3_9, ib_4_9, ib_5_9, ib_6_9, ib_7_9, ib_8_9, ib_0_2, ib_1_2, ib_0_5, ib_1_5, ib_2_5, ib_3_5, ib_4_5, ib_0_25, ib_0_10, ib_5_10, ib_0_90, ib_45_90, ib_0_64]
          exact q a f _ _ hsh hF
        · simp only [zX1_offerInTurns_5, zX1_offerInTurns_8, zX1_offerInTurns_9, zX1_offerInTurns_10, zX1_offerInTurns_11, zX1_offerInTurns_13, zX1_offerInTurns_14, zX1_offerInTurns_16, zX1_offerInTurns_17, zX1_offerInTurns_18, zX1_offerInTurns_20, zX1_offerInTurns_21, zX1_offerInTurns_22, zX1_offerInTurns_23, zX1_offerInTurns_26, zX1_offerInTurns_29, zX1_offerInTurns_31, zX1_offerInTurns_33, zX1_offerInTurns_35, zX1_offerInTurns_38, zX1_offerInTurns_39, zX1_offerInTurns_42, zX1_offerInTurns_44, zX1_offerInTurns_45, zX1_offerInTurns_47, zX1_offerInTurns_48, zX1_offerInTurns_49, zX1_offerInTurns_51, zX1_offerInTurns_52, zX1_offerInTurns_53, zX1_offerInTurns_56, zX1_offerInTurns_59, zX1_offerInTurns_60, zX1_offerInTurns_62, zX1_offerInTurns_64, zX1_offerInTurns_65, zX1_offerInTurns_68, zX1_offerInTurns_71, zX1_offerInTurns_74, hc, e2, show (1 : Int32) - 1 = 0 from rfl, show nI 1 = (1 : Int32) from rfl, g0, g1, mm, c1, c2, r1, s_sh_inb hb hn c1, r_agree, i32_m1, show ((2 : Int32) = 0) = False from eq_false (by decide), e_k_int, e_k_ref, e_k_null, e_k_long, e_k_ret, e_cats_nil, e_cats_int, e_cats_ref, e_cats_ret, e_cats_long, Option.toList_some, Option.toList_none, List.nil_append, List.cons_append, Option.bind_some, Nat.reduceAdd, Nat.reduceLeDiff, Nat.add_zero, if_true, if_false, true_and, and_true, and_self, Int32.reduceToNatClampNeg, ok_1, ok_2, ok_3, ok_4, ok_5, ok_6, ok_7, ok_8, ok_9, ok_30, ok_31, ok_32, ok_33, ok_34, ok_35, ok_36, ok_37, ok_38, ok_39, ok_40, ok_41, ok_42, ok_43, ok_44, ok_45, ok_46, ok_47, ok_48, ok_49, ok_50, ok_51, ok_52, ln_1, ln_2, ln_4, ln_5, ln_6, ln_7, ln_8, ln_30, ln_31, ln_32, ln_33, ln_34, ln_35, ln_36, ln_37, ln_38, ln_39, ln_41, ln_42, ln_43, ln_44, ln_45, ln_46, ln_47, ln_48, ln_49, ln_50, ln_51, ln_52, ib_0_9, ib_1_9, ib_2_9, ib_3_9, ib_4_9, ib_5_9, ib_6_9, ib_7_9, ib_8_9, ib_0_2, ib_1_2, ib_0_5, ib_1_5, ib_2_5, ib_3_5, ib_4_5, ib_0_25, ib_0_10, ib_5_10, ib_0_90, ib_45_90, ib_0_64]
          exact q (S, nI t) _ _ _ hb hF.agree
theorem r_offerInTurns {d n t : Nat} {delay : Int32} (hn : n ≤ 24) (ht : t ≤ 9) {g : e_H} (hg : e_gI g 9 2 = nI n) (h5 : e_gI g 9 5 = -5) (h6 : e_gI g 9 6 = -5) (h7 : e_gI g 9 7 = -1) : ∃ f2, e_X e_pg (d + 2) 9 [.ref 9, .int (nI t), .int delay] g = some (none, f2) ∧ s_Fin g f2 (s_off (e_gI g 32) (e_gI g 33) (e_gI g 30) n delay t (-5, -1)).1 (s_off (e_gI g 32) (e_gI g 33) (e_gI g 30) n delay t (-5, -1)).1 (s_off (e_gI g 32) (e_gI g 33) (e_gI g 30) n delay t (-5, -1)).2 := by
  rw [xX1_offerInTurns]
  simp only [zX1_offerInTurns_0, zX1_offerInTurns_1, zX1_offerInTurns_2, zX1_offerInTurns_3, e_k_int, e_k_ref, e_k_null, e_k_long, e_k_ret, e_cats_nil, e_cats_int, e_cats_ref, e_cats_ret, e_cats_long, Option.toList_some, Option.toList_none, List.nil_append, List.cons_append, Option.bind_some, Nat.reduceAdd, Nat.reduceLeDiff, Nat.add_zero, if_true, if_false, true_and, and_true, and_self, Int32.reduceToNatClampNeg]
  exact r_off_loop hn hg t g (-5, -1) _ _ (by omega) (Or.inl rfl) ⟨e_fr.refl _ _, fun _ _ => rfl, h5, h6, h7⟩
theorem r_drawLots {d n : Nat} (hn : n ≤ 24) {g : e_H} (hg : e_gI g 9 2 = nI n) : e_X e_pg (d + 2) 11 [.ref 9] g = some (none, e_pI (e_pI (e_pI g 9 5 (s_best (e_gI g 32) (e_gI g 33) (e_gI g 30) (-2147483648) (n + 1))) 9 6 (s_best (e_gI g 33) (e_gI g 32) (e_gI g 30) (-2147483648) (n + 1))) 9 7 (-1)) := by
  rw [xX1_drawLots]
  simp only [zX1_drawLots_0, zX1_drawLots_1, zX1_drawLots_2, zX1_drawLots_3, zX1_drawLots_5, zX1_drawLots_8, zX1_drawLots_9, zX1_drawLots_10, zX1_drawLots_12, zX1_drawLots_15, zX1_drawLots_16, zX1_drawLots_19, r_mostFor0 hn hg, r_mostFor1 hn hg, r_agree, e_k_int, e_k_ref, e_k_null, e_k_long, e_k_ret, e_cats_nil, e_cats_int, e_cats_ref, e_cats_ret, e_cats_long, Option.toList_some, Option.toList_none, List.nil_append, List.cons_append, Option.bind_some, Nat.reduceAdd, Nat.reduceLeDiff, Nat.add_zero, if_true, if_false, true_and, and_true, and_self, Int32.reduceToNatClampNeg]
