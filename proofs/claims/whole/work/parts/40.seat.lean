/-! two who meet: gains of each share, which both take -/
def e_fr (S : List Nat) (h g : e_H) : Prop := (∀ o f, o ∉ S → e_gI g o f = e_gI h o f) ∧ ∀ o f, o ∉ S → e_gJ g o f = e_gJ h o f
theorem e_fr.refl (S : List Nat) (h : e_H) : e_fr S h h := ⟨fun _ _ _ => rfl, fun _ _ _ => rfl⟩
theorem e_fr.trans {S : List Nat} {h g f : e_H} (a : e_fr S h g) (b : e_fr S g f) : e_fr S h f := ⟨fun o k ho => (b.1 o k ho).trans (a.1 o k ho), fun o k ho => (b.2 o k ho).trans (a.2 o k ho)⟩
theorem e_fr.mono {S T : List Nat} {h g : e_H} (a : e_fr S h g) (hs : ∀ o, o ∈ S → o ∈ T) : e_fr T h g := ⟨fun o k ho => a.1 o k (fun q => ho (hs o q)), fun o k ho => a.2 o k (fun q => ho (hs o q))⟩
theorem e_fr.pI {S : List Nat} {h g : e_H} (a : e_fr S h g) {o f : Nat} {v : Int32} (ho : o ∈ S) : e_fr S h (e_pI g o f v) := by
  refine ⟨fun o2 k h2 => ?_, fun o2 k h2 => a.2 o2 k h2⟩
  rw [e_gI_pI, if_neg (fun q => h2 (by rw [q.1]; exact ho))]
  exact a.1 o2 k h2
theorem e_fr.pJ {S : List Nat} {h g : e_H} (a : e_fr S h g) {o f : Nat} {v : Int64} (ho : o ∈ S) : e_fr S h (e_pJ g o f v) := by
  refine ⟨fun o2 k h2 => a.1 o2 k h2, fun o2 k h2 => ?_⟩
  rw [e_gJ_pJ, if_neg (fun q => h2 (by rw [q.1]; exact ho))]
  exact a.2 o2 k h2
def s_g0 (Ni : Nat → Int32) (n x : Nat) : Int32 := p_worth Ni (nI x) (nI n) - Ni 4
def s_g1 (Nj : Nat → Int32) (n x : Nat) : Int32 := p_worth Nj (nI (n - x)) (nI n) - Nj 4
def s_B (Ni Nj : Nat → Int32) (n x : Nat) : Int32 := if p_acc Ni (nI x) (s_g0 Ni n x) = 0 then 0 else if p_acc Nj (nI (n - x)) (s_g1 Nj n x) = 0 then 0 else 1
theorem r_agree {d : Nat} {a b c : Int32} {h : e_H} : e_X e_pg (d + 1) 7 [.ref 9, .int a, .int b, .int c] h = some (none, e_pI (e_pI (e_pI h 9 5 a) 9 6 b) 9 7 c) := by
  rw [xX1_agree]
  simp only [zX1_agree_0, zX1_agree_1, zX1_agree_2, zX1_agree_5, zX1_agree_6, zX1_agree_7, zX1_agree_10, zX1_agree_11, zX1_agree_12, zX1_agree_15, e_k_int, e_k_ref, e_k_null, e_k_long, e_k_ret, e_cats_nil, e_cats_int, e_cats_ref, e_cats_ret, e_cats_long, Option.toList_some, Option.toList_none, List.nil_append, List.cons_append, Option.bind_some, Nat.reduceAdd, Nat.reduceLeDiff, Nat.add_zero, if_true, if_false, true_and, and_true, and_self, Int32.reduceToNatClampNeg]
/-- while seating: the first k shares are laid -/
def s_Seat (Ni Nj : Nat → Int32) (n k : Nat) (h g : e_H) : Prop := e_gI g 9 2 = nI n ∧ e_gI g 9 3 = Ni 4 ∧ e_gI g 9 4 = Nj 4 ∧ (∀ x, x < k → e_gI g 32 x = s_g0 Ni n x ∧ e_gI g 33 x = s_g1 Nj n x ∧ e_gI g 30 x = s_B Ni Nj n x) ∧ e_fr [9, 30, 32, 33] h g
theorem bn_1 : vp_nar .boolean 1 = 1 := rfl
theorem bn_0 : vp_nar .boolean 0 = 0 := rfl
set_option maxRecDepth 100000 in
theorem r_seat_loop {d i j n : Nat} {w : Int32} (hi : i < 10) (hj : j < 10) (hn : n ≤ 24) {h : e_H} : ∀ (m k : Nat) (g : e_H), k + m = n + 1 → s_Seat (e_gI h (i + 20)) (e_gI h (j + 20)) n k h g → ∃ g2, e_F kX1_seat (e_X e_pg (d + 3)) 33 [.ref 9, .int w, .ref (i + 10), .ref (j + 10), .int (nI k)] [] g = some (none, e_pI (e_pI (e_pI g2 9 5 (-5)) 9 6 (-5)) 9 7 (-1)) ∧ s_Seat (e_gI h (i + 20)) (e_gI h (j + 20)) n (n + 1) h g2 := by
  intro m
  induction m with
  | zero =>
    intro k g hk hI
    have hk : k = n + 1 := by omega
    subst hk
    refine ⟨g, ?_, hI⟩
    have hc : nI n < nI (n + 1) := nI_lt (by omega) (by omega)
    rw [zX1_seat_33]
    simp only [zX1_seat_35, zX1_seat_36, zX1_seat_39, zX1_seat_42, zX1_seat_43, zX1_seat_46, zX1_seat_47, zX1_seat_48, zX1_seat_50, zX1_seat_51, zX1_seat_53, zX1_seat_54, zX1_seat_57, zX1_seat_60, zX1_seat_61, zX1_seat_62, zX1_seat_65, zX1_seat_66, zX1_seat_67, zX1_seat_69, zX1_seat_70, zX1_seat_71, zX1_seat_74, zX1_seat_76, zX1_seat_77, zX1_seat_78, zX1_seat_81, zX1_seat_84, zX1_seat_85, zX1_seat_86, zX1_seat_89, zX1_seat_91, zX1_seat_92, zX1_seat_94, zX1_seat_95, zX1_seat_98, zX1_seat_99, zX1_seat_100, zX1_seat_102, zX1_seat_103, zX1_seat_106, zX1_seat_109, zX1_seat_110, zX1_seat_111, zX1_seat_114, zX1_seat_116, zX1_seat_117, zX1_seat_118, zX1_seat_121, zX1_seat_122, zX1_seat_123, zX1_seat_125, zX1_seat_126, zX1_seat_129, zX1_seat_132, zX1_seat_133, zX1_seat_136, zX1_seat_137, zX1_seat_138, zX1_seat_141, zX1_seat_144, zX1_seat_145, zX1_seat_147, zX1_seat_149, zX1_seat_150, zX1_seat_153, hI.1, hc, r_agree, e_k_int, e_k_ref, e_k_null, e_k_long, e_k_ret, e_cats_nil, e_cats_int, e_cats_ref, e_cats_ret, e_cats_long, Option.toList_some, Option.toList_none, List.nil_append, List.cons_append, Option.bind_some, Nat.reduceAdd, Nat.reduceLeDiff, Nat.add_zero, if_true, if_false, true_and, and_true, and_self, Int32.reduceToNatClampNeg]
  | succ m ih =>
    intro k g hk hI
    obtain ⟨h1, h2, h3, h4, h5⟩ := hI
    have hc : ¬ nI n < nI k := nI_nlt (by omega) (by omega)
    have hb : e_inb (nI k) 25 = true := e_inb_nI (by omega) (by decide)
    have hcl : (nI k).toNatClampNeg = k := nI_clamp (by omega)
    have hsub : nI n - nI k = nI (n - k) := pk_sub (by omega)
    have ni : ∀ f, e_gI g (i + 20) f = e_gI h (i + 20) f := fun f => h5.1 _ f (by simp; omega)
    have nj : ∀ f, e_gI g (j + 20) f = e_gI h (j + 20) f := fun f => h5.1 _ f (by simp; omega)
    have i1 : (i + 20 = 32) = False := eq_false (by omega)
    have i2 : (i + 20 = 33) = False := eq_false (by omega)
    have j1 : (j + 20 = 32) = False := eq_false (by omega)
    have j2 : (j + 20 = 33) = False := eq_false (by omega)
    have w0 : ∀ (G : e_H) (e : Nat) (x : Int32), (∀ f, e_gI G (e + 20) f = e_gI h (e + 20) f) → p_worth (e_gI G (e + 20)) x (nI n) = p_worth (e_gI h (e + 20)) x (nI n) := fun G e x hG => by rw [show e_gI G (e + 20) = e_gI h (e + 20) from funext hG]
    have w1 : ∀ (G : e_H) (e : Nat) (x y : Int32), (∀ f, e_gI G (e + 20) f = e_gI h (e + 20) f) → p_acc (e_gI G (e + 20)) x y = p_acc (e_gI h (e + 20)) x y := fun G e x y hG => by rw [show e_gI G (e + 20) = e_gI h (e + 20) from funext hG]
    have a1 : e_gI g (i + 20) = e_gI h (i + 20) := funext ni
    have a2 : ∀ v, e_gI (e_pI g 32 k v) (j + 20) = e_gI h (j + 20) := fun v => funext fun f => by rw [e_gI_pI, if_neg (by omega)]; exact nj f
    have a3 : ∀ v u, e_gI (e_pI (e_pI g 32 k v) 33 k u) (i + 20) = e_gI h (i + 20) := fun v u => funext fun f => by rw [e_gI_pI, if_neg (by omega), e_gI_pI, if_neg (by omega)]; exact ni f
    have a4 : ∀ v u, e_gI (e_pI (e_pI g 32 k v) 33 k u) (j + 20) = e_gI h (j + 20) := fun v u => funext fun f => by rw [e_gI_pI, if_neg (by omega), e_gI_pI, if_neg (by omega)]; exact nj f
    have step : e_F kX1_seat (e_X e_pg (d + 3)) 33 [.ref 9, .int w, .ref (i + 10), .ref (j + 10), .int (nI k)] [] g = e_F kX1_seat (e_X e_pg (d + 3)) 33 [.ref 9, .int w, .ref (i + 10), .ref (j + 10), .int (nI (k + 1))] [] (e_pI (e_pI (e_pI g 32 k (s_g0 (e_gI h (i + 20)) n k)) 33 k (s_g1 (e_gI h (j + 20)) n k)) 30 k (s_B (e_gI h (i + 20)) (e_gI h (j + 20)) n k)) := by
      rw [zX1_seat_33]
      simp only [zX1_seat_35, zX1_seat_36, zX1_seat_39, zX1_seat_42, zX1_seat_43, zX1_seat_46, zX1_seat_47, zX1_seat_48, zX1_seat_50, zX1_seat_51, zX1_seat_53, zX1_seat_54, zX1_seat_57, zX1_seat_60, zX1_seat_61, zX1_seat_62, zX1_seat_65, zX1_seat_66, zX1_seat_67, zX1_seat_69, zX1_seat_70, zX1_seat_71, zX1_seat_74, zX1_seat_76, zX1_seat_77, zX1_seat_78, zX1_seat_81, zX1_seat_84, zX1_seat_85, zX1_seat_86, zX1_seat_89, zX1_seat_91, zX1_seat_92, zX1_seat_94, zX1_seat_95, zX1_seat_98, zX1_seat_99, zX1_seat_100, zX1_seat_102, zX1_seat_103, zX1_seat_106, zX1_seat_109, zX1_seat_110, zX1_seat_111, zX1_seat_114, zX1_seat_116, zX1_seat_117, zX1_seat_118, zX1_seat_121, zX1_seat_122, zX1_seat_123, zX1_seat_125, zX1_seat_126, zX1_seat_129, zX1_seat_132, zX1_seat_133, zX1_seat_136, zX1_seat_137, zX1_seat_138, zX1_seat_141, zX1_seat_144, zX1_seat_145, zX1_seat_147, zX1_seat_149, zX1_seat_150, zX1_seat_153, h1, hc, hi, hj, hb, hcl, hsub, r_gainBy hi, r_gainBy hj, r_accepts hi, r_accepts hj, e_gI_pI, a1, a2, a3, a4, Nat.reduceEqDiff, false_and, nI_1, e_k_int, e_k_ref, e_k_null, e_k_long, e_k_ret, e_cats_nil, e_cats_int, e_cats_ref, e_cats_ret, e_cats_long, Option.toList_some, Option.toList_none, List.nil_append, List.cons_append, Option.bind_some, Nat.reduceAdd, Nat.reduceLeDiff, Nat.add_zero, if_true, if_false, true_and, and_true, and_self, Int32.reduceToNatClampNeg, ok_1, ok_2, ok_3, ok_4, ok_5, ok_6, ok_7, ok_8, ok_9, ok_30, ok_31, ok_32, ok_33, ok_34, ok_35, ok_36, ok_37, ok_38, ok_39, ok_40, ok_41, ok_42, ok_43, ok_44, ok_45, ok_46, ok_47, ok_48, ok_49, ok_50, ok_51, ok_52, ln_1, ln_2, ln_4, ln_5, ln_6, ln_7, ln_8, ln_30, ln_31, ln_32, ln_33, ln_34, ln_35, ln_36, ln_37, ln_38, ln_39, ln_41, ln_42, ln_43, ln_44, ln_45, ln_46, ln_47, ln_48, ln_49, ln_50, ln_51, ln_52, ib_0_9, ib_1_9, ib_2_9, ib_3_9, ib_4_9, ib_5_9, ib_6_9, ib_7_9, ib_8_9, ib_0_2, ib_1_2, ib_0_5, ib_1_5, ib_2_5, ib_3_5, ib_4_5, ib_0_25, ib_0_10, ib_5_10, ib_0_90, ib_45_90, ib_0_64]
      unfold s_B s_g0 s_g1
      repeat' split
      all_goals simp_all [bn_0, bn_1]
    rw [step]
    refine ih (k + 1) _ (by omega) ⟨?_, ?_, ?_, fun x hx => ?_, (h5.pI (by simp)).pI (by simp) |>.pI (by simp)⟩
    · simp only [e_gI_pI, Nat.reduceEqDiff, false_and, if_false]; exact h1
    · simp only [e_gI_pI, Nat.reduceEqDiff, false_and, if_false]; exact h2
    · simp only [e_gI_pI, Nat.reduceEqDiff, false_and, if_false]; exact h3
    · by_cases hxk : x = k
      · subst hxk
        simp [e_gI_pI]
      · have := h4 x (by omega)
        simp [e_gI_pI, hxk, this]
/-- seat: the gains of all shares, which both take; nothing is settled yet -/
def s_Seated (Ni Nj : Nat → Int32) (n : Nat) (h g : e_H) : Prop := s_Seat Ni Nj n (n + 1) h g ∧ e_gI g 9 5 = -5 ∧ e_gI g 9 6 = -5 ∧ e_gI g 9 7 = -1
set_option maxRecDepth 100000 in
theorem r_seat {d i j n : Nat} (hi : i < 10) (hj : j < 10) (hn : n ≤ 24) {h : e_H} : ∃ g, e_X e_pg (d + 4) 6 [.ref 9, .int (nI n), .ref (i + 10), .ref (j + 10)] h = some (none, g) ∧ s_Seated (e_gI h (i + 20)) (e_gI h (j + 20)) n h g := by
  have hm : (if (24 : Int32) < nI n then (24 : Int32) else nI n) = nI n := by
    rw [if_neg]
    rw [show (24 : Int32) = nI 24 from rfl]
    exact nI_nlt hn (by omega)
  have i1 : ∀ v, e_gI (e_pI h 9 2 v) (i + 20) = e_gI h (i + 20) := fun v => funext fun f => by rw [e_gI_pI, if_neg (by omega)]
  have j1 : ∀ v u, e_gI (e_pI (e_pI h 9 2 v) 9 3 u) (j + 20) = e_gI h (j + 20) := fun v u => funext fun f => by rw [e_gI_pI, if_neg (by omega), e_gI_pI, if_neg (by omega)]
  obtain ⟨g, hg, hI⟩ := r_seat_loop (d := d) (w := nI n) hi hj hn (h := h) (n + 1) 0 (e_pI (e_pI (e_pI h 9 2 (nI n)) 9 3 (e_gI h (i + 20) 4)) 9 4 (e_gI h (j + 20) 4)) (by omega) ⟨by simp [e_gI_pI], by simp [e_gI_pI], by simp [e_gI_pI], fun x hx => by omega, (((e_fr.refl _ h).pI (by simp)).pI (by simp)).pI (by simp)⟩
  refine ⟨e_pI (e_pI (e_pI g 9 5 (-5)) 9 6 (-5)) 9 7 (-1), ?_, ?_⟩
  · rw [xX1_seat]
    simp only [zX1_seat_0, zX1_seat_1, zX1_seat_2, zX1_seat_4, zX1_seat_7, zX1_seat_10, zX1_seat_11, zX1_seat_12, zX1_seat_15, zX1_seat_16, zX1_seat_17, zX1_seat_20, zX1_seat_21, zX1_seat_22, zX1_seat_25, zX1_seat_26, zX1_seat_27, zX1_seat_30, zX1_seat_31, hi, hj, hm, e_ok_N hi, e_len_N hi, e_ok_N hj, e_len_N hj, i1, j1, e_k_int, e_k_ref, e_k_null, e_k_long, e_k_ret, e_cats_nil, e_cats_int, e_cats_ref, e_cats_ret, e_cats_long, Option.toList_some, Option.toList_none, List.nil_append, List.cons_append, Option.bind_some, Nat.reduceAdd, Nat.reduceLeDiff, Nat.add_zero, if_true, if_false, true_and, and_true, and_self, Int32.reduceToNatClampNeg, ib_0_9, ib_1_9, ib_2_9, ib_3_9, ib_4_9, ib_5_9, ib_6_9, ib_7_9, ib_8_9, ib_0_2, ib_1_2, ib_0_5, ib_1_5, ib_2_5, ib_3_5, ib_4_5, ib_0_25, ib_0_10, ib_5_10, ib_0_90, ib_45_90, ib_0_64]
    rw [show (0 : Int32) = nI 0 from rfl, hg]
  · obtain ⟨h1, h2, h3, h4, h5⟩ := hI
    refine ⟨⟨?_, ?_, ?_, fun x hx => ?_, ((h5.pI (by simp)).pI (by simp)).pI (by simp)⟩, ?_, ?_, ?_⟩
    · simp [e_gI_pI, h1]
    · simp [e_gI_pI, h2]
    · simp [e_gI_pI, h3]
    · simp [e_gI_pI, h4 x hx]
    · simp [e_gI_pI]
    · simp [e_gI_pI]
    · simp [e_gI_pI]
