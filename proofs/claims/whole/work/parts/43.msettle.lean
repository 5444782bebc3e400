/-! the model: gains of all shares, products, offers -/
def s_MSeat (Ni Nj : Nat → Int32) (n k : Nat) (h g : e_H) : Prop := (∀ x, x < k → e_gI g 49 x = s_g0 Ni n x ∧ e_gI g 50 x = s_g1 Nj n x ∧ e_gI g 48 x = s_B Ni Nj n x) ∧ e_fr [48, 49, 50] h g
set_option maxRecDepth 100000 in
theorem r_M_layOut_loop {d i j n : Nat} {a b : Int32} (ha : a = nI i) (hb : b = nI j) (hi : i < 5) (hj : j < 5) (hn : n ≤ 24) {h : e_H} (hw : e_gI h 40 0 = nI n) (hRi : e_Rg (e_Mn h (5 * 0 + i))) (hRj : e_Rg (e_Mn h (5 * 1 + j))) : ∀ (m k : Nat) (g : e_H), k + m = n + 1 → s_MSeat (e_Mn h (5 * 0 + i)) (e_Mn h (5 * 1 + j)) n k h g → ∃ g2, e_F kX4_layOut (e_X e_pg (d + 4)) 2 [.ref 40, .int a, .int b, .int (nI k)] [] g = some (none, g2) ∧ s_MSeat (e_Mn h (5 * 0 + i)) (e_Mn h (5 * 1 + j)) n (n + 1) h g2 := by
  intro m
  induction m with
  | zero =>
    intro k g hk hI
    have hk : k = n + 1 := by omega
    subst hk
    refine ⟨g, ?_, hI⟩
    have hc : nI n < nI (n + 1) := nI_lt (by omega) (by omega)
    have hw2 : e_gI g 40 0 = nI n := by rw [hI.2.1 40 0 (by simp)]; exact hw
    rw [zX4_layOut_2]
    simp only [zX4_layOut_3, zX4_layOut_4, zX4_layOut_7, zX4_layOut_10, zX4_layOut_11, zX4_layOut_14, zX4_layOut_15, zX4_layOut_16, zX4_layOut_17, zX4_layOut_18, zX4_layOut_19, zX4_layOut_22, zX4_layOut_25, zX4_layOut_26, zX4_layOut_27, zX4_layOut_28, zX4_layOut_29, zX4_layOut_32, zX4_layOut_33, zX4_layOut_34, zX4_layOut_37, zX4_layOut_40, zX4_layOut_41, zX4_layOut_44, zX4_layOut_45, zX4_layOut_46, zX4_layOut_47, zX4_layOut_50, zX4_layOut_51, zX4_layOut_52, zX4_layOut_53, zX4_layOut_54, zX4_layOut_55, zX4_layOut_58, zX4_layOut_59, zX4_layOut_60, zX4_layOut_61, zX4_layOut_62, zX4_layOut_65, zX4_layOut_66, zX4_layOut_67, zX4_layOut_68, zX4_layOut_71, zX4_layOut_72, zX4_layOut_73, zX4_layOut_74, zX4_layOut_75, zX4_layOut_76, zX4_layOut_79, zX4_layOut_80, zX4_layOut_81, zX4_layOut_84, zX4_layOut_85, zX4_layOut_86, zX4_layOut_87, zX4_layOut_88, zX4_layOut_91, zX4_layOut_92, zX4_layOut_93, zX4_layOut_96, zX4_layOut_99, hw2, hc, e_k_int, e_k_ref, e_k_null, e_k_long, e_k_ret, e_cats_nil, e_cats_int, e_cats_ref, e_cats_ret, e_cats_long, Option.toList_some, Option.toList_none, List.nil_append, List.cons_append, Option.bind_some, Nat.reduceAdd, Nat.reduceLeDiff, Nat.add_zero, if_true, if_false, true_and, and_true, and_self, Int32.reduceToNatClampNeg]
  | succ m ih =>
    intro k g hk hI
    obtain ⟨h4, h5⟩ := hI
    have hc : ¬ nI n < nI k := nI_nlt (by omega) (by omega)
    have hbb : e_inb (nI k) 25 = true := e_inb_nI (by omega) (by decide)
    have hcl : (nI k).toNatClampNeg = k := nI_clamp (by omega)
    have hsub : nI n - nI k = nI (n - k) := pk_sub (by omega)
    have w40 : ∀ f, e_gI g 40 f = e_gI h 40 f := fun f => h5.1 40 f (by simp)
    have w41 : ∀ f, e_gI g 41 f = e_gI h 41 f := fun f => h5.1 41 f (by simp)
    have hw2 : e_gI g 40 0 = nI n := by rw [w40]; exact hw
    have t0 := fun (G : e_H) (hG : ∀ f, e_gI G 41 f = e_gI h 41 f) (hG0 : e_gI G 40 0 = nI n) => r_M_doesTake (d := d) (h := G) (own := nI k) (show (0 : Int32) = nI 0 from rfl) ha (by decide) hi
    have b0 := fun (G : e_H) (hG : ∀ f, e_gI G 41 f = e_gI h 41 f) (e : Nat) => show e_Mn G e = e_Mn h e from funext fun w => hG _
    have x0 : e_X e_pg (d + 4) 95 [.ref 40, .int 0, .int a, .int (nI k)] g = some (some (.int (p_acc (e_Mn h (5 * 0 + i)) (nI k) (s_g0 (e_Mn h (5 * 0 + i)) n k))), g) := by
      rw [r_M_doesTake (show (0 : Int32) = nI 0 from rfl) ha (by decide) hi, b0 g w41, hw2, p_Mtake_eq hRi (by omega) hn]
      rfl
    have x1 : e_X e_pg (d + 4) 95 [.ref 40, .int 1, .int b, .int (nI (n - k))] g = some (some (.int (p_acc (e_Mn h (5 * 1 + j)) (nI (n - k)) (s_g1 (e_Mn h (5 * 1 + j)) n k))), g) := by
      rw [r_M_doesTake (show (1 : Int32) = nI 1 from rfl) hb (by decide) hj, b0 g w41, hw2, p_Mtake_eq hRj (by omega) hn]
      rfl
    have y0 : ∀ v, e_X e_pg (d + 4) 93 [.ref 40, .int 0, .int a, .int (nI k)] (e_pI g 48 k v) = some (some (.int (p_worth (e_Mn h (5 * 0 + i)) (nI k) (nI n))), e_pI g 48 k v) := fun v => by
      rw [r_M_worthOf (show (0 : Int32) = nI 0 from rfl) ha (by decide) hi, b0 _ (fun f => by rw [e_gI_pI, if_neg (by omega)]; exact w41 f), e_gI_pI, if_neg (by omega), hw2, p_Mworth_eq hRi (by omega)]
    have z0 : ∀ v, e_X e_pg (d + 4) 88 [.ref 40, .int 0, .int a, .int 4] (e_pI g 48 k v) = some (some (.int (e_Mn h (5 * 0 + i) 4)), e_pI g 48 k v) := fun v => by
      rw [r_M_of (show (0 : Int32) = nI 0 from rfl) ha (show (4 : Int32) = nI 4 from rfl) (by decide) hi (by decide), e_gI_pI, if_neg (by omega), w41]
    have y1 : ∀ v u, e_X e_pg (d + 4) 93 [.ref 40, .int 1, .int b, .int (nI (n - k))] (e_pI (e_pI g 48 k v) 49 k u) = some (some (.int (p_worth (e_Mn h (5 * 1 + j)) (nI (n - k)) (nI n))), e_pI (e_pI g 48 k v) 49 k u) := fun v u => by
      rw [r_M_worthOf (show (1 : Int32) = nI 1 from rfl) hb (by decide) hj, b0 _ (fun f => by rw [e_gI_pI, if_neg (by omega), e_gI_pI, if_neg (by omega)]; exact w41 f), e_gI_pI, if_neg (by omega), e_gI_pI, if_neg (by omega), hw2, p_Mworth_eq hRj (by omega)]
    have z1 : ∀ v u, e_X e_pg (d + 4) 88 [.ref 40, .int 1, .int b, .int 4] (e_pI (e_pI g 48 k v) 49 k u) = some (some (.int (e_Mn h (5 * 1 + j) 4)), e_pI (e_pI g 48 k v) 49 k u) := fun v u => by
      rw [r_M_of (show (1 : Int32) = nI 1 from rfl) hb (show (4 : Int32) = nI 4 from rfl) (by decide) hj (by decide), e_gI_pI, if_neg (by omega), e_gI_pI, if_neg (by omega), w41]
    have step : e_F kX4_layOut (e_X e_pg (d + 4)) 2 [.ref 40, .int a, .int b, .int (nI k)] [] g = e_F kX4_layOut (e_X e_pg (d + 4)) 2 [.ref 40, .int a, .int b, .int (nI (k + 1))] [] (e_pI (e_pI (e_pI g 48 k (s_B (e_Mn h (5 * 0 + i)) (e_Mn h (5 * 1 + j)) n k)) 49 k (s_g0 (e_Mn h (5 * 0 + i)) n k)) 50 k (s_g1 (e_Mn h (5 * 1 + j)) n k)) := by
      rw [zX4_layOut_2]
      unfold s_B
      by_cases c1 : p_acc (e_Mn h (5 * 0 + i)) (nI k) (s_g0 (e_Mn h (5 * 0 + i)) n k) = 0
      · simp only [zX4_layOut_3, zX4_layOut_4, zX4_layOut_7, zX4_layOut_10, zX4_layOut_11, zX4_layOut_14, zX4_layOut_15, zX4_layOut_16, zX4_layOut_17, zX4_layOut_18, zX4_layOut_19, zX4_layOut_22, zX4_layOut_25, zX4_layOut_26, zX4_layOut_27, zX4_layOut_28, zX4_layOut_29, zX4_layOut_32, zX4_layOut_33, zX4_layOut_34, zX4_layOut_37, zX4_layOut_40, zX4_layOut_41, zX4_layOut_44, zX4_layOut_45, zX4_layOut_46, zX4_layOut_47, zX4_layOut_50, zX4_layOut_51, zX4_layOut_52, zX4_layOut_53, zX4_layOut_54, zX4_layOut_55, zX4_layOut_58, zX4_layOut_59, zX4_layOut_60, zX4_layOut_61, zX4_layOut_62, zX4_layOut_65, zX4_layOut_66, zX4_layOut_67, zX4_layOut_68, zX4_layOut_71, zX4_layOut_72, zX4_layOut_73, zX4_layOut_74, zX4_layOut_75, zX4_layOut_76, zX4_layOut_79, zX4_layOut_80, zX4_layOut_81, zX4_layOut_84, zX4_layOut_85, zX4_layOut_86, zX4_layOut_87, zX4_layOut_88, zX4_layOut_91, zX4_layOut_92, zX4_layOut_93, zX4_layOut_96, zX4_layOut_99, hw2, hc, hbb, hcl, hsub, x0, y0, z0, y1, z1, c1, bn_0, e_gI_pI, Nat.reduceEqDiff, false_and, nI_1, e_k_int, e_k_ref, e_k_null, e_k_long, e_k_ret, e_cats_nil, e_cats_int, e_cats_ref, e_cats_ret, e_cats_long, Option.toList_some, Option.toList_none, List.nil_append, List.cons_append, Option.bind_some, Nat.reduceAdd, Nat.reduceLeDiff, Nat.add_zero, if_true, if_false, true_and, and_true, and_self, Int32.reduceToNatClampNeg, ok_1, ok_2, ok_3, ok_4, ok_5, ok_6, ok_7, ok_8, ok_9, ok_30, ok_31, ok_32, ok_33, ok_34, ok_35, ok_36, ok_37, ok_38, ok_39, ok_40, ok_41, ok_42, ok_43, ok_44, ok_45, ok_46, ok_47, ok_48, ok_49, ok_50, ok_51, ok_52, ln_1, ln_2, ln_4, ln_5, ln_6, ln_7, ln_8, ln_30, ln_31, ln_32, ln_33, ln_34, ln_35, ln_36, ln_37, ln_38, ln_39, ln_41, ln_42, ln_43, ln_44, ln_45, ln_46, ln_47, ln_48, ln_49, ln_50, ln_51, ln_52]
        rfl
      · by_cases c2 : p_acc (e_Mn h (5 * 1 + j)) (nI (n - k)) (s_g1 (e_Mn h (5 * 1 + j)) n k) = 0
        · simp only [zX4_layOut_3, zX4_layOut_4, zX4_layOut_7, zX4_layOut_10, zX4_layOut_11, zX4_layOut_14, zX4_layOut_15, zX4_layOut_16, zX4_layOut_17, zX4_layOut_18, zX4_layOut_19, zX4_layOut_22, zX4_layOut_25, zX4_layOut_26, zX4_layOut_27, zX4_layOut_28, zX4_layOut_29, zX4_layOut_32, zX4_layOut_33, zX4_layOut_34, zX4_layOut_37, zX4_layOut_40, zX4_layOut_41, zX4_layOut_44, zX4_layOut_45, zX4_layOut_46, zX4_layOut_47, zX4_layOut_50, zX4_layOut_51, zX4_layOut_52, zX4_layOut_53, zX4_layOut_54, zX4_layOut_55, zX4_layOut_58, zX4_layOut_59, zX4_layOut_60, zX4_layOut_61, zX4_layOut_62, zX4_layOut_65, zX4_layOut_66, zX4_layOut_67, zX4_layOut_68, zX4_layOut_71, zX4_layOut_72, zX4_layOut_73, zX4_layOut_74, zX4_layOut_75, zX4_layOut_76, zX4_layOut_79, zX4_layOut_80, zX4_layOut_81, zX4_layOut_84, zX4_layOut_85, zX4_layOut_86, zX4_layOut_87, zX4_layOut_88, zX4_layOut_91, zX4_layOut_92, zX4_layOut_93, zX4_layOut_96, zX4_layOut_99, hw2, hc, hbb, hcl, hsub, x0, x1, y0, z0, y1, z1, c1, c2, bn_0, e_gI_pI, Nat.reduceEqDiff, false_and, nI_1, e_k_int, e_k_ref, e_k_null, e_k_long, e_k_ret, e_cats_nil, e_cats_int, e_cats_ref, e_cats_ret, e_cats_long, Option.toList_some, Option.toList_none, List.nil_append, List.cons_append, Option.bind_some, Nat.reduceAdd, Nat.reduceLeDiff, Nat.add_zero, if_true, if_false, true_and, and_true, and_self, Int32.reduceToNatClampNeg, ok_1, ok_2, ok_3, ok_4, ok_5, ok_6, ok_7, ok_8, ok_9, ok_30, ok_31, ok_32, ok_33, ok_34, ok_35, ok_36, ok_37, ok_38, ok_39, ok_40, ok_41, ok_42, ok_43, ok_44, ok_45, ok_46, ok_47, ok_48, ok_49, ok_50, ok_51, ok_52, ln_1, ln_2, ln_4, ln_5, ln_6, ln_7, ln_8, ln_30, ln_31, ln_32, ln_33, ln_34, ln_35, ln_36, ln_37, ln_38, ln_39, ln_41, ln_42, ln_43, ln_44, ln_45, ln_46, ln_47, ln_48, ln_49, ln_50, ln_51, ln_52]
          rfl
        · simp only [zX4_layOut_3, zX4_layOut_4, zX4_layOut_7, zX4_layOut_10, zX4_layOut_11, zX4_layOut_14, zX4_layOut_15, zX4_layOut_16, zX4_layOut_17, zX4_layOut_18, zX4_layOut_19, zX4_layOut_22, zX4_layOut_25, zX4_layOut_26, zX4_layOut_27, zX4_layOut_28, zX4_layOut_29, zX4_layOut_32, zX4_layOut_33, zX4_layOut_34, zX4_layOut_37, zX4_layOut_40, zX4_layOut_41, zX4_layOut_44, zX4_layOut_45, zX4_layOut_46, zX4_layOut_47, zX4_layOut_50, zX4_layOut_51, zX4_layOut_52, zX4_layOut_53, zX4_layOut_54, zX4_layOut_55, zX4_layOut_58, zX4_layOut_59, zX4_layOut_60, zX4_layOut_61, zX4_layOut_62, zX4_layOut_65, zX4_layOut_66, zX4_layOut_67, zX4_layOut_68, zX4_layOut_71, zX4_layOut_72, zX4_layOut_73, zX4_layOut_74, zX4_layOut_75, zX4_layOut_76, zX4_layOut_79, zX4_layOut_80, zX4_layOut_81, zX4_layOut_84, zX4_layOut_85, zX4_layOut_86, zX4_layOut_87, zX4_layOut_88, zX4_layOut_91, zX4_layOut_92, zX4_layOut_93, zX4_layOut_96, zX4_layOut_99, hw2, hc, hbb, hcl, hsub, x0, x1, y0, z0, y1, z1, c1, c2, bn_1, e_gI_pI, Nat.reduceEqDiff, false_and, nI_1, e_k_int, e_k_ref, e_k_null, e_k_long, e_k_ret, e_cats_nil, e_cats_int, e_cats_ref, e_cats_ret, e_cats_long, Option.toList_some, Option.toList_none, List.nil_append, List.cons_append, Option.bind_some, Nat.reduceAdd, Nat.reduceLeDiff, Nat.add_zero, if_true, if_false, true_and, and_true, and_self, Int32.reduceToNatClampNeg, ok_1, ok_2, ok_3, ok_4, ok_5, ok_6, ok_7, ok_8, ok_9, ok_30, ok_31, ok_32, ok_33, ok_34, ok_35, ok_36, ok_37, ok_38, ok_39, ok_40, ok_41, ok_42, ok_43, ok_44, ok_45, ok_46, ok_47, ok_48, ok_49, ok_50, ok_51, ok_52, ln_1, ln_2, ln_4, ln_5, ln_6, ln_7, ln_8, ln_30, ln_31, ln_32, ln_33, ln_34, ln_35, ln_36, ln_37, ln_38, ln_39, ln_41, ln_42, ln_43, ln_44, ln_45, ln_46, ln_47, ln_48, ln_49, ln_50, ln_51, ln_52]
          rfl
    rw [step]
    refine ih (k + 1) _ (by omega) ⟨fun x hx => ?_, ((h5.pI (by simp)).pI (by simp)).pI (by simp)⟩
    by_cases hxk : x = k
    · subst hxk
      simp [e_gI_pI]
    · have := h4 x (by omega)
      simp [e_gI_pI, hxk, this]
theorem r_M_layOut {d i j n : Nat} {a b : Int32} (ha : a = nI i) (hb : b = nI j) (hi : i < 5) (hj : j < 5) (hn : n ≤ 24) {h : e_H} (hw : e_gI h 40 0 = nI n) (hRi : e_Rg (e_Mn h (5 * 0 + i))) (hRj : e_Rg (e_Mn h (5 * 1 + j))) : ∃ g, e_X e_pg (d + 5) 111 [.ref 40, .int a, .int b] h = some (none, g) ∧ s_MSeat (e_Mn h (5 * 0 + i)) (e_Mn h (5 * 1 + j)) n (n + 1) h g := by
  rw [xX4_layOut]
  simp only [zX4_layOut_0, zX4_layOut_1, e_k_int, e_k_ref, e_k_null, e_k_long, e_k_ret, e_cats_nil, e_cats_int, e_cats_ref, e_cats_ret, e_cats_long, Option.toList_some, Option.toList_none, List.nil_append, List.cons_append, Option.bind_some, Nat.reduceAdd, Nat.reduceLeDiff, Nat.add_zero, if_true, if_false, true_and, and_true, and_self, Int32.reduceToNatClampNeg]
  exact r_M_layOut_loop ha hb hi hj hn hw hRi hRj (n + 1) 0 h (by omega) ⟨fun x hx => by omega, e_fr.refl _ _⟩
def s_MFin (g f : e_H) (a b c : Int32) : Prop := e_fr [40] g f ∧ (∀ k, k ≠ 24 → k ≠ 25 → k ≠ 26 → e_gI f 40 k = e_gI g 40 k) ∧ (∀ k, e_gJ f 40 k = e_gJ g 40 k) ∧ e_gI f 40 24 = a ∧ e_gI f 40 25 = b ∧ e_gI f 40 26 = c
theorem s_MFin.arr {g f : e_H} {a b c : Int32} (h : s_MFin g f a b c) {o : Nat} (ho : o ≠ 40) : e_gI f o = e_gI g o := funext fun k => h.1.1 o k (by simpa using ho)
theorem s_MFin.share {g f : e_H} {a b c x : Int32} (h : s_MFin g f a b c) : s_MFin g (e_pI f 40 24 x) x b c := by
  obtain ⟨h1, h2, h3, h4, h5, h6⟩ := h
  refine ⟨h1.pI (by simp), fun k k1 k2 k3 => ?_, h3, by simp [e_gI_pI], by simp [e_gI_pI, h5], by simp [e_gI_pI, h6]⟩
  rw [e_gI_pI, if_neg (by omega)]
  exact h2 k k1 k2 k3
theorem s_MFin.other {g f : e_H} {a b c x : Int32} (h : s_MFin g f a b c) : s_MFin g (e_pI f 40 25 x) a x c := by
  obtain ⟨h1, h2, h3, h4, h5, h6⟩ := h
  refine ⟨h1.pI (by simp), fun k k1 k2 k3 => ?_, h3, by simp [e_gI_pI, h4], by simp [e_gI_pI], by simp [e_gI_pI, h6]⟩
  rw [e_gI_pI, if_neg (by omega)]
  exact h2 k k1 k2 k3
theorem s_MFin.inR {g f : e_H} {a b c x : Int32} (h : s_MFin g f a b c) : s_MFin g (e_pI f 40 26 x) a b x := by
  obtain ⟨h1, h2, h3, h4, h5, h6⟩ := h
  refine ⟨h1.pI (by simp), fun k k1 k2 k3 => ?_, h3, by simp [e_gI_pI, h4], by simp [e_gI_pI, h5], by simp [e_gI_pI]⟩
  rw [e_gI_pI, if_neg (by omega)]
  exact h2 k k1 k2 k3
set_option maxRecDepth 100000 in
theorem r_M_prod_loop {d n : Nat} {b c : Int32} (hn : n ≤ 24) {g : e_H} (hg : e_gI g 40 0 = nI n) : ∀ (m k : Nat) (f : e_H) (a4 a5 : Value), k + m = n + 1 → s_MFin g f (s_prod (e_gI g 49) (e_gI g 50) (e_gI g 48) k).1 b c → ∃ f2, e_F kX4_byProducts (e_X e_pg d) 4 [.ref 40, .long (s_prod (e_gI g 49) (e_gI g 50) (e_gI g 48) k).2, .null, .int (nI k), a4, a5] [] f = some (none, f2) ∧ s_MFin g f2 (s_prod (e_gI g 49) (e_gI g 50) (e_gI g 48) (n + 1)).1 b c := by
  intro m
  induction m with
  | zero =>
    intro k f a4 a5 hk hF
    have hk : k = n + 1 := by omega
    subst hk
    refine ⟨f, ?_, hF⟩
    have hc : nI n < nI (n + 1) := nI_lt (by omega) (by omega)
    have hw2 : e_gI f 40 0 = nI n := by rw [hF.2.1 0 (by decide) (by decide) (by decide)]; exact hg
    rw [zX4_byProducts_4]
    simp only [zX4_byProducts_5, zX4_byProducts_6, zX4_byProducts_9, zX4_byProducts_12, zX4_byProducts_13, zX4_byProducts_16, zX4_byProducts_17, zX4_byProducts_18, zX4_byProducts_19, zX4_byProducts_20, zX4_byProducts_23, zX4_byProducts_24, zX4_byProducts_25, zX4_byProducts_26, zX4_byProducts_27, zX4_byProducts_29, zX4_byProducts_30, zX4_byProducts_33, zX4_byProducts_34, zX4_byProducts_35, zX4_byProducts_38, zX4_byProducts_39, zX4_byProducts_42, zX4_byProducts_44, zX4_byProducts_47, zX4_byProducts_49, zX4_byProducts_50, zX4_byProducts_51, zX4_byProducts_54, zX4_byProducts_55, zX4_byProducts_56, zX4_byProducts_59, zX4_byProducts_61, zX4_byProducts_62, zX4_byProducts_65, zX4_byProducts_68, hw2, hc, e_k_int, e_k_ref, e_k_null, e_k_long, e_k_ret, e_cats_nil, e_cats_int, e_cats_ref, e_cats_ret, e_cats_long, Option.toList_some, Option.toList_none, List.nil_append, List.cons_append, Option.bind_some, Nat.reduceAdd, Nat.reduceLeDiff, Nat.add_zero, if_true, if_false, true_and, and_true, and_self, Int32.reduceToNatClampNeg]
  | succ m ih =>
    intro k f a4 a5 hk hF
    have hc : ¬ nI n < nI k := nI_nlt (by omega) (by omega)
    have hb : e_inb (nI k) 25 = true := e_inb_nI (by omega) (by decide)
    have hcl : (nI k).toNatClampNeg = k := nI_clamp (by omega)
    have hw2 : e_gI f 40 0 = nI n := by rw [hF.2.1 0 (by decide) (by decide) (by decide)]; exact hg
    have r0 : e_gI f 49 = e_gI g 49 := hF.arr (by decide)
    have r1 : e_gI f 50 = e_gI g 50 := hF.arr (by decide)
    have r3 : e_gI f 48 = e_gI g 48 := hF.arr (by decide)
    have f24 := hF.2.2.2.1
    have q := fun f a4 a5 hf => ih (k + 1) f a4 a5 (by omega) hf
    simp only [s_prod, s_pst] at q
    rw [zX4_byProducts_4]
    by_cases c1 : e_gI g 48 k = 0
    · simp only [c1, if_true] at q
      simp only [zX4_byProducts_5, zX4_byProducts_6, zX4_byProducts_9, zX4_byProducts_12, zX4_byProducts_13, zX4_byProducts_16, zX4_byProducts_17, zX4_byProducts_18, zX4_byProducts_19, zX4_byProducts_20, zX4_byProducts_23, zX4_byProducts_24, zX4_byProducts_25, zX4_byProducts_26, zX4_byProducts_27, zX4_byProducts_29, zX4_byProducts_30, zX4_byProducts_33, zX4_byProducts_34, zX4_byProducts_35, zX4_byProducts_38, zX4_byProducts_39, zX4_byProducts_42, zX4_byProducts_44, zX4_byProducts_47, zX4_byProducts_49, zX4_byProducts_50, zX4_byProducts_51, zX4_byProducts_54, zX4_byProducts_55, zX4_byProducts_56, zX4_byProducts_59, zX4_byProducts_61, zX4_byProducts_62, zX4_byProducts_65, zX4_byProducts_68, hw2, hc, hb, hcl, lc_le, r0, r1, r3, c1, nI_1, e_k_int, e_k_ref, e_k_null, e_k_long, e_k_ret, e_cats_nil, e_cats_int, e_cats_ref, e_cats_ret, e_cats_long, Option.toList_some, Option.toList_none, List.nil_append, List.cons_append, Option.bind_some, Nat.reduceAdd, Nat.reduceLeDiff, Nat.add_zero, if_true, if_false, true_and, and_true, and_self, Int32.reduceToNatClampNeg, ok_1, ok_2, ok_3, ok_4, ok_5, ok_6, ok_7, ok_8, ok_9, ok_30, ok_31, ok_32, ok_33, ok_34, ok_35, ok_36, ok_37, ok_38, ok_39, ok_40, ok_41, ok_42, ok_43, ok_44, ok_45, ok_46, ok_47, ok_48, ok_49, ok_50, ok_51, ok_52, ln_1, ln_2, ln_4, ln_5, ln_6, ln_7, ln_8, ln_30, ln_31, ln_32, ln_33, ln_34, ln_35, ln_36, ln_37, ln_38, ln_39, ln_41, ln_42, ln_43, ln_44, ln_45, ln_46, ln_47, ln_48, ln_49, ln_50, ln_51, ln_52]
      exact q _ _ _ hF
    · by_cases c2 : (s_prod (e_gI g 49) (e_gI g 50) (e_gI g 48) k).1 = -5
      · simp only [c1, c2, if_true, if_false] at q
        simp only [zX4_byProducts_5, zX4_byProducts_6, zX4_byProducts_9, zX4_byProducts_12, zX4_byProducts_13, zX4_byProducts_16, zX4_byProducts_17, zX4_byProducts_18, zX4_byProducts_19, zX4_byProducts_20, zX4_byProducts_23, zX4_byProducts_24, zX4_byProducts_25, zX4_byProducts_26, zX4_byProducts_27, zX4_byProducts_29, zX4_byProducts_30, zX4_byProducts_33, zX4_byProducts_34, zX4_byProducts_35, zX4_byProducts_38, zX4_byProducts_39, zX4_byProducts_42, zX4_byProducts_44, zX4_byProducts_47, zX4_byProducts_49, zX4_byProducts_50, zX4_byProducts_51, zX4_byProducts_54, zX4_byProducts_55, zX4_byProducts_56, zX4_byProducts_59, zX4_byProducts_61, zX4_byProducts_62, zX4_byProducts_65, zX4_byProducts_68, hw2, hc, hb, hcl, lc_le, r0, r1, r3, f24, c1, c2, nI_1, e_k_int, e_k_ref, e_k_null, e_k_long, e_k_ret, e_cats_nil, e_cats_int, e_cats_ref, e_cats_ret, e_cats_long, Option.toList_some, Option.toList_none, List.nil_append, List.cons_append, Option.bind_some, Nat.reduceAdd, Nat.reduceLeDiff, Nat.add_zero, if_true, if_false, true_and, and_true, and_self, Int32.reduceToNatClampNeg, ok_1, ok_2, ok_3, ok_4, ok_5, ok_6, ok_7, ok_8, ok_9, ok_30, ok_31, ok_32, ok_33, ok_34, ok_35, ok_36, ok_37, ok_38, ok_39, ok_40, ok_41, ok_42, ok_43, ok_44, ok_45, ok_46, ok_47, ok_48, ok_49, ok_50, ok_51, ok_52, ln_1, ln_2, ln_4, ln_5, ln_6, ln_7, ln_8, ln_30, ln_31, ln_32, ln_33, ln_34, ln_35, ln_36, ln_37, ln_38, ln_39, ln_41, ln_42, ln_43, ln_44, ln_45, ln_46, ln_47, ln_48, ln_49, ln_50, ln_51, ln_52]
        exact q _ _ _ hF.share
      · by_cases c3 : (e_gI g 49 k).toInt64 * (e_gI g 50 k).toInt64 ≤ (s_prod (e_gI g 49) (e_gI g 50) (e_gI g 48) k).2
        · simp only [c1, c2, c3, if_true, if_false] at q
          simp only [zX4_byProducts_5, zX4_byProducts_6, zX4_byProducts_9, zX4_byProducts_12, zX4_byProducts_13, zX4_byProducts_16, zX4_byProducts_17, zX4_byProducts_18, zX4_byProducts_19, zX4_byProducts_20, zX4_byProducts_23, zX4_byProducts_24, zX4_byProducts_25, zX4_byProducts_26, zX4_byProducts_27, zX4_byProducts_29, zX4_byProducts_30, zX4_byProducts_33, zX4_byProducts_34, zX4_byProducts_35, zX4_byProducts_38, zX4_byProducts_39, zX4_byProducts_42, zX4_byProducts_44, zX4_byProducts_47, zX4_byProducts_49, zX4_byProducts_50, zX4_byProducts_51, zX4_byProducts_54, zX4_byProducts_55, zX4_byProducts_56, zX4_byProducts_59, zX4_byProducts_61, zX4_byProducts_62, zX4_byProducts_65, zX4_byProducts_68, hw2, hc, hb, hcl, lc_le, r0, r1, r3, f24, c1, c2, c3, nI_1, e_k_int, e_k_ref, e_k_null, e_k_long, e_k_ret, e_cats_nil, e_cats_int, e_cats_ref, e_cats_ret, e_cats_long, Option.toList_some, Option.toList_none, List.nil_append, List.cons_append, Option.bind_some, Nat.reduceAdd, Nat.reduceLeDiff, Nat.add_zero, if_true, if_false, true_and, and_true, and_self, Int32.reduceToNatClampNeg, ok_1, ok_2, ok_3, ok_4, ok_5, ok_6, ok_7, ok_8, ok_9, ok_30, ok_31, ok_32, ok_33, ok_34, ok_35, ok_36, ok_37, ok_38, ok_39, ok_40, ok_41, ok_42, ok_43, ok_44, ok_45, ok_46, ok_47, ok_48, ok_49, ok_50, ok_51, ok_52, ln_1, ln_2, ln_4, ln_5, ln_6, ln_7, ln_8, ln_30, ln_31, ln_32, ln_33, ln_34, ln_35, ln_36, ln_37, ln_38, ln_39, ln_41, ln_42, ln_43, ln_44, ln_45, ln_46, ln_47, ln_48, ln_49, ln_50, ln_51, ln_52]
          exact q _ _ _ hF
        · simp only [c1, c2, c3, if_false] at q
          simp only [zX4_byProducts_5, zX4_byProducts_6, zX4_byProducts_9, zX4_byProducts_12, zX4_byProducts_13, zX4_byProducts_16, zX4_byProducts_17, zX4_byProducts_18, zX4_byProducts_19, zX4_byProducts_20, zX4_byProducts_23, zX4_byProducts_24, zX4_byProducts_25, zX4_byProducts_26, zX4_byProducts_27, zX4_byProducts_29, zX4_byProducts_30, zX4_byProducts_33, zX4_byProducts_34, zX4_byProducts_35, zX4_byProducts_38, zX4_byProducts_39, zX4_byProducts_42, zX4_byProducts_44, zX4_byProducts_47, zX4_byProducts_49, zX4_byProducts_50, zX4_byProducts_51, zX4_byProducts_54, zX4_byProducts_55, zX4_byProducts_56, zX4_byProducts_59, zX4_byProducts_61, zX4_byProducts_62, zX4_byProducts_65, zX4_byProducts_68, hw2, hc, hb, hcl, lc_le, r0, r1, r3, f24, c1, c2, c3, nI_1, e_k_int, e_k_ref, e_k_null, e_k_long, e_k_ret, e_cats_nil, e_cats_int, e_cats_ref, e_cats_ret, e_cats_long, Option.toList_some, Option.toList_none, List.nil_append, List.cons_append, Option.bind_some, Nat.reduceAdd, Nat.reduceLeDiff, Nat.add_zero, if_true, if_false, true_and, and_true, and_self, Int32.reduceToNatClampNeg, ok_1, ok_2, ok_3, ok_4, ok_5, ok_6, ok_7, ok_8, ok_9, ok_30, ok_31, ok_32, ok_33, ok_34, ok_35, ok_36, ok_37, ok_38, ok_39, ok_40, ok_41, ok_42, ok_43, ok_44, ok_45, ok_46, ok_47, ok_48, ok_49, ok_50, ok_51, ok_52, ln_1, ln_2, ln_4, ln_5, ln_6, ln_7, ln_8, ln_30, ln_31, ln_32, ln_33, ln_34, ln_35, ln_36, ln_37, ln_38, ln_39, ln_41, ln_42, ln_43, ln_44, ln_45, ln_46, ln_47, ln_48, ln_49, ln_50, ln_51, ln_52]
          exact q _ _ _ hF.share
theorem r_M_byProducts {d n : Nat} {b c : Int32} (hn : n ≤ 24) {g f : e_H} (hg : e_gI g 40 0 = nI n) (hF : s_MFin g f (-5) b c) : ∃ f2, e_X e_pg (d + 1) 114 [.ref 40] f = some (none, f2) ∧ s_MFin g f2 (s_prod (e_gI g 49) (e_gI g 50) (e_gI g 48) (n + 1)).1 b c := by
  rw [xX4_byProducts]
  simp only [zX4_byProducts_0, zX4_byProducts_1, zX4_byProducts_2, zX4_byProducts_3, e_k_int, e_k_ref, e_k_null, e_k_long, e_k_ret, e_cats_nil, e_cats_int, e_cats_ref, e_cats_ret, e_cats_long, Option.toList_some, Option.toList_none, List.nil_append, List.cons_append, Option.bind_some, Nat.reduceAdd, Nat.reduceLeDiff, Nat.add_zero, if_true, if_false, true_and, and_true, and_self, Int32.reduceToNatClampNeg]
  exact r_M_prod_loop hn hg (n + 1) 0 f _ _ (by omega) hF
theorem r_M_gainOf0 {d : Nat} {x : Int32} {g : e_H} (hx : e_inb x 25 = true) : e_X e_pg (d + 1) 115 [.ref 40, .int 0, .int x] g = some (some (.int (e_gI g 49 x.toNatClampNeg)), g) := by
  rw [xX4_gainOf]
  simp only [zX4_gainOf_0, zX4_gainOf_1, zX4_gainOf_4, zX4_gainOf_5, zX4_gainOf_8, zX4_gainOf_9, zX4_gainOf_10, zX4_gainOf_13, zX4_gainOf_14, zX4_gainOf_17, zX4_gainOf_18, zX4_gainOf_19, hx, not_true_eq_false, e_k_int, e_k_ref, e_k_null, e_k_long, e_k_ret, e_cats_nil, e_cats_int, e_cats_ref, e_cats_ret, e_cats_long, Option.toList_some, Option.toList_none, List.nil_append, List.cons_append, Option.bind_some, Nat.reduceAdd, Nat.reduceLeDiff, Nat.add_zero, if_true, if_false, true_and, and_true, and_self, Int32.reduceToNatClampNeg, ok_1, ok_2, ok_3, ok_4, ok_5, ok_6, ok_7, ok_8, ok_9, ok_30, ok_31, ok_32, ok_33, ok_34, ok_35, ok_36, ok_37, ok_38, ok_39, ok_40, ok_41, ok_42, ok_43, ok_44, ok_45, ok_46, ok_47, ok_48, ok_49, ok_50, ok_51, ok_52, ln_1, ln_2, ln_4, ln_5, ln_6, ln_7, ln_8, ln_30, ln_31, ln_32, ln_33, ln_34, ln_35, ln_36, ln_37, ln_38, ln_39, ln_41, ln_42, ln_43, ln_44, ln_45, ln_46, ln_47, ln_48, ln_49, ln_50, ln_51, ln_52]
theorem r_M_gainOf1 {d : Nat} {x : Int32} {g : e_H} (hx : e_inb x 25 = true) : e_X e_pg (d + 1) 115 [.ref 40, .int 1, .int x] g = some (some (.int (e_gI g 50 x.toNatClampNeg)), g) := by
  rw [xX4_gainOf]
  simp only [zX4_gainOf_0, zX4_gainOf_1, zX4_gainOf_4, zX4_gainOf_5, zX4_gainOf_8, zX4_gainOf_9, zX4_gainOf_10, zX4_gainOf_13, zX4_gainOf_14, zX4_gainOf_17, zX4_gainOf_18, zX4_gainOf_19, hx, ne_0_1, ne_0_2, ne_0_3, ne_1_0, ne_1_2, ne_1_3, ne_2_0, ne_2_1, ne_2_3, ne_3_0, ne_3_1, ne_3_2, not_false_eq_true, e_k_int, e_k_ref, e_k_null, e_k_long, e_k_ret, e_cats_nil, e_cats_int, e_cats_ref, e_cats_ret, e_cats_long, Option.toList_some, Option.toList_none, List.nil_append, List.cons_append, Option.bind_some, Nat.reduceAdd, Nat.reduceLeDiff, Nat.add_zero, if_true, if_false, true_and, and_true, and_self, Int32.reduceToNatClampNeg, ok_1, ok_2, ok_3, ok_4, ok_5, ok_6, ok_7, ok_8, ok_9, ok_30, ok_31, ok_32, ok_33, ok_34, ok_35, ok_36, ok_37, ok_38, ok_39, ok_40, ok_41, ok_42, ok_43, ok_44, ok_45, ok_46, ok_47, ok_48, ok_49, ok_50, ok_51, ok_52, ln_1, ln_2, ln_4, ln_5, ln_6, ln_7, ln_8, ln_30, ln_31, ln_32, ln_33, ln_34, ln_35, ln_36, ln_37, ln_38, ln_39, ln_41, ln_42, ln_43, ln_44, ln_45, ln_46, ln_47, ln_48, ln_49, ln_50, ln_51, ln_52]
