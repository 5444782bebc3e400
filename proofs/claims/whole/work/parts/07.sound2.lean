theorem e_fs_at {ad : Nat → Nat} {h : e_H} {o ci f : Nat} (hf : f < e_nf ci) : ((List.range (e_nf ci)).map (fun k => e_fv ad h o (e_ty ci k) k))[f]? = some (e_fv ad h o (e_ty ci f) f) := by
  rw [List.getElem?_map, List.getElem?_range hf]
  rfl
theorem e_fs_set {ad : Nat → Nat} {h h2 : e_H} {o ci f : Nat} {v : Value} (hf : f < e_nf ci) (hv : e_fv ad h2 o (e_ty ci f) f = v) (hn : ∀ k, k ≠ f → e_fv ad h2 o (e_ty ci k) k = e_fv ad h o (e_ty ci k) k) : ((List.range (e_nf ci)).map (fun k => e_fv ad h o (e_ty ci k) k)).set f v = (List.range (e_nf ci)).map (fun k => e_fv ad h2 o (e_ty ci k) k) := by
  apply List.ext_getElem?
  intro j
  by_cases hj : j = f
  · subst hj
    rw [List.getElem?_set_self (by rw [List.length_map, List.length_range]; exact hf), e_fs_at hf, hv]
  · rw [List.getElem?_set_ne (fun q => hj q.symm)]
    by_cases hl : j < e_nf ci
    · rw [e_fs_at hl, e_fs_at hl, hn j hj]
    · rw [List.getElem?_eq_none (by rw [List.length_map, List.length_range]; omega), List.getElem?_eq_none (by rw [List.length_map, List.length_range]; omega)]
theorem e_u_at {α : Type} {g : Nat → Nat → α} {i k : Nat} {v : α} : e_u g i k v i k = v := if_pos ⟨rfl, rfl⟩
theorem e_u_nk {α : Type} {g : Nat → Nat → α} {i k a b : Nat} {v : α} (h : b ≠ k) : e_u g i k v a b = g a b := if_neg (fun q => h q.2)

theorem u_getI {pg : e_Pg} {md : e_Md} {own : String} {cc : ByteArray} {nL : Nat} {ret : Option FieldType} {pc : Nat} {ci f index : Nat} {C : String} {T : u_T} {N : Nat} (hc : vwCl[ci]? = some (C, T, N)) (hN : N = e_nf ci) (hf : f < N) (hin : ∀ w ∈ u_ws C T N, w ∈ e_tbl) (hty : e_ty ci f = .int) (hl : Cond.fieldLink own index (T f).1 (T f).2.1 (T f).2.2.1 ∈ e_tbl) (hd : decode cc pc = .ok (.getfield index, 3)) : e_Snd pg md own cc nL ret pc (o_getI ci f (pc + 3)) := by
  intro d hIH p l e R s m args below meth c cells slots Q D cA ad ro base A K ls st h out ho H locs lc hS hL
  obtain ⟨hx, hb, hml, hr, hown, hts, hlocks, hK, hR, hAd, hAb, hJ, hRo⟩ := K
  subst hN
  unfold o_getI at ho
  split at ho
  · rename_i o r
    obtain ⟨hk, ho⟩ := e_cond ho
    cases ho
    intro kk
    have hv : e_fv ad h o (e_ty ci f) f = .int (h.1 o f) := by rw [hty]; rfl
    exact va_get (D := D) (v := .int (h.1 o f)) hx hb hts hin hown hK hS.1 o (e_w_at hk (fun z => e_cell_o z)) hc f hf (hts _ hl) (fun _ h9 => h9) (by rw [e_fs_at hf, hv]) hd (kk H locs lc hS hL)
  · cases ho

theorem u_getJ {pg : e_Pg} {md : e_Md} {own : String} {cc : ByteArray} {nL : Nat} {ret : Option FieldType} {pc : Nat} {ci f index : Nat} {C : String} {T : u_T} {N : Nat} (hc : vwCl[ci]? = some (C, T, N)) (hN : N = e_nf ci) (hf : f < N) (hin : ∀ w ∈ u_ws C T N, w ∈ e_tbl) (hty : e_ty ci f = .long) (hl : Cond.fieldLink own index (T f).1 (T f).2.1 (T f).2.2.1 ∈ e_tbl) (hd : decode cc pc = .ok (.getfield index, 3)) : e_Snd pg md own cc nL ret pc (o_getJ ci f (pc + 3)) := by
  intro d hIH p l e R s m args below meth c cells slots Q D cA ad ro base A K ls st h out ho H locs lc hS hL
  obtain ⟨hx, hb, hml, hr, hown, hts, hlocks, hK, hR, hAd, hAb, hJ, hRo⟩ := K
  subst hN
  unfold o_getJ at ho
  split at ho
  · rename_i o r
    obtain ⟨hk, ho⟩ := e_cond ho
    cases ho
    intro kk
    have hv : e_fv ad h o (e_ty ci f) f = .long (h.2 o f) := by rw [hty]; rfl
    exact va_get (D := D) (v := .long (h.2 o f)) hx hb hts hin hown hK hS.1 o (e_w_at hk (fun z => e_cell_o z)) hc f hf (hts _ hl) (fun _ h9 => h9) (by rw [e_fs_at hf, hv]) hd (kk H locs lc hS hL)
  · cases ho

theorem u_getR {pg : e_Pg} {md : e_Md} {own : String} {cc : ByteArray} {nL : Nat} {ret : Option FieldType} {pc : Nat} {ci f index : Nat} {C : String} {T : u_T} {N : Nat} (hc : vwCl[ci]? = some (C, T, N)) (hN : N = e_nf ci) (hf : f < N) (hin : ∀ w ∈ u_ws C T N, w ∈ e_tbl) (hty : ∀ (ad : Nat → Nat) (h : e_H) (o : Nat), e_fv ad h o (e_ty ci f) f = .ref (ad (e_rf o f))) (hl : Cond.fieldLink own index (T f).1 (T f).2.1 (T f).2.2.1 ∈ e_tbl) (hd : decode cc pc = .ok (.getfield index, 3)) : e_Snd pg md own cc nL ret pc (o_getR ci f (pc + 3)) := by
  intro d hIH p l e R s m args below meth c cells slots Q D cA ad ro base A K ls st h out ho H locs lc hS hL
  obtain ⟨hx, hb, hml, hr, hown, hts, hlocks, hK, hR, hAd, hAb, hJ, hRo⟩ := K
  subst hN
  unfold o_getR at ho
  split at ho
  · rename_i o r
    obtain ⟨hk, ho⟩ := e_cond ho
    cases ho
    intro kk
    have hv : e_fv ad h o (e_ty ci f) f = .ref (ad (e_rf o f)) := hty ad h o
    exact va_get (D := D) (v := .ref (ad (e_rf o f))) hx hb hts hin hown hK hS.1 o (e_w_at hk (fun z => e_cell_o z)) hc f hf (hts _ hl) (fun _ h9 => h9) (by rw [e_fs_at hf, hv]) hd (kk H locs lc hS hL)
  · cases ho

theorem u_putI {pg : e_Pg} {md : e_Md} {own : String} {cc : ByteArray} {nL : Nat} {ret : Option FieldType} {pc : Nat} {ci f index : Nat} {C : String} {T : u_T} {N : Nat} (hc : vwCl[ci]? = some (C, T, N)) (hN : N = e_nf ci) (hf : f < N) (hin : ∀ w ∈ u_ws C T N, w ∈ e_tbl) (ty0 : Nat → FieldType) (hty0 : ∀ k, k < N → parseFieldDescriptor (T k).2.2.1 = some (ty0 k)) (hnm : ∀ a, a < N → ∀ b, b < N → a ≠ b → (T a).2.1 ≠ (T b).2.1) (hfin : (T f).2.2.2 = false) (hpd : parseFieldDescriptor (T f).2.2.1 = some .int) (hty : e_ty ci f = .int) (hl : Cond.fieldLink own index (T f).1 (T f).2.1 (T f).2.2.1 ∈ e_tbl) (hd : decode cc pc = .ok (.putfield index, 3)) : e_Snd pg md own cc nL ret pc (o_putI ci f (pc + 3)) := by
  intro d hIH p l e R s m args below meth c cells slots Q D cA ad ro base A K ls st h out ho H locs lc hS hL
  obtain ⟨hx, hb, hml, hr, hown, hts, hlocks, hK, hR, hAd, hAb, hJ, hRo⟩ := K
  subst hN
  unfold o_putI at ho
  split at ho
  · rename_i v o r
    obtain ⟨hk, ho⟩ := e_cond ho
    cases ho
    intro kk
    refine va_put (D := D) (v := .int v) (ty := .int) hx hb hts hin ty0 hty0 hnm hown hK hS.1 (e_wD hJ hAd) hS.2 o (e_w_at hk (fun z => e_cell_o z)) hc f hf (hts _ hl) (fun _ h9 => h9) hfin hpd rfl rfl (by rw [List.length_map, List.length_range]; exact hf) hd (fun H1 locs1 hP1 hD1 hS1 => ?_)
    refine kk H1 locs1 lc ⟨?_, hS1⟩ hL
    rw [← e_w_set (h := h) (h2 := (e_u h.1 o f v, h.2)) (e_ok_lt hk).1 (fun j hj => e_u_ne hj) (fun j hj => rfl) (e_cell_o (e_ok_lt hk).2).symm]
    rw [← e_fs_set (h := h) (h2 := (e_u h.1 o f v, h.2)) (v := .int v) hf (by rw [hty]; show Value.int (e_u _ o f v o f) = _; rw [e_u_at]) (fun k hk9 => by
      unfold e_fv
      dsimp only
      rw [e_u_nk hk9])]
    exact hP1
  · cases ho

theorem u_putJ {pg : e_Pg} {md : e_Md} {own : String} {cc : ByteArray} {nL : Nat} {ret : Option FieldType} {pc : Nat} {ci f index : Nat} {C : String} {T : u_T} {N : Nat} (hc : vwCl[ci]? = some (C, T, N)) (hN : N = e_nf ci) (hf : f < N) (hin : ∀ w ∈ u_ws C T N, w ∈ e_tbl) (ty0 : Nat → FieldType) (hty0 : ∀ k, k < N → parseFieldDescriptor (T k).2.2.1 = some (ty0 k)) (hnm : ∀ a, a < N → ∀ b, b < N → a ≠ b → (T a).2.1 ≠ (T b).2.1) (hfin : (T f).2.2.2 = false) (hpd : parseFieldDescriptor (T f).2.2.1 = some .long) (hty : e_ty ci f = .long) (hl : Cond.fieldLink own index (T f).1 (T f).2.1 (T f).2.2.1 ∈ e_tbl) (hd : decode cc pc = .ok (.putfield index, 3)) : e_Snd pg md own cc nL ret pc (o_putJ ci f (pc + 3)) := by
  intro d hIH p l e R s m args below meth c cells slots Q D cA ad ro base A K ls st h out ho H locs lc hS hL
  obtain ⟨hx, hb, hml, hr, hown, hts, hlocks, hK, hR, hAd, hAb, hJ, hRo⟩ := K
  subst hN
  unfold o_putJ at ho
  split at ho
  · rename_i v o r
    obtain ⟨hk, ho⟩ := e_cond ho
    cases ho
    intro kk
    refine va_put (D := D) (v := .long v) (ty := .long) hx hb hts hin ty0 hty0 hnm hown hK hS.1 (e_wD hJ hAd) hS.2 o (e_w_at hk (fun z => e_cell_o z)) hc f hf (hts _ hl) (fun _ h9 => h9) hfin hpd rfl rfl (by rw [List.length_map, List.length_range]; exact hf) hd (fun H1 locs1 hP1 hD1 hS1 => ?_)
    refine kk H1 locs1 lc ⟨?_, hS1⟩ hL
    rw [← e_w_set (h := h) (h2 := (h.1, e_u h.2 o f v)) (e_ok_lt hk).1 (fun j hj => rfl) (fun j hj => e_u_ne hj) (e_cell_o (e_ok_lt hk).2).symm]
    rw [← e_fs_set (h := h) (h2 := (h.1, e_u h.2 o f v)) (v := .long v) hf (by rw [hty]; show Value.long (e_u _ o f v o f) = _; rw [e_u_at]) (fun k hk9 => by
      unfold e_fv
      dsimp only
      rw [e_u_nk hk9])]
    exact hP1
  · cases ho

theorem u_iald {pg : e_Pg} {md : e_Md} {own : String} {cc : ByteArray} {nL : Nat} {ret : Option FieldType} {pc : Nat} (hd : decode cc pc = .ok (.iaload, 1)) : e_Snd pg md own cc nL ret pc (o_iald (pc + 1)) := by
  intro d hIH p l e R s m args below meth c cells slots Q D cA ad ro base A K ls st h out ho H locs lc hS hL
  obtain ⟨hx, hb, hml, hr, hown, hts, hlocks, hK, hR, hAd, hAb, hJ, hRo⟩ := K
  unfold o_iald at ho
  split at ho
  · rename_i i a r
    obtain ⟨hk, ho⟩ := e_cond ho
    simp only [Bool.and_eq_true] at hk
    cases ho
    intro kk
    exact va_iald hx hb hK hS.1 a 0 (e_w_at hk.1 (fun z => e_cell_0 z)) rfl (e_inb_in hk.2) hd (kk H locs lc hS hL)
  · cases ho

theorem u_zald {pg : e_Pg} {md : e_Md} {own : String} {cc : ByteArray} {nL : Nat} {ret : Option FieldType} {pc : Nat} (hd : decode cc pc = .ok (.baload, 1)) : e_Snd pg md own cc nL ret pc (o_zald (pc + 1)) := by
  intro d hIH p l e R s m args below meth c cells slots Q D cA ad ro base A K ls st h out ho H locs lc hS hL
  obtain ⟨hx, hb, hml, hr, hown, hts, hlocks, hK, hR, hAd, hAb, hJ, hRo⟩ := K
  unfold o_zald at ho
  split at ho
  · rename_i i a r
    obtain ⟨hk, ho⟩ := e_cond ho
    simp only [Bool.and_eq_true] at hk
    cases ho
    intro kk
    exact va_zald hx hb hK hS.1 a 2 (e_w_at hk.1 (fun z => e_cell_2 z)) rfl (e_inb_in hk.2) hd (kk H locs lc hS hL)
  · cases ho

theorem u_lald {pg : e_Pg} {md : e_Md} {own : String} {cc : ByteArray} {nL : Nat} {ret : Option FieldType} {pc : Nat} (hd : decode cc pc = .ok (.laload, 1)) : e_Snd pg md own cc nL ret pc (o_lald (pc + 1)) := by
  intro d hIH p l e R s m args below meth c cells slots Q D cA ad ro base A K ls st h out ho H locs lc hS hL
  obtain ⟨hx, hb, hml, hr, hown, hts, hlocks, hK, hR, hAd, hAb, hJ, hRo⟩ := K
  unfold o_lald at ho
  split at ho
  · rename_i i a r
    obtain ⟨hk, ho⟩ := e_cond ho
    simp only [Bool.and_eq_true] at hk
    cases ho
    intro kk
    exact va_lald hx hb hK hS.1 a 1 (e_w_at hk.1 (fun z => e_cell_1 z)) rfl (e_inb_in hk.2) hd (kk H locs lc hS hL)
  · cases ho

theorem u_aald3 {pg : e_Pg} {md : e_Md} {own : String} {cc : ByteArray} {nL : Nat} {ret : Option FieldType} {pc : Nat} (hd : decode cc pc = .ok (.aaload, 1)) : e_Snd pg md own cc nL ret pc (o_aald 3 (pc + 1)) := by
  intro d hIH p l e R s m args below meth c cells slots Q D cA ad ro base A K ls st h out ho H locs lc hS hL
  obtain ⟨hx, hb, hml, hr, hown, hts, hlocks, hK, hR, hAd, hAb, hJ, hRo⟩ := K
  unfold o_aald at ho
  split at ho
  · rename_i i a r
    obtain ⟨hk, ho⟩ := e_cond ho
    simp only [Bool.and_eq_true] at hk
    cases ho
    intro kk
    exact va_aldq hx hb hK hS.1 a 3 (e_w_at hk.1 (fun z => e_cell_3 z)) rfl (e_inb_in hk.2) hd (kk H locs lc hS hL)
  · cases ho

theorem u_aald4 {pg : e_Pg} {md : e_Md} {own : String} {cc : ByteArray} {nL : Nat} {ret : Option FieldType} {pc : Nat} (hd : decode cc pc = .ok (.aaload, 1)) : e_Snd pg md own cc nL ret pc (o_aald 4 (pc + 1)) := by
  intro d hIH p l e R s m args below meth c cells slots Q D cA ad ro base A K ls st h out ho H locs lc hS hL
  obtain ⟨hx, hb, hml, hr, hown, hts, hlocks, hK, hR, hAd, hAb, hJ, hRo⟩ := K
  unfold o_aald at ho
  split at ho
  · rename_i i a r
    obtain ⟨hk, ho⟩ := e_cond ho
    simp only [Bool.and_eq_true] at hk
    cases ho
    intro kk
    have hin := e_inb_in hk.2
    have hlt : i.toNatClampNeg < e_len a := Nat.not_le.mp fun q => hin (Or.inr q)
    have ha := e_w_at (ad := ad) (cA := cA) (h := h) hk.1 (fun z => e_cell_4 z)
    exact W.aald (v := .ref (ad (e_rf a i.toNatClampNeg))) (ty := .array .int) hx hb (hS.1 a _ ha) ((hK.2 4 _ rfl).1 (e_len a) (fun j => va_rf (some (ad (e_rf a j))))) rfl (fun q => by cases q) (by show ¬ (i < 0 ∨ (arrV _ _ _).slots.size ≤ _); rw [arrV_size]; exact hin) (by show (arrV _ _ _).slots[_]? = _; rw [arrV_read _ _ hlt]; rfl) rfl rfl hd (kk H locs lc hS hL)
  · cases ho

theorem u_aald5 {pg : e_Pg} {md : e_Md} {own : String} {cc : ByteArray} {nL : Nat} {ret : Option FieldType} {pc : Nat} (hd : decode cc pc = .ok (.aaload, 1)) : e_Snd pg md own cc nL ret pc (o_aald 5 (pc + 1)) := by
  intro d hIH p l e R s m args below meth c cells slots Q D cA ad ro base A K ls st h out ho H locs lc hS hL
  obtain ⟨hx, hb, hml, hr, hown, hts, hlocks, hK, hR, hAd, hAb, hJ, hRo⟩ := K
  unfold o_aald at ho
  split at ho
  · rename_i i a r
    obtain ⟨hk, ho⟩ := e_cond ho
    simp only [Bool.and_eq_true] at hk
    cases ho
    intro kk
    have hin := e_inb_in hk.2
    have hlt : i.toNatClampNeg < e_len a := Nat.not_le.mp fun q => hin (Or.inr q)
    have ha := e_w_at (ad := ad) (cA := cA) (h := h) hk.1 (fun z => e_cell_5 z)
    exact W.aald (v := .ref (ad (e_rf a i.toNatClampNeg))) (ty := .array .long) hx hb (hS.1 a _ ha) ((hK.2 5 _ rfl).1 (e_len a) (fun j => va_rf (some (ad (e_rf a j))))) rfl (fun q => by cases q) (by show ¬ (i < 0 ∨ (arrV _ _ _).slots.size ≤ _); rw [arrV_size]; exact hin) (by show (arrV _ _ _).slots[_]? = _; rw [arrV_read _ _ hlt]; rfl) rfl rfl hd (kk H locs lc hS hL)
  · cases ho

theorem u_iast {pg : e_Pg} {md : e_Md} {own : String} {cc : ByteArray} {nL : Nat} {ret : Option FieldType} {pc : Nat} (hd : decode cc pc = .ok (.iastore, 1)) : e_Snd pg md own cc nL ret pc (o_iast (pc + 1)) := by
  intro d hIH p l e R s m args below meth c cells slots Q D cA ad ro base A K ls st h out ho H locs lc hS hL
  obtain ⟨hx, hb, hml, hr, hown, hts, hlocks, hK, hR, hAd, hAb, hJ, hRo⟩ := K
  unfold o_iast at ho
  split at ho
  · rename_i x i a r
    obtain ⟨hk, ho⟩ := e_cond ho
    simp only [Bool.and_eq_true] at hk
    cases ho
    intro kk
    refine va_iast hx hb hK hS.1 (e_wD hJ hAd) hS.2 a 0 (e_w_at hk.1 (fun z => e_cell_0 z)) rfl (e_inb_in hk.2) hd (fun H1 locs1 hP1 hD1 hS1 => ?_)
    refine kk H1 locs1 lc ⟨?_, hS1⟩ hL
    rw [← e_w_set (h := h) (h2 := (e_u h.1 a i.toNatClampNeg x, h.2)) (e_ok_lt hk.1).1 (fun j hj => e_u_ne hj) (fun j hj => rfl) (e_cell_0 (e_ok_lt hk.1).2).symm]
    dsimp only
    rw [e_u_i]
    exact hP1
  · cases ho

theorem u_zast {pg : e_Pg} {md : e_Md} {own : String} {cc : ByteArray} {nL : Nat} {ret : Option FieldType} {pc : Nat} (hd : decode cc pc = .ok (.bastore, 1)) : e_Snd pg md own cc nL ret pc (o_zast (pc + 1)) := by
  intro d hIH p l e R s m args below meth c cells slots Q D cA ad ro base A K ls st h out ho H locs lc hS hL
  obtain ⟨hx, hb, hml, hr, hown, hts, hlocks, hK, hR, hAd, hAb, hJ, hRo⟩ := K
  unfold o_zast at ho
  split at ho
  · rename_i x i a r
    obtain ⟨hk, ho⟩ := e_cond ho
    simp only [Bool.and_eq_true] at hk
    cases ho
    intro kk
    refine va_zast hx hb hK hS.1 (e_wD hJ hAd) hS.2 a 2 (e_w_at hk.1 (fun z => e_cell_2 z)) rfl (e_inb_in hk.2) hd (fun H1 locs1 hP1 hD1 hS1 => ?_)
    refine kk H1 locs1 lc ⟨?_, hS1⟩ hL
    rw [← e_w_set (h := h) (h2 := (e_u h.1 a i.toNatClampNeg (vp_nar .boolean x), h.2)) (e_ok_lt hk.1).1 (fun j hj => e_u_ne hj) (fun j hj => rfl) (e_cell_2 (e_ok_lt hk.1).2).symm]
    dsimp only
    rw [e_u_i]
    exact hP1
  · cases ho

theorem u_last {pg : e_Pg} {md : e_Md} {own : String} {cc : ByteArray} {nL : Nat} {ret : Option FieldType} {pc : Nat} (hd : decode cc pc = .ok (.lastore, 1)) : e_Snd pg md own cc nL ret pc (o_last (pc + 1)) := by
  intro d hIH p l e R s m args below meth c cells slots Q D cA ad ro base A K ls st h out ho H locs lc hS hL
  obtain ⟨hx, hb, hml, hr, hown, hts, hlocks, hK, hR, hAd, hAb, hJ, hRo⟩ := K
  unfold o_last at ho
  split at ho
  · rename_i x i a r
    obtain ⟨hk, ho⟩ := e_cond ho
    simp only [Bool.and_eq_true] at hk
    cases ho
    intro kk
    refine va_last hx hb hK hS.1 (e_wD hJ hAd) hS.2 a 1 (e_w_at hk.1 (fun z => e_cell_1 z)) rfl (e_inb_in hk.2) hd (fun H1 locs1 hP1 hD1 hS1 => ?_)
    refine kk H1 locs1 lc ⟨?_, hS1⟩ hL
    rw [← e_w_set (h := h) (h2 := (h.1, e_u h.2 a i.toNatClampNeg x)) (e_ok_lt hk.1).1 (fun j hj => rfl) (fun j hj => e_u_ne hj) (e_cell_1 (e_ok_lt hk.1).2).symm]
    dsimp only
    rw [e_u_l]
    exact hP1
  · cases ho

