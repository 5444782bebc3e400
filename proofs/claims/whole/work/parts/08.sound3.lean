theorem u_alen {pg : e_Pg} {md : e_Md} {own : String} {cc : ByteArray} {nL : Nat} {ret : Option FieldType} {pc : Nat} (hd : decode cc pc = .ok (.arraylength, 1)) : e_Snd pg md own cc nL ret pc (o_alen (pc + 1)) := by
  intro d hIH p l e R s m args below meth c cells slots Q D cA ad ro base A K ls st h out ho H locs lc hS hL
  obtain ⟨hx, hb, hml, hr, hown, hts, hlocks, hK, hR, hAd, hAb, hJ, hRo⟩ := K
  unfold o_alen at ho
  split at ho
  · rename_i a r
    obtain ⟨hk, ho⟩ := e_cond ho
    simp only [Bool.and_eq_true] at hk
    have h1 : a < e_N := Nat.ble_eq.mp hk.1
    have h2 : e_kd a ≤ 2 := Nat.ble_eq.mp hk.2
    cases ho
    intro kk
    rcases (show e_kd a = 0 ∨ e_kd a = 1 ∨ e_kd a = 2 by omega) with z | z | z
    · exact va_alen (x := (e_len a, .inl (h.1 a))) hx hb hK hS.1 a 0 (by rw [e_w_get h1, e_cell_0 z]) rfl rfl hd (kk H locs lc hS hL)
    · exact va_alen (x := (e_len a, .inr (.inl (h.2 a)))) hx hb hK hS.1 a 1 (by rw [e_w_get h1, e_cell_1 z]) rfl rfl hd (kk H locs lc hS hL)
    · exact va_alen (x := (e_len a, .inl (h.1 a))) hx hb hK hS.1 a 2 (by rw [e_w_get h1, e_cell_2 z]) rfl rfl hd (kk H locs lc hS hL)
  · cases ho

theorem u_LEAST {pg : e_Pg} {md : e_Md} {own : String} {cc : ByteArray} {nL : Nat} {ret : Option FieldType} {pc : Nat} {index : Nat} (hl : Cond.fieldLink own index "HardEnvoys" "LEAST" "[I" ∈ e_tbl) (hd : decode cc pc = .ok (.getstatic index, 3)) : e_Snd pg md own cc nL ret pc (o_const (.retAddr 1) (pc + 3)) := by
  intro d hIH p l e R s m args below meth c cells slots Q D cA ad ro base A K ls st h out ho H locs lc hS hL
  obtain ⟨hx, hb, hml, hr, hown, hts, hlocks, hK, hR, hAd, hAb, hJ, hRo⟩ := K
  unfold o_const at ho
  cases ho
  intro kk
  obtain ⟨r1, r2, r3, r4, r5, r6, r7, r8, r9, r10⟩ := hRo
  exact va_gets hx hb (r1.narrow hAb) hS.2 hown (hts _ hl) (fun _ h9 => h9) hd (kk H locs lc hS hL)

theorem u_MOST {pg : e_Pg} {md : e_Md} {own : String} {cc : ByteArray} {nL : Nat} {ret : Option FieldType} {pc : Nat} {index : Nat} (hl : Cond.fieldLink own index "HardEnvoys" "MOST" "[I" ∈ e_tbl) (hd : decode cc pc = .ok (.getstatic index, 3)) : e_Snd pg md own cc nL ret pc (o_const (.retAddr 2) (pc + 3)) := by
  intro d hIH p l e R s m args below meth c cells slots Q D cA ad ro base A K ls st h out ho H locs lc hS hL
  obtain ⟨hx, hb, hml, hr, hown, hts, hlocks, hK, hR, hAd, hAb, hJ, hRo⟩ := K
  unfold o_const at ho
  cases ho
  intro kk
  obtain ⟨r1, r2, r3, r4, r5, r6, r7, r8, r9, r10⟩ := hRo
  exact va_gets hx hb (r3.narrow hAb) hS.2 hown (hts _ hl) (fun _ h9 => h9) hd (kk H locs lc hS hL)

theorem u_COMPACT {pg : e_Pg} {md : e_Md} {own : String} {cc : ByteArray} {nL : Nat} {ret : Option FieldType} {pc : Nat} {index : Nat} (hl : Cond.fieldLink own index "java/lang/String" "COMPACT_STRINGS" "Z" ∈ e_tbl) (hd : decode cc pc = .ok (.getstatic index, 3)) : e_Snd pg md own cc nL ret pc (o_const (.int 1) (pc + 3)) := by
  intro d hIH p l e R s m args below meth c cells slots Q D cA ad ro base A K ls st h out ho H locs lc hS hL
  obtain ⟨hx, hb, hml, hr, hown, hts, hlocks, hK, hR, hAd, hAb, hJ, hRo⟩ := K
  unfold o_const at ho
  cases ho
  intro kk
  obtain ⟨r1, r2, r3, r4, r5, r6, r7, r8, r9, r10⟩ := hRo
  exact va_gets hx hb (r10.narrow hAb) hS.2 hown (hts _ hl) (fun _ h9 => h9) hd (kk H locs lc hS hL)

theorem u_ldcS {pg : e_Pg} {md : e_Md} {own : String} {cc : ByteArray} {nL : Nat} {ret : Option FieldType} {pc : Nat} (hw : own = "HardEnvoys$Rule") (hd : decode cc pc = .ok (.ldc 81, 2)) : e_Snd pg md own cc nL ret pc (o_const (.retAddr 3) (pc + 2)) := by
  intro d hIH p l e R s m args below meth c cells slots Q D cA ad ro base A K ls st h out ho H locs lc hS hL
  obtain ⟨hx, hb, hml, hr, hown, hts, hlocks, hK, hR, hAd, hAb, hJ, hRo⟩ := K
  subst hw
  unfold o_const at ho
  cases ho
  intro kk
  obtain ⟨r1, r2, r3, r4, r5, r6, r7, r8, r9, r10⟩ := hRo
  exact va_ldcS hx hb hown r5 hd (kk H locs lc hS hL)

theorem u_tlo {pg : e_Pg} {md : e_Md} {own : String} {cc : ByteArray} {nL : Nat} {ret : Option FieldType} {pc : Nat} (hd : decode cc pc = .ok (.iaload, 1)) : e_Snd pg md own cc nL ret pc (o_tlo (pc + 1)) := by
  intro d hIH p l e R s m args below meth c cells slots Q D cA ad ro base A K ls st h out ho H locs lc hS hL
  obtain ⟨hx, hb, hml, hr, hown, hts, hlocks, hK, hR, hAd, hAb, hJ, hRo⟩ := K
  unfold o_tlo at ho
  split at ho
  · rename_i i k r
    obtain ⟨hk, ho⟩ := e_cond ho
    simp only [Bool.and_eq_true] at hk
    have hk0 : k = 1 := Nat.eq_of_beq_eq_true hk.1
    cases ho
    intro kk
    subst hk0
    obtain ⟨r1, r2, r3, r4, r5, r6, r7, r8, r9, r10⟩ := hRo
    exact va_ti hx hb (r2.narrow hAb) hS.2 (e_inb_in hk.2) rfl hd (kk H locs lc hS hL)
  · cases ho

theorem u_thi {pg : e_Pg} {md : e_Md} {own : String} {cc : ByteArray} {nL : Nat} {ret : Option FieldType} {pc : Nat} (hd : decode cc pc = .ok (.iaload, 1)) : e_Snd pg md own cc nL ret pc (o_thi (pc + 1)) := by
  intro d hIH p l e R s m args below meth c cells slots Q D cA ad ro base A K ls st h out ho H locs lc hS hL
  obtain ⟨hx, hb, hml, hr, hown, hts, hlocks, hK, hR, hAd, hAb, hJ, hRo⟩ := K
  unfold o_thi at ho
  split at ho
  · rename_i i k r
    obtain ⟨hk, ho⟩ := e_cond ho
    simp only [Bool.and_eq_true] at hk
    have hk0 : k = 2 := Nat.eq_of_beq_eq_true hk.1
    cases ho
    intro kk
    subst hk0
    obtain ⟨r1, r2, r3, r4, r5, r6, r7, r8, r9, r10⟩ := hRo
    exact va_ti hx hb (r4.narrow hAb) hS.2 (e_inb_in hk.2) rfl hd (kk H locs lc hS hL)
  · cases ho

theorem u_tby {pg : e_Pg} {md : e_Md} {own : String} {cc : ByteArray} {nL : Nat} {ret : Option FieldType} {pc : Nat} (hd : decode cc pc = .ok (.baload, 1)) : e_Snd pg md own cc nL ret pc (o_tby (pc + 1)) := by
  intro d hIH p l e R s m args below meth c cells slots Q D cA ad ro base A K ls st h out ho H locs lc hS hL
  obtain ⟨hx, hb, hml, hr, hown, hts, hlocks, hK, hR, hAd, hAb, hJ, hRo⟩ := K
  unfold o_tby at ho
  split at ho
  · rename_i i k r
    obtain ⟨hk, ho⟩ := e_cond ho
    simp only [Bool.and_eq_true] at hk
    have hk0 : k = 4 := Nat.eq_of_beq_eq_true hk.1
    cases ho
    intro kk
    subst hk0
    obtain ⟨r1, r2, r3, r4, r5, r6, r7, r8, r9, r10⟩ := hRo
    exact va_tb hx hb (r9.narrow hAb) hS.2 (e_inb_in hk.2) rfl hd (kk H locs lc hS hL)
  · cases ho

theorem u_blen {pg : e_Pg} {md : e_Md} {own : String} {cc : ByteArray} {nL : Nat} {ret : Option FieldType} {pc : Nat} (hd : decode cc pc = .ok (.arraylength, 1)) : e_Snd pg md own cc nL ret pc (o_blen (pc + 1)) := by
  intro d hIH p l e R s m args below meth c cells slots Q D cA ad ro base A K ls st h out ho H locs lc hS hL
  obtain ⟨hx, hb, hml, hr, hown, hts, hlocks, hK, hR, hAd, hAb, hJ, hRo⟩ := K
  unfold o_blen at ho
  split at ho
  · rename_i k r
    obtain ⟨hk, ho⟩ := e_cond ho
    have hk0 : k = 4 := Nat.eq_of_beq_eq_true hk
    subst hk0
    cases ho
    intro kk
    obtain ⟨r1, r2, r3, r4, r5, r6, r7, r8, r9, r10⟩ := hRo
    exact va_tlen hx hb (r9.narrow hAb) hS.2 rfl hd (kk H locs lc hS hL)
  · cases ho

theorem u_strV {pg : e_Pg} {md : e_Md} {own : String} {cc : ByteArray} {nL : Nat} {ret : Option FieldType} {pc : Nat} {index : Nat} (hl : Cond.fieldLink own index "java/lang/String" "value" "[B" ∈ e_tbl) (hd : decode cc pc = .ok (.getfield index, 3)) : e_Snd pg md own cc nL ret pc (o_strV (pc + 3)) := by
  intro d hIH p l e R s m args below meth c cells slots Q D cA ad ro base A K ls st h out ho H locs lc hS hL
  obtain ⟨hx, hb, hml, hr, hown, hts, hlocks, hK, hR, hAd, hAb, hJ, hRo⟩ := K
  unfold o_strV at ho
  split at ho
  · rename_i k r
    obtain ⟨hk, ho⟩ := e_cond ho
    have hk0 : k = 3 := Nat.eq_of_beq_eq_true hk
    subst hk0
    cases ho
    intro kk
    obtain ⟨r1, r2, r3, r4, r5, r6, r7, r8, r9, r10⟩ := hRo
    exact vk_getf hx hb (r8.narrow hAb) hS.2 hown (hts _ hl) (fun _ h9 => h9) hd (kk H locs lc hS hL)
  · cases ho

theorem u_strC {pg : e_Pg} {md : e_Md} {own : String} {cc : ByteArray} {nL : Nat} {ret : Option FieldType} {pc : Nat} {index : Nat} (hl : Cond.fieldLink own index "java/lang/String" "coder" "B" ∈ e_tbl) (hd : decode cc pc = .ok (.getfield index, 3)) : e_Snd pg md own cc nL ret pc (o_strC (pc + 3)) := by
  intro d hIH p l e R s m args below meth c cells slots Q D cA ad ro base A K ls st h out ho H locs lc hS hL
  obtain ⟨hx, hb, hml, hr, hown, hts, hlocks, hK, hR, hAd, hAb, hJ, hRo⟩ := K
  unfold o_strC at ho
  split at ho
  · rename_i k r
    obtain ⟨hk, ho⟩ := e_cond ho
    have hk0 : k = 3 := Nat.eq_of_beq_eq_true hk
    subst hk0
    cases ho
    intro kk
    obtain ⟨r1, r2, r3, r4, r5, r6, r7, r8, r9, r10⟩ := hRo
    exact vk_getf hx hb (r7.narrow hAb) hS.2 hown (hts _ hl) (fun _ h9 => h9) hd (kk H locs lc hS hL)
  · cases ho

theorem u_mmin {pg : e_Pg} {md : e_Md} {own : String} {cc : ByteArray} {nL : Nat} {ret : Option FieldType} {pc : Nat} {index : Nat} (hl : Cond.methodLink own index Lib.Math.min.name ∈ e_tbl) (h2 : Cond.static Lib.Math.min.name ∈ e_tbl) (h3 : Cond.initialized "java/lang/Math" ∈ e_tbl) (h4 : Cond.code Lib.Math.min.name Lib.Math.min.code 2 (some .int) ∈ e_tbl) (hd : decode cc pc = .ok (.invokestatic index, 3)) : e_Snd pg md own cc nL ret pc (o_m2 (fun x y => if y < x then y else x) (pc + 3)) := by
  intro d hIH p l e R s m args below meth c cells slots Q D cA ad ro base A K ls st h out ho H locs lc hS hL
  obtain ⟨hx, hb, hml, hr, hown, hts, hlocks, hK, hR, hAd, hAb, hJ, hRo⟩ := K
  unfold o_m2 at ho
  split at ho
  · obtain ⟨hk, ho⟩ := e_cond ho
    have hcat := Nat.ble_eq.mp hk
    cases ho
    intro kk
    exact va_mmin hx hb (hml.trans hL.2.1.symm) hown (hts _ hl) (hts _ h2) (hts _ h3) (hts _ h4) (by omega) (by rw [e_cats_t]; omega) hR.2.2.1 hR.2.2.2 hd (kk H locs lc hS hL)
  · cases ho

theorem u_mmax {pg : e_Pg} {md : e_Md} {own : String} {cc : ByteArray} {nL : Nat} {ret : Option FieldType} {pc : Nat} {index : Nat} (hl : Cond.methodLink own index Lib.Math.max.name ∈ e_tbl) (h2 : Cond.static Lib.Math.max.name ∈ e_tbl) (h3 : Cond.initialized "java/lang/Math" ∈ e_tbl) (h4 : Cond.code Lib.Math.max.name Lib.Math.max.code 2 (some .int) ∈ e_tbl) (hd : decode cc pc = .ok (.invokestatic index, 3)) : e_Snd pg md own cc nL ret pc (o_m2 (fun x y => if x < y then y else x) (pc + 3)) := by
  intro d hIH p l e R s m args below meth c cells slots Q D cA ad ro base A K ls st h out ho H locs lc hS hL
  obtain ⟨hx, hb, hml, hr, hown, hts, hlocks, hK, hR, hAd, hAb, hJ, hRo⟩ := K
  unfold o_m2 at ho
  split at ho
  · obtain ⟨hk, ho⟩ := e_cond ho
    have hcat := Nat.ble_eq.mp hk
    cases ho
    intro kk
    exact va_mmax hx hb (hml.trans hL.2.1.symm) hown (hts _ hl) (hts _ h2) (hts _ h3) (hts _ h4) (by omega) (by rw [e_cats_t]; omega) hR.2.2.1 hR.2.2.2 hd (kk H locs lc hS hL)
  · cases ho

theorem u_mabs {pg : e_Pg} {md : e_Md} {own : String} {cc : ByteArray} {nL : Nat} {ret : Option FieldType} {pc : Nat} {index : Nat} (hl : Cond.methodLink own index Lib.Math.abs.name ∈ e_tbl) (h2 : Cond.static Lib.Math.abs.name ∈ e_tbl) (h3 : Cond.initialized "java/lang/Math" ∈ e_tbl) (h4 : Cond.code Lib.Math.abs.name Lib.Math.abs.code 1 (some .int) ∈ e_tbl) (hd : decode cc pc = .ok (.invokestatic index, 3)) : e_Snd pg md own cc nL ret pc (o_m1 (fun x => if 0 ≤ x then x else 0 - x) (pc + 3)) := by
  intro d hIH p l e R s m args below meth c cells slots Q D cA ad ro base A K ls st h out ho H locs lc hS hL
  obtain ⟨hx, hb, hml, hr, hown, hts, hlocks, hK, hR, hAd, hAb, hJ, hRo⟩ := K
  unfold o_m1 at ho
  split at ho
  · obtain ⟨hk, ho⟩ := e_cond ho
    have hcat := Nat.ble_eq.mp hk
    cases ho
    intro kk
    exact va_mabs hx hb (hml.trans hL.2.1.symm) hown (hts _ hl) (hts _ h2) (hts _ h3) (hts _ h4) (by omega) (by rw [e_cats_t]; omega) hR.2.2.1 hR.2.2.2 hd (kk H locs lc hS hL)
  · cases ho

theorem u_mminl {pg : e_Pg} {md : e_Md} {own : String} {cc : ByteArray} {nL : Nat} {ret : Option FieldType} {pc : Nat} {index : Nat} (hl : Cond.methodLink own index Lib.MathLoose.min_long.x ∈ e_tbl) (h2 : Cond.static Lib.MathLoose.min_long.x ∈ e_tbl) (h3 : Cond.initialized "java/lang/Math" ∈ e_tbl) (h4 : Cond.code Lib.MathLoose.min_long.x Lib.MathLoose.min_long.code 4 (some .long) ∈ e_tbl) (hd : decode cc pc = .ok (.invokestatic index, 3)) : e_Snd pg md own cc nL ret pc (o_m2l (fun x y => if y < x then y else x) (pc + 3)) := by
  intro d hIH p l e R s m args below meth c cells slots Q D cA ad ro base A K ls st h out ho H locs lc hS hL
  obtain ⟨hx, hb, hml, hr, hown, hts, hlocks, hK, hR, hAd, hAb, hJ, hRo⟩ := K
  unfold o_m2l at ho
  split at ho
  · obtain ⟨hk, ho⟩ := e_cond ho
    have hcat := Nat.ble_eq.mp hk
    cases ho
    intro kk
    exact va_mmin_long hx hb (hml.trans hL.2.1.symm) hown (hts _ hl) (hts _ h2) (hts _ h3) (hts _ h4) (by omega) (by rw [e_cats_t]; omega) hR.2.2.1 hR.2.2.2 hd (kk H locs lc hS hL)
  · cases ho

theorem u_mmaxl {pg : e_Pg} {md : e_Md} {own : String} {cc : ByteArray} {nL : Nat} {ret : Option FieldType} {pc : Nat} {index : Nat} (hl : Cond.methodLink own index Lib.MathLoose.max_long.x ∈ e_tbl) (h2 : Cond.static Lib.MathLoose.max_long.x ∈ e_tbl) (h3 : Cond.initialized "java/lang/Math" ∈ e_tbl) (h4 : Cond.code Lib.MathLoose.max_long.x Lib.MathLoose.max_long.code 4 (some .long) ∈ e_tbl) (hd : decode cc pc = .ok (.invokestatic index, 3)) : e_Snd pg md own cc nL ret pc (o_m2l (fun x y => if y < x then x else y) (pc + 3)) := by
  intro d hIH p l e R s m args below meth c cells slots Q D cA ad ro base A K ls st h out ho H locs lc hS hL
  obtain ⟨hx, hb, hml, hr, hown, hts, hlocks, hK, hR, hAd, hAb, hJ, hRo⟩ := K
  unfold o_m2l at ho
  split at ho
  · obtain ⟨hk, ho⟩ := e_cond ho
    have hcat := Nat.ble_eq.mp hk
    cases ho
    intro kk
    exact va_mmax_long hx hb (hml.trans hL.2.1.symm) hown (hts _ hl) (hts _ h2) (hts _ h3) (hts _ h4) (by omega) (by rw [e_cats_t]; omega) hR.2.2.1 hR.2.2.2 hd (kk H locs lc hS hL)
  · cases ho

theorem u_mabsl {pg : e_Pg} {md : e_Md} {own : String} {cc : ByteArray} {nL : Nat} {ret : Option FieldType} {pc : Nat} {index : Nat} (hl : Cond.methodLink own index Lib.MathLoose.abs_long.x ∈ e_tbl) (h2 : Cond.static Lib.MathLoose.abs_long.x ∈ e_tbl) (h3 : Cond.initialized "java/lang/Math" ∈ e_tbl) (h4 : Cond.code Lib.MathLoose.abs_long.x Lib.MathLoose.abs_long.code 2 (some .long) ∈ e_tbl) (hd : decode cc pc = .ok (.invokestatic index, 3)) : e_Snd pg md own cc nL ret pc (o_m1l (fun x => if 0 < x then x else -x) (pc + 3)) := by
  intro d hIH p l e R s m args below meth c cells slots Q D cA ad ro base A K ls st h out ho H locs lc hS hL
  obtain ⟨hx, hb, hml, hr, hown, hts, hlocks, hK, hR, hAd, hAb, hJ, hRo⟩ := K
  unfold o_m1l at ho
  split at ho
  · obtain ⟨hk, ho⟩ := e_cond ho
    have hcat := Nat.ble_eq.mp hk
    cases ho
    intro kk
    exact va_mabs_long hx hb (hml.trans hL.2.1.symm) hown (hts _ hl) (hts _ h2) (hts _ h3) (hts _ h4) (by omega) (by rw [e_cats_t]; omega) hR.2.2.1 hR.2.2.2 hd (kk H locs lc hS hL)
  · cases ho

theorem u_copy {pg : e_Pg} {md : e_Md} {own : String} {cc : ByteArray} {nL : Nat} {ret : Option FieldType} {pc : Nat} {index : Nat} (hl : Cond.methodLink own index arraycopyName ∈ e_tbl) (h1 : Cond.native arraycopyName ∈ e_tbl) (h2 : Cond.static arraycopyName ∈ e_tbl) (h3 : Cond.initialized "java/lang/System" ∈ e_tbl) (hd : decode cc pc = .ok (.invokestatic index, 3)) : e_Snd pg md own cc nL ret pc (o_copy (pc + 3)) := by
  intro d hIH p l e R s m args below meth c cells slots Q D cA ad ro base A K ls st h out ho H locs lc hS hL
  obtain ⟨hx, hb, hml, hr, hown, hts, hlocks, hK, hR, hAd, hAb, hJ, hRo⟩ := K
  unfold o_copy at ho
  split at ho
  · rename_i n dp b sp a r
    obtain ⟨hk, ho⟩ := e_cond ho
    simp only [Bool.and_eq_true] at hk
    obtain ⟨⟨k1, k2⟩, ⟨k3, k4⟩, ⟨k5, k6, k7⟩, k8⟩ := hk
    have k1 := of_decide_eq_true k1
    have k2 := of_decide_eq_true k2
    have k5 := of_decide_eq_true k5
    have k6 := Nat.ble_eq.mp k6
    have k7 := Nat.ble_eq.mp k7
    have k8 := Nat.ble_eq.mp k8
    cases ho
    intro kk
    subst k1
    subst k2
    have z0 : (0 : Int32).toNatClampNeg = 0 := rfl
    have hnw : nativeFrameWords "java/lang/System" "arraycopy" 5 ≤ 40 := by decide +kernel
    refine va_copyi (ty := .int) hx hb (hml.trans hL.2.1.symm) hown (hts _ hl) (hts _ h1) (hts _ h2) (hts _ h3) hK hS.1 (e_wD hJ hAd) hS.2 a b 0 0 (e_w_at k3 (fun z => e_cell_0 z)) (e_w_at k4 (fun z => e_cell_0 z)) rfl rfl rfl (sp := 0) (dp := 0) (by decide) (by decide) k5 (by rw [z0]; omega) (by rw [z0]; omega) (fun i hi => rfl) (by omega) (by rw [e_cats_t]; omega) hd (fun H1 locs1 hP1 hD1 hS1 => ?_)
    refine kk H1 locs1 lc ⟨?_, hS1⟩ hL
    rw [← e_w_set (h := h) (h2 := (fun x y => if x = b ∧ y < n.toNatClampNeg then h.1 a y else h.1 x y, h.2)) (e_ok_lt k4).1 (fun j hj => funext fun y => if_neg (fun q => hj q.1)) (fun j hj => rfl) (e_cell_0 (e_ok_lt k4).2).symm]
    have e : va_cpy (h.1 a) (h.1 b) (0 : Int32).toNatClampNeg (0 : Int32).toNatClampNeg n.toNatClampNeg = fun y => if b = b ∧ y < n.toNatClampNeg then h.1 a y else h.1 b y := by
      funext y
      unfold va_cpy
      rw [z0]
      by_cases hy : y < n.toNatClampNeg
      · rw [if_pos ⟨Nat.zero_le y, by omega⟩, if_pos ⟨rfl, hy⟩]
        show h.1 a (0 + (y - 0)) = h.1 a y
        rw [Nat.zero_add, Nat.sub_zero]
      · rw [if_neg (fun q => hy (by omega)), if_neg (fun q => hy q.2)]
    rw [e] at hP1
    exact hP1
  · cases ho

theorem u_retV {pg : e_Pg} {md : e_Md} {own : String} {cc : ByteArray} {nL : Nat} {ret : Option FieldType} {pc : Nat} (hq : ret = none) (hd : decode cc pc = .ok (.return_, 1)) : e_Snd pg md own cc nL ret pc (o_retV) := by
  intro d hIH p l e R s m args below meth c cells slots Q D cA ad ro base A K ls st h out ho H locs lc hS hL
  obtain ⟨hx, hb, hml, hr, hown, hts, hlocks, hK, hR, hAd, hAb, hJ, hRo⟩ := K
  unfold o_retV at ho
  split at ho
  · cases ho
    exact ⟨rfl, rfl, hd, hq⟩
  · cases ho

theorem u_retI {pg : e_Pg} {md : e_Md} {own : String} {cc : ByteArray} {nL : Nat} {ret : Option FieldType} {pc : Nat} (hq : ret = some .int) (hd : decode cc pc = .ok (.ireturn, 1)) : e_Snd pg md own cc nL ret pc (o_retI) := by
  intro d hIH p l e R s m args below meth c cells slots Q D cA ad ro base A K ls st h out ho H locs lc hS hL
  obtain ⟨hx, hb, hml, hr, hown, hts, hlocks, hK, hR, hAd, hAb, hJ, hRo⟩ := K
  unfold o_retI at ho
  split at ho
  · cases ho
    exact ⟨rfl, rfl, hd, _, hq, rfl⟩
  · cases ho

theorem u_retJ {pg : e_Pg} {md : e_Md} {own : String} {cc : ByteArray} {nL : Nat} {ret : Option FieldType} {pc : Nat} (hq : ret = some .long) (hd : decode cc pc = .ok (.lreturn, 1)) : e_Snd pg md own cc nL ret pc (o_retJ) := by
  intro d hIH p l e R s m args below meth c cells slots Q D cA ad ro base A K ls st h out ho H locs lc hS hL
  obtain ⟨hx, hb, hml, hr, hown, hts, hlocks, hK, hR, hAd, hAb, hJ, hRo⟩ := K
  unfold o_retJ at ho
  split at ho
  · cases ho
    exact ⟨rfl, rfl, hd, hq⟩
  · cases ho

theorem u_retA {pg : e_Pg} {md : e_Md} {own : String} {cc : ByteArray} {nL : Nat} {ret : Option FieldType} {pc : Nat} {n : String} (hq : ret = some (.object n)) (hd : decode cc pc = .ok (.areturn, 1)) : e_Snd pg md own cc nL ret pc (o_retA) := by
  intro d hIH p l e R s m args below meth c cells slots Q D cA ad ro base A K ls st h out ho H locs lc hS hL
  obtain ⟨hx, hb, hml, hr, hown, hts, hlocks, hK, hR, hAd, hAb, hJ, hRo⟩ := K
  unfold o_retA at ho
  split at ho
  · cases ho
    exact ⟨rfl, rfl, hd, _, hq⟩
  · cases ho

theorem u_retZ {pg : e_Pg} {md : e_Md} {own : String} {cc : ByteArray} {nL : Nat} {ret : Option FieldType} {pc : Nat} (hq : ret = some .boolean) (hd : decode cc pc = .ok (.ireturn, 1)) : e_Snd pg md own cc nL ret pc (o_retZ) := by
  intro d hIH p l e R s m args below meth c cells slots Q D cA ad ro base A K ls st h out ho H locs lc hS hL
  obtain ⟨hx, hb, hml, hr, hown, hts, hlocks, hK, hR, hAd, hAb, hJ, hRo⟩ := K
  unfold o_retZ at ho
  split at ho
  · rename_i v
    obtain ⟨hk, ho⟩ := e_cond ho
    cases ho
    refine ⟨rfl, rfl, hd, _, hq, ?_⟩
    simp only [Bool.or_eq_true, decide_eq_true_eq] at hk
    rcases hk with rfl | rfl <;> rfl
  · cases ho

theorem u_retB {pg : e_Pg} {md : e_Md} {own : String} {cc : ByteArray} {nL : Nat} {ret : Option FieldType} {pc : Nat} (hq : ret = some .byte) (hd : decode cc pc = .ok (.ireturn, 1)) : e_Snd pg md own cc nL ret pc (o_retZ) := by
  intro d hIH p l e R s m args below meth c cells slots Q D cA ad ro base A K ls st h out ho H locs lc hS hL
  obtain ⟨hx, hb, hml, hr, hown, hts, hlocks, hK, hR, hAd, hAb, hJ, hRo⟩ := K
  unfold o_retZ at ho
  split at ho
  · rename_i v
    obtain ⟨hk, ho⟩ := e_cond ho
    cases ho
    refine ⟨rfl, rfl, hd, _, hq, ?_⟩
    simp only [Bool.or_eq_true, decide_eq_true_eq] at hk
    rcases hk with rfl | rfl <;> rfl
  · cases ho

theorem u_ldcw {pg : e_Pg} {md : e_Md} {own : String} {cc : ByteArray} {nL : Nat} {ret : Option FieldType} {pc : Nat} {index : Nat} {v : Int32} (hc : Cond.constant own index v ∈ e_tbl) (hd : decode cc pc = .ok (.ldc_w index, 3)) : e_Snd pg md own cc nL ret pc (o_const (.int v) (pc + 3)) := by
  intro d hIH p l e R s m args below meth c cells slots Q D cA ad ro base A K ls st h out ho H locs lc hS hL
  obtain ⟨hx, hb, hml, hr, hown, hts, hlocks, hK, hR, hAd, hAb, hJ, hRo⟩ := K
  unfold o_const at ho
  cases ho
  intro kk
  exact lv_ldcw hx hb hown (hts _ hc) hd (kk H locs lc hS hL)

/-- behind a call -/
theorem e_after {p : Program} {l : Launch} {e : Env} {R : Room} {s : State} {m : MethodId} {args : Array Value} {below : List Frame} {meth : Method} {c : Code} {H : Heap} {locs : List Loc} {cells slots : Nat} {Q : State → Prop} {D : va_G} {cA : Nat → ClassId} {ad ro : Nat → Nat} {A : Nat → Prop} {h h2 : e_H} {pc : Nat} {lc : Array Slot} {st0 rest : List Value} {r : Option Value} {a : Array Value}
    (hrun : va_Run p l e R s m args below meth c H locs cells slots 0 0 (F0 m pc lc st0) rest (e_Qc D cA ad ro r h2 a) (e_A ad)) (hAd : ∀ i : Nat, i < e_N → A (ad i)) (hS : e_St D cA ad A s h H locs)
    (kk : ∀ (H2 : Heap) (locs2 : List Loc), e_St D cA ad A s h2 H2 locs2 → W p l e R s m args below meth c H2 locs2 cells slots Q (F0 m (pc + 3) lc ((r.map (e_t ad ro)).toList ++ rest))) : W p l e R s m args below meth c H locs cells slots Q (F0 m pc lc st0) := by
  intro T hT X
  obtain ⟨v, st₀, t, T', L, h0, X', hL, e1, e2, ⟨hv, hP, hz, hk⟩, st⟩ := hrun T hT X
  have hv : v = r.map (e_t ad ro) := by cases hv; rfl
  subst hv
  rw [h0] at hz hk
  have hA2 : ∀ q, e_A ad q → A q := fun q ⟨i, h1, h3⟩ => by rw [h3]; exact hAd i h1
  obtain ⟨t2, a1, b1⟩ := kk t.heap (locs ++ L) ⟨hP, Nat.le_trans hS.2.1 hz, fun q h1 h3 => by
      rw [hk q (Nat.lt_of_lt_of_le h1 hS.2.1) (fun z => h3 (hA2 q z))]
      exact hS.2.2.1 q h1 h3, fun q hq => by
      rcases List.mem_append.mp hq with h | h
      · exact hS.2.2.2 q h
      · exact hA2 _ (hL q h)⟩ T' e1 X'
  exact ⟨t2, st t2 a1, b1⟩
theorem e_blind {D : va_G} {cA : Nat → ClassId} {ad ro : Nat → Nat} {base : Nat} {h : e_H} {as : List Value} : FrameBlind (e_Pc D cA ad ro base h as) := by
  intro a U g mk q
  obtain ⟨q0, qP, qK, qR⟩ := q
  exact ⟨q0, qP, va_K.moved (u := U) (U := U.calling g mk a) (Vm.Alike.refl U.vm) qK, e_Ro.same qR rfl⟩
theorem e_pre {D : va_G} {cA : Nat → ClassId} {ad ro : Nat → Nat} {base : Nat} {A : Nat → Prop} {s : State} {h : e_H} {as : List Value} {H : Heap} {locs : List Loc} (hK : va_K D vwCl (e_tys cA) s) (hRo : e_Ro base ro s s.heap) (hAb : ∀ q : Nat, A q → e_B base q) (hS : e_St D cA ad A s h H locs) : ∀ U : State, U.heap = H → s.WarmedH U.vm → e_Pc D cA ad ro base h as (as.map (e_t ad ro)).toArray U := by
  intro U hU hW
  refine ⟨rfl, by rw [hU]; exact hS.1, va_K.moved hW.alike hK, ?_⟩
  rw [hU]
  exact hRo.move hW (fun q h1 h2 => hS.2.2.1 q h1 (fun z => h2 (hAb q z)))
theorem e_wordsV {own C : String} {index : Nat} {q : MethodName × ByteArray × Nat × Option FieldType} (h1 : Cond.methodLink own index q.1 ∈ e_tbl) (h2 : Cond.instanceMethod q.1 ∈ e_tbl) (h3 : Cond.selects C q.1 q.1 ∈ e_tbl) (h4 : Cond.initialized C ∈ e_tbl) (h5 : Cond.code q.1 q.2.1 q.2.2.1 q.2.2.2 ∈ e_tbl) : GoodIn e_tbl (wsV own index C q.1 (e_ws q)) := by
  refine e_tbl_good (fun w hw => ?_)
  unfold wsV at hw
  rcases List.mem_append.mp hw with h | h
  · simp only [List.mem_cons, List.not_mem_nil, or_false] at h
    rcases h with rfl | rfl | rfl | rfl
    · exact h1
    · exact h2
    · exact h3
    · exact h4
  · rcases List.mem_cons.mp h with rfl | h
    · exact h5
    · exact h
theorem e_take {st : List Value} {a : Nat} {x : Value} {r : List Value} (h : st.drop a = x :: r) (f : Value → Value) : st.map f = (((st.take a).reverse).map f).reverse ++ f x :: r.map f := by
  rw [List.map_reverse, List.reverse_reverse, ← List.map_cons, ← List.map_append, ← h, List.take_append_drop]

theorem u_cV {pg : e_Pg} {md : e_Md} {own : String} {cc : ByteArray} {nL : Nat} {ret : Option FieldType} {pc : Nat} {ci k a index : Nat} {C : String} {T : u_T} {N : Nat} (hc : vwCl[ci]? = some (C, T, N)) (h1 : Cond.methodLink own index (md k).1 ∈ e_tbl) (h2 : Cond.instanceMethod (md k).1 ∈ e_tbl) (h3 : Cond.selects C (md k).1 (md k).1 ∈ e_tbl) (h4 : Cond.initialized C ∈ e_tbl) (h5 : Cond.code (md k).1 (md k).2.1 (md k).2.2.1 (md k).2.2.2 ∈ e_tbl) (hdd : (md k).1.cls = C ∧ (md k).1.cls ≠ "java/lang/invoke/MethodHandle" ∧ (md k).1.cls ≠ "java/lang/invoke/VarHandle" ∧ (parseMethodDescriptor (md k).1.desc).map (fun d => d.parameters.length) = some a) (hml9 : (md k).2.2.1 ≤ 41) (hd : decode cc pc = .ok (.invokevirtual index, 3)) : e_Snd pg md own cc nL ret pc (o_cV ci k a (pc + 3)) := by
  intro d hIH p l e R s m args below meth c cells slots Q D cA ad ro base A K ls st h out ho H locs lc hS hL
  obtain ⟨hx, hb, hml, hr, hown, hts, hlocks, hK, hR, hAd, hAb, hJ, hRo⟩ := K
  unfold o_cV at ho
  split at ho
  · rename_i o r hdrop
    obtain ⟨hk, ho⟩ := e_cond ho
    simp only [Bool.and_eq_true] at hk
    obtain ⟨k1, k2, k3⟩ := hk
    have k2 := Nat.ble_eq.mp k2
    have k3 := Nat.ble_eq.mp k3
    cases hX : e_X pg d k (.ref o :: (st.take a).reverse) h with
    | none => rw [hX] at ho; cases ho
    | some q =>
      rw [hX] at ho
      obtain ⟨r2, h9⟩ := q
      cases ho
      intro kk
      have hM := hIH l k _ h r2 h9 hX D cA ad ro base hJ
      have hst := e_take hdrop (e_t ad ro)
      refine e_after (r := r2) (h := h) (h2 := h9) (rest := r.map (e_t ad ro)) (va_runV (C := C) (As := ((st.take a).reverse).map (e_t ad ro)) (rest := r.map (e_t ad ro)) ⟨hx, hb, hml, hown, hts⟩ hM (cwV (bytes := (md k).2.1) (maxL := (md k).2.2.1) (ret := (md k).2.2.2) a hts (e_wordsV h1 h2 h3 h4 h5) rfl rfl rfl hdd ⟨hR.1, by show 8 + ((md k).2.2.1 + 11) + 60 * d ≤ R.locals; omega⟩) ⟨e_blind, va_recv hK hS.1 hc (e_w_at k1 (fun z => e_cell_o z)), e_pre hK hRo hAb hS⟩ rfl (by rw [List.length_map, List.length_reverse, List.length_take]; omega) hL.2.1 hst (lv_room (by rw [e_cats_t]; exact k3)) hd ⟨hR.2.2.1, hR.2.2.2⟩) hAd hS (fun H2 locs2 hS2 => ?_)
      have k9 := kk H2 locs2 lc hS2 hL
      rw [List.map_append] at k9
      cases r2 with
      | none => exact k9
      | some v => exact k9
  · cases ho

theorem u_cR {pg : e_Pg} {md : e_Md} {own : String} {cc : ByteArray} {nL : Nat} {ret : Option FieldType} {pc : Nat} {k a index : Nat} {C : String} (hC : C = "java/lang/String") (h1 : Cond.methodLink own index (md k).1 ∈ e_tbl) (h2 : Cond.instanceMethod (md k).1 ∈ e_tbl) (h3 : Cond.selects C (md k).1 (md k).1 ∈ e_tbl) (h4 : Cond.initialized C ∈ e_tbl) (h5 : Cond.code (md k).1 (md k).2.1 (md k).2.2.1 (md k).2.2.2 ∈ e_tbl) (hdd : (md k).1.cls = C ∧ (md k).1.cls ≠ "java/lang/invoke/MethodHandle" ∧ (md k).1.cls ≠ "java/lang/invoke/VarHandle" ∧ (parseMethodDescriptor (md k).1.desc).map (fun d => d.parameters.length) = some a) (hml9 : (md k).2.2.1 ≤ 41) (hd : decode cc pc = .ok (.invokevirtual index, 3)) : e_Snd pg md own cc nL ret pc (o_cR k a (pc + 3)) := by
  intro d hIH p l e R s m args below meth c cells slots Q D cA ad ro base A K ls st h out ho H locs lc hS hL
  obtain ⟨hx, hb, hml, hr, hown, hts, hlocks, hK, hR, hAd, hAb, hJ, hRo⟩ := K
  unfold o_cR at ho
  split at ho
  · rename_i o r hdrop
    obtain ⟨hk, ho⟩ := e_cond ho
    simp only [Bool.and_eq_true] at hk
    obtain ⟨k1, k2, k3⟩ := hk
    have k1 : o = 3 := Nat.eq_of_beq_eq_true k1
    subst k1
    have k2 := Nat.ble_eq.mp k2
    have k3 := Nat.ble_eq.mp k3
    cases hX : e_X pg d k (.retAddr 3 :: (st.take a).reverse) h with
    | none => rw [hX] at ho; cases ho
    | some q =>
      rw [hX] at ho
      obtain ⟨r2, h9⟩ := q
      cases ho
      intro kk
      have hM := hIH l k _ h r2 h9 hX D cA ad ro base hJ
      have hst := e_take hdrop (e_t ad ro)
      have hrecv : ∃ cell : Cell, H[ro 3]? = some cell ∧ cell.vm.isStatics = false ∧ s.vm.findClass C = some cell.cls := by
        obtain ⟨r1, r2, r3, r4, r5, r6, r7, r8, r9, r10⟩ := hRo
        obtain ⟨cell, g1, g2, g3, -⟩ := (r6.narrow hAb).kept hS.2.2.1
        exact ⟨cell, g1, g2, by rw [hC]; exact g3⟩
      refine e_after (r := r2) (h := h) (h2 := h9) (rest := r.map (e_t ad ro)) (va_runV (C := C) (As := ((st.take a).reverse).map (e_t ad ro)) (rest := r.map (e_t ad ro)) ⟨hx, hb, hml, hown, hts⟩ hM (cwV (bytes := (md k).2.1) (maxL := (md k).2.2.1) (ret := (md k).2.2.2) a hts (e_wordsV h1 h2 h3 h4 h5) rfl rfl rfl hdd ⟨hR.1, by show 8 + ((md k).2.2.1 + 11) + 60 * d ≤ R.locals; omega⟩) ⟨e_blind, hrecv, e_pre hK hRo hAb hS⟩ rfl (by rw [List.length_map, List.length_reverse, List.length_take]; omega) hL.2.1 hst (lv_room (by rw [e_cats_t]; exact k3)) hd ⟨hR.2.2.1, hR.2.2.2⟩) hAd hS (fun H2 locs2 hS2 => ?_)
      have k9 := kk H2 locs2 lc hS2 hL
      rw [List.map_append] at k9
      cases r2 with
      | none => exact k9
      | some v => exact k9
  · cases ho

theorem u_cS {pg : e_Pg} {md : e_Md} {own : String} {cc : ByteArray} {nL : Nat} {ret : Option FieldType} {pc : Nat} {k a index : Nat} (h1 : Cond.methodLink own index (md k).1 ∈ e_tbl) (h2 : Cond.static (md k).1 ∈ e_tbl) (h4 : Cond.initialized (md k).1.cls ∈ e_tbl) (h5 : Cond.code (md k).1 (md k).2.1 (md k).2.2.1 (md k).2.2.2 ∈ e_tbl) (hdd : (md k).1.cls ≠ "java/lang/invoke/MethodHandle" ∧ (md k).1.cls ≠ "java/lang/invoke/VarHandle" ∧ (parseMethodDescriptor (md k).1.desc).map (fun d => d.parameters.length) = some a) (hml9 : (md k).2.2.1 ≤ 41) (hd : decode cc pc = .ok (.invokestatic index, 3)) : e_Snd pg md own cc nL ret pc (o_cS k a (pc + 3)) := by
  intro d hIH p l e R s m args below meth c cells slots Q D cA ad ro base A K ls st h out ho H locs lc hS hL
  obtain ⟨hx, hb, hml, hr, hown, hts, hlocks, hK, hR, hAd, hAb, hJ, hRo⟩ := K
  unfold o_cS at ho
  obtain ⟨hk, ho⟩ := e_cond ho
  simp only [Bool.and_eq_true] at hk
  obtain ⟨k2, k3⟩ := hk
  have k2 := Nat.ble_eq.mp k2
  have k3 := Nat.ble_eq.mp k3
  cases hX : e_X pg d k (st.take a).reverse h with
  | none => rw [hX] at ho; cases ho
  | some q =>
    rw [hX] at ho
    obtain ⟨r2, h9⟩ := q
    cases ho
    intro kk
    have hM := hIH l k _ h r2 h9 hX D cA ad ro base hJ
    have hst : st.map (e_t ad ro) = (((st.take a).reverse).map (e_t ad ro)).reverse ++ (st.drop a).map (e_t ad ro) := by
      rw [List.map_reverse, List.reverse_reverse, ← List.map_append, List.take_append_drop]
    refine e_after (r := r2) (h := h) (h2 := h9) (rest := (st.drop a).map (e_t ad ro)) (va_runS (As := ((st.take a).reverse).map (e_t ad ro)) (rest := (st.drop a).map (e_t ad ro)) ⟨hx, hb, hml, hown, hts⟩ hM ⟨callB_of (bytes := (md k).2.1) (maxL := (md k).2.2.1) (ret := (md k).2.2.2) a hts (e_tbl_good (fun w hw => by rcases List.mem_cons.mp hw with rfl | h; exact h5; exact h)) rfl rfl rfl (hts _ h4) (hts _ h1) hdd ⟨hR.1, by show 8 + ((md k).2.2.1 + 11) + 60 * d ≤ R.locals; omega⟩, hts _ h2⟩ ⟨e_blind, e_pre hK hRo hAb hS⟩ rfl (by rw [List.length_map, List.length_reverse, List.length_take]; omega) hL.2.1 hst (lv_room (by rw [e_cats_t]; exact k3)) hd ⟨hR.2.2.1, hR.2.2.2⟩) hAd hS (fun H2 locs2 hS2 => ?_)
    have k9 := kk H2 locs2 lc hS2 hL
    rw [List.map_append] at k9
    cases r2 with
    | none => exact k9
    | some v => exact k9

