/-! the law from its entry on -/
/-! THE CLAIM OUT OF ONE WALK OF THE LAW'S BODY. Your part is whole_start (and what it stands on); all else here is the same for every law, but numbers. -/
def R_law : String := "HardEnvoysLaw"
def lw_P (b : Addr) (xs : List Int32) (args : Array Value) (s : State) : Prop := args = #[.ref b] ∧ s.IntsAt b xs ∧ xs.length ≤ 2560 ∧ (Jvm.Cond.and given_1 narrow_1).before args s = true
def lw_Q (_ : Array Value) (s : State) (o : Outcome) (t : State) : Prop := o = .returned (some (.int 1)) ∧ Framed s o t [] 600000 7302250
def lw_Z (below : List Frame) (a : Array Value) (s : State) : State → Prop := fun t => ∃ o, t.status = .running ∧ Ended t below o ∧ lw_Q a s o t
/-- the law's own end, with 1 on the stack, nothing written that was there before, its room as the claim has it -/
theorem lw_ret {p : Program} {l : Launch} {e : Env} {s : State} {m : MethodId} {below : List Frame} {meth : Method} {c : Code} {b : Nat} (hx : p.tables.exec = Jvm.exec) (hb : c.code = code) (hr : meth.sig.returnType = ret) (hlocks : meth.locks = false) {pc : Nat} {H : Heap} {ls : Array Slot} (hdg : decode code pc = .ok (.ireturn, 1)) : W p l e room_1 s m #[Value.ref b] below meth c H [] 600000 7302250 (lw_Z below #[Value.ref b] s) (F0 m pc ls [.int 1]) := by
  intro T hT X
  obtain ⟨fs, hret, hrun, hended, hW, hframe⟩ := X.leave (v := some (.int 1)) (hlocks := hlocks) (fun h => by rw [hr] at h; cases h)
  have hmeth' : T.vm.method? m = some meth := X.method'
  refine ⟨T.setFrames fs, ?_, .returned (some (.int 1)), hrun, hended, rfl, ⟨_, rfl⟩, hW, hframe⟩
  jvm_step X.here [X.here.top, hx, hb, hdg, hmeth', hr, ret, narrow_b1]
  (try refine ⟨rfl, ?_⟩); (try refine ⟨rfl, ?_⟩)
  first | (intro acts; rw [hret _ acts rfl rfl rfl]) | rw [hret _ _ rfl rfl rfl]
  exact Steps.refl _
/-- what holds at the law's entry: the machine, the code, the tables' words (any of lw_tbl by 'hts w (by decide +kernel)'), the script of L ints xs at the cell b, what the Statement gives of the start (any of its parts by flat_of_before) -/
def lw_At (p : Program) (s : State) (m : MethodId) (meth : Method) (c : Code) (b L : Nat) (xs : Nat → Int32) : Prop :=
  p.tables.exec = Jvm.exec ∧ c.code = code ∧ meth.sig.returnType = ret ∧ c.maxLocals = 4 ∧ s.vm.findClass R_law = some m.cls ∧ (∀ w ∈ lw_tbl, w.before #[Value.ref b] s = true) ∧ va_X b L xs s s.heap ∧ b < s.heap.size ∧ meth.locks = false ∧ (Jvm.Cond.and given_1 narrow_1).before #[Value.ref b] s = true
theorem dL_law_0 : decode cL_law 0 = .ok (.new 7, 3) := by decide +kernel
theorem dL_law_3 : decode cL_law 3 = .ok (.dup, 1) := by decide +kernel
theorem dL_law_4 : decode cL_law 4 = .ok (.invokespecial 9, 3) := by decide +kernel
theorem dL_law_7 : decode cL_law 7 = .ok (.astore_n 1, 1) := by decide +kernel
theorem dL_law_8 : decode cL_law 8 = .ok (.new 10, 3) := by decide +kernel
theorem dL_law_11 : decode cL_law 11 = .ok (.dup, 1) := by decide +kernel
theorem dL_law_12 : decode cL_law 12 = .ok (.invokespecial 12, 3) := by decide +kernel
theorem dL_law_15 : decode cL_law 15 = .ok (.astore_n 2, 1) := by decide +kernel
theorem ms_0 : Cond.instantiable RX0 2 ∈ e_tbl := e_tbl_mem (List.mem_of_getElem? (i := 167) (by decide +kernel)) rfl
theorem ms_1 : Cond.instantiable RX1 8 ∈ e_tbl := e_tbl_mem (List.mem_of_getElem? (i := 126) (by decide +kernel)) rfl
theorem ms_2 : Cond.instantiable RX2 9 ∈ e_tbl := e_tbl_mem (List.mem_of_getElem? (i := 87) (by decide +kernel)) rfl
theorem ms_3 : Cond.instantiable RX3 14 ∈ e_tbl := e_tbl_mem (List.mem_of_getElem? (i := 77) (by decide +kernel)) rfl
theorem ms_4 : Cond.instantiable RX4 30 ∈ e_tbl := e_tbl_mem (List.mem_of_getElem? (i := 686) (by decide +kernel)) rfl
theorem ms_5 : Cond.arrayClass .int ∈ e_tbl := e_tbl_mem (List.mem_of_getElem? (i := 123) (by decide +kernel)) rfl
theorem ms_6 : Cond.arrayClass .long ∈ e_tbl := e_tbl_mem (List.mem_of_getElem? (i := 124) (by decide +kernel)) rfl
theorem ms_7 : Cond.arrayClass .boolean ∈ e_tbl := e_tbl_mem (List.mem_of_getElem? (i := 163) (by decide +kernel)) rfl
theorem ms_8 : Cond.classLink RL 7 RX3 ∈ e_tbl := e_tbl_mem (List.mem_of_getElem? (i := 76) (by decide +kernel)) rfl
theorem ms_9 : Cond.initialized RX3 ∈ e_tbl := e_tbl_mem (List.mem_of_getElem? (i := 63) (by decide +kernel)) rfl
theorem ms_10 : Cond.methodLink RL 9 yX3_init ∈ e_tbl := e_tbl_mem (List.mem_of_getElem? (i := 78) (by decide +kernel)) rfl
theorem ms_11 : Cond.instanceMethod yX3_init ∈ e_tbl := e_tbl_mem (List.mem_of_getElem? (i := 79) (by decide +kernel)) rfl
theorem ms_12 : Cond.classLink RL 10 RX4 ∈ e_tbl := e_tbl_mem (List.mem_of_getElem? (i := 685) (by decide +kernel)) rfl
theorem ms_13 : Cond.initialized RX4 ∈ e_tbl := e_tbl_mem (List.mem_of_getElem? (i := 67) (by decide +kernel)) rfl
theorem ms_14 : Cond.methodLink RL 12 yX4_init ∈ e_tbl := e_tbl_mem (List.mem_of_getElem? (i := 687) (by decide +kernel)) rfl
theorem ms_15 : Cond.instanceMethod yX4_init ∈ e_tbl := e_tbl_mem (List.mem_of_getElem? (i := 688) (by decide +kernel)) rfl
theorem mq_0 : Cond.laysStatic "HardEnvoys" "LEAST" "[I" ∈ lw_tbl := List.mem_of_getElem? (i := 256) (by decide +kernel)
theorem mq_1 : Cond.initialized "HardEnvoys" ∈ lw_tbl := List.mem_of_getElem? (i := 63) (by decide +kernel)
theorem mq_2 : Cond.laysStatic "HardEnvoys" "MOST" "[I" ∈ lw_tbl := List.mem_of_getElem? (i := 258) (by decide +kernel)
theorem mq_3 : Cond.stringRef "HardEnvoys$Rule" 81 "lunwv" ∈ lw_tbl := List.mem_of_getElem? (i := 352) (by decide +kernel)
theorem mq_4 : Cond.laysStatic "java/lang/String" "COMPACT_STRINGS" "Z" ∈ lw_tbl := List.mem_of_getElem? (i := 366) (by decide +kernel)
theorem mq_5 : Cond.initialized "java/lang/String" ∈ lw_tbl := List.mem_of_getElem? (i := 69) (by decide +kernel)
theorem mq_6 : Cond.arrayOver (.object "HardEnvoys$Envoy") ∈ lw_tbl := List.mem_of_getElem? (i := 85) (by decide +kernel)
theorem mq_7 : Cond.arrayOver (.array .int) ∈ lw_tbl := List.mem_of_getElem? (i := 132) (by decide +kernel)
theorem mq_8 : Cond.arrayOver (.array .long) ∈ lw_tbl := List.mem_of_getElem? (i := 166) (by decide +kernel)
theorem mq_9 : Cond.methodLinkNest RX3 21 yX2_init "HardEnvoys" ∈ lw_tbl := List.mem_of_getElem? (i := 88) (by decide +kernel)
theorem mq_10 : Cond.methodLinkNest RX3 28 yX1_init "HardEnvoys" ∈ lw_tbl := List.mem_of_getElem? (i := 127) (by decide +kernel)
theorem mq_11 : Cond.methodLinkNest RX3 69 yX0_init "HardEnvoys" ∈ lw_tbl := List.mem_of_getElem? (i := 168) (by decide +kernel)
theorem mf_0 : Cond.arrayOf (.static "HardEnvoys" "LEAST" "[I") .int ∈ flatC (Jvm.Cond.and given_1 narrow_1) := by decide +kernel
theorem mf_1 : Cond.eq (.length (.static "HardEnvoys" "LEAST" "[I")) (.int 9) ∈ flatC (Jvm.Cond.and given_1 narrow_1) := by decide +kernel
theorem mf_2 : Cond.eq (.elem (.static "HardEnvoys" "LEAST" "[I") (.int 0)) (.int 0) ∈ flatC (Jvm.Cond.and given_1 narrow_1) := by decide +kernel
theorem mf_3 : Cond.eq (.elem (.static "HardEnvoys" "LEAST" "[I") (.int 1)) (.int 0) ∈ flatC (Jvm.Cond.and given_1 narrow_1) := by decide +kernel
theorem mf_4 : Cond.eq (.elem (.static "HardEnvoys" "LEAST" "[I") (.int 2)) (.int 0) ∈ flatC (Jvm.Cond.and given_1 narrow_1) := by decide +kernel
theorem mf_5 : Cond.eq (.elem (.static "HardEnvoys" "LEAST" "[I") (.int 3)) (.int 0) ∈ flatC (Jvm.Cond.and given_1 narrow_1) := by decide +kernel
theorem mf_6 : Cond.eq (.elem (.static "HardEnvoys" "LEAST" "[I") (.int 4)) (.int (-500)) ∈ flatC (Jvm.Cond.and given_1 narrow_1) := by decide +kernel
theorem mf_7 : Cond.eq (.elem (.static "HardEnvoys" "LEAST" "[I") (.int 5)) (.int 0) ∈ flatC (Jvm.Cond.and given_1 narrow_1) := by decide +kernel
theorem mf_8 : Cond.eq (.elem (.static "HardEnvoys" "LEAST" "[I") (.int 6)) (.int 0) ∈ flatC (Jvm.Cond.and given_1 narrow_1) := by decide +kernel
theorem mf_9 : Cond.eq (.elem (.static "HardEnvoys" "LEAST" "[I") (.int 7)) (.int 0) ∈ flatC (Jvm.Cond.and given_1 narrow_1) := by decide +kernel
theorem mf_10 : Cond.eq (.elem (.static "HardEnvoys" "LEAST" "[I") (.int 8)) (.int 0) ∈ flatC (Jvm.Cond.and given_1 narrow_1) := by decide +kernel
theorem mf_11 : Cond.arrayOf (.static "HardEnvoys" "MOST" "[I") .int ∈ flatC (Jvm.Cond.and given_1 narrow_1) := by decide +kernel
theorem mf_12 : Cond.eq (.length (.static "HardEnvoys" "MOST" "[I")) (.int 9) ∈ flatC (Jvm.Cond.and given_1 narrow_1) := by decide +kernel
theorem mf_13 : Cond.eq (.elem (.static "HardEnvoys" "MOST" "[I") (.int 0)) (.int 60) ∈ flatC (Jvm.Cond.and given_1 narrow_1) := by decide +kernel
theorem mf_14 : Cond.eq (.elem (.static "HardEnvoys" "MOST" "[I") (.int 1)) (.int 24) ∈ flatC (Jvm.Cond.and given_1 narrow_1) := by decide +kernel
theorem mf_15 : Cond.eq (.elem (.static "HardEnvoys" "MOST" "[I") (.int 2)) (.int 200) ∈ flatC (Jvm.Cond.and given_1 narrow_1) := by decide +kernel
theorem mf_16 : Cond.eq (.elem (.static "HardEnvoys" "MOST" "[I") (.int 3)) (.int 60) ∈ flatC (Jvm.Cond.and given_1 narrow_1) := by decide +kernel
theorem mf_17 : Cond.eq (.elem (.static "HardEnvoys" "MOST" "[I") (.int 4)) (.int 500) ∈ flatC (Jvm.Cond.and given_1 narrow_1) := by decide +kernel
theorem mf_18 : Cond.eq (.elem (.static "HardEnvoys" "MOST" "[I") (.int 5)) (.int 24) ∈ flatC (Jvm.Cond.and given_1 narrow_1) := by decide +kernel
theorem mf_19 : Cond.eq (.elem (.static "HardEnvoys" "MOST" "[I") (.int 6)) (.int 24) ∈ flatC (Jvm.Cond.and given_1 narrow_1) := by decide +kernel
theorem mf_20 : Cond.eq (.elem (.static "HardEnvoys" "MOST" "[I") (.int 7)) (.int 60) ∈ flatC (Jvm.Cond.and given_1 narrow_1) := by decide +kernel
theorem mf_21 : Cond.eq (.elem (.static "HardEnvoys" "MOST" "[I") (.int 8)) (.int 200) ∈ flatC (Jvm.Cond.and given_1 narrow_1) := by decide +kernel
theorem mf_22 : Cond.arrayOf (.field (.string "HardEnvoys$Rule" 81) "java/lang/String" "value" "[B") .byte ∈ flatC (Jvm.Cond.and given_1 narrow_1) := by decide +kernel
theorem mf_23 : Cond.eq (.length (.field (.string "HardEnvoys$Rule" 81) "java/lang/String" "value" "[B")) (.int 5) ∈ flatC (Jvm.Cond.and given_1 narrow_1) := by decide +kernel
theorem mf_24 : Cond.eq (.elem (.field (.string "HardEnvoys$Rule" 81) "java/lang/String" "value" "[B") (.int 0)) (.int 108) ∈ flatC (Jvm.Cond.and given_1 narrow_1) := by decide +kernel
theorem mf_25 : Cond.eq (.elem (.field (.string "HardEnvoys$Rule" 81) "java/lang/String" "value" "[B") (.int 1)) (.int 117) ∈ flatC (Jvm.Cond.and given_1 narrow_1) := by decide +kernel
theorem mf_26 : Cond.eq (.elem (.field (.string "HardEnvoys$Rule" 81) "java/lang/String" "value" "[B") (.int 2)) (.int 110) ∈ flatC (Jvm.Cond.and given_1 narrow_1) := by decide +kernel
theorem mf_27 : Cond.eq (.elem (.field (.string "HardEnvoys$Rule" 81) "java/lang/String" "value" "[B") (.int 3)) (.int 119) ∈ flatC (Jvm.Cond.and given_1 narrow_1) := by decide +kernel
theorem mf_28 : Cond.eq (.elem (.field (.string "HardEnvoys$Rule" 81) "java/lang/String" "value" "[B") (.int 4)) (.int 118) ∈ flatC (Jvm.Cond.and given_1 narrow_1) := by decide +kernel
theorem mf_29 : Cond.exactly (.string "HardEnvoys$Rule" 81) "java/lang/String" ∈ flatC (Jvm.Cond.and given_1 narrow_1) := by decide +kernel
theorem mf_30 : Cond.eq (.field (.string "HardEnvoys$Rule" 81) "java/lang/String" "coder" "B") (.int 0) ∈ flatC (Jvm.Cond.and given_1 narrow_1) := by decide +kernel
theorem mf_31 : Cond.eq (.static "java/lang/String" "COMPACT_STRINGS" "Z") (.int 1) ∈ flatC (Jvm.Cond.and given_1 narrow_1) := by decide +kernel
theorem x_Ro {s : State} {b : Nat} (hts0 : ∀ w ∈ lw_tbl, w.before #[Value.ref b] s = true) (hgv : (Jvm.Cond.and given_1 narrow_1).before #[Value.ref b] s = true) : ∃ t1 t2 t3 t4 : Nat, e_Ro s.heap.size (x_ad [b, t1, t2, t3, t4]) s s.heap := by
  have hs := flat_of_before _ hgv
  have nA : ∀ a : Nat, a < s.heap.size → ¬ e_B s.heap.size a := fun a h z => Nat.not_le.mpr h z
  obtain ⟨t1, ht1, hT1⟩ := va_Tof (tm := (.static "HardEnvoys" "LEAST" "[I")) (ty := .int) (N := 9) (f := fun j => .int (e_lo j)) (A := e_B s.heap.size) (by decide) (hs _ mf_0) (va_eqt (hs _ mf_1)) (fun j hj => match j, hj with
    | 0, _ => va_eqt (hs _ mf_2)
    | 1, _ => va_eqt (hs _ mf_3)
    | 2, _ => va_eqt (hs _ mf_4)
    | 3, _ => va_eqt (hs _ mf_5)
    | 4, _ => va_eqt (hs _ mf_6)
    | 5, _ => va_eqt (hs _ mf_7)
    | 6, _ => va_eqt (hs _ mf_8)
    | 7, _ => va_eqt (hs _ mf_9)
    | 8, _ => va_eqt (hs _ mf_10)
    | m + 9, h9 => absurd h9 (by omega)) nA
  obtain ⟨t2, ht2, hT2⟩ := va_Tof (tm := (.static "HardEnvoys" "MOST" "[I")) (ty := .int) (N := 9) (f := fun j => .int (e_hi j)) (A := e_B s.heap.size) (by decide) (hs _ mf_11) (va_eqt (hs _ mf_12)) (fun j hj => match j, hj with
    | 0, _ => va_eqt (hs _ mf_13)
    | 1, _ => va_eqt (hs _ mf_14)
    | 2, _ => va_eqt (hs _ mf_15)
    | 3, _ => va_eqt (hs _ mf_16)
    | 4, _ => va_eqt (hs _ mf_17)
    | 5, _ => va_eqt (hs _ mf_18)
    | 6, _ => va_eqt (hs _ mf_19)
    | 7, _ => va_eqt (hs _ mf_20)
    | 8, _ => va_eqt (hs _ mf_21)
    | m + 9, h9 => absurd h9 (by omega)) nA
  obtain ⟨t4, ht4, hT4⟩ := va_Tof (tm := (.field (.string "HardEnvoys$Rule" 81) "java/lang/String" "value" "[B")) (ty := .byte) (N := 5) (f := fun j => .int (e_by j)) (A := e_B s.heap.size) (by decide) (hs _ mf_22) (va_eqt (hs _ mf_23)) (fun j hj => match j, hj with
    | 0, _ => va_eqt (hs _ mf_24)
    | 1, _ => va_eqt (hs _ mf_25)
    | 2, _ => va_eqt (hs _ mf_26)
    | 3, _ => va_eqt (hs _ mf_27)
    | 4, _ => va_eqt (hs _ mf_28)
    | m + 5, h9 => absurd h9 (by omega)) nA
  obtain ⟨t3, _, _, _, ht3, -⟩ := Cond.exactly_spec (hs _ mf_29)
  refine ⟨t1, t2, t3, t4, va_Zref (hts0 _ mq_0) (hts0 _ mq_1) ht1 nA, hT1, va_Zref (hts0 _ mq_2) (hts0 _ mq_1) ht2 nA, hT2, vk_R.of (hts0 _ mq_3) ht3, va_Oof (hs _ mf_29) ht3 nA, vk_OFof ht3 (va_eqt (hs _ mf_30)) nA, vk_OFof ht3 ht4 nA, hT4, va_Zof (hts0 _ mq_4) (hts0 _ mq_5) (va_eqi (hs _ mf_31)) nA⟩
theorem x_known {s : State} {args : Array Value} (hts0 : ∀ w ∈ lw_tbl, w.before args s = true) : ∃ (D : va_G) (cA : Nat → ClassId), va_K D vwCl (e_tys cA) s ∧ x_N s := by
  have hts : ∀ w ∈ e_tbl, w.before args s = true := fun w hw => hts0 w (List.mem_filter.mp hw).1
  obtain ⟨c0, iS0, hKn0⟩ := u_known (C := RX0) (T := TX0) (N := 2) (n := 2) hts inE0 (hts _ ms_0)
  obtain ⟨c1, iS1, hKn1⟩ := u_known (C := RX1) (T := TX1) (N := 8) (n := 8) hts inE1 (hts _ ms_1)
  obtain ⟨c2, iS2, hKn2⟩ := u_known (C := RX2) (T := TX2) (N := 9) (n := 9) hts inE2 (hts _ ms_2)
  obtain ⟨c3, iS3, hKn3⟩ := u_known (C := RX3) (T := TX3) (N := 14) (n := 14) hts inE3 (hts _ ms_3)
  obtain ⟨c4, iS4, hKn4⟩ := u_known (C := RX4) (T := TX4) (N := 30) (n := 30) hts inE4 (hts _ ms_4)
  obtain ⟨a0, k0, p0, f0, g0, h0⟩ := Cond.arrayClass_spec (hts _ ms_5)
  obtain ⟨a1, k1, p1, f1, g1, h1⟩ := Cond.arrayClass_spec (hts _ ms_6)
  obtain ⟨a2, k2, p2, f2, g2, h2⟩ := Cond.arrayClass_spec (hts _ ms_7)
  obtain ⟨p3, a3, k3, f3, -, g3, h3, j3⟩ := Cond.arrayOver_spec (hts0 _ mq_6)
  obtain ⟨p4, a4, k4, f4, -, g4, h4, j4⟩ := Jvm.Stand.arrayOver_specB (hts0 _ mq_7)
  obtain ⟨p5, a5, k5, f5, -, g5, h5, j5⟩ := Jvm.Stand.arrayOver_specB (hts0 _ mq_8)
  refine ⟨(x_ad [c0, c1, c2, c3, c4], fun k => [iS0, iS1, iS2, iS3, iS4].getD k iS0), x_ad [a0, a1, a2, a3, a4, a5], ⟨fun k q hq => ?_, fun k q hq => ?_⟩, ?_⟩
  · match k, hq with
    | 0, hq => cases hq; exact hKn0
    | 1, hq => cases hq; exact hKn1
    | 2, hq => cases hq; exact hKn2
    | 3, hq => cases hq; exact hKn3
    | 4, hq => cases hq; exact hKn4
    | k + 5, hq => simp at hq
  · match k, hq with
    | 0, hq => cases hq; exact ⟨fun N z => ⟨fun k h => (by cases h), k0, g0, p0, h0⟩, f0⟩
    | 1, hq => cases hq; exact ⟨fun N z => ⟨fun k h => (by cases h), k1, g1, p1, h1⟩, f1⟩
    | 2, hq => cases hq; exact ⟨fun N z => ⟨fun k h => (by cases h), k2, g2, p2, h2⟩, f2⟩
    | 3, hq => cases hq; exact ⟨fun N z => ⟨fun k h => (by cases h), k3, g3, p3, h3⟩, k3, p3, g3, h3, f3, j3⟩
    | 4, hq => cases hq; exact ⟨fun N z => ⟨fun k h => (by cases h), k4, g4, p4, h4⟩, j4⟩
    | 5, hq => cases hq; exact ⟨fun N z => ⟨fun k h => (by cases h), k5, g5, p5, h5⟩, j5⟩
    | k + 6, hq => simp at hq
  · exact ⟨va_Nw.of rfl (hts0 _ mq_9), va_Nw.of rfl (hts0 _ mq_10), va_Nw.of rfl (hts0 _ mq_11), va_AO.of (hts0 _ mq_6), va_AOA.of (hts0 _ mq_7), va_AOA.of (hts0 _ mq_8)⟩
theorem x_fs3 : ∀ j, j < 14 → defaultValue (tyX3 j) = vp_V [.null, .null, .null, .null, .null, .null, .int 0, .int 0, .int 0, .int 0, .int 0, .int 0, .long 0, .long 0] j := fun j hj => match j, hj with
  | 0, _ => rfl
  | 1, _ => rfl
  | 2, _ => rfl
  | 3, _ => rfl
  | 4, _ => rfl
  | 5, _ => rfl
  | 6, _ => rfl
  | 7, _ => rfl
  | 8, _ => rfl
  | 9, _ => rfl
  | 10, _ => rfl
  | 11, _ => rfl
  | 12, _ => rfl
  | 13, _ => rfl
  | n + 14, h => absurd h (by omega)
theorem x_fs4 : ∀ j, j < 30 → defaultValue (tyX4 j) = vp_V [.int 0, .null, .null, .null, .int 0, .int 0, .int 0, .int 0, .int 0, .null, .int 0, .long 0, .long 0, .int 0, .int 0, .null, .int 0, .null, .int 0, .null, .long 0, .null, .null, .null, .int 0, .int 0, .int 0, .null, .null, .int 0] j := fun j hj => match j, hj with
  | 0, _ => rfl
  | 1, _ => rfl
  | 2, _ => rfl
  | 3, _ => rfl
  | 4, _ => rfl
  | 5, _ => rfl
  | 6, _ => rfl
  | 7, _ => rfl
  | 8, _ => rfl
  | 9, _ => rfl
  | 10, _ => rfl
  | 11, _ => rfl
  | 12, _ => rfl
  | 13, _ => rfl
  | 14, _ => rfl
  | 15, _ => rfl
  | 16, _ => rfl
  | 17, _ => rfl
  | 18, _ => rfl
  | 19, _ => rfl
  | 20, _ => rfl
  | 21, _ => rfl
  | 22, _ => rfl
  | 23, _ => rfl
  | 24, _ => rfl
  | 25, _ => rfl
  | 26, _ => rfl
  | 27, _ => rfl
  | 28, _ => rfl
  | 29, _ => rfl
  | n + 30, h => absurd h (by omega)
set_option maxHeartbeats 4000000 in
set_option maxRecDepth 100000 in
/-- from the entry to the loop: both objects are made -/
theorem x_start {p : Program} {e : Env} {s : State} {m : MethodId} {below : List Frame} {meth : Method} {c : Code} (l : Launch) {b L : Nat} {xs : Nat → Int32} (C0 : lw_At p s m meth c b L xs) {D : va_G} {cA : Nat → ClassId} (hK : va_K D vwCl (e_tys cA) s) (hE : x_N s) (kk : ∀ (el : List Nat) (H : Heap) (locs : List Loc) (ls : Array Slot), va_P D vwCl (x_raw (x_ad el) cA) H → va_D (fun q : Nat => s.heap.size ≤ q) (x_raw (x_ad el) cA) → va_S (fun q : Nat => s.heap.size ≤ q) s.heap H locs → lv_has ls 4 [(2, .ref (x_ad el 40)), (1, .ref (x_ad el 0)), (0, .ref b)] → W p l e room_1 s m #[Value.ref b] below meth c H locs 53 993 (lw_Z below #[Value.ref b] s) (F0 m 16 ls [])) : W p l e room_1 s m #[Value.ref b] below meth c s.heap [] 0 0 (lw_Z below #[Value.ref b] s) (entryFrame m ([Value.ref b] : List Value).toArray 4) := by
  obtain ⟨hx, hb, hr, hml, hown, hts0, hX, hbl, hlocks, hgv⟩ := id C0
  have hts : ∀ w ∈ e_tbl, w.before #[Value.ref b] s = true := fun w hw => hts0 w (List.mem_filter.mp hw).1
  have hown : s.vm.findClass RL = some m.cls := hown
  have hb : c.code = cL_law := hb
  have hA : ∀ q : Nat, s.heap.size ≤ q → (fun q : Nat => s.heap.size ≤ q) q := fun _ h => h
  have hS : va_S (fun q : Nat => s.heap.size ≤ q) s.heap s.heap [] := va_S.rf
  have hP : va_P D vwCl [] s.heap := fun k q h => by simp at h
  have hD : va_D (fun q : Nat => s.heap.size ≤ q) [] := ⟨fun i j p q h => by simp at h, fun k q h => by simp at h⟩
  have hl := lv_entry ([.ref b]) (n := 4) (Nat.le_of_ble_eq_true rfl)
  rw [lg_entry_eq]
  generalize (lg_sl ([.ref b]) ++ List.replicate (4 - (lg_sl ([.ref b])).length) Slot.unset).toArray = ls at hl ⊢
  have hl : lv_has ls 4 [(0, .ref b)] := hl
  refine va_new (ci := 3) (fs := [.null, .null, .null, .null, .null, .null, .int 0, .int 0, .int 0, .int 0, .int 0, .int 0, .long 0, .long 0]) (C := RX3) (T := TX3) (N := 14) hx hb hts inE3 tyX3 tyX3_ok hown (hts _ ms_8) (hts _ ms_3) (hts _ ms_9) hK hP hD hS hA rfl x_fs3 (Nat.le_of_ble_eq_true rfl) (Nat.le_of_ble_eq_true rfl) dL_law_0 (fun e0 H hP hD hS => ?_)
  have hP : va_P D vwCl [(e0, .inr (3, [.null, .null, .null, .null, .null, .null, .int 0, .int 0, .int 0, .int 0, .int 0, .int 0, .long 0, .long 0]))] H := hP
  have hD : va_D (fun q : Nat => s.heap.size ≤ q) [(e0, .inr (3, [.null, .null, .null, .null, .null, .null, .int 0, .int 0, .int 0, .int 0, .int 0, .int 0, .long 0, .long 0]))] := hD
  refine W.widen (k := 1) (n := 14) (by omega) (by omega) ?_
  refine lv_dup hx hb dL_law_3 rfl ?_
  have hPc := hP.sub (ws' := [(e0, .inr (3, [.null, .null, .null, .null, .null, .null, .int 0, .int 0, .int 0, .int 0, .int 0, .int 0, .long 0, .long 0]))]) [0] rfl
  have hDc := hD.sub (ws' := [(e0, .inr (3, [.null, .null, .null, .null, .null, .null, .int 0, .int 0, .int 0, .int 0, .int 0, .int 0, .long 0, .long 0]))]) [0] (by decide) rfl
  have hFc := va_free (wc := [(e0, .inr (3, [.null, .null, .null, .null, .null, .null, .int 0, .int 0, .int 0, .int 0, .int 0, .int 0, .long 0, .long 0]))]) hD hS hA [0] rfl
  refine va_callv (va_runI (As := []) (rest := [.ref e0]) ⟨hx, hb, hml, hown, hts⟩ (c_X3_init l D cA e0 H.size) (cwI 0 hts x_g3 rfl rfl rfl (hts _ ms_9) (hts _ ms_10) (hts _ ms_11) rfl (by decide +kernel) ⟨(Nat.le_of_ble_eq_true rfl), (Nat.le_of_ble_eq_true rfl)⟩) ⟨fun a U g mk q => by obtain ⟨q0, q1, qP, qK, qD, qE⟩ := q; exact ⟨q0, q1, qP, va_K.moved (u := U) (U := U.calling g mk a) (Vm.Alike.refl U.vm) qK, qD, x_N.calling qE rfl⟩, fun U hU hW => ⟨rfl, by rw [hU], by rw [hU]; exact hPc, va_K.moved hW.alike hK, hDc.weaken (fun _ _ _ _ => trivial), hE.warm hW⟩⟩ rfl rfl hl.1 rfl (lv_room (Nat.le_of_ble_eq_true rfl)) dL_law_4 ⟨(Nat.le_of_ble_eq_true rfl), (Nat.le_of_ble_eq_true rfl)⟩) hS (fun q _ h => hFc q h) hFc (fun u t H1 locs ht hvm hw hB hz1 hk1 hS => ?_)
  obtain ⟨e1, e2, e3, e4, e5, e6, e7, e8, e9, e10, e11, e12, e13, e14, e15, e16, e17, e18, e19, e20, e21, e22, e23, e24, e25, e26, e27, e28, e29, e30, e31, e32, e33, e34, e35, e36, e37, e38, e39, hP1, hD1⟩ := hB
  rw [ht] at hP1
  obtain ⟨hP, hD⟩ := va_join (wr := []) (w1 := [(e0, .inr (3, [.ref e1, .ref e2, .ref e3, .ref e9, .ref e34, .ref e37, .int 10, .int 0, .int 2, .int 0, .int 1, .int 2, .long 0, .long 1])), (e1, .inl (cA 0, 2, .inl (upd (upd (fun _ => 0) 0 1) 1 1))), (e2, .inl (cA 3, 10, .inr (.inr (.inr (.inr (va_up (va_up (va_up (va_up (va_up (va_up (va_up (va_up (va_up (va_up (fun _ => none) 0 (some e10)) 1 (some e11)) 2 (some e12)) 3 (some e13)) 4 (some e14)) 5 (some e15)) 6 (some e16)) 7 (some e17)) 8 (some e18)) 9 (some e19))))))), (e3, .inr (2, [.int 0, .int 1, .ref e4, .ref e5, .ref e6, .ref e7, .ref e8, .int 0, .int 0])), (e4, .inl (cA 0, 40, .inl (fun _ => 0))), (e5, .inl (cA 0, 40, .inl (fun _ => 0))), (e6, .inl (cA 0, 40, .inl (fun _ => 0))), (e7, .inl (cA 1, 40, .inr (.inl (fun _ => 0)))), (e8, .inl (cA 1, 5, .inr (.inl (fun _ => 0)))), (e9, .inr (1, [.ref e30, .ref e31, .int 1, .int 0, .int 0, .int (-5), .int (-5), .int (-1)])), (e10, .inr (0, [.ref e20, .int 1])), (e11, .inr (0, [.ref e21, .int 1])), (e12, .inr (0, [.ref e22, .int 1])), (e13, .inr (0, [.ref e23, .int 1])), (e14, .inr (0, [.ref e24, .int 1])), (e15, .inr (0, [.ref e25, .int 1])), (e16, .inr (0, [.ref e26, .int 1])), (e17, .inr (0, [.ref e27, .int 1])), (e18, .inr (0, [.ref e28, .int 1])), (e19, .inr (0, [.ref e29, .int 1])), (e20, .inl (cA 0, 9, .inl (upd (fun _ => 0) 0 10))), (e21, .inl (cA 0, 9, .inl (fun _ => 0))), (e22, .inl (cA 0, 9, .inl (fun _ => 0))), (e23, .inl (cA 0, 9, .inl (fun _ => 0))), (e24, .inl (cA 0, 9, .inl (fun _ => 0))), (e25, .inl (cA 0, 9, .inl (upd (fun _ => 0) 0 10))), (e26, .inl (cA 0, 9, .inl (fun _ => 0))), (e27, .inl (cA 0, 9, .inl (fun _ => 0))), (e28, .inl (cA 0, 9, .inl (fun _ => 0))), (e29, .inl (cA 0, 9, .inl (fun _ => 0))), (e30, .inl (cA 2, 25, .inl (fun _ => 0))), (e31, .inl (cA 4, 2, .inr (.inr (.inr (.inr (x_two e32 e33)))))), (e32, .inl (cA 0, 25, .inl (fun _ => 0))), (e33, .inl (cA 0, 25, .inl (fun _ => 0))), (e34, .inl (cA 4, 2, .inr (.inr (.inr (.inr (x_two e35 e36)))))), (e35, .inl (cA 0, 25, .inl (fun _ => 0))), (e36, .inl (cA 0, 25, .inl (fun _ => 0))), (e37, .inl (cA 5, 2, .inr (.inr (.inr (.inr (x_two e38 e39)))))), (e38, .inl (cA 1, 25, .inr (.inl (fun _ => 0)))), (e39, .inl (cA 1, 25, .inr (.inl (fun _ => 0))))]) hP hD [0] [] rfl rfl (by decide) (by decide) hk1 hFc hP1 hD1
  generalize H1 = H at hP hS ⊢
  have hP : va_P D vwCl [(e0, .inr (3, [.ref e1, .ref e2, .ref e3, .ref e9, .ref e34, .ref e37, .int 10, .int 0, .int 2, .int 0, .int 1, .int 2, .long 0, .long 1])), (e1, .inl (cA 0, 2, .inl (upd (upd (fun _ => 0) 0 1) 1 1))), (e2, .inl (cA 3, 10, .inr (.inr (.inr (.inr (va_up (va_up (va_up (va_up (va_up (va_up (va_up (va_up (va_up (va_up (fun _ => none) 0 (some e10)) 1 (some e11)) 2 (some e12)) 3 (some e13)) 4 (some e14)) 5 (some e15)) 6 (some e16)) 7 (some e17)) 8 (some e18)) 9 (some e19))))))), (e3, .inr (2, [.int 0, .int 1, .ref e4, .ref e5, .ref e6, .ref e7, .ref e8, .int 0, .int 0])), (e4, .inl (cA 0, 40, .inl (fun _ => 0))), (e5, .inl (cA 0, 40, .inl (fun _ => 0))), (e6, .inl (cA 0, 40, .inl (fun _ => 0))), (e7, .inl (cA 1, 40, .inr (.inl (fun _ => 0)))), (e8, .inl (cA 1, 5, .inr (.inl (fun _ => 0)))), (e9, .inr (1, [.ref e30, .ref e31, .int 1, .int 0, .int 0, .int (-5), .int (-5), .int (-1)])), (e10, .inr (0, [.ref e20, .int 1])), (e11, .inr (0, [.ref e21, .int 1])), (e12, .inr (0, [.ref e22, .int 1])), (e13, .inr (0, [.ref e23, .int 1])), (e14, .inr (0, [.ref e24, .int 1])), (e15, .inr (0, [.ref e25, .int 1])), (e16, .inr (0, [.ref e26, .int 1])), (e17, .inr (0, [.ref e27, .int 1])), (e18, .inr (0, [.ref e28, .int 1])), (e19, .inr (0, [.ref e29, .int 1])), (e20, .inl (cA 0, 9, .inl (upd (fun _ => 0) 0 10))), (e21, .inl (cA 0, 9, .inl (fun _ => 0))), (e22, .inl (cA 0, 9, .inl (fun _ => 0))), (e23, .inl (cA 0, 9, .inl (fun _ => 0))), (e24, .inl (cA 0, 9, .inl (fun _ => 0))), (e25, .inl (cA 0, 9, .inl (upd (fun _ => 0) 0 10))), (e26, .inl (cA 0, 9, .inl (fun _ => 0))), (e27, .inl (cA 0, 9, .inl (fun _ => 0))), (e28, .inl (cA 0, 9, .inl (fun _ => 0))), (e29, .inl (cA 0, 9, .inl (fun _ => 0))), (e30, .inl (cA 2, 25, .inl (fun _ => 0))), (e31, .inl (cA 4, 2, .inr (.inr (.inr (.inr (x_two e32 e33)))))), (e32, .inl (cA 0, 25, .inl (fun _ => 0))), (e33, .inl (cA 0, 25, .inl (fun _ => 0))), (e34, .inl (cA 4, 2, .inr (.inr (.inr (.inr (x_two e35 e36)))))), (e35, .inl (cA 0, 25, .inl (fun _ => 0))), (e36, .inl (cA 0, 25, .inl (fun _ => 0))), (e37, .inl (cA 5, 2, .inr (.inr (.inr (.inr (x_two e38 e39)))))), (e38, .inl (cA 1, 25, .inr (.inl (fun _ => 0)))), (e39, .inl (cA 1, 25, .inr (.inl (fun _ => 0))))] H := hP
  have hD : va_D (fun q : Nat => s.heap.size ≤ q) [(e0, .inr (3, [.ref e1, .ref e2, .ref e3, .ref e9, .ref e34, .ref e37, .int 10, .int 0, .int 2, .int 0, .int 1, .int 2, .long 0, .long 1])), (e1, .inl (cA 0, 2, .inl (upd (upd (fun _ => 0) 0 1) 1 1))), (e2, .inl (cA 3, 10, .inr (.inr (.inr (.inr (va_up (va_up (va_up (va_up (va_up (va_up (va_up (va_up (va_up (va_up (fun _ => none) 0 (some e10)) 1 (some e11)) 2 (some e12)) 3 (some e13)) 4 (some e14)) 5 (some e15)) 6 (some e16)) 7 (some e17)) 8 (some e18)) 9 (some e19))))))), (e3, .inr (2, [.int 0, .int 1, .ref e4, .ref e5, .ref e6, .ref e7, .ref e8, .int 0, .int 0])), (e4, .inl (cA 0, 40, .inl (fun _ => 0))), (e5, .inl (cA 0, 40, .inl (fun _ => 0))), (e6, .inl (cA 0, 40, .inl (fun _ => 0))), (e7, .inl (cA 1, 40, .inr (.inl (fun _ => 0)))), (e8, .inl (cA 1, 5, .inr (.inl (fun _ => 0)))), (e9, .inr (1, [.ref e30, .ref e31, .int 1, .int 0, .int 0, .int (-5), .int (-5), .int (-1)])), (e10, .inr (0, [.ref e20, .int 1])), (e11, .inr (0, [.ref e21, .int 1])), (e12, .inr (0, [.ref e22, .int 1])), (e13, .inr (0, [.ref e23, .int 1])), (e14, .inr (0, [.ref e24, .int 1])), (e15, .inr (0, [.ref e25, .int 1])), (e16, .inr (0, [.ref e26, .int 1])), (e17, .inr (0, [.ref e27, .int 1])), (e18, .inr (0, [.ref e28, .int 1])), (e19, .inr (0, [.ref e29, .int 1])), (e20, .inl (cA 0, 9, .inl (upd (fun _ => 0) 0 10))), (e21, .inl (cA 0, 9, .inl (fun _ => 0))), (e22, .inl (cA 0, 9, .inl (fun _ => 0))), (e23, .inl (cA 0, 9, .inl (fun _ => 0))), (e24, .inl (cA 0, 9, .inl (fun _ => 0))), (e25, .inl (cA 0, 9, .inl (upd (fun _ => 0) 0 10))), (e26, .inl (cA 0, 9, .inl (fun _ => 0))), (e27, .inl (cA 0, 9, .inl (fun _ => 0))), (e28, .inl (cA 0, 9, .inl (fun _ => 0))), (e29, .inl (cA 0, 9, .inl (fun _ => 0))), (e30, .inl (cA 2, 25, .inl (fun _ => 0))), (e31, .inl (cA 4, 2, .inr (.inr (.inr (.inr (x_two e32 e33)))))), (e32, .inl (cA 0, 25, .inl (fun _ => 0))), (e33, .inl (cA 0, 25, .inl (fun _ => 0))), (e34, .inl (cA 4, 2, .inr (.inr (.inr (.inr (x_two e35 e36)))))), (e35, .inl (cA 0, 25, .inl (fun _ => 0))), (e36, .inl (cA 0, 25, .inl (fun _ => 0))), (e37, .inl (cA 5, 2, .inr (.inr (.inr (.inr (x_two e38 e39)))))), (e38, .inl (cA 1, 25, .inr (.inl (fun _ => 0)))), (e39, .inl (cA 1, 25, .inr (.inl (fun _ => 0))))] := hD
  refine W.widen (k := 40) (n := 499) (by omega) (by omega) ?_
  refine lv_astore_n (lv' := [(1, .ref e0), (0, .ref b)]) hx hb dL_law_7 rfl hl (by decide) rfl (fun ls hl => ?_)
  refine va_new (ci := 4) (fs := [.int 0, .null, .null, .null, .int 0, .int 0, .int 0, .int 0, .int 0, .null, .int 0, .long 0, .long 0, .int 0, .int 0, .null, .int 0, .null, .int 0, .null, .long 0, .null, .null, .null, .int 0, .int 0, .int 0, .null, .null, .int 0]) (C := RX4) (T := TX4) (N := 30) hx hb hts inE4 tyX4 tyX4_ok hown (hts _ ms_12) (hts _ ms_4) (hts _ ms_13) hK hP hD hS hA rfl x_fs4 (Nat.le_of_ble_eq_true rfl) (Nat.le_of_ble_eq_true rfl) dL_law_8 (fun e40 H hP hD hS => ?_)
  have hP : va_P D vwCl [(e0, .inr (3, [.ref e1, .ref e2, .ref e3, .ref e9, .ref e34, .ref e37, .int 10, .int 0, .int 2, .int 0, .int 1, .int 2, .long 0, .long 1])), (e1, .inl (cA 0, 2, .inl (upd (upd (fun _ => 0) 0 1) 1 1))), (e2, .inl (cA 3, 10, .inr (.inr (.inr (.inr (va_up (va_up (va_up (va_up (va_up (va_up (va_up (va_up (va_up (va_up (fun _ => none) 0 (some e10)) 1 (some e11)) 2 (some e12)) 3 (some e13)) 4 (some e14)) 5 (some e15)) 6 (some e16)) 7 (some e17)) 8 (some e18)) 9 (some e19))))))), (e3, .inr (2, [.int 0, .int 1, .ref e4, .ref e5, .ref e6, .ref e7, .ref e8, .int 0, .int 0])), (e4, .inl (cA 0, 40, .inl (fun _ => 0))), (e5, .inl (cA 0, 40, .inl (fun _ => 0))), (e6, .inl (cA 0, 40, .inl (fun _ => 0))), (e7, .inl (cA 1, 40, .inr (.inl (fun _ => 0)))), (e8, .inl (cA 1, 5, .inr (.inl (fun _ => 0)))), (e9, .inr (1, [.ref e30, .ref e31, .int 1, .int 0, .int 0, .int (-5), .int (-5), .int (-1)])), (e10, .inr (0, [.ref e20, .int 1])), (e11, .inr (0, [.ref e21, .int 1])), (e12, .inr (0, [.ref e22, .int 1])), (e13, .inr (0, [.ref e23, .int 1])), (e14, .inr (0, [.ref e24, .int 1])), (e15, .inr (0, [.ref e25, .int 1])), (e16, .inr (0, [.ref e26, .int 1])), (e17, .inr (0, [.ref e27, .int 1])), (e18, .inr (0, [.ref e28, .int 1])), (e19, .inr (0, [.ref e29, .int 1])), (e20, .inl (cA 0, 9, .inl (upd (fun _ => 0) 0 10))), (e21, .inl (cA 0, 9, .inl (fun _ => 0))), (e22, .inl (cA 0, 9, .inl (fun _ => 0))), (e23, .inl (cA 0, 9, .inl (fun _ => 0))), (e24, .inl (cA 0, 9, .inl (fun _ => 0))), (e25, .inl (cA 0, 9, .inl (upd (fun _ => 0) 0 10))), (e26, .inl (cA 0, 9, .inl (fun _ => 0))), (e27, .inl (cA 0, 9, .inl (fun _ => 0))), (e28, .inl (cA 0, 9, .inl (fun _ => 0))), (e29, .inl (cA 0, 9, .inl (fun _ => 0))), (e30, .inl (cA 2, 25, .inl (fun _ => 0))), (e31, .inl (cA 4, 2, .inr (.inr (.inr (.inr (x_two e32 e33)))))), (e32, .inl (cA 0, 25, .inl (fun _ => 0))), (e33, .inl (cA 0, 25, .inl (fun _ => 0))), (e34, .inl (cA 4, 2, .inr (.inr (.inr (.inr (x_two e35 e36)))))), (e35, .inl (cA 0, 25, .inl (fun _ => 0))), (e36, .inl (cA 0, 25, .inl (fun _ => 0))), (e37, .inl (cA 5, 2, .inr (.inr (.inr (.inr (x_two e38 e39)))))), (e38, .inl (cA 1, 25, .inr (.inl (fun _ => 0)))), (e39, .inl (cA 1, 25, .inr (.inl (fun _ => 0)))), (e40, .inr (4, [.int 0, .null, .null, .null, .int 0, .int 0, .int 0, .int 0, .int 0, .null, .int 0, .long 0, .long 0, .int 0, .int 0, .null, .int 0, .null, .int 0, .null, .long 0, .null, .null, .null, .int 0, .int 0, .int 0, .null, .null, .int 0]))] H := hP
  have hD : va_D (fun q : Nat => s.heap.size ≤ q) [(e0, .inr (3, [.ref e1, .ref e2, .ref e3, .ref e9, .ref e34, .ref e37, .int 10, .int 0, .int 2, .int 0, .int 1, .int 2, .long 0, .long 1])), (e1, .inl (cA 0, 2, .inl (upd (upd (fun _ => 0) 0 1) 1 1))), (e2, .inl (cA 3, 10, .inr (.inr (.inr (.inr (va_up (va_up (va_up (va_up (va_up (va_up (va_up (va_up (va_up (va_up (fun _ => none) 0 (some e10)) 1 (some e11)) 2 (some e12)) 3 (some e13)) 4 (some e14)) 5 (some e15)) 6 (some e16)) 7 (some e17)) 8 (some e18)) 9 (some e19))))))), (e3, .inr (2, [.int 0, .int 1, .ref e4, .ref e5, .ref e6, .ref e7, .ref e8, .int 0, .int 0])), (e4, .inl (cA 0, 40, .inl (fun _ => 0))), (e5, .inl (cA 0, 40, .inl (fun _ => 0))), (e6, .inl (cA 0, 40, .inl (fun _ => 0))), (e7, .inl (cA 1, 40, .inr (.inl (fun _ => 0)))), (e8, .inl (cA 1, 5, .inr (.inl (fun _ => 0)))), (e9, .inr (1, [.ref e30, .ref e31, .int 1, .int 0, .int 0, .int (-5), .int (-5), .int (-1)])), (e10, .inr (0, [.ref e20, .int 1])), (e11, .inr (0, [.ref e21, .int 1])), (e12, .inr (0, [.ref e22, .int 1])), (e13, .inr (0, [.ref e23, .int 1])), (e14, .inr (0, [.ref e24, .int 1])), (e15, .inr (0, [.ref e25, .int 1])), (e16, .inr (0, [.ref e26, .int 1])), (e17, .inr (0, [.ref e27, .int 1])), (e18, .inr (0, [.ref e28, .int 1])), (e19, .inr (0, [.ref e29, .int 1])), (e20, .inl (cA 0, 9, .inl (upd (fun _ => 0) 0 10))), (e21, .inl (cA 0, 9, .inl (fun _ => 0))), (e22, .inl (cA 0, 9, .inl (fun _ => 0))), (e23, .inl (cA 0, 9, .inl (fun _ => 0))), (e24, .inl (cA 0, 9, .inl (fun _ => 0))), (e25, .inl (cA 0, 9, .inl (upd (fun _ => 0) 0 10))), (e26, .inl (cA 0, 9, .inl (fun _ => 0))), (e27, .inl (cA 0, 9, .inl (fun _ => 0))), (e28, .inl (cA 0, 9, .inl (fun _ => 0))), (e29, .inl (cA 0, 9, .inl (fun _ => 0))), (e30, .inl (cA 2, 25, .inl (fun _ => 0))), (e31, .inl (cA 4, 2, .inr (.inr (.inr (.inr (x_two e32 e33)))))), (e32, .inl (cA 0, 25, .inl (fun _ => 0))), (e33, .inl (cA 0, 25, .inl (fun _ => 0))), (e34, .inl (cA 4, 2, .inr (.inr (.inr (.inr (x_two e35 e36)))))), (e35, .inl (cA 0, 25, .inl (fun _ => 0))), (e36, .inl (cA 0, 25, .inl (fun _ => 0))), (e37, .inl (cA 5, 2, .inr (.inr (.inr (.inr (x_two e38 e39)))))), (e38, .inl (cA 1, 25, .inr (.inl (fun _ => 0)))), (e39, .inl (cA 1, 25, .inr (.inl (fun _ => 0)))), (e40, .inr (4, [.int 0, .null, .null, .null, .int 0, .int 0, .int 0, .int 0, .int 0, .null, .int 0, .long 0, .long 0, .int 0, .int 0, .null, .int 0, .null, .int 0, .null, .long 0, .null, .null, .null, .int 0, .int 0, .int 0, .null, .null, .int 0]))] := hD
  refine W.widen (k := 41) (n := 529) (by omega) (by omega) ?_
  refine lv_dup hx hb dL_law_11 rfl ?_
  have hPc := hP.sub (ws' := [(e40, .inr (4, [.int 0, .null, .null, .null, .int 0, .int 0, .int 0, .int 0, .int 0, .null, .int 0, .long 0, .long 0, .int 0, .int 0, .null, .int 0, .null, .int 0, .null, .long 0, .null, .null, .null, .int 0, .int 0, .int 0, .null, .null, .int 0]))]) [40] rfl
  have hDc := hD.sub (ws' := [(e40, .inr (4, [.int 0, .null, .null, .null, .int 0, .int 0, .int 0, .int 0, .int 0, .null, .int 0, .long 0, .long 0, .int 0, .int 0, .null, .int 0, .null, .int 0, .null, .long 0, .null, .null, .null, .int 0, .int 0, .int 0, .null, .null, .int 0]))]) [40] (by decide) rfl
  have hFc := va_free (wc := [(e40, .inr (4, [.int 0, .null, .null, .null, .int 0, .int 0, .int 0, .int 0, .int 0, .null, .int 0, .long 0, .long 0, .int 0, .int 0, .null, .int 0, .null, .int 0, .null, .long 0, .null, .null, .null, .int 0, .int 0, .int 0, .null, .null, .int 0]))]) hD hS hA [40] rfl
  refine va_callv (va_runI (As := []) (rest := [.ref e40]) ⟨hx, hb, hml, hown, hts⟩ (c_X4_init l D cA e40 H.size) (cwI 0 hts x_g4 rfl rfl rfl (hts _ ms_13) (hts _ ms_14) (hts _ ms_15) rfl (by decide +kernel) ⟨(Nat.le_of_ble_eq_true rfl), (Nat.le_of_ble_eq_true rfl)⟩) ⟨fun a U g mk q => by obtain ⟨q0, q1, qP, qK, qD⟩ := q; exact ⟨q0, q1, qP, va_K.moved (u := U) (U := U.calling g mk a) (Vm.Alike.refl U.vm) qK, qD⟩, fun U hU hW => ⟨rfl, by rw [hU], by rw [hU]; exact hPc, va_K.moved hW.alike hK, hDc.weaken (fun _ _ _ _ => trivial)⟩⟩ rfl rfl hl.1 rfl (lv_room (Nat.le_of_ble_eq_true rfl)) dL_law_12 ⟨(Nat.le_of_ble_eq_true rfl), (Nat.le_of_ble_eq_true rfl)⟩) hS (fun q _ h => hFc q h) hFc (fun u t H1 locs ht hvm hw hB hz1 hk1 hS => ?_)
  obtain ⟨e41, e42, e43, e44, e45, e46, e47, e48, e49, e50, e51, e52, hP1, hD1⟩ := hB
  rw [ht] at hP1
  obtain ⟨hP, hD⟩ := va_join (wr := [(e0, .inr (3, [.ref e1, .ref e2, .ref e3, .ref e9, .ref e34, .ref e37, .int 10, .int 0, .int 2, .int 0, .int 1, .int 2, .long 0, .long 1])), (e1, .inl (cA 0, 2, .inl (upd (upd (fun _ => 0) 0 1) 1 1))), (e2, .inl (cA 3, 10, .inr (.inr (.inr (.inr (va_up (va_up (va_up (va_up (va_up (va_up (va_up (va_up (va_up (va_up (fun _ => none) 0 (some e10)) 1 (some e11)) 2 (some e12)) 3 (some e13)) 4 (some e14)) 5 (some e15)) 6 (some e16)) 7 (some e17)) 8 (some e18)) 9 (some e19))))))), (e3, .inr (2, [.int 0, .int 1, .ref e4, .ref e5, .ref e6, .ref e7, .ref e8, .int 0, .int 0])), (e4, .inl (cA 0, 40, .inl (fun _ => 0))), (e5, .inl (cA 0, 40, .inl (fun _ => 0))), (e6, .inl (cA 0, 40, .inl (fun _ => 0))), (e7, .inl (cA 1, 40, .inr (.inl (fun _ => 0)))), (e8, .inl (cA 1, 5, .inr (.inl (fun _ => 0)))), (e9, .inr (1, [.ref e30, .ref e31, .int 1, .int 0, .int 0, .int (-5), .int (-5), .int (-1)])), (e10, .inr (0, [.ref e20, .int 1])), (e11, .inr (0, [.ref e21, .int 1])), (e12, .inr (0, [.ref e22, .int 1])), (e13, .inr (0, [.ref e23, .int 1])), (e14, .inr (0, [.ref e24, .int 1])), (e15, .inr (0, [.ref e25, .int 1])), (e16, .inr (0, [.ref e26, .int 1])), (e17, .inr (0, [.ref e27, .int 1])), (e18, .inr (0, [.ref e28, .int 1])), (e19, .inr (0, [.ref e29, .int 1])), (e20, .inl (cA 0, 9, .inl (upd (fun _ => 0) 0 10))), (e21, .inl (cA 0, 9, .inl (fun _ => 0))), (e22, .inl (cA 0, 9, .inl (fun _ => 0))), (e23, .inl (cA 0, 9, .inl (fun _ => 0))), (e24, .inl (cA 0, 9, .inl (fun _ => 0))), (e25, .inl (cA 0, 9, .inl (upd (fun _ => 0) 0 10))), (e26, .inl (cA 0, 9, .inl (fun _ => 0))), (e27, .inl (cA 0, 9, .inl (fun _ => 0))), (e28, .inl (cA 0, 9, .inl (fun _ => 0))), (e29, .inl (cA 0, 9, .inl (fun _ => 0))), (e30, .inl (cA 2, 25, .inl (fun _ => 0))), (e31, .inl (cA 4, 2, .inr (.inr (.inr (.inr (x_two e32 e33)))))), (e32, .inl (cA 0, 25, .inl (fun _ => 0))), (e33, .inl (cA 0, 25, .inl (fun _ => 0))), (e34, .inl (cA 4, 2, .inr (.inr (.inr (.inr (x_two e35 e36)))))), (e35, .inl (cA 0, 25, .inl (fun _ => 0))), (e36, .inl (cA 0, 25, .inl (fun _ => 0))), (e37, .inl (cA 5, 2, .inr (.inr (.inr (.inr (x_two e38 e39)))))), (e38, .inl (cA 1, 25, .inr (.inl (fun _ => 0)))), (e39, .inl (cA 1, 25, .inr (.inl (fun _ => 0))))]) (w1 := [(e40, .inr (4, [.int 10, .ref e41, .ref e42, .ref e43, .int 0, .int 2, .int 0, .int 1, .int 2, .ref e44, .int 0, .long 0, .long 1, .int 0, .int 0, .ref e45, .int 0, .ref e46, .int 0, .ref e47, .long 0, .ref e48, .ref e49, .ref e50, .int 0, .int 0, .int 0, .ref e51, .ref e52, .int 0])), (e41, .inl (cA 0, 90, .inl (upd (upd (fun _ => 0) 0 10) 45 10))), (e42, .inl (cA 0, 10, .inl (upd (upd (fun _ => 0) 0 1) 5 1))), (e43, .inl (cA 0, 2, .inl (upd (upd (fun _ => 0) 0 1) 1 1))), (e44, .inl (cA 0, 40, .inl (fun _ => 0))), (e45, .inl (cA 1, 64, .inr (.inl (fun _ => 0)))), (e46, .inl (cA 0, 128, .inl (fun _ => 0))), (e47, .inl (cA 1, 5, .inr (.inl (fun _ => 0)))), (e48, .inl (cA 2, 25, .inl (fun _ => 0))), (e49, .inl (cA 0, 25, .inl (fun _ => 0))), (e50, .inl (cA 0, 25, .inl (fun _ => 0))), (e51, .inl (cA 0, 25, .inl (fun _ => 0))), (e52, .inl (cA 0, 25, .inl (fun _ => 0)))]) hP hD [40] [0, 1, 2, 3, 4, 5, 6, 7, 8, 9, 10, 11, 12, 13, 14, 15, 16, 17, 18, 19, 20, 21, 22, 23, 24, 25, 26, 27, 28, 29, 30, 31, 32, 33, 34, 35, 36, 37, 38, 39] rfl rfl (by decide) (by decide) hk1 hFc hP1 hD1
  generalize H1 = H at hP hS ⊢
  have hP : va_P D vwCl [(e0, .inr (3, [.ref e1, .ref e2, .ref e3, .ref e9, .ref e34, .ref e37, .int 10, .int 0, .int 2, .int 0, .int 1, .int 2, .long 0, .long 1])), (e1, .inl (cA 0, 2, .inl (upd (upd (fun _ => 0) 0 1) 1 1))), (e2, .inl (cA 3, 10, .inr (.inr (.inr (.inr (va_up (va_up (va_up (va_up (va_up (va_up (va_up (va_up (va_up (va_up (fun _ => none) 0 (some e10)) 1 (some e11)) 2 (some e12)) 3 (some e13)) 4 (some e14)) 5 (some e15)) 6 (some e16)) 7 (some e17)) 8 (some e18)) 9 (some e19))))))), (e3, .inr (2, [.int 0, .int 1, .ref e4, .ref e5, .ref e6, .ref e7, .ref e8, .int 0, .int 0])), (e4, .inl (cA 0, 40, .inl (fun _ => 0))), (e5, .inl (cA 0, 40, .inl (fun _ => 0))), (e6, .inl (cA 0, 40, .inl (fun _ => 0))), (e7, .inl (cA 1, 40, .inr (.inl (fun _ => 0)))), (e8, .inl (cA 1, 5, .inr (.inl (fun _ => 0)))), (e9, .inr (1, [.ref e30, .ref e31, .int 1, .int 0, .int 0, .int (-5), .int (-5), .int (-1)])), (e10, .inr (0, [.ref e20, .int 1])), (e11, .inr (0, [.ref e21, .int 1])), (e12, .inr (0, [.ref e22, .int 1])), (e13, .inr (0, [.ref e23, .int 1])), (e14, .inr (0, [.ref e24, .int 1])), (e15, .inr (0, [.ref e25, .int 1])), (e16, .inr (0, [.ref e26, .int 1])), (e17, .inr (0, [.ref e27, .int 1])), (e18, .inr (0, [.ref e28, .int 1])), (e19, .inr (0, [.ref e29, .int 1])), (e20, .inl (cA 0, 9, .inl (upd (fun _ => 0) 0 10))), (e21, .inl (cA 0, 9, .inl (fun _ => 0))), (e22, .inl (cA 0, 9, .inl (fun _ => 0))), (e23, .inl (cA 0, 9, .inl (fun _ => 0))), (e24, .inl (cA 0, 9, .inl (fun _ => 0))), (e25, .inl (cA 0, 9, .inl (upd (fun _ => 0) 0 10))), (e26, .inl (cA 0, 9, .inl (fun _ => 0))), (e27, .inl (cA 0, 9, .inl (fun _ => 0))), (e28, .inl (cA 0, 9, .inl (fun _ => 0))), (e29, .inl (cA 0, 9, .inl (fun _ => 0))), (e30, .inl (cA 2, 25, .inl (fun _ => 0))), (e31, .inl (cA 4, 2, .inr (.inr (.inr (.inr (x_two e32 e33)))))), (e32, .inl (cA 0, 25, .inl (fun _ => 0))), (e33, .inl (cA 0, 25, .inl (fun _ => 0))), (e34, .inl (cA 4, 2, .inr (.inr (.inr (.inr (x_two e35 e36)))))), (e35, .inl (cA 0, 25, .inl (fun _ => 0))), (e36, .inl (cA 0, 25, .inl (fun _ => 0))), (e37, .inl (cA 5, 2, .inr (.inr (.inr (.inr (x_two e38 e39)))))), (e38, .inl (cA 1, 25, .inr (.inl (fun _ => 0)))), (e39, .inl (cA 1, 25, .inr (.inl (fun _ => 0)))), (e40, .inr (4, [.int 10, .ref e41, .ref e42, .ref e43, .int 0, .int 2, .int 0, .int 1, .int 2, .ref e44, .int 0, .long 0, .long 1, .int 0, .int 0, .ref e45, .int 0, .ref e46, .int 0, .ref e47, .long 0, .ref e48, .ref e49, .ref e50, .int 0, .int 0, .int 0, .ref e51, .ref e52, .int 0])), (e41, .inl (cA 0, 90, .inl (upd (upd (fun _ => 0) 0 10) 45 10))), (e42, .inl (cA 0, 10, .inl (upd (upd (fun _ => 0) 0 1) 5 1))), (e43, .inl (cA 0, 2, .inl (upd (upd (fun _ => 0) 0 1) 1 1))), (e44, .inl (cA 0, 40, .inl (fun _ => 0))), (e45, .inl (cA 1, 64, .inr (.inl (fun _ => 0)))), (e46, .inl (cA 0, 128, .inl (fun _ => 0))), (e47, .inl (cA 1, 5, .inr (.inl (fun _ => 0)))), (e48, .inl (cA 2, 25, .inl (fun _ => 0))), (e49, .inl (cA 0, 25, .inl (fun _ => 0))), (e50, .inl (cA 0, 25, .inl (fun _ => 0))), (e51, .inl (cA 0, 25, .inl (fun _ => 0))), (e52, .inl (cA 0, 25, .inl (fun _ => 0)))] H := hP
  have hD : va_D (fun q : Nat => s.heap.size ≤ q) [(e0, .inr (3, [.ref e1, .ref e2, .ref e3, .ref e9, .ref e34, .ref e37, .int 10, .int 0, .int 2, .int 0, .int 1, .int 2, .long 0, .long 1])), (e1, .inl (cA 0, 2, .inl (upd (upd (fun _ => 0) 0 1) 1 1))), (e2, .inl (cA 3, 10, .inr (.inr (.inr (.inr (va_up (va_up (va_up (va_up (va_up (va_up (va_up (va_up (va_up (va_up (fun _ => none) 0 (some e10)) 1 (some e11)) 2 (some e12)) 3 (some e13)) 4 (some e14)) 5 (some e15)) 6 (some e16)) 7 (some e17)) 8 (some e18)) 9 (some e19))))))), (e3, .inr (2, [.int 0, .int 1, .ref e4, .ref e5, .ref e6, .ref e7, .ref e8, .int 0, .int 0])), (e4, .inl (cA 0, 40, .inl (fun _ => 0))), (e5, .inl (cA 0, 40, .inl (fun _ => 0))), (e6, .inl (cA 0, 40, .inl (fun _ => 0))), (e7, .inl (cA 1, 40, .inr (.inl (fun _ => 0)))), (e8, .inl (cA 1, 5, .inr (.inl (fun _ => 0)))), (e9, .inr (1, [.ref e30, .ref e31, .int 1, .int 0, .int 0, .int (-5), .int (-5), .int (-1)])), (e10, .inr (0, [.ref e20, .int 1])), (e11, .inr (0, [.ref e21, .int 1])), (e12, .inr (0, [.ref e22, .int 1])), (e13, .inr (0, [.ref e23, .int 1])), (e14, .inr (0, [.ref e24, .int 1])), (e15, .inr (0, [.ref e25, .int 1])), (e16, .inr (0, [.ref e26, .int 1])), (e17, .inr (0, [.ref e27, .int 1])), (e18, .inr (0, [.ref e28, .int 1])), (e19, .inr (0, [.ref e29, .int 1])), (e20, .inl (cA 0, 9, .inl (upd (fun _ => 0) 0 10))), (e21, .inl (cA 0, 9, .inl (fun _ => 0))), (e22, .inl (cA 0, 9, .inl (fun _ => 0))), (e23, .inl (cA 0, 9, .inl (fun _ => 0))), (e24, .inl (cA 0, 9, .inl (fun _ => 0))), (e25, .inl (cA 0, 9, .inl (upd (fun _ => 0) 0 10))), (e26, .inl (cA 0, 9, .inl (fun _ => 0))), (e27, .inl (cA 0, 9, .inl (fun _ => 0))), (e28, .inl (cA 0, 9, .inl (fun _ => 0))), (e29, .inl (cA 0, 9, .inl (fun _ => 0))), (e30, .inl (cA 2, 25, .inl (fun _ => 0))), (e31, .inl (cA 4, 2, .inr (.inr (.inr (.inr (x_two e32 e33)))))), (e32, .inl (cA 0, 25, .inl (fun _ => 0))), (e33, .inl (cA 0, 25, .inl (fun _ => 0))), (e34, .inl (cA 4, 2, .inr (.inr (.inr (.inr (x_two e35 e36)))))), (e35, .inl (cA 0, 25, .inl (fun _ => 0))), (e36, .inl (cA 0, 25, .inl (fun _ => 0))), (e37, .inl (cA 5, 2, .inr (.inr (.inr (.inr (x_two e38 e39)))))), (e38, .inl (cA 1, 25, .inr (.inl (fun _ => 0)))), (e39, .inl (cA 1, 25, .inr (.inl (fun _ => 0)))), (e40, .inr (4, [.int 10, .ref e41, .ref e42, .ref e43, .int 0, .int 2, .int 0, .int 1, .int 2, .ref e44, .int 0, .long 0, .long 1, .int 0, .int 0, .ref e45, .int 0, .ref e46, .int 0, .ref e47, .long 0, .ref e48, .ref e49, .ref e50, .int 0, .int 0, .int 0, .ref e51, .ref e52, .int 0])), (e41, .inl (cA 0, 90, .inl (upd (upd (fun _ => 0) 0 10) 45 10))), (e42, .inl (cA 0, 10, .inl (upd (upd (fun _ => 0) 0 1) 5 1))), (e43, .inl (cA 0, 2, .inl (upd (upd (fun _ => 0) 0 1) 1 1))), (e44, .inl (cA 0, 40, .inl (fun _ => 0))), (e45, .inl (cA 1, 64, .inr (.inl (fun _ => 0)))), (e46, .inl (cA 0, 128, .inl (fun _ => 0))), (e47, .inl (cA 1, 5, .inr (.inl (fun _ => 0)))), (e48, .inl (cA 2, 25, .inl (fun _ => 0))), (e49, .inl (cA 0, 25, .inl (fun _ => 0))), (e50, .inl (cA 0, 25, .inl (fun _ => 0))), (e51, .inl (cA 0, 25, .inl (fun _ => 0))), (e52, .inl (cA 0, 25, .inl (fun _ => 0)))] := hD
  refine W.widen (k := 53) (n := 993) (by omega) (by omega) ?_
  refine lv_astore_n (lv' := [(2, .ref e40), (1, .ref e0), (0, .ref b)]) hx hb dL_law_15 rfl hl (by decide) rfl (fun ls hl => ?_)
  exact kk [e0, e1, e2, e3, e4, e5, e6, e7, e8, e9, e10, e11, e12, e13, e14, e15, e16, e17, e18, e19, e20, e21, e22, e23, e24, e25, e26, e27, e28, e29, e30, e31, e32, e33, e34, e35, e36, e37, e38, e39, e40, e41, e42, e43, e44, e45, e46, e47, e48, e49, e50, e51, e52] H locs ls hP hD hS hl
set_option maxHeartbeats 4000000 in
theorem whole_start {p : Program} {e : Env} {s : State} {m : MethodId} {below : List Frame} {meth : Method} {c : Code} (l : Launch) {b L : Nat} {xs : Nat → Int32} (hL : L ≤ 2560) (C0 : lw_At p s m meth c b L xs) : W p l e room_1 s m #[Value.ref b] below meth c s.heap [] 0 0 (lw_Z below #[Value.ref b] s) (entryFrame m ([Value.ref b] : List Value).toArray 4) := by
  obtain ⟨hx, hb, hr, hml, hown, hts0, hX, hbl, hlocks, hgv⟩ := id C0
  have hts : ∀ w ∈ e_tbl, w.before #[Value.ref b] s = true := fun w hw => hts0 w (List.mem_filter.mp hw).1
  obtain ⟨D, cA, hK, hE⟩ := x_known hts0
  obtain ⟨t1, t2, t3, t4, hRo⟩ := x_Ro hts0 hgv
  have hbA : ¬ (fun q : Nat => s.heap.size ≤ q) b := Nat.not_le.mpr hbl
  refine x_start l C0 hK hE (fun el H locs ls hP hD hS hl => ?_)
  obtain ⟨hJ, hAd⟩ := x_J (base := s.heap.size) hD (fun q h => h)
  refine W.widen (k := 600000) (n := 7302250) (by decide) (by decide) ?_
  obtain ⟨g, hg⟩ := v_law (xs := xs) hL x_I (a3 := .null)
  unfold e_F at hg
  obtain ⟨n, hn⟩ := e_E_some.mp hg
  have K : e_K 260 RL cL_law 4 (some .boolean) p room_1 s m #[Value.ref b] meth c 600000 7302250 D cA (x_ad el) (x_ad [b, t1, t2, t3, t4]) s.heap.size (fun q : Nat => s.heap.size ≤ q) := ⟨hx, hb, hml, hr, hown, hts, hlocks, hK, ⟨by decide, by decide, by decide, by decide⟩, hAd, fun q h => h, hJ, hRo⟩
  have hLc : e_L (e_t (x_ad el) (x_ad [b, t1, t2, t3, t4])) ls 4 [.retAddr 0, .ref 0, .ref 40, .null] := by
    refine ⟨rfl, lv_has_sub hl (fun q hq => ?_)⟩
    obtain ⟨i, w⟩ := q
    obtain ⟨v, h1, h2, h3⟩ := e_Ll_mem.mp hq
    dsimp only at h1 h3
    match i, h1 with
    | 0, h1 =>
      cases h1
      rw [h3]
      exact List.mem_of_getElem? (i := 2) rfl
    | 1, h1 =>
      cases h1
      rw [h3]
      exact List.mem_of_getElem? (i := 1) rfl
    | 2, h1 =>
      cases h1
      rw [h3]
      exact List.mem_of_getElem? (i := 0) rfl
    | 3, h1 =>
      cases h1
      exact absurd rfl h2
    | i + 4, h1 => simp at h1
  exact e_walkL (b := b) (L := L) (xs := xs) (r := some (.int 1)) (h2 := g) (e_at_P nL_law) (e_IHall 260) K ⟨rfl, hX, hbl, hbA⟩ (fun H2 locs2 lc2 pc2 hS2 hok => va_forget (fun q hq => hS2.2.2.2 q hq) (lw_ret hx hb hr hlocks hok.1)) n 16 [.retAddr 0, .ref 0, .ref 40, .null] [] x_h hn H locs ls ⟨x_eP hP, hS⟩ hLc
