/-! the constructors -/
theorem x_hu {s : State} {a b : ClassId} {ty : FieldType} (h1 : va_RA s a ty) (h2 : va_RA s b ty) : a = b := by
  cases ty with
  | object C =>
    obtain ⟨_, _, _, _, _, g1⟩ := h1
    obtain ⟨_, _, _, _, _, g2⟩ := h2
    exact Option.some.inj (g1.symm.trans g2)
  | _ => exact Option.some.inj (Eq.trans (Eq.symm h1) h2)
theorem x_inint : ∀ c : ClassId, Jvm.Free.Multi.innerC c 25 (defaultValue .int) = vp_cell c (25, .inl (fun _ => 0)) := fun c => arrV_new c 25 (.int 0)
theorem x_inlong : ∀ c : ClassId, Jvm.Free.Multi.innerC c 25 (defaultValue .long) = vp_cell c (25, .inr (.inl (fun _ => 0))) := fun c => arrV_new c 25 (.long 0)
theorem x_gd {y : MethodName} {cc : ByteArray} {n : Nat} (h : Cond.code y cc n none ∈ e_tbl) : GoodIn e_tbl (Cond.code y cc n none :: e_tbl) := e_tbl_good (fun w hw => by
  rcases List.mem_cons.mp hw with rfl | h2
  · exact h
  · exact h2)
/-- what the class's constructor needs of the tables beside the good words -/
def x_N (U : State) : Prop := va_Nw (.methodLinkNest RX3 21 yX2_init "HardEnvoys") U ∧ va_Nw (.methodLinkNest RX3 28 yX1_init "HardEnvoys") U ∧ va_Nw (.methodLinkNest RX3 69 yX0_init "HardEnvoys") U ∧ va_AO RX0 U ∧ va_AOA .int U ∧ va_AOA .long U
theorem x_N.calling {U V : State} (h : x_N U) (hv : U.vm = V.vm) : x_N V := ⟨va_Nw.same rfl hv h.1, va_Nw.same rfl hv h.2.1, va_Nw.same rfl hv h.2.2.1, va_AO.moved (by rw [hv]; exact Vm.Alike.refl _) h.2.2.2.1, va_AOA.moved (by rw [hv]; exact Vm.Alike.refl _) h.2.2.2.2.1, va_AOA.moved (by rw [hv]; exact Vm.Alike.refl _) h.2.2.2.2.2⟩
theorem x_N.warm {U V : State} (h : x_N U) (hW : U.WarmedH V.vm) : x_N V := ⟨va_Nw.warmM hW h.1, va_Nw.warmM hW h.2.1, va_Nw.warmM hW h.2.2.1, va_AO.moved hW.alike h.2.2.2.1, va_AOA.moved hW.alike h.2.2.2.2.1, va_AOA.moved hW.alike h.2.2.2.2.2⟩
theorem dX0_init_0 : decode cX0_init 0 = .ok (.aload_n 0, 1) := by decide +kernel
theorem dX0_init_1 : decode cX0_init 1 = .ok (.invokespecial 3, 3) := by decide +kernel
theorem dX0_init_4 : decode cX0_init 4 = .ok (.aload_n 0, 1) := by decide +kernel
theorem dX0_init_5 : decode cX0_init 5 = .ok (.bipush 9, 2) := by decide +kernel
theorem dX0_init_7 : decode cX0_init 7 = .ok (.newarray .int, 2) := by decide +kernel
theorem dX0_init_9 : decode cX0_init 9 = .ok (.putfield 9, 3) := by decide +kernel
theorem dX0_init_12 : decode cX0_init 12 = .ok (.aload_n 0, 1) := by decide +kernel
theorem dX0_init_13 : decode cX0_init 13 = .ok (.iconst 1, 1) := by decide +kernel
theorem dX0_init_14 : decode cX0_init 14 = .ok (.putfield 15, 3) := by decide +kernel
theorem dX0_init_17 : decode cX0_init 17 = .ok (.return_, 1) := by decide +kernel
theorem dX1_init_0 : decode cX1_init 0 = .ok (.aload_n 0, 1) := by decide +kernel
theorem dX1_init_1 : decode cX1_init 1 = .ok (.invokespecial 3, 3) := by decide +kernel
theorem dX1_init_4 : decode cX1_init 4 = .ok (.aload_n 0, 1) := by decide +kernel
theorem dX1_init_5 : decode cX1_init 5 = .ok (.bipush 25, 2) := by decide +kernel
theorem dX1_init_7 : decode cX1_init 7 = .ok (.newarray .boolean, 2) := by decide +kernel
theorem dX1_init_9 : decode cX1_init 9 = .ok (.putfield 9, 3) := by decide +kernel
theorem dX1_init_12 : decode cX1_init 12 = .ok (.aload_n 0, 1) := by decide +kernel
theorem dX1_init_13 : decode cX1_init 13 = .ok (.iconst 2, 1) := by decide +kernel
theorem dX1_init_14 : decode cX1_init 14 = .ok (.bipush 25, 2) := by decide +kernel
theorem dX1_init_16 : decode cX1_init 16 = .ok (.multianewarray 15 2, 4) := by decide +kernel
theorem dX1_init_20 : decode cX1_init 20 = .ok (.putfield 17, 3) := by decide +kernel
theorem dX1_init_23 : decode cX1_init 23 = .ok (.aload_n 0, 1) := by decide +kernel
theorem dX1_init_24 : decode cX1_init 24 = .ok (.iconst 1, 1) := by decide +kernel
theorem dX1_init_25 : decode cX1_init 25 = .ok (.putfield 20, 3) := by decide +kernel
theorem dX1_init_28 : decode cX1_init 28 = .ok (.aload_n 0, 1) := by decide +kernel
theorem dX1_init_29 : decode cX1_init 29 = .ok (.iconst 0, 1) := by decide +kernel
theorem dX1_init_30 : decode cX1_init 30 = .ok (.putfield 24, 3) := by decide +kernel
theorem dX1_init_33 : decode cX1_init 33 = .ok (.aload_n 0, 1) := by decide +kernel
theorem dX1_init_34 : decode cX1_init 34 = .ok (.iconst 0, 1) := by decide +kernel
theorem dX1_init_35 : decode cX1_init 35 = .ok (.putfield 27, 3) := by decide +kernel
theorem dX1_init_38 : decode cX1_init 38 = .ok (.aload_n 0, 1) := by decide +kernel
theorem dX1_init_39 : decode cX1_init 39 = .ok (.bipush (-5), 2) := by decide +kernel
theorem dX1_init_41 : decode cX1_init 41 = .ok (.putfield 30, 3) := by decide +kernel
theorem dX1_init_44 : decode cX1_init 44 = .ok (.aload_n 0, 1) := by decide +kernel
theorem dX1_init_45 : decode cX1_init 45 = .ok (.bipush (-5), 2) := by decide +kernel
theorem dX1_init_47 : decode cX1_init 47 = .ok (.putfield 33, 3) := by decide +kernel
theorem dX1_init_50 : decode cX1_init 50 = .ok (.aload_n 0, 1) := by decide +kernel
theorem dX1_init_51 : decode cX1_init 51 = .ok (.iconst (-1), 1) := by decide +kernel
theorem dX1_init_52 : decode cX1_init 52 = .ok (.putfield 36, 3) := by decide +kernel
theorem dX1_init_55 : decode cX1_init 55 = .ok (.return_, 1) := by decide +kernel
theorem dX2_init_0 : decode cX2_init 0 = .ok (.aload_n 0, 1) := by decide +kernel
theorem dX2_init_1 : decode cX2_init 1 = .ok (.invokespecial 3, 3) := by decide +kernel
theorem dX2_init_4 : decode cX2_init 4 = .ok (.aload_n 0, 1) := by decide +kernel
theorem dX2_init_5 : decode cX2_init 5 = .ok (.iconst 0, 1) := by decide +kernel
theorem dX2_init_6 : decode cX2_init 6 = .ok (.putfield 9, 3) := by decide +kernel
theorem dX2_init_9 : decode cX2_init 9 = .ok (.aload_n 0, 1) := by decide +kernel
theorem dX2_init_10 : decode cX2_init 10 = .ok (.iconst 1, 1) := by decide +kernel
theorem dX2_init_11 : decode cX2_init 11 = .ok (.putfield 15, 3) := by decide +kernel
theorem dX2_init_14 : decode cX2_init 14 = .ok (.aload_n 0, 1) := by decide +kernel
theorem dX2_init_15 : decode cX2_init 15 = .ok (.bipush 40, 2) := by decide +kernel
theorem dX2_init_17 : decode cX2_init 17 = .ok (.newarray .int, 2) := by decide +kernel
theorem dX2_init_19 : decode cX2_init 19 = .ok (.putfield 18, 3) := by decide +kernel
theorem dX2_init_22 : decode cX2_init 22 = .ok (.aload_n 0, 1) := by decide +kernel
theorem dX2_init_23 : decode cX2_init 23 = .ok (.bipush 40, 2) := by decide +kernel
theorem dX2_init_25 : decode cX2_init 25 = .ok (.newarray .int, 2) := by decide +kernel
theorem dX2_init_27 : decode cX2_init 27 = .ok (.putfield 22, 3) := by decide +kernel
theorem dX2_init_30 : decode cX2_init 30 = .ok (.aload_n 0, 1) := by decide +kernel
theorem dX2_init_31 : decode cX2_init 31 = .ok (.bipush 40, 2) := by decide +kernel
theorem dX2_init_33 : decode cX2_init 33 = .ok (.newarray .int, 2) := by decide +kernel
theorem dX2_init_35 : decode cX2_init 35 = .ok (.putfield 25, 3) := by decide +kernel
theorem dX2_init_38 : decode cX2_init 38 = .ok (.aload_n 0, 1) := by decide +kernel
theorem dX2_init_39 : decode cX2_init 39 = .ok (.bipush 40, 2) := by decide +kernel
theorem dX2_init_41 : decode cX2_init 41 = .ok (.newarray .long, 2) := by decide +kernel
theorem dX2_init_43 : decode cX2_init 43 = .ok (.putfield 28, 3) := by decide +kernel
theorem dX2_init_46 : decode cX2_init 46 = .ok (.aload_n 0, 1) := by decide +kernel
theorem dX2_init_47 : decode cX2_init 47 = .ok (.iconst 5, 1) := by decide +kernel
theorem dX2_init_48 : decode cX2_init 48 = .ok (.newarray .long, 2) := by decide +kernel
theorem dX2_init_50 : decode cX2_init 50 = .ok (.putfield 32, 3) := by decide +kernel
theorem dX2_init_53 : decode cX2_init 53 = .ok (.aload_n 0, 1) := by decide +kernel
theorem dX2_init_54 : decode cX2_init 54 = .ok (.iconst 0, 1) := by decide +kernel
theorem dX2_init_55 : decode cX2_init 55 = .ok (.putfield 35, 3) := by decide +kernel
theorem dX2_init_58 : decode cX2_init 58 = .ok (.aload_n 0, 1) := by decide +kernel
theorem dX2_init_59 : decode cX2_init 59 = .ok (.iconst 0, 1) := by decide +kernel
theorem dX2_init_60 : decode cX2_init 60 = .ok (.putfield 38, 3) := by decide +kernel
theorem dX2_init_63 : decode cX2_init 63 = .ok (.return_, 1) := by decide +kernel
theorem dX4_init_0 : decode cX4_init 0 = .ok (.aload_n 0, 1) := by decide +kernel
theorem dX4_init_1 : decode cX4_init 1 = .ok (.invokespecial 1, 3) := by decide +kernel
theorem dX4_init_4 : decode cX4_init 4 = .ok (.aload_n 0, 1) := by decide +kernel
theorem dX4_init_5 : decode cX4_init 5 = .ok (.bipush 10, 2) := by decide +kernel
theorem dX4_init_7 : decode cX4_init 7 = .ok (.putfield 7, 3) := by decide +kernel
theorem dX4_init_10 : decode cX4_init 10 = .ok (.aload_n 0, 1) := by decide +kernel
theorem dX4_init_11 : decode cX4_init 11 = .ok (.bipush 90, 2) := by decide +kernel
theorem dX4_init_13 : decode cX4_init 13 = .ok (.newarray .int, 2) := by decide +kernel
theorem dX4_init_15 : decode cX4_init 15 = .ok (.putfield 13, 3) := by decide +kernel
theorem dX4_init_18 : decode cX4_init 18 = .ok (.aload_n 0, 1) := by decide +kernel
theorem dX4_init_19 : decode cX4_init 19 = .ok (.bipush 10, 2) := by decide +kernel
theorem dX4_init_21 : decode cX4_init 21 = .ok (.newarray .int, 2) := by decide +kernel
theorem dX4_init_23 : decode cX4_init 23 = .ok (.putfield 17, 3) := by decide +kernel
theorem dX4_init_26 : decode cX4_init 26 = .ok (.aload_n 0, 1) := by decide +kernel
theorem dX4_init_27 : decode cX4_init 27 = .ok (.iconst 2, 1) := by decide +kernel
theorem dX4_init_28 : decode cX4_init 28 = .ok (.newarray .int, 2) := by decide +kernel
theorem dX4_init_30 : decode cX4_init 30 = .ok (.putfield 20, 3) := by decide +kernel
theorem dX4_init_33 : decode cX4_init 33 = .ok (.aload_n 0, 1) := by decide +kernel
theorem dX4_init_34 : decode cX4_init 34 = .ok (.iconst 2, 1) := by decide +kernel
theorem dX4_init_35 : decode cX4_init 35 = .ok (.putfield 23, 3) := by decide +kernel
theorem dX4_init_38 : decode cX4_init 38 = .ok (.aload_n 0, 1) := by decide +kernel
theorem dX4_init_39 : decode cX4_init 39 = .ok (.iconst 1, 1) := by decide +kernel
theorem dX4_init_40 : decode cX4_init 40 = .ok (.putfield 26, 3) := by decide +kernel
theorem dX4_init_43 : decode cX4_init 43 = .ok (.aload_n 0, 1) := by decide +kernel
theorem dX4_init_44 : decode cX4_init 44 = .ok (.iconst 2, 1) := by decide +kernel
theorem dX4_init_45 : decode cX4_init 45 = .ok (.putfield 29, 3) := by decide +kernel
theorem dX4_init_48 : decode cX4_init 48 = .ok (.aload_n 0, 1) := by decide +kernel
theorem dX4_init_49 : decode cX4_init 49 = .ok (.bipush 40, 2) := by decide +kernel
theorem dX4_init_51 : decode cX4_init 51 = .ok (.newarray .int, 2) := by decide +kernel
theorem dX4_init_53 : decode cX4_init 53 = .ok (.putfield 32, 3) := by decide +kernel
theorem dX4_init_56 : decode cX4_init 56 = .ok (.aload_n 0, 1) := by decide +kernel
theorem dX4_init_57 : decode cX4_init 57 = .ok (.lconst 1, 1) := by decide +kernel
theorem dX4_init_58 : decode cX4_init 58 = .ok (.putfield 35, 3) := by decide +kernel
theorem dX4_init_61 : decode cX4_init 61 = .ok (.aload_n 0, 1) := by decide +kernel
theorem dX4_init_62 : decode cX4_init 62 = .ok (.bipush 64, 2) := by decide +kernel
theorem dX4_init_64 : decode cX4_init 64 = .ok (.newarray .long, 2) := by decide +kernel
theorem dX4_init_66 : decode cX4_init 66 = .ok (.putfield 39, 3) := by decide +kernel
theorem dX4_init_69 : decode cX4_init 69 = .ok (.aload_n 0, 1) := by decide +kernel
theorem dX4_init_70 : decode cX4_init 70 = .ok (.sipush 128, 3) := by decide +kernel
theorem dX4_init_73 : decode cX4_init 73 = .ok (.newarray .int, 2) := by decide +kernel
theorem dX4_init_75 : decode cX4_init 75 = .ok (.putfield 43, 3) := by decide +kernel
theorem dX4_init_78 : decode cX4_init 78 = .ok (.aload_n 0, 1) := by decide +kernel
theorem dX4_init_79 : decode cX4_init 79 = .ok (.iconst 5, 1) := by decide +kernel
theorem dX4_init_80 : decode cX4_init 80 = .ok (.newarray .long, 2) := by decide +kernel
theorem dX4_init_82 : decode cX4_init 82 = .ok (.putfield 46, 3) := by decide +kernel
theorem dX4_init_85 : decode cX4_init 85 = .ok (.aload_n 0, 1) := by decide +kernel
theorem dX4_init_86 : decode cX4_init 86 = .ok (.bipush 25, 2) := by decide +kernel
theorem dX4_init_88 : decode cX4_init 88 = .ok (.newarray .boolean, 2) := by decide +kernel
theorem dX4_init_90 : decode cX4_init 90 = .ok (.putfield 49, 3) := by decide +kernel
theorem dX4_init_93 : decode cX4_init 93 = .ok (.aload_n 0, 1) := by decide +kernel
theorem dX4_init_94 : decode cX4_init 94 = .ok (.bipush 25, 2) := by decide +kernel
theorem dX4_init_96 : decode cX4_init 96 = .ok (.newarray .int, 2) := by decide +kernel
theorem dX4_init_98 : decode cX4_init 98 = .ok (.putfield 53, 3) := by decide +kernel
theorem dX4_init_101 : decode cX4_init 101 = .ok (.aload_n 0, 1) := by decide +kernel
theorem dX4_init_102 : decode cX4_init 102 = .ok (.bipush 25, 2) := by decide +kernel
theorem dX4_init_104 : decode cX4_init 104 = .ok (.newarray .int, 2) := by decide +kernel
theorem dX4_init_106 : decode cX4_init 106 = .ok (.putfield 56, 3) := by decide +kernel
theorem dX4_init_109 : decode cX4_init 109 = .ok (.aload_n 0, 1) := by decide +kernel
theorem dX4_init_110 : decode cX4_init 110 = .ok (.bipush 25, 2) := by decide +kernel
theorem dX4_init_112 : decode cX4_init 112 = .ok (.newarray .int, 2) := by decide +kernel
theorem dX4_init_114 : decode cX4_init 114 = .ok (.putfield 59, 3) := by decide +kernel
theorem dX4_init_117 : decode cX4_init 117 = .ok (.aload_n 0, 1) := by decide +kernel
theorem dX4_init_118 : decode cX4_init 118 = .ok (.bipush 25, 2) := by decide +kernel
theorem dX4_init_120 : decode cX4_init 120 = .ok (.newarray .int, 2) := by decide +kernel
theorem dX4_init_122 : decode cX4_init 122 = .ok (.putfield 62, 3) := by decide +kernel
theorem dX4_init_125 : decode cX4_init 125 = .ok (.iconst 0, 1) := by decide +kernel
theorem dX4_init_126 : decode cX4_init 126 = .ok (.istore_n 1, 1) := by decide +kernel
theorem dX4_init_127 : decode cX4_init 127 = .ok (.iload_n 1, 1) := by decide +kernel
theorem dX4_init_128 : decode cX4_init 128 = .ok (.iconst 2, 1) := by decide +kernel
theorem dX4_init_129 : decode cX4_init 129 = .ok (.if_icmp .ge 38, 3) := by decide +kernel
theorem dX4_init_132 : decode cX4_init 132 = .ok (.aload_n 0, 1) := by decide +kernel
theorem dX4_init_133 : decode cX4_init 133 = .ok (.getfield 13, 3) := by decide +kernel
theorem dX4_init_136 : decode cX4_init 136 = .ok (.bipush 45, 2) := by decide +kernel
theorem dX4_init_138 : decode cX4_init 138 = .ok (.iload_n 1, 1) := by decide +kernel
theorem dX4_init_139 : decode cX4_init 139 = .ok (.imul, 1) := by decide +kernel
theorem dX4_init_140 : decode cX4_init 140 = .ok (.iconst 0, 1) := by decide +kernel
theorem dX4_init_141 : decode cX4_init 141 = .ok (.iadd, 1) := by decide +kernel
theorem dX4_init_142 : decode cX4_init 142 = .ok (.bipush 10, 2) := by decide +kernel
theorem dX4_init_144 : decode cX4_init 144 = .ok (.iastore, 1) := by decide +kernel
theorem dX4_init_145 : decode cX4_init 145 = .ok (.aload_n 0, 1) := by decide +kernel
theorem dX4_init_146 : decode cX4_init 146 = .ok (.getfield 17, 3) := by decide +kernel
theorem dX4_init_149 : decode cX4_init 149 = .ok (.iconst 5, 1) := by decide +kernel
theorem dX4_init_150 : decode cX4_init 150 = .ok (.iload_n 1, 1) := by decide +kernel
theorem dX4_init_151 : decode cX4_init 151 = .ok (.imul, 1) := by decide +kernel
theorem dX4_init_152 : decode cX4_init 152 = .ok (.iconst 1, 1) := by decide +kernel
theorem dX4_init_153 : decode cX4_init 153 = .ok (.iastore, 1) := by decide +kernel
theorem dX4_init_154 : decode cX4_init 154 = .ok (.aload_n 0, 1) := by decide +kernel
theorem dX4_init_155 : decode cX4_init 155 = .ok (.getfield 20, 3) := by decide +kernel
theorem dX4_init_158 : decode cX4_init 158 = .ok (.iload_n 1, 1) := by decide +kernel
theorem dX4_init_159 : decode cX4_init 159 = .ok (.iconst 1, 1) := by decide +kernel
theorem dX4_init_160 : decode cX4_init 160 = .ok (.iastore, 1) := by decide +kernel
theorem dX4_init_161 : decode cX4_init 161 = .ok (.iinc 1 1, 3) := by decide +kernel
theorem dX4_init_164 : decode cX4_init 164 = .ok (.goto (-37), 3) := by decide +kernel
theorem dX4_init_167 : decode cX4_init 167 = .ok (.return_, 1) := by decide +kernel
theorem x_fs0 : ∀ j, j < 2 → defaultValue (tyX0 j) = vp_V [.null, .int 0] j := fun j hj => match j, hj with
  | 0, _ => rfl
  | 1, _ => rfl
  | n + 2, h => absurd h (by omega)
theorem x_fs1 : ∀ j, j < 8 → defaultValue (tyX1 j) = vp_V [.null, .null, .int 0, .int 0, .int 0, .int 0, .int 0, .int 0] j := fun j hj => match j, hj with
  | 0, _ => rfl
  | 1, _ => rfl
  | 2, _ => rfl
  | 3, _ => rfl
  | 4, _ => rfl
  | 5, _ => rfl
  | 6, _ => rfl
  | 7, _ => rfl
  | n + 8, h => absurd h (by omega)
theorem x_fs2 : ∀ j, j < 9 → defaultValue (tyX2 j) = vp_V [.int 0, .int 0, .null, .null, .null, .null, .null, .int 0, .int 0] j := fun j hj => match j, hj with
  | 0, _ => rfl
  | 1, _ => rfl
  | 2, _ => rfl
  | 3, _ => rfl
  | 4, _ => rfl
  | 5, _ => rfl
  | 6, _ => rfl
  | 7, _ => rfl
  | 8, _ => rfl
  | n + 9, h => absurd h (by omega)
theorem mc_0 : Cond.methodLink RX0 3 objectInit ∈ e_tbl := e_tbl_mem (List.mem_of_getElem? (i := 171) (by decide +kernel)) rfl
theorem mc_1 : Cond.instanceMethod objectInit ∈ e_tbl := e_tbl_mem (List.mem_of_getElem? (i := 82) (by decide +kernel)) rfl
theorem mc_2 : Cond.code objectInit ⟨#[0xb1]⟩ 1 none ∈ e_tbl := e_tbl_mem (List.mem_of_getElem? (i := 83) (by decide +kernel)) rfl
theorem mc_3 : Cond.arrayClass .int ∈ e_tbl := e_tbl_mem (List.mem_of_getElem? (i := 123) (by decide +kernel)) rfl
theorem mc_4 : Cond.fieldLink RX0 9 "HardEnvoys$Envoy" "numbers" "[I" ∈ e_tbl := e_tbl_mem (List.mem_of_getElem? (i := 172) (by decide +kernel)) rfl
theorem mc_5 : Cond.fieldLink RX0 15 "HardEnvoys$Envoy" "likely" "I" ∈ e_tbl := e_tbl_mem (List.mem_of_getElem? (i := 175) (by decide +kernel)) rfl
theorem mc_6 : Cond.methodLink RX1 3 objectInit ∈ e_tbl := e_tbl_mem (List.mem_of_getElem? (i := 130) (by decide +kernel)) rfl
theorem mc_7 : Cond.arrayClass .boolean ∈ e_tbl := e_tbl_mem (List.mem_of_getElem? (i := 163) (by decide +kernel)) rfl
theorem mc_8 : Cond.fieldLink RX1 9 "HardEnvoys$Meeting" "both" "[Z" ∈ e_tbl := e_tbl_mem (List.mem_of_getElem? (i := 133) (by decide +kernel)) rfl
theorem mc_9 : Cond.classLink RX1 15 "[[I" ∈ e_tbl := e_tbl_mem (List.mem_of_getElem? (i := 131) (by decide +kernel)) rfl
theorem mc_10 : Cond.fieldLink RX1 17 "HardEnvoys$Meeting" "gains" "[[I" ∈ e_tbl := e_tbl_mem (List.mem_of_getElem? (i := 135) (by decide +kernel)) rfl
theorem mc_11 : Cond.fieldLink RX1 20 "HardEnvoys$Meeting" "steps" "I" ∈ e_tbl := e_tbl_mem (List.mem_of_getElem? (i := 137) (by decide +kernel)) rfl
theorem mc_12 : Cond.fieldLink RX1 24 "HardEnvoys$Meeting" "firstWalk" "I" ∈ e_tbl := e_tbl_mem (List.mem_of_getElem? (i := 138) (by decide +kernel)) rfl
theorem mc_13 : Cond.fieldLink RX1 27 "HardEnvoys$Meeting" "secondWalk" "I" ∈ e_tbl := e_tbl_mem (List.mem_of_getElem? (i := 139) (by decide +kernel)) rfl
theorem mc_14 : Cond.fieldLink RX1 30 "HardEnvoys$Meeting" "share" "I" ∈ e_tbl := e_tbl_mem (List.mem_of_getElem? (i := 140) (by decide +kernel)) rfl
theorem mc_15 : Cond.fieldLink RX1 33 "HardEnvoys$Meeting" "otherShare" "I" ∈ e_tbl := e_tbl_mem (List.mem_of_getElem? (i := 142) (by decide +kernel)) rfl
theorem mc_16 : Cond.fieldLink RX1 36 "HardEnvoys$Meeting" "settledIn" "I" ∈ e_tbl := e_tbl_mem (List.mem_of_getElem? (i := 144) (by decide +kernel)) rfl
theorem mc_17 : Cond.methodLink RX2 3 objectInit ∈ e_tbl := e_tbl_mem (List.mem_of_getElem? (i := 91) (by decide +kernel)) rfl
theorem mc_18 : Cond.fieldLink RX2 9 "HardEnvoys$Rule" "length" "I" ∈ e_tbl := e_tbl_mem (List.mem_of_getElem? (i := 92) (by decide +kernel)) rfl
theorem mc_19 : Cond.fieldLink RX2 15 "HardEnvoys$Rule" "flaw" "I" ∈ e_tbl := e_tbl_mem (List.mem_of_getElem? (i := 94) (by decide +kernel)) rfl
theorem mc_20 : Cond.fieldLink RX2 18 "HardEnvoys$Rule" "text" "[I" ∈ e_tbl := e_tbl_mem (List.mem_of_getElem? (i := 97) (by decide +kernel)) rfl
theorem mc_21 : Cond.fieldLink RX2 22 "HardEnvoys$Rule" "codes" "[I" ∈ e_tbl := e_tbl_mem (List.mem_of_getElem? (i := 98) (by decide +kernel)) rfl
theorem mc_22 : Cond.fieldLink RX2 25 "HardEnvoys$Rule" "operands" "[I" ∈ e_tbl := e_tbl_mem (List.mem_of_getElem? (i := 99) (by decide +kernel)) rfl
theorem mc_23 : Cond.arrayClass .long ∈ e_tbl := e_tbl_mem (List.mem_of_getElem? (i := 124) (by decide +kernel)) rfl
theorem mc_24 : Cond.fieldLink RX2 28 "HardEnvoys$Rule" "stack" "[J" ∈ e_tbl := e_tbl_mem (List.mem_of_getElem? (i := 100) (by decide +kernel)) rfl
theorem mc_25 : Cond.fieldLink RX2 32 "HardEnvoys$Rule" "letters" "[J" ∈ e_tbl := e_tbl_mem (List.mem_of_getElem? (i := 101) (by decide +kernel)) rfl
theorem mc_26 : Cond.fieldLink RX2 35 "HardEnvoys$Rule" "size" "I" ∈ e_tbl := e_tbl_mem (List.mem_of_getElem? (i := 102) (by decide +kernel)) rfl
theorem mc_27 : Cond.fieldLink RX2 38 "HardEnvoys$Rule" "place" "I" ∈ e_tbl := e_tbl_mem (List.mem_of_getElem? (i := 103) (by decide +kernel)) rfl
theorem mc_28 : Cond.methodLink RX4 1 objectInit ∈ e_tbl := e_tbl_mem (List.mem_of_getElem? (i := 690) (by decide +kernel)) rfl
theorem mc_29 : Cond.fieldLink RX4 7 "HardEnvoysModel" "n" "I" ∈ e_tbl := e_tbl_mem (List.mem_of_getElem? (i := 691) (by decide +kernel)) rfl
theorem mc_30 : Cond.fieldLink RX4 13 "HardEnvoysModel" "men" "[I" ∈ e_tbl := e_tbl_mem (List.mem_of_getElem? (i := 692) (by decide +kernel)) rfl
theorem mc_31 : Cond.fieldLink RX4 17 "HardEnvoysModel" "weights" "[I" ∈ e_tbl := e_tbl_mem (List.mem_of_getElem? (i := 693) (by decide +kernel)) rfl
theorem mc_32 : Cond.fieldLink RX4 20 "HardEnvoysModel" "many" "[I" ∈ e_tbl := e_tbl_mem (List.mem_of_getElem? (i := 694) (by decide +kernel)) rfl
theorem mc_33 : Cond.fieldLink RX4 23 "HardEnvoysModel" "rounds" "I" ∈ e_tbl := e_tbl_mem (List.mem_of_getElem? (i := 696) (by decide +kernel)) rfl
theorem mc_34 : Cond.fieldLink RX4 26 "HardEnvoysModel" "lotA" "I" ∈ e_tbl := e_tbl_mem (List.mem_of_getElem? (i := 698) (by decide +kernel)) rfl
theorem mc_35 : Cond.fieldLink RX4 29 "HardEnvoysModel" "lotB" "I" ∈ e_tbl := e_tbl_mem (List.mem_of_getElem? (i := 699) (by decide +kernel)) rfl
theorem mc_36 : Cond.fieldLink RX4 32 "HardEnvoysModel" "rule" "[I" ∈ e_tbl := e_tbl_mem (List.mem_of_getElem? (i := 700) (by decide +kernel)) rfl
theorem mc_37 : Cond.fieldLink RX4 35 "HardEnvoysModel" "below" "J" ∈ e_tbl := e_tbl_mem (List.mem_of_getElem? (i := 703) (by decide +kernel)) rfl
theorem mc_38 : Cond.fieldLink RX4 39 "HardEnvoysModel" "values" "[J" ∈ e_tbl := e_tbl_mem (List.mem_of_getElem? (i := 706) (by decide +kernel)) rfl
theorem mc_39 : Cond.fieldLink RX4 43 "HardEnvoysModel" "signs" "[I" ∈ e_tbl := e_tbl_mem (List.mem_of_getElem? (i := 708) (by decide +kernel)) rfl
theorem mc_40 : Cond.fieldLink RX4 46 "HardEnvoysModel" "names" "[J" ∈ e_tbl := e_tbl_mem (List.mem_of_getElem? (i := 710) (by decide +kernel)) rfl
theorem mc_41 : Cond.fieldLink RX4 49 "HardEnvoysModel" "both" "[Z" ∈ e_tbl := e_tbl_mem (List.mem_of_getElem? (i := 712) (by decide +kernel)) rfl
theorem mc_42 : Cond.fieldLink RX4 53 "HardEnvoysModel" "gain0" "[I" ∈ e_tbl := e_tbl_mem (List.mem_of_getElem? (i := 713) (by decide +kernel)) rfl
theorem mc_43 : Cond.fieldLink RX4 56 "HardEnvoysModel" "gain1" "[I" ∈ e_tbl := e_tbl_mem (List.mem_of_getElem? (i := 714) (by decide +kernel)) rfl
theorem mc_44 : Cond.fieldLink RX4 59 "HardEnvoysModel" "table0" "[I" ∈ e_tbl := e_tbl_mem (List.mem_of_getElem? (i := 718) (by decide +kernel)) rfl
theorem mc_45 : Cond.fieldLink RX4 62 "HardEnvoysModel" "table1" "[I" ∈ e_tbl := e_tbl_mem (List.mem_of_getElem? (i := 719) (by decide +kernel)) rfl
theorem mc_46 : Cond.code yX0_init cX0_init 1 none ∈ e_tbl := e_tbl_mem (List.mem_of_getElem? (i := 170) (by decide +kernel)) rfl
theorem mc_47 : Cond.code yX1_init cX1_init 1 none ∈ e_tbl := e_tbl_mem (List.mem_of_getElem? (i := 129) (by decide +kernel)) rfl
theorem mc_48 : Cond.code yX2_init cX2_init 1 none ∈ e_tbl := e_tbl_mem (List.mem_of_getElem? (i := 90) (by decide +kernel)) rfl
theorem mc_49 : Cond.code yX3_init cX3_init 2 none ∈ e_tbl := e_tbl_mem (List.mem_of_getElem? (i := 80) (by decide +kernel)) rfl
theorem mc_50 : Cond.code yX4_init cX4_init 2 none ∈ e_tbl := e_tbl_mem (List.mem_of_getElem? (i := 689) (by decide +kernel)) rfl
theorem x_g0 : GoodIn e_tbl (Cond.code yX0_init cX0_init 1 none :: e_tbl) := x_gd mc_46
theorem x_g1 : GoodIn e_tbl (Cond.code yX1_init cX1_init 1 none :: e_tbl) := x_gd mc_47
theorem x_g2 : GoodIn e_tbl (Cond.code yX2_init cX2_init 1 none :: e_tbl) := x_gd mc_48
theorem x_g3 : GoodIn e_tbl (Cond.code yX3_init cX3_init 2 none :: e_tbl) := x_gd mc_49
theorem x_g4 : GoodIn e_tbl (Cond.code yX4_init cX4_init 2 none :: e_tbl) := x_gd mc_50
set_option maxHeartbeats 4000000 in
set_option maxRecDepth 100000 in
theorem c_X0_init (l : Launch) (D : va_G) (cA : Nat → ClassId) (h0 sz : Nat) : Met l yX0_init (Cond.code yX0_init cX0_init 1 none :: e_tbl) ({ frames := 1, cells := 1, slots := 9, locals := 12 }) (va_Pc [.ref h0] (fun U => U.heap.size = sz ∧ va_P D vwCl [(h0, .inr (0, [.null, .int 0]))] U.heap ∧ va_K D vwCl (e_tys cA) U ∧ va_D (fun _ => True) [(h0, .inr (0, [.null, .int 0]))])) (va_Qv (fun _ : Unit => True) (fun _ t => ∃ e1 : Nat, va_P D vwCl [(h0, .inr (0, [.ref e1, .int 1])), (e1, .inl (cA 0, 9, .inl (fun _ => 0)))] t.heap ∧ va_D (va_A [(h0, .inr (0, [.null, .int 0]))] sz) [(h0, .inr (0, [.ref e1, .int 1])), (e1, .inl (cA 0, 9, .inl (fun _ => 0)))]) (va_A [(h0, .inr (0, [.null, .int 0]))] sz)) 1 9 (va_A [(h0, .inr (0, [.null, .int 0]))] sz) := by
  refine Met.ofW (cc := cX0_init) (maxL := 1) (ret := none) (by decide) rfl ?_
  intro p e s m args below meth c s₁ B hml hv
  obtain ⟨rfl, hsz, hP, hK, hD0⟩ := hv
  have hx := B.exec
  have hb := B.bytes
  have hr := B.returns
  have hts0 := atoms_spec (ws := Cond.code yX0_init cX0_init 1 none :: e_tbl) B.pre
  have hts : ∀ w ∈ e_tbl, w.before ([Value.ref h0] : List Value).toArray s = true := fun w hw => hts0 w (List.mem_cons_of_mem _ hw)
  have hown : s.vm.findClass RX0 = some m.cls := findClass_of_methodNamed B.named
  have hlocks := B.notSynchronized
  have hin : meth.name = "<init>" := (name_of_methodNamed B.named B.method).1
  subst hsz
  have hD := hD0.self (sz := s.heap.size)
  generalize hAe : va_A [(h0, .inr (0, [.null, .int 0]))] s.heap.size = A at hD ⊢
  have hA : ∀ q : Nat, s.heap.size ≤ q → A q := fun q h => by rw [← hAe]; exact Or.inr h
  have hS : va_S A s.heap s.heap [] := va_S.rf
  have hP : va_P D vwCl [(h0, .inr (0, [.null, .int 0]))] s.heap := hP
  have hl := lv_entry ([.ref h0]) (n := 1) (Nat.le_of_ble_eq_true rfl)
  rw [lg_entry_eq]
  generalize (lg_sl ([.ref h0]) ++ List.replicate (1 - (lg_sl ([.ref h0])).length) Slot.unset).toArray = ls at hl ⊢
  have hl : lv_has ls 1 [(0, .ref h0)] := hl
  refine lv_aload_n hx hb dX0_init_0 rfl (lv_at hl 0 rfl) ?_
  refine W.objInit hx hb hown (hts _ mc_0) (hts _ mc_1) (hts _ mc_2) rfl (by rw [hml]; exact hl.1) rfl dX0_init_1 (Nat.le_of_ble_eq_true rfl) (Nat.le_of_ble_eq_true rfl) ?_
  refine W.eq (g2 := F0 m 4 ls []) rfl ?_
  refine lv_aload_n hx hb dX0_init_4 rfl (lv_at hl 0 rfl) ?_
  refine lv_bipush (v := 9) hx hb dX0_init_5 (by decide) ?_
  refine x_newa (atype := .int) (ty := .int) (cA := cA 0) (N' := 9) (a0 := (9, .inl (fun _ => 0))) hx hb (hts _ mc_3) rfl (fun x h9 => x_hu h9 (hK.2 0 _ rfl).2) hK hP hD hS hA (fun _ => rfl) (by decide) (by decide) (by decide) (Nat.le_of_ble_eq_true rfl) (Nat.le_of_ble_eq_true rfl) dX0_init_7 (fun a1 H hP hD hS => ?_)
  have hP : va_P D vwCl [(h0, .inr (0, [.null, .int 0])), (a1, .inl (cA 0, 9, .inl (fun _ => 0)))] H := hP
  have hD : va_D A [(h0, .inr (0, [.null, .int 0])), (a1, .inl (cA 0, 9, .inl (fun _ => 0)))] := hD
  refine W.widen (k := 1) (n := 9) (by omega) (by omega) ?_
  refine va_putF (D := D) (ci := 0) (v := .ref a1) (ty := .array .int) (C := RX0) (T := TX0) (N := 2) hx hb hts inE0 tyX0 tyX0_ok nmX0 hown hK hP hD hS 0 rfl rfl 0 (by decide) (hts _ mc_4) (fun _ h9 => h9) rfl hin rfl (by decide +kernel) rfl rfl (Nat.le_of_ble_eq_true rfl) dX0_init_9 (fun H locs hP hD hS => ?_)
  have hP : va_P D vwCl [(h0, .inr (0, [.ref a1, .int 0])), (a1, .inl (cA 0, 9, .inl (fun _ => 0)))] H := hP
  have hD : va_D A [(h0, .inr (0, [.ref a1, .int 0])), (a1, .inl (cA 0, 9, .inl (fun _ => 0)))] := hD
  refine lv_aload_n hx hb dX0_init_12 rfl (lv_at hl 0 rfl) ?_
  refine lv_iconst (v := 1) hx hb dX0_init_13 (by decide) ?_
  refine va_put (D := D) (ci := 0) (v := .int 1) (ty := .int) (C := RX0) (T := TX0) (N := 2) hx hb hts inE0 tyX0 tyX0_ok nmX0 hown hK hP hD hS 0 rfl rfl 1 (by decide) (hts _ mc_5) (fun _ h9 => h9) rfl (by decide +kernel) rfl rfl (Nat.le_of_ble_eq_true rfl) dX0_init_14 (fun H locs hP hD hS => ?_)
  have hP : va_P D vwCl [(h0, .inr (0, [.ref a1, .int 1])), (a1, .inl (cA 0, 9, .inl (fun _ => 0)))] H := hP
  have hD : va_D A [(h0, .inr (0, [.ref a1, .int 1])), (a1, .inl (cA 0, 9, .inl (fun _ => 0)))] := hD
  have hP9 := hP.sub (ws' := [(h0, .inr (0, [.ref a1, .int 1])), (a1, .inl (cA 0, 9, .inl (fun _ => 0)))]) [0, 1] rfl
  have hD9 := hD.sub (ws' := [(h0, .inr (0, [.ref a1, .int 1])), (a1, .inl (cA 0, 9, .inl (fun _ => 0)))]) [0, 1] (by decide) rfl
  refine W.widen (k := 1) (n := 9) (by omega) (by omega) ?_
  exact W.vret hx hb hr (fun t ht hW => ⟨⟨(), rfl, trivial, a1, by rw [ht]; exact hP9, hD9⟩, hS.F ht⟩) hS.2.2 dX0_init_17
set_option maxHeartbeats 4000000 in
set_option maxRecDepth 100000 in
theorem c_X1_init (l : Launch) (D : va_G) (cA : Nat → ClassId) (h0 sz : Nat) : Met l yX1_init (Cond.code yX1_init cX1_init 1 none :: e_tbl) ({ frames := 1, cells := 4, slots := 77, locals := 12 }) (va_Pc [.ref h0] (fun U => U.heap.size = sz ∧ va_P D vwCl [(h0, .inr (1, [.null, .null, .int 0, .int 0, .int 0, .int 0, .int 0, .int 0]))] U.heap ∧ va_K D vwCl (e_tys cA) U ∧ va_D (fun _ => True) [(h0, .inr (1, [.null, .null, .int 0, .int 0, .int 0, .int 0, .int 0, .int 0]))] ∧ va_AOA .int U)) (va_Qv (fun _ : Unit => True) (fun _ t => ∃ e1 e2 e3 e4 : Nat, va_P D vwCl [(h0, .inr (1, [.ref e1, .ref e2, .int 1, .int 0, .int 0, .int (-5), .int (-5), .int (-1)])), (e1, .inl (cA 2, 25, .inl (fun _ => 0))), (e2, .inl (cA 4, 2, .inr (.inr (.inr (.inr (x_two e3 e4)))))), (e3, .inl (cA 0, 25, .inl (fun _ => 0))), (e4, .inl (cA 0, 25, .inl (fun _ => 0)))] t.heap ∧ va_D (va_A [(h0, .inr (1, [.null, .null, .int 0, .int 0, .int 0, .int 0, .int 0, .int 0]))] sz) [(h0, .inr (1, [.ref e1, .ref e2, .int 1, .int 0, .int 0, .int (-5), .int (-5), .int (-1)])), (e1, .inl (cA 2, 25, .inl (fun _ => 0))), (e2, .inl (cA 4, 2, .inr (.inr (.inr (.inr (x_two e3 e4)))))), (e3, .inl (cA 0, 25, .inl (fun _ => 0))), (e4, .inl (cA 0, 25, .inl (fun _ => 0)))]) (va_A [(h0, .inr (1, [.null, .null, .int 0, .int 0, .int 0, .int 0, .int 0, .int 0]))] sz)) 4 77 (va_A [(h0, .inr (1, [.null, .null, .int 0, .int 0, .int 0, .int 0, .int 0, .int 0]))] sz) := by
  refine Met.ofW (cc := cX1_init) (maxL := 1) (ret := none) (by decide) rfl ?_
  intro p e s m args below meth c s₁ B hml hv
  obtain ⟨rfl, hsz, hP, hK, hD0, hE⟩ := hv
  have hx := B.exec
  have hb := B.bytes
  have hr := B.returns
  have hts0 := atoms_spec (ws := Cond.code yX1_init cX1_init 1 none :: e_tbl) B.pre
  have hts : ∀ w ∈ e_tbl, w.before ([Value.ref h0] : List Value).toArray s = true := fun w hw => hts0 w (List.mem_cons_of_mem _ hw)
  have hown : s.vm.findClass RX1 = some m.cls := findClass_of_methodNamed B.named
  have hlocks := B.notSynchronized
  have hin : meth.name = "<init>" := (name_of_methodNamed B.named B.method).1
  subst hsz
  have hD := hD0.self (sz := s.heap.size)
  generalize hAe : va_A [(h0, .inr (1, [.null, .null, .int 0, .int 0, .int 0, .int 0, .int 0, .int 0]))] s.heap.size = A at hD ⊢
  have hA : ∀ q : Nat, s.heap.size ≤ q → A q := fun q h => by rw [← hAe]; exact Or.inr h
  have hS : va_S A s.heap s.heap [] := va_S.rf
  have hP : va_P D vwCl [(h0, .inr (1, [.null, .null, .int 0, .int 0, .int 0, .int 0, .int 0, .int 0]))] s.heap := hP
  have hl := lv_entry ([.ref h0]) (n := 1) (Nat.le_of_ble_eq_true rfl)
  rw [lg_entry_eq]
  generalize (lg_sl ([.ref h0]) ++ List.replicate (1 - (lg_sl ([.ref h0])).length) Slot.unset).toArray = ls at hl ⊢
  have hl : lv_has ls 1 [(0, .ref h0)] := hl
  refine lv_aload_n hx hb dX1_init_0 rfl (lv_at hl 0 rfl) ?_
  refine W.objInit hx hb hown (hts _ mc_6) (hts _ mc_1) (hts _ mc_2) rfl (by rw [hml]; exact hl.1) rfl dX1_init_1 (Nat.le_of_ble_eq_true rfl) (Nat.le_of_ble_eq_true rfl) ?_
  refine W.eq (g2 := F0 m 4 ls []) rfl ?_
  refine lv_aload_n hx hb dX1_init_4 rfl (lv_at hl 0 rfl) ?_
  refine lv_bipush (v := 25) hx hb dX1_init_5 (by decide) ?_
  refine x_newa (atype := .boolean) (ty := .boolean) (cA := cA 2) (N' := 25) (a0 := (25, .inl (fun _ => 0))) hx hb (hts _ mc_7) rfl (fun x h9 => x_hu h9 (hK.2 2 _ rfl).2) hK hP hD hS hA (fun _ => rfl) (by decide) (by decide) (by decide) (Nat.le_of_ble_eq_true rfl) (Nat.le_of_ble_eq_true rfl) dX1_init_7 (fun a1 H hP hD hS => ?_)
  have hP : va_P D vwCl [(h0, .inr (1, [.null, .null, .int 0, .int 0, .int 0, .int 0, .int 0, .int 0])), (a1, .inl (cA 2, 25, .inl (fun _ => 0)))] H := hP
  have hD : va_D A [(h0, .inr (1, [.null, .null, .int 0, .int 0, .int 0, .int 0, .int 0, .int 0])), (a1, .inl (cA 2, 25, .inl (fun _ => 0)))] := hD
  refine W.widen (k := 1) (n := 25) (by omega) (by omega) ?_
  refine va_putF (D := D) (ci := 1) (v := .ref a1) (ty := .array .boolean) (C := RX1) (T := TX1) (N := 8) hx hb hts inE1 tyX1 tyX1_ok nmX1 hown hK hP hD hS 0 rfl rfl 0 (by decide) (hts _ mc_8) (fun _ h9 => h9) rfl hin rfl (by decide +kernel) rfl rfl (Nat.le_of_ble_eq_true rfl) dX1_init_9 (fun H locs hP hD hS => ?_)
  have hP : va_P D vwCl [(h0, .inr (1, [.ref a1, .null, .int 0, .int 0, .int 0, .int 0, .int 0, .int 0])), (a1, .inl (cA 2, 25, .inl (fun _ => 0)))] H := hP
  have hD : va_D A [(h0, .inr (1, [.ref a1, .null, .int 0, .int 0, .int 0, .int 0, .int 0, .int 0])), (a1, .inl (cA 2, 25, .inl (fun _ => 0)))] := hD
  refine lv_aload_n hx hb dX1_init_12 rfl (lv_at hl 0 rfl) ?_
  refine lv_iconst (v := 2) hx hb dX1_init_13 (by decide) ?_
  refine lv_bipush (v := 25) hx hb dX1_init_14 (by decide) ?_
  refine x_mna (ty := .int) (cy := cA 0) (cA := cA 4) (K' := 25) (z := (25, .inl (fun _ => 0))) hx hb hown (hts _ mc_9) hE (hts _ mc_3) (hK.2 0 _ rfl).2 (fun x h9 => x_hu h9 (hK.2 4 _ rfl).2) hK hP hD hS hA (by decide) (by decide) (by decide) (by decide) rfl rfl (Nat.le_of_ble_eq_true rfl) (Nat.le_of_ble_eq_true rfl) x_inint dX1_init_16 (fun a2 a3 a4 H hP hD hS => ?_)
  have hP : va_P D vwCl [(h0, .inr (1, [.ref a1, .null, .int 0, .int 0, .int 0, .int 0, .int 0, .int 0])), (a1, .inl (cA 2, 25, .inl (fun _ => 0))), (a2, .inl (cA 4, 2, .inr (.inr (.inr (.inr (x_two a3 a4)))))), (a3, .inl (cA 0, 25, .inl (fun _ => 0))), (a4, .inl (cA 0, 25, .inl (fun _ => 0)))] H := hP
  have hD : va_D A [(h0, .inr (1, [.ref a1, .null, .int 0, .int 0, .int 0, .int 0, .int 0, .int 0])), (a1, .inl (cA 2, 25, .inl (fun _ => 0))), (a2, .inl (cA 4, 2, .inr (.inr (.inr (.inr (x_two a3 a4)))))), (a3, .inl (cA 0, 25, .inl (fun _ => 0))), (a4, .inl (cA 0, 25, .inl (fun _ => 0)))] := hD
  refine W.widen (k := 4) (n := 77) (by omega) (by omega) ?_
  refine va_putF (D := D) (ci := 1) (v := .ref a2) (ty := .array (.array .int)) (C := RX1) (T := TX1) (N := 8) hx hb hts inE1 tyX1 tyX1_ok nmX1 hown hK hP hD hS 0 rfl rfl 1 (by decide) (hts _ mc_10) (fun _ h9 => h9) rfl hin rfl (by decide +kernel) rfl rfl (Nat.le_of_ble_eq_true rfl) dX1_init_20 (fun H locs hP hD hS => ?_)
  have hP : va_P D vwCl [(h0, .inr (1, [.ref a1, .ref a2, .int 0, .int 0, .int 0, .int 0, .int 0, .int 0])), (a1, .inl (cA 2, 25, .inl (fun _ => 0))), (a2, .inl (cA 4, 2, .inr (.inr (.inr (.inr (x_two a3 a4)))))), (a3, .inl (cA 0, 25, .inl (fun _ => 0))), (a4, .inl (cA 0, 25, .inl (fun _ => 0)))] H := hP
  have hD : va_D A [(h0, .inr (1, [.ref a1, .ref a2, .int 0, .int 0, .int 0, .int 0, .int 0, .int 0])), (a1, .inl (cA 2, 25, .inl (fun _ => 0))), (a2, .inl (cA 4, 2, .inr (.inr (.inr (.inr (x_two a3 a4)))))), (a3, .inl (cA 0, 25, .inl (fun _ => 0))), (a4, .inl (cA 0, 25, .inl (fun _ => 0)))] := hD
  refine lv_aload_n hx hb dX1_init_23 rfl (lv_at hl 0 rfl) ?_
  refine lv_iconst (v := 1) hx hb dX1_init_24 (by decide) ?_
  refine va_put (D := D) (ci := 1) (v := .int 1) (ty := .int) (C := RX1) (T := TX1) (N := 8) hx hb hts inE1 tyX1 tyX1_ok nmX1 hown hK hP hD hS 0 rfl rfl 2 (by decide) (hts _ mc_11) (fun _ h9 => h9) rfl (by decide +kernel) rfl rfl (Nat.le_of_ble_eq_true rfl) dX1_init_25 (fun H locs hP hD hS => ?_)
  have hP : va_P D vwCl [(h0, .inr (1, [.ref a1, .ref a2, .int 1, .int 0, .int 0, .int 0, .int 0, .int 0])), (a1, .inl (cA 2, 25, .inl (fun _ => 0))), (a2, .inl (cA 4, 2, .inr (.inr (.inr (.inr (x_two a3 a4)))))), (a3, .inl (cA 0, 25, .inl (fun _ => 0))), (a4, .inl (cA 0, 25, .inl (fun _ => 0)))] H := hP
  have hD : va_D A [(h0, .inr (1, [.ref a1, .ref a2, .int 1, .int 0, .int 0, .int 0, .int 0, .int 0])), (a1, .inl (cA 2, 25, .inl (fun _ => 0))), (a2, .inl (cA 4, 2, .inr (.inr (.inr (.inr (x_two a3 a4)))))), (a3, .inl (cA 0, 25, .inl (fun _ => 0))), (a4, .inl (cA 0, 25, .inl (fun _ => 0)))] := hD
  refine lv_aload_n hx hb dX1_init_28 rfl (lv_at hl 0 rfl) ?_
  refine lv_iconst (v := 0) hx hb dX1_init_29 (by decide) ?_
  refine va_put (D := D) (ci := 1) (v := .int 0) (ty := .int) (C := RX1) (T := TX1) (N := 8) hx hb hts inE1 tyX1 tyX1_ok nmX1 hown hK hP hD hS 0 rfl rfl 3 (by decide) (hts _ mc_12) (fun _ h9 => h9) rfl (by decide +kernel) rfl rfl (Nat.le_of_ble_eq_true rfl) dX1_init_30 (fun H locs hP hD hS => ?_)
  have hP : va_P D vwCl [(h0, .inr (1, [.ref a1, .ref a2, .int 1, .int 0, .int 0, .int 0, .int 0, .int 0])), (a1, .inl (cA 2, 25, .inl (fun _ => 0))), (a2, .inl (cA 4, 2, .inr (.inr (.inr (.inr (x_two a3 a4)))))), (a3, .inl (cA 0, 25, .inl (fun _ => 0))), (a4, .inl (cA 0, 25, .inl (fun _ => 0)))] H := hP
  have hD : va_D A [(h0, .inr (1, [.ref a1, .ref a2, .int 1, .int 0, .int 0, .int 0, .int 0, .int 0])), (a1, .inl (cA 2, 25, .inl (fun _ => 0))), (a2, .inl (cA 4, 2, .inr (.inr (.inr (.inr (x_two a3 a4)))))), (a3, .inl (cA 0, 25, .inl (fun _ => 0))), (a4, .inl (cA 0, 25, .inl (fun _ => 0)))] := hD
  refine lv_aload_n hx hb dX1_init_33 rfl (lv_at hl 0 rfl) ?_
  refine lv_iconst (v := 0) hx hb dX1_init_34 (by decide) ?_
  refine va_put (D := D) (ci := 1) (v := .int 0) (ty := .int) (C := RX1) (T := TX1) (N := 8) hx hb hts inE1 tyX1 tyX1_ok nmX1 hown hK hP hD hS 0 rfl rfl 4 (by decide) (hts _ mc_13) (fun _ h9 => h9) rfl (by decide +kernel) rfl rfl (Nat.le_of_ble_eq_true rfl) dX1_init_35 (fun H locs hP hD hS => ?_)
  have hP : va_P D vwCl [(h0, .inr (1, [.ref a1, .ref a2, .int 1, .int 0, .int 0, .int 0, .int 0, .int 0])), (a1, .inl (cA 2, 25, .inl (fun _ => 0))), (a2, .inl (cA 4, 2, .inr (.inr (.inr (.inr (x_two a3 a4)))))), (a3, .inl (cA 0, 25, .inl (fun _ => 0))), (a4, .inl (cA 0, 25, .inl (fun _ => 0)))] H := hP
  have hD : va_D A [(h0, .inr (1, [.ref a1, .ref a2, .int 1, .int 0, .int 0, .int 0, .int 0, .int 0])), (a1, .inl (cA 2, 25, .inl (fun _ => 0))), (a2, .inl (cA 4, 2, .inr (.inr (.inr (.inr (x_two a3 a4)))))), (a3, .inl (cA 0, 25, .inl (fun _ => 0))), (a4, .inl (cA 0, 25, .inl (fun _ => 0)))] := hD
  refine lv_aload_n hx hb dX1_init_38 rfl (lv_at hl 0 rfl) ?_
  refine lv_bipush (v := (-5)) hx hb dX1_init_39 (by decide) ?_
  refine va_put (D := D) (ci := 1) (v := .int (-5)) (ty := .int) (C := RX1) (T := TX1) (N := 8) hx hb hts inE1 tyX1 tyX1_ok nmX1 hown hK hP hD hS 0 rfl rfl 5 (by decide) (hts _ mc_14) (fun _ h9 => h9) rfl (by decide +kernel) rfl rfl (Nat.le_of_ble_eq_true rfl) dX1_init_41 (fun H locs hP hD hS => ?_)
  have hP : va_P D vwCl [(h0, .inr (1, [.ref a1, .ref a2, .int 1, .int 0, .int 0, .int (-5), .int 0, .int 0])), (a1, .inl (cA 2, 25, .inl (fun _ => 0))), (a2, .inl (cA 4, 2, .inr (.inr (.inr (.inr (x_two a3 a4)))))), (a3, .inl (cA 0, 25, .inl (fun _ => 0))), (a4, .inl (cA 0, 25, .inl (fun _ => 0)))] H := hP
  have hD : va_D A [(h0, .inr (1, [.ref a1, .ref a2, .int 1, .int 0, .int 0, .int (-5), .int 0, .int 0])), (a1, .inl (cA 2, 25, .inl (fun _ => 0))), (a2, .inl (cA 4, 2, .inr (.inr (.inr (.inr (x_two a3 a4)))))), (a3, .inl (cA 0, 25, .inl (fun _ => 0))), (a4, .inl (cA 0, 25, .inl (fun _ => 0)))] := hD
  refine lv_aload_n hx hb dX1_init_44 rfl (lv_at hl 0 rfl) ?_
  refine lv_bipush (v := (-5)) hx hb dX1_init_45 (by decide) ?_
  refine va_put (D := D) (ci := 1) (v := .int (-5)) (ty := .int) (C := RX1) (T := TX1) (N := 8) hx hb hts inE1 tyX1 tyX1_ok nmX1 hown hK hP hD hS 0 rfl rfl 6 (by decide) (hts _ mc_15) (fun _ h9 => h9) rfl (by decide +kernel) rfl rfl (Nat.le_of_ble_eq_true rfl) dX1_init_47 (fun H locs hP hD hS => ?_)
  have hP : va_P D vwCl [(h0, .inr (1, [.ref a1, .ref a2, .int 1, .int 0, .int 0, .int (-5), .int (-5), .int 0])), (a1, .inl (cA 2, 25, .inl (fun _ => 0))), (a2, .inl (cA 4, 2, .inr (.inr (.inr (.inr (x_two a3 a4)))))), (a3, .inl (cA 0, 25, .inl (fun _ => 0))), (a4, .inl (cA 0, 25, .inl (fun _ => 0)))] H := hP
  have hD : va_D A [(h0, .inr (1, [.ref a1, .ref a2, .int 1, .int 0, .int 0, .int (-5), .int (-5), .int 0])), (a1, .inl (cA 2, 25, .inl (fun _ => 0))), (a2, .inl (cA 4, 2, .inr (.inr (.inr (.inr (x_two a3 a4)))))), (a3, .inl (cA 0, 25, .inl (fun _ => 0))), (a4, .inl (cA 0, 25, .inl (fun _ => 0)))] := hD
  refine lv_aload_n hx hb dX1_init_50 rfl (lv_at hl 0 rfl) ?_
  refine lv_iconst (v := (-1)) hx hb dX1_init_51 (by decide) ?_
  refine va_put (D := D) (ci := 1) (v := .int (-1)) (ty := .int) (C := RX1) (T := TX1) (N := 8) hx hb hts inE1 tyX1 tyX1_ok nmX1 hown hK hP hD hS 0 rfl rfl 7 (by decide) (hts _ mc_16) (fun _ h9 => h9) rfl (by decide +kernel) rfl rfl (Nat.le_of_ble_eq_true rfl) dX1_init_52 (fun H locs hP hD hS => ?_)
  have hP : va_P D vwCl [(h0, .inr (1, [.ref a1, .ref a2, .int 1, .int 0, .int 0, .int (-5), .int (-5), .int (-1)])), (a1, .inl (cA 2, 25, .inl (fun _ => 0))), (a2, .inl (cA 4, 2, .inr (.inr (.inr (.inr (x_two a3 a4)))))), (a3, .inl (cA 0, 25, .inl (fun _ => 0))), (a4, .inl (cA 0, 25, .inl (fun _ => 0)))] H := hP
  have hD : va_D A [(h0, .inr (1, [.ref a1, .ref a2, .int 1, .int 0, .int 0, .int (-5), .int (-5), .int (-1)])), (a1, .inl (cA 2, 25, .inl (fun _ => 0))), (a2, .inl (cA 4, 2, .inr (.inr (.inr (.inr (x_two a3 a4)))))), (a3, .inl (cA 0, 25, .inl (fun _ => 0))), (a4, .inl (cA 0, 25, .inl (fun _ => 0)))] := hD
  have hP9 := hP.sub (ws' := [(h0, .inr (1, [.ref a1, .ref a2, .int 1, .int 0, .int 0, .int (-5), .int (-5), .int (-1)])), (a1, .inl (cA 2, 25, .inl (fun _ => 0))), (a2, .inl (cA 4, 2, .inr (.inr (.inr (.inr (x_two a3 a4)))))), (a3, .inl (cA 0, 25, .inl (fun _ => 0))), (a4, .inl (cA 0, 25, .inl (fun _ => 0)))]) [0, 1, 2, 3, 4] rfl
  have hD9 := hD.sub (ws' := [(h0, .inr (1, [.ref a1, .ref a2, .int 1, .int 0, .int 0, .int (-5), .int (-5), .int (-1)])), (a1, .inl (cA 2, 25, .inl (fun _ => 0))), (a2, .inl (cA 4, 2, .inr (.inr (.inr (.inr (x_two a3 a4)))))), (a3, .inl (cA 0, 25, .inl (fun _ => 0))), (a4, .inl (cA 0, 25, .inl (fun _ => 0)))]) [0, 1, 2, 3, 4] (by decide) rfl
  refine W.widen (k := 4) (n := 77) (by omega) (by omega) ?_
  exact W.vret hx hb hr (fun t ht hW => ⟨⟨(), rfl, trivial, a1, a2, a3, a4, by rw [ht]; exact hP9, hD9⟩, hS.F ht⟩) hS.2.2 dX1_init_55
set_option maxHeartbeats 4000000 in
set_option maxRecDepth 100000 in
theorem c_X2_init (l : Launch) (D : va_G) (cA : Nat → ClassId) (h0 sz : Nat) : Met l yX2_init (Cond.code yX2_init cX2_init 1 none :: e_tbl) ({ frames := 1, cells := 5, slots := 165, locals := 12 }) (va_Pc [.ref h0] (fun U => U.heap.size = sz ∧ va_P D vwCl [(h0, .inr (2, [.int 0, .int 0, .null, .null, .null, .null, .null, .int 0, .int 0]))] U.heap ∧ va_K D vwCl (e_tys cA) U ∧ va_D (fun _ => True) [(h0, .inr (2, [.int 0, .int 0, .null, .null, .null, .null, .null, .int 0, .int 0]))])) (va_Qv (fun _ : Unit => True) (fun _ t => ∃ e1 e2 e3 e4 e5 : Nat, va_P D vwCl [(h0, .inr (2, [.int 0, .int 1, .ref e1, .ref e2, .ref e3, .ref e4, .ref e5, .int 0, .int 0])), (e1, .inl (cA 0, 40, .inl (fun _ => 0))), (e2, .inl (cA 0, 40, .inl (fun _ => 0))), (e3, .inl (cA 0, 40, .inl (fun _ => 0))), (e4, .inl (cA 1, 40, .inr (.inl (fun _ => 0)))), (e5, .inl (cA 1, 5, .inr (.inl (fun _ => 0))))] t.heap ∧ va_D (va_A [(h0, .inr (2, [.int 0, .int 0, .null, .null, .null, .null, .null, .int 0, .int 0]))] sz) [(h0, .inr (2, [.int 0, .int 1, .ref e1, .ref e2, .ref e3, .ref e4, .ref e5, .int 0, .int 0])), (e1, .inl (cA 0, 40, .inl (fun _ => 0))), (e2, .inl (cA 0, 40, .inl (fun _ => 0))), (e3, .inl (cA 0, 40, .inl (fun _ => 0))), (e4, .inl (cA 1, 40, .inr (.inl (fun _ => 0)))), (e5, .inl (cA 1, 5, .inr (.inl (fun _ => 0))))]) (va_A [(h0, .inr (2, [.int 0, .int 0, .null, .null, .null, .null, .null, .int 0, .int 0]))] sz)) 5 165 (va_A [(h0, .inr (2, [.int 0, .int 0, .null, .null, .null, .null, .null, .int 0, .int 0]))] sz) := by
  refine Met.ofW (cc := cX2_init) (maxL := 1) (ret := none) (by decide) rfl ?_
  intro p e s m args below meth c s₁ B hml hv
  obtain ⟨rfl, hsz, hP, hK, hD0⟩ := hv
  have hx := B.exec
  have hb := B.bytes
  have hr := B.returns
  have hts0 := atoms_spec (ws := Cond.code yX2_init cX2_init 1 none :: e_tbl) B.pre
  have hts : ∀ w ∈ e_tbl, w.before ([Value.ref h0] : List Value).toArray s = true := fun w hw => hts0 w (List.mem_cons_of_mem _ hw)
  have hown : s.vm.findClass RX2 = some m.cls := findClass_of_methodNamed B.named
  have hlocks := B.notSynchronized
  have hin : meth.name = "<init>" := (name_of_methodNamed B.named B.method).1
  subst hsz
  have hD := hD0.self (sz := s.heap.size)
  generalize hAe : va_A [(h0, .inr (2, [.int 0, .int 0, .null, .null, .null, .null, .null, .int 0, .int 0]))] s.heap.size = A at hD ⊢
  have hA : ∀ q : Nat, s.heap.size ≤ q → A q := fun q h => by rw [← hAe]; exact Or.inr h
  have hS : va_S A s.heap s.heap [] := va_S.rf
  have hP : va_P D vwCl [(h0, .inr (2, [.int 0, .int 0, .null, .null, .null, .null, .null, .int 0, .int 0]))] s.heap := hP
  have hl := lv_entry ([.ref h0]) (n := 1) (Nat.le_of_ble_eq_true rfl)
  rw [lg_entry_eq]
  generalize (lg_sl ([.ref h0]) ++ List.replicate (1 - (lg_sl ([.ref h0])).length) Slot.unset).toArray = ls at hl ⊢
  have hl : lv_has ls 1 [(0, .ref h0)] := hl
  refine lv_aload_n hx hb dX2_init_0 rfl (lv_at hl 0 rfl) ?_
  refine W.objInit hx hb hown (hts _ mc_17) (hts _ mc_1) (hts _ mc_2) rfl (by rw [hml]; exact hl.1) rfl dX2_init_1 (Nat.le_of_ble_eq_true rfl) (Nat.le_of_ble_eq_true rfl) ?_
  refine W.eq (g2 := F0 m 4 ls []) rfl ?_
  refine lv_aload_n hx hb dX2_init_4 rfl (lv_at hl 0 rfl) ?_
  refine lv_iconst (v := 0) hx hb dX2_init_5 (by decide) ?_
  refine va_put (D := D) (ci := 2) (v := .int 0) (ty := .int) (C := RX2) (T := TX2) (N := 9) hx hb hts inE2 tyX2 tyX2_ok nmX2 hown hK hP hD hS 0 rfl rfl 0 (by decide) (hts _ mc_18) (fun _ h9 => h9) rfl (by decide +kernel) rfl rfl (Nat.le_of_ble_eq_true rfl) dX2_init_6 (fun H locs hP hD hS => ?_)
  have hP : va_P D vwCl [(h0, .inr (2, [.int 0, .int 0, .null, .null, .null, .null, .null, .int 0, .int 0]))] H := hP
  have hD : va_D A [(h0, .inr (2, [.int 0, .int 0, .null, .null, .null, .null, .null, .int 0, .int 0]))] := hD
  refine lv_aload_n hx hb dX2_init_9 rfl (lv_at hl 0 rfl) ?_
  refine lv_iconst (v := 1) hx hb dX2_init_10 (by decide) ?_
  refine va_put (D := D) (ci := 2) (v := .int 1) (ty := .int) (C := RX2) (T := TX2) (N := 9) hx hb hts inE2 tyX2 tyX2_ok nmX2 hown hK hP hD hS 0 rfl rfl 1 (by decide) (hts _ mc_19) (fun _ h9 => h9) rfl (by decide +kernel) rfl rfl (Nat.le_of_ble_eq_true rfl) dX2_init_11 (fun H locs hP hD hS => ?_)
  have hP : va_P D vwCl [(h0, .inr (2, [.int 0, .int 1, .null, .null, .null, .null, .null, .int 0, .int 0]))] H := hP
  have hD : va_D A [(h0, .inr (2, [.int 0, .int 1, .null, .null, .null, .null, .null, .int 0, .int 0]))] := hD
  refine lv_aload_n hx hb dX2_init_14 rfl (lv_at hl 0 rfl) ?_
  refine lv_bipush (v := 40) hx hb dX2_init_15 (by decide) ?_
  refine x_newa (atype := .int) (ty := .int) (cA := cA 0) (N' := 40) (a0 := (40, .inl (fun _ => 0))) hx hb (hts _ mc_3) rfl (fun x h9 => x_hu h9 (hK.2 0 _ rfl).2) hK hP hD hS hA (fun _ => rfl) (by decide) (by decide) (by decide) (Nat.le_of_ble_eq_true rfl) (Nat.le_of_ble_eq_true rfl) dX2_init_17 (fun a1 H hP hD hS => ?_)
  have hP : va_P D vwCl [(h0, .inr (2, [.int 0, .int 1, .null, .null, .null, .null, .null, .int 0, .int 0])), (a1, .inl (cA 0, 40, .inl (fun _ => 0)))] H := hP
  have hD : va_D A [(h0, .inr (2, [.int 0, .int 1, .null, .null, .null, .null, .null, .int 0, .int 0])), (a1, .inl (cA 0, 40, .inl (fun _ => 0)))] := hD
  refine W.widen (k := 1) (n := 40) (by omega) (by omega) ?_
  refine va_putF (D := D) (ci := 2) (v := .ref a1) (ty := .array .int) (C := RX2) (T := TX2) (N := 9) hx hb hts inE2 tyX2 tyX2_ok nmX2 hown hK hP hD hS 0 rfl rfl 2 (by decide) (hts _ mc_20) (fun _ h9 => h9) rfl hin rfl (by decide +kernel) rfl rfl (Nat.le_of_ble_eq_true rfl) dX2_init_19 (fun H locs hP hD hS => ?_)
  have hP : va_P D vwCl [(h0, .inr (2, [.int 0, .int 1, .ref a1, .null, .null, .null, .null, .int 0, .int 0])), (a1, .inl (cA 0, 40, .inl (fun _ => 0)))] H := hP
  have hD : va_D A [(h0, .inr (2, [.int 0, .int 1, .ref a1, .null, .null, .null, .null, .int 0, .int 0])), (a1, .inl (cA 0, 40, .inl (fun _ => 0)))] := hD
  refine lv_aload_n hx hb dX2_init_22 rfl (lv_at hl 0 rfl) ?_
  refine lv_bipush (v := 40) hx hb dX2_init_23 (by decide) ?_
  refine x_newa (atype := .int) (ty := .int) (cA := cA 0) (N' := 40) (a0 := (40, .inl (fun _ => 0))) hx hb (hts _ mc_3) rfl (fun x h9 => x_hu h9 (hK.2 0 _ rfl).2) hK hP hD hS hA (fun _ => rfl) (by decide) (by decide) (by decide) (Nat.le_of_ble_eq_true rfl) (Nat.le_of_ble_eq_true rfl) dX2_init_25 (fun a2 H hP hD hS => ?_)
  have hP : va_P D vwCl [(h0, .inr (2, [.int 0, .int 1, .ref a1, .null, .null, .null, .null, .int 0, .int 0])), (a1, .inl (cA 0, 40, .inl (fun _ => 0))), (a2, .inl (cA 0, 40, .inl (fun _ => 0)))] H := hP
  have hD : va_D A [(h0, .inr (2, [.int 0, .int 1, .ref a1, .null, .null, .null, .null, .int 0, .int 0])), (a1, .inl (cA 0, 40, .inl (fun _ => 0))), (a2, .inl (cA 0, 40, .inl (fun _ => 0)))] := hD
  refine W.widen (k := 2) (n := 80) (by omega) (by omega) ?_
  refine va_putF (D := D) (ci := 2) (v := .ref a2) (ty := .array .int) (C := RX2) (T := TX2) (N := 9) hx hb hts inE2 tyX2 tyX2_ok nmX2 hown hK hP hD hS 0 rfl rfl 3 (by decide) (hts _ mc_21) (fun _ h9 => h9) rfl hin rfl (by decide +kernel) rfl rfl (Nat.le_of_ble_eq_true rfl) dX2_init_27 (fun H locs hP hD hS => ?_)
  have hP : va_P D vwCl [(h0, .inr (2, [.int 0, .int 1, .ref a1, .ref a2, .null, .null, .null, .int 0, .int 0])), (a1, .inl (cA 0, 40, .inl (fun _ => 0))), (a2, .inl (cA 0, 40, .inl (fun _ => 0)))] H := hP
  have hD : va_D A [(h0, .inr (2, [.int 0, .int 1, .ref a1, .ref a2, .null, .null, .null, .int 0, .int 0])), (a1, .inl (cA 0, 40, .inl (fun _ => 0))), (a2, .inl (cA 0, 40, .inl (fun _ => 0)))] := hD
  refine lv_aload_n hx hb dX2_init_30 rfl (lv_at hl 0 rfl) ?_
  refine lv_bipush (v := 40) hx hb dX2_init_31 (by decide) ?_
  refine x_newa (atype := .int) (ty := .int) (cA := cA 0) (N' := 40) (a0 := (40, .inl (fun _ => 0))) hx hb (hts _ mc_3) rfl (fun x h9 => x_hu h9 (hK.2 0 _ rfl).2) hK hP hD hS hA (fun _ => rfl) (by decide) (by decide) (by decide) (Nat.le_of_ble_eq_true rfl) (Nat.le_of_ble_eq_true rfl) dX2_init_33 (fun a3 H hP hD hS => ?_)
  have hP : va_P D vwCl [(h0, .inr (2, [.int 0, .int 1, .ref a1, .ref a2, .null, .null, .null, .int 0, .int 0])), (a1, .inl (cA 0, 40, .inl (fun _ => 0))), (a2, .inl (cA 0, 40, .inl (fun _ => 0))), (a3, .inl (cA 0, 40, .inl (fun _ => 0)))] H := hP
  have hD : va_D A [(h0, .inr (2, [.int 0, .int 1, .ref a1, .ref a2, .null, .null, .null, .int 0, .int 0])), (a1, .inl (cA 0, 40, .inl (fun _ => 0))), (a2, .inl (cA 0, 40, .inl (fun _ => 0))), (a3, .inl (cA 0, 40, .inl (fun _ => 0)))] := hD
  refine W.widen (k := 3) (n := 120) (by omega) (by omega) ?_
  refine va_putF (D := D) (ci := 2) (v := .ref a3) (ty := .array .int) (C := RX2) (T := TX2) (N := 9) hx hb hts inE2 tyX2 tyX2_ok nmX2 hown hK hP hD hS 0 rfl rfl 4 (by decide) (hts _ mc_22) (fun _ h9 => h9) rfl hin rfl (by decide +kernel) rfl rfl (Nat.le_of_ble_eq_true rfl) dX2_init_35 (fun H locs hP hD hS => ?_)
  have hP : va_P D vwCl [(h0, .inr (2, [.int 0, .int 1, .ref a1, .ref a2, .ref a3, .null, .null, .int 0, .int 0])), (a1, .inl (cA 0, 40, .inl (fun _ => 0))), (a2, .inl (cA 0, 40, .inl (fun _ => 0))), (a3, .inl (cA 0, 40, .inl (fun _ => 0)))] H := hP
  have hD : va_D A [(h0, .inr (2, [.int 0, .int 1, .ref a1, .ref a2, .ref a3, .null, .null, .int 0, .int 0])), (a1, .inl (cA 0, 40, .inl (fun _ => 0))), (a2, .inl (cA 0, 40, .inl (fun _ => 0))), (a3, .inl (cA 0, 40, .inl (fun _ => 0)))] := hD
  refine lv_aload_n hx hb dX2_init_38 rfl (lv_at hl 0 rfl) ?_
  refine lv_bipush (v := 40) hx hb dX2_init_39 (by decide) ?_
  refine x_newa (atype := .long) (ty := .long) (cA := cA 1) (N' := 40) (a0 := (40, .inr (.inl (fun _ => 0)))) hx hb (hts _ mc_23) rfl (fun x h9 => x_hu h9 (hK.2 1 _ rfl).2) hK hP hD hS hA (fun _ => rfl) (by decide) (by decide) (by decide) (Nat.le_of_ble_eq_true rfl) (Nat.le_of_ble_eq_true rfl) dX2_init_41 (fun a4 H hP hD hS => ?_)
  have hP : va_P D vwCl [(h0, .inr (2, [.int 0, .int 1, .ref a1, .ref a2, .ref a3, .null, .null, .int 0, .int 0])), (a1, .inl (cA 0, 40, .inl (fun _ => 0))), (a2, .inl (cA 0, 40, .inl (fun _ => 0))), (a3, .inl (cA 0, 40, .inl (fun _ => 0))), (a4, .inl (cA 1, 40, .inr (.inl (fun _ => 0))))] H := hP
  have hD : va_D A [(h0, .inr (2, [.int 0, .int 1, .ref a1, .ref a2, .ref a3, .null, .null, .int 0, .int 0])), (a1, .inl (cA 0, 40, .inl (fun _ => 0))), (a2, .inl (cA 0, 40, .inl (fun _ => 0))), (a3, .inl (cA 0, 40, .inl (fun _ => 0))), (a4, .inl (cA 1, 40, .inr (.inl (fun _ => 0))))] := hD
  refine W.widen (k := 4) (n := 160) (by omega) (by omega) ?_
  refine va_putF (D := D) (ci := 2) (v := .ref a4) (ty := .array .long) (C := RX2) (T := TX2) (N := 9) hx hb hts inE2 tyX2 tyX2_ok nmX2 hown hK hP hD hS 0 rfl rfl 5 (by decide) (hts _ mc_24) (fun _ h9 => h9) rfl hin rfl (by decide +kernel) rfl rfl (Nat.le_of_ble_eq_true rfl) dX2_init_43 (fun H locs hP hD hS => ?_)
  have hP : va_P D vwCl [(h0, .inr (2, [.int 0, .int 1, .ref a1, .ref a2, .ref a3, .ref a4, .null, .int 0, .int 0])), (a1, .inl (cA 0, 40, .inl (fun _ => 0))), (a2, .inl (cA 0, 40, .inl (fun _ => 0))), (a3, .inl (cA 0, 40, .inl (fun _ => 0))), (a4, .inl (cA 1, 40, .inr (.inl (fun _ => 0))))] H := hP
  have hD : va_D A [(h0, .inr (2, [.int 0, .int 1, .ref a1, .ref a2, .ref a3, .ref a4, .null, .int 0, .int 0])), (a1, .inl (cA 0, 40, .inl (fun _ => 0))), (a2, .inl (cA 0, 40, .inl (fun _ => 0))), (a3, .inl (cA 0, 40, .inl (fun _ => 0))), (a4, .inl (cA 1, 40, .inr (.inl (fun _ => 0))))] := hD
  refine lv_aload_n hx hb dX2_init_46 rfl (lv_at hl 0 rfl) ?_
  refine lv_iconst (v := 5) hx hb dX2_init_47 (by decide) ?_
  refine x_newa (atype := .long) (ty := .long) (cA := cA 1) (N' := 5) (a0 := (5, .inr (.inl (fun _ => 0)))) hx hb (hts _ mc_23) rfl (fun x h9 => x_hu h9 (hK.2 1 _ rfl).2) hK hP hD hS hA (fun _ => rfl) (by decide) (by decide) (by decide) (Nat.le_of_ble_eq_true rfl) (Nat.le_of_ble_eq_true rfl) dX2_init_48 (fun a5 H hP hD hS => ?_)
  have hP : va_P D vwCl [(h0, .inr (2, [.int 0, .int 1, .ref a1, .ref a2, .ref a3, .ref a4, .null, .int 0, .int 0])), (a1, .inl (cA 0, 40, .inl (fun _ => 0))), (a2, .inl (cA 0, 40, .inl (fun _ => 0))), (a3, .inl (cA 0, 40, .inl (fun _ => 0))), (a4, .inl (cA 1, 40, .inr (.inl (fun _ => 0)))), (a5, .inl (cA 1, 5, .inr (.inl (fun _ => 0))))] H := hP
  have hD : va_D A [(h0, .inr (2, [.int 0, .int 1, .ref a1, .ref a2, .ref a3, .ref a4, .null, .int 0, .int 0])), (a1, .inl (cA 0, 40, .inl (fun _ => 0))), (a2, .inl (cA 0, 40, .inl (fun _ => 0))), (a3, .inl (cA 0, 40, .inl (fun _ => 0))), (a4, .inl (cA 1, 40, .inr (.inl (fun _ => 0)))), (a5, .inl (cA 1, 5, .inr (.inl (fun _ => 0))))] := hD
  refine W.widen (k := 5) (n := 165) (by omega) (by omega) ?_
  refine va_putF (D := D) (ci := 2) (v := .ref a5) (ty := .array .long) (C := RX2) (T := TX2) (N := 9) hx hb hts inE2 tyX2 tyX2_ok nmX2 hown hK hP hD hS 0 rfl rfl 6 (by decide) (hts _ mc_25) (fun _ h9 => h9) rfl hin rfl (by decide +kernel) rfl rfl (Nat.le_of_ble_eq_true rfl) dX2_init_50 (fun H locs hP hD hS => ?_)
  have hP : va_P D vwCl [(h0, .inr (2, [.int 0, .int 1, .ref a1, .ref a2, .ref a3, .ref a4, .ref a5, .int 0, .int 0])), (a1, .inl (cA 0, 40, .inl (fun _ => 0))), (a2, .inl (cA 0, 40, .inl (fun _ => 0))), (a3, .inl (cA 0, 40, .inl (fun _ => 0))), (a4, .inl (cA 1, 40, .inr (.inl (fun _ => 0)))), (a5, .inl (cA 1, 5, .inr (.inl (fun _ => 0))))] H := hP
  have hD : va_D A [(h0, .inr (2, [.int 0, .int 1, .ref a1, .ref a2, .ref a3, .ref a4, .ref a5, .int 0, .int 0])), (a1, .inl (cA 0, 40, .inl (fun _ => 0))), (a2, .inl (cA 0, 40, .inl (fun _ => 0))), (a3, .inl (cA 0, 40, .inl (fun _ => 0))), (a4, .inl (cA 1, 40, .inr (.inl (fun _ => 0)))), (a5, .inl (cA 1, 5, .inr (.inl (fun _ => 0))))] := hD
  refine lv_aload_n hx hb dX2_init_53 rfl (lv_at hl 0 rfl) ?_
  refine lv_iconst (v := 0) hx hb dX2_init_54 (by decide) ?_
  refine va_put (D := D) (ci := 2) (v := .int 0) (ty := .int) (C := RX2) (T := TX2) (N := 9) hx hb hts inE2 tyX2 tyX2_ok nmX2 hown hK hP hD hS 0 rfl rfl 7 (by decide) (hts _ mc_26) (fun _ h9 => h9) rfl (by decide +kernel) rfl rfl (Nat.le_of_ble_eq_true rfl) dX2_init_55 (fun H locs hP hD hS => ?_)
  have hP : va_P D vwCl [(h0, .inr (2, [.int 0, .int 1, .ref a1, .ref a2, .ref a3, .ref a4, .ref a5, .int 0, .int 0])), (a1, .inl (cA 0, 40, .inl (fun _ => 0))), (a2, .inl (cA 0, 40, .inl (fun _ => 0))), (a3, .inl (cA 0, 40, .inl (fun _ => 0))), (a4, .inl (cA 1, 40, .inr (.inl (fun _ => 0)))), (a5, .inl (cA 1, 5, .inr (.inl (fun _ => 0))))] H := hP
  have hD : va_D A [(h0, .inr (2, [.int 0, .int 1, .ref a1, .ref a2, .ref a3, .ref a4, .ref a5, .int 0, .int 0])), (a1, .inl (cA 0, 40, .inl (fun _ => 0))), (a2, .inl (cA 0, 40, .inl (fun _ => 0))), (a3, .inl (cA 0, 40, .inl (fun _ => 0))), (a4, .inl (cA 1, 40, .inr (.inl (fun _ => 0)))), (a5, .inl (cA 1, 5, .inr (.inl (fun _ => 0))))] := hD
  refine lv_aload_n hx hb dX2_init_58 rfl (lv_at hl 0 rfl) ?_
  refine lv_iconst (v := 0) hx hb dX2_init_59 (by decide) ?_
  refine va_put (D := D) (ci := 2) (v := .int 0) (ty := .int) (C := RX2) (T := TX2) (N := 9) hx hb hts inE2 tyX2 tyX2_ok nmX2 hown hK hP hD hS 0 rfl rfl 8 (by decide) (hts _ mc_27) (fun _ h9 => h9) rfl (by decide +kernel) rfl rfl (Nat.le_of_ble_eq_true rfl) dX2_init_60 (fun H locs hP hD hS => ?_)
  have hP : va_P D vwCl [(h0, .inr (2, [.int 0, .int 1, .ref a1, .ref a2, .ref a3, .ref a4, .ref a5, .int 0, .int 0])), (a1, .inl (cA 0, 40, .inl (fun _ => 0))), (a2, .inl (cA 0, 40, .inl (fun _ => 0))), (a3, .inl (cA 0, 40, .inl (fun _ => 0))), (a4, .inl (cA 1, 40, .inr (.inl (fun _ => 0)))), (a5, .inl (cA 1, 5, .inr (.inl (fun _ => 0))))] H := hP
  have hD : va_D A [(h0, .inr (2, [.int 0, .int 1, .ref a1, .ref a2, .ref a3, .ref a4, .ref a5, .int 0, .int 0])), (a1, .inl (cA 0, 40, .inl (fun _ => 0))), (a2, .inl (cA 0, 40, .inl (fun _ => 0))), (a3, .inl (cA 0, 40, .inl (fun _ => 0))), (a4, .inl (cA 1, 40, .inr (.inl (fun _ => 0)))), (a5, .inl (cA 1, 5, .inr (.inl (fun _ => 0))))] := hD
  have hP9 := hP.sub (ws' := [(h0, .inr (2, [.int 0, .int 1, .ref a1, .ref a2, .ref a3, .ref a4, .ref a5, .int 0, .int 0])), (a1, .inl (cA 0, 40, .inl (fun _ => 0))), (a2, .inl (cA 0, 40, .inl (fun _ => 0))), (a3, .inl (cA 0, 40, .inl (fun _ => 0))), (a4, .inl (cA 1, 40, .inr (.inl (fun _ => 0)))), (a5, .inl (cA 1, 5, .inr (.inl (fun _ => 0))))]) [0, 1, 2, 3, 4, 5] rfl
  have hD9 := hD.sub (ws' := [(h0, .inr (2, [.int 0, .int 1, .ref a1, .ref a2, .ref a3, .ref a4, .ref a5, .int 0, .int 0])), (a1, .inl (cA 0, 40, .inl (fun _ => 0))), (a2, .inl (cA 0, 40, .inl (fun _ => 0))), (a3, .inl (cA 0, 40, .inl (fun _ => 0))), (a4, .inl (cA 1, 40, .inr (.inl (fun _ => 0)))), (a5, .inl (cA 1, 5, .inr (.inl (fun _ => 0))))]) [0, 1, 2, 3, 4, 5] (by decide) rfl
  refine W.widen (k := 5) (n := 165) (by omega) (by omega) ?_
  exact W.vret hx hb hr (fun t ht hW => ⟨⟨(), rfl, trivial, a1, a2, a3, a4, a5, by rw [ht]; exact hP9, hD9⟩, hS.F ht⟩) hS.2.2 dX2_init_63
set_option maxHeartbeats 4000000 in
set_option maxRecDepth 100000 in
theorem c_X4_init (l : Launch) (D : va_G) (cA : Nat → ClassId) (h0 sz : Nat) : Met l yX4_init (Cond.code yX4_init cX4_init 2 none :: e_tbl) ({ frames := 1, cells := 12, slots := 464, locals := 12 }) (va_Pc [.ref h0] (fun U => U.heap.size = sz ∧ va_P D vwCl [(h0, .inr (4, [.int 0, .null, .null, .null, .int 0, .int 0, .int 0, .int 0, .int 0, .null, .int 0, .long 0, .long 0, .int 0, .int 0, .null, .int 0, .null, .int 0, .null, .long 0, .null, .null, .null, .int 0, .int 0, .int 0, .null, .null, .int 0]))] U.heap ∧ va_K D vwCl (e_tys cA) U ∧ va_D (fun _ => True) [(h0, .inr (4, [.int 0, .null, .null, .null, .int 0, .int 0, .int 0, .int 0, .int 0, .null, .int 0, .long 0, .long 0, .int 0, .int 0, .null, .int 0, .null, .int 0, .null, .long 0, .null, .null, .null, .int 0, .int 0, .int 0, .null, .null, .int 0]))])) (va_Qv (fun _ : Unit => True) (fun _ t => ∃ e41 e42 e43 e44 e45 e46 e47 e48 e49 e50 e51 e52 : Nat, va_P D vwCl [(h0, .inr (4, [.int 10, .ref e41, .ref e42, .ref e43, .int 0, .int 2, .int 0, .int 1, .int 2, .ref e44, .int 0, .long 0, .long 1, .int 0, .int 0, .ref e45, .int 0, .ref e46, .int 0, .ref e47, .long 0, .ref e48, .ref e49, .ref e50, .int 0, .int 0, .int 0, .ref e51, .ref e52, .int 0])), (e41, .inl (cA 0, 90, .inl (upd (upd (fun _ => 0) 0 10) 45 10))), (e42, .inl (cA 0, 10, .inl (upd (upd (fun _ => 0) 0 1) 5 1))), (e43, .inl (cA 0, 2, .inl (upd (upd (fun _ => 0) 0 1) 1 1))), (e44, .inl (cA 0, 40, .inl (fun _ => 0))), (e45, .inl (cA 1, 64, .inr (.inl (fun _ => 0)))), (e46, .inl (cA 0, 128, .inl (fun _ => 0))), (e47, .inl (cA 1, 5, .inr (.inl (fun _ => 0)))), (e48, .inl (cA 2, 25, .inl (fun _ => 0))), (e49, .inl (cA 0, 25, .inl (fun _ => 0))), (e50, .inl (cA 0, 25, .inl (fun _ => 0))), (e51, .inl (cA 0, 25, .inl (fun _ => 0))), (e52, .inl (cA 0, 25, .inl (fun _ => 0)))] t.heap ∧ va_D (va_A [(h0, .inr (4, [.int 0, .null, .null, .null, .int 0, .int 0, .int 0, .int 0, .int 0, .null, .int 0, .long 0, .long 0, .int 0, .int 0, .null, .int 0, .null, .int 0, .null, .long 0, .null, .null, .null, .int 0, .int 0, .int 0, .null, .null, .int 0]))] sz) [(h0, .inr (4, [.int 10, .ref e41, .ref e42, .ref e43, .int 0, .int 2, .int 0, .int 1, .int 2, .ref e44, .int 0, .long 0, .long 1, .int 0, .int 0, .ref e45, .int 0, .ref e46, .int 0, .ref e47, .long 0, .ref e48, .ref e49, .ref e50, .int 0, .int 0, .int 0, .ref e51, .ref e52, .int 0])), (e41, .inl (cA 0, 90, .inl (upd (upd (fun _ => 0) 0 10) 45 10))), (e42, .inl (cA 0, 10, .inl (upd (upd (fun _ => 0) 0 1) 5 1))), (e43, .inl (cA 0, 2, .inl (upd (upd (fun _ => 0) 0 1) 1 1))), (e44, .inl (cA 0, 40, .inl (fun _ => 0))), (e45, .inl (cA 1, 64, .inr (.inl (fun _ => 0)))), (e46, .inl (cA 0, 128, .inl (fun _ => 0))), (e47, .inl (cA 1, 5, .inr (.inl (fun _ => 0)))), (e48, .inl (cA 2, 25, .inl (fun _ => 0))), (e49, .inl (cA 0, 25, .inl (fun _ => 0))), (e50, .inl (cA 0, 25, .inl (fun _ => 0))), (e51, .inl (cA 0, 25, .inl (fun _ => 0))), (e52, .inl (cA 0, 25, .inl (fun _ => 0)))]) (va_A [(h0, .inr (4, [.int 0, .null, .null, .null, .int 0, .int 0, .int 0, .int 0, .int 0, .null, .int 0, .long 0, .long 0, .int 0, .int 0, .null, .int 0, .null, .int 0, .null, .long 0, .null, .null, .null, .int 0, .int 0, .int 0, .null, .null, .int 0]))] sz)) 12 464 (va_A [(h0, .inr (4, [.int 0, .null, .null, .null, .int 0, .int 0, .int 0, .int 0, .int 0, .null, .int 0, .long 0, .long 0, .int 0, .int 0, .null, .int 0, .null, .int 0, .null, .long 0, .null, .null, .null, .int 0, .int 0, .int 0, .null, .null, .int 0]))] sz) := by
  refine Met.ofW (cc := cX4_init) (maxL := 2) (ret := none) (by decide) rfl ?_
  intro p e s m args below meth c s₁ B hml hv
  obtain ⟨rfl, hsz, hP, hK, hD0⟩ := hv
  have hx := B.exec
  have hb := B.bytes
  have hr := B.returns
  have hts0 := atoms_spec (ws := Cond.code yX4_init cX4_init 2 none :: e_tbl) B.pre
  have hts : ∀ w ∈ e_tbl, w.before ([Value.ref h0] : List Value).toArray s = true := fun w hw => hts0 w (List.mem_cons_of_mem _ hw)
  have hown : s.vm.findClass RX4 = some m.cls := findClass_of_methodNamed B.named
  have hlocks := B.notSynchronized
  have hin : meth.name = "<init>" := (name_of_methodNamed B.named B.method).1
  subst hsz
  have hD := hD0.self (sz := s.heap.size)
  generalize hAe : va_A [(h0, .inr (4, [.int 0, .null, .null, .null, .int 0, .int 0, .int 0, .int 0, .int 0, .null, .int 0, .long 0, .long 0, .int 0, .int 0, .null, .int 0, .null, .int 0, .null, .long 0, .null, .null, .null, .int 0, .int 0, .int 0, .null, .null, .int 0]))] s.heap.size = A at hD ⊢
  have hA : ∀ q : Nat, s.heap.size ≤ q → A q := fun q h => by rw [← hAe]; exact Or.inr h
  have hS : va_S A s.heap s.heap [] := va_S.rf
  have hP : va_P D vwCl [(h0, .inr (4, [.int 0, .null, .null, .null, .int 0, .int 0, .int 0, .int 0, .int 0, .null, .int 0, .long 0, .long 0, .int 0, .int 0, .null, .int 0, .null, .int 0, .null, .long 0, .null, .null, .null, .int 0, .int 0, .int 0, .null, .null, .int 0]))] s.heap := hP
  have hl := lv_entry ([.ref h0]) (n := 2) (Nat.le_of_ble_eq_true rfl)
  rw [lg_entry_eq]
  generalize (lg_sl ([.ref h0]) ++ List.replicate (2 - (lg_sl ([.ref h0])).length) Slot.unset).toArray = ls at hl ⊢
  have hl : lv_has ls 2 [(0, .ref h0)] := hl
  refine lv_aload_n hx hb dX4_init_0 rfl (lv_at hl 0 rfl) ?_
  refine W.objInit hx hb hown (hts _ mc_28) (hts _ mc_1) (hts _ mc_2) rfl (by rw [hml]; exact hl.1) rfl dX4_init_1 (Nat.le_of_ble_eq_true rfl) (Nat.le_of_ble_eq_true rfl) ?_
  refine W.eq (g2 := F0 m 4 ls []) rfl ?_
  refine lv_aload_n hx hb dX4_init_4 rfl (lv_at hl 0 rfl) ?_
  refine lv_bipush (v := 10) hx hb dX4_init_5 (by decide) ?_
  refine va_put (D := D) (ci := 4) (v := .int 10) (ty := .int) (C := RX4) (T := TX4) (N := 30) hx hb hts inE4 tyX4 tyX4_ok nmX4 hown hK hP hD hS 0 rfl rfl 0 (by decide) (hts _ mc_29) (fun _ h9 => h9) rfl (by decide +kernel) rfl rfl (Nat.le_of_ble_eq_true rfl) dX4_init_7 (fun H locs hP hD hS => ?_)
  have hP : va_P D vwCl [(h0, .inr (4, [.int 10, .null, .null, .null, .int 0, .int 0, .int 0, .int 0, .int 0, .null, .int 0, .long 0, .long 0, .int 0, .int 0, .null, .int 0, .null, .int 0, .null, .long 0, .null, .null, .null, .int 0, .int 0, .int 0, .null, .null, .int 0]))] H := hP
  have hD : va_D A [(h0, .inr (4, [.int 10, .null, .null, .null, .int 0, .int 0, .int 0, .int 0, .int 0, .null, .int 0, .long 0, .long 0, .int 0, .int 0, .null, .int 0, .null, .int 0, .null, .long 0, .null, .null, .null, .int 0, .int 0, .int 0, .null, .null, .int 0]))] := hD
  refine lv_aload_n hx hb dX4_init_10 rfl (lv_at hl 0 rfl) ?_
  refine lv_bipush (v := 90) hx hb dX4_init_11 (by decide) ?_
  refine x_newa (atype := .int) (ty := .int) (cA := cA 0) (N' := 90) (a0 := (90, .inl (fun _ => 0))) hx hb (hts _ mc_3) rfl (fun x h9 => x_hu h9 (hK.2 0 _ rfl).2) hK hP hD hS hA (fun _ => rfl) (by decide) (by decide) (by decide) (Nat.le_of_ble_eq_true rfl) (Nat.le_of_ble_eq_true rfl) dX4_init_13 (fun a1 H hP hD hS => ?_)
  have hP : va_P D vwCl [(h0, .inr (4, [.int 10, .null, .null, .null, .int 0, .int 0, .int 0, .int 0, .int 0, .null, .int 0, .long 0, .long 0, .int 0, .int 0, .null, .int 0, .null, .int 0, .null, .long 0, .null, .null, .null, .int 0, .int 0, .int 0, .null, .null, .int 0])), (a1, .inl (cA 0, 90, .inl (fun _ => 0)))] H := hP
  have hD : va_D A [(h0, .inr (4, [.int 10, .null, .null, .null, .int 0, .int 0, .int 0, .int 0, .int 0, .null, .int 0, .long 0, .long 0, .int 0, .int 0, .null, .int 0, .null, .int 0, .null, .long 0, .null, .null, .null, .int 0, .int 0, .int 0, .null, .null, .int 0])), (a1, .inl (cA 0, 90, .inl (fun _ => 0)))] := hD
  refine W.widen (k := 1) (n := 90) (by omega) (by omega) ?_
  refine va_putF (D := D) (ci := 4) (v := .ref a1) (ty := .array .int) (C := RX4) (T := TX4) (N := 30) hx hb hts inE4 tyX4 tyX4_ok nmX4 hown hK hP hD hS 0 rfl rfl 1 (by decide) (hts _ mc_30) (fun _ h9 => h9) rfl hin rfl (by decide +kernel) rfl rfl (Nat.le_of_ble_eq_true rfl) dX4_init_15 (fun H locs hP hD hS => ?_)
  have hP : va_P D vwCl [(h0, .inr (4, [.int 10, .ref a1, .null, .null, .int 0, .int 0, .int 0, .int 0, .int 0, .null, .int 0, .long 0, .long 0, .int 0, .int 0, .null, .int 0, .null, .int 0, .null, .long 0, .null, .null, .null, .int 0, .int 0, .int 0, .null, .null, .int 0])), (a1, .inl (cA 0, 90, .inl (fun _ => 0)))] H := hP
  have hD : va_D A [(h0, .inr (4, [.int 10, .ref a1, .null, .null, .int 0, .int 0, .int 0, .int 0, .int 0, .null, .int 0, .long 0, .long 0, .int 0, .int 0, .null, .int 0, .null, .int 0, .null, .long 0, .null, .null, .null, .int 0, .int 0, .int 0, .null, .null, .int 0])), (a1, .inl (cA 0, 90, .inl (fun _ => 0)))] := hD
  refine lv_aload_n hx hb dX4_init_18 rfl (lv_at hl 0 rfl) ?_
  refine lv_bipush (v := 10) hx hb dX4_init_19 (by decide) ?_
  refine x_newa (atype := .int) (ty := .int) (cA := cA 0) (N' := 10) (a0 := (10, .inl (fun _ => 0))) hx hb (hts _ mc_3) rfl (fun x h9 => x_hu h9 (hK.2 0 _ rfl).2) hK hP hD hS hA (fun _ => rfl) (by decide) (by decide) (by decide) (Nat.le_of_ble_eq_true rfl) (Nat.le_of_ble_eq_true rfl) dX4_init_21 (fun a2 H hP hD hS => ?_)
  have hP : va_P D vwCl [(h0, .inr (4, [.int 10, .ref a1, .null, .null, .int 0, .int 0, .int 0, .int 0, .int 0, .null, .int 0, .long 0, .long 0, .int 0, .int 0, .null, .int 0, .null, .int 0, .null, .long 0, .null, .null, .null, .int 0, .int 0, .int 0, .null, .null, .int 0])), (a1, .inl (cA 0, 90, .inl (fun _ => 0))), (a2, .inl (cA 0, 10, .inl (fun _ => 0)))] H := hP
  have hD : va_D A [(h0, .inr (4, [.int 10, .ref a1, .null, .null, .int 0, .int 0, .int 0, .int 0, .int 0, .null, .int 0, .long 0, .long 0, .int 0, .int 0, .null, .int 0, .null, .int 0, .null, .long 0, .null, .null, .null, .int 0, .int 0, .int 0, .null, .null, .int 0])), (a1, .inl (cA 0, 90, .inl (fun _ => 0))), (a2, .inl (cA 0, 10, .inl (fun _ => 0)))] := hD
  refine W.widen (k := 2) (n := 100) (by omega) (by omega) ?_
  refine va_putF (D := D) (ci := 4) (v := .ref a2) (ty := .array .int) (C := RX4) (T := TX4) (N := 30) hx hb hts inE4 tyX4 tyX4_ok nmX4 hown hK hP hD hS 0 rfl rfl 2 (by decide) (hts _ mc_31) (fun _ h9 => h9) rfl hin rfl (by decide +kernel) rfl rfl (Nat.le_of_ble_eq_true rfl) dX4_init_23 (fun H locs hP hD hS => ?_)
  have hP : va_P D vwCl [(h0, .inr (4, [.int 10, .ref a1, .ref a2, .null, .int 0, .int 0, .int 0, .int 0, .int 0, .null, .int 0, .long 0, .long 0, .int 0, .int 0, .null, .int 0, .null, .int 0, .null, .long 0, .null, .null, .null, .int 0, .int 0, .int 0, .null, .null, .int 0])), (a1, .inl (cA 0, 90, .inl (fun _ => 0))), (a2, .inl (cA 0, 10, .inl (fun _ => 0)))] H := hP
  have hD : va_D A [(h0, .inr (4, [.int 10, .ref a1, .ref a2, .null, .int 0, .int 0, .int 0, .int 0, .int 0, .null, .int 0, .long 0, .long 0, .int 0, .int 0, .null, .int 0, .null, .int 0, .null, .long 0, .null, .null, .null, .int 0, .int 0, .int 0, .null, .null, .int 0])), (a1, .inl (cA 0, 90, .inl (fun _ => 0))), (a2, .inl (cA 0, 10, .inl (fun _ => 0)))] := hD
  refine lv_aload_n hx hb dX4_init_26 rfl (lv_at hl 0 rfl) ?_
  refine lv_iconst (v := 2) hx hb dX4_init_27 (by decide) ?_
  refine x_newa (atype := .int) (ty := .int) (cA := cA 0) (N' := 2) (a0 := (2, .inl (fun _ => 0))) hx hb (hts _ mc_3) rfl (fun x h9 => x_hu h9 (hK.2 0 _ rfl).2) hK hP hD hS hA (fun _ => rfl) (by decide) (by decide) (by decide) (Nat.le_of_ble_eq_true rfl) (Nat.le_of_ble_eq_true rfl) dX4_init_28 (fun a3 H hP hD hS => ?_)
  have hP : va_P D vwCl [(h0, .inr (4, [.int 10, .ref a1, .ref a2, .null, .int 0, .int 0, .int 0, .int 0, .int 0, .null, .int 0, .long 0, .long 0, .int 0, .int 0, .null, .int 0, .null, .int 0, .null, .long 0, .null, .null, .null, .int 0, .int 0, .int 0, .null, .null, .int 0])), (a1, .inl (cA 0, 90, .inl (fun _ => 0))), (a2, .inl (cA 0, 10, .inl (fun _ => 0))), (a3, .inl (cA 0, 2, .inl (fun _ => 0)))] H := hP
  have hD : va_D A [(h0, .inr (4, [.int 10, .ref a1, .ref a2, .null, .int 0, .int 0, .int 0, .int 0, .int 0, .null, .int 0, .long 0, .long 0, .int 0, .int 0, .null, .int 0, .null, .int 0, .null, .long 0, .null, .null, .null, .int 0, .int 0, .int 0, .null, .null, .int 0])), (a1, .inl (cA 0, 90, .inl (fun _ => 0))), (a2, .inl (cA 0, 10, .inl (fun _ => 0))), (a3, .inl (cA 0, 2, .inl (fun _ => 0)))] := hD
  refine W.widen (k := 3) (n := 102) (by omega) (by omega) ?_
  refine va_putF (D := D) (ci := 4) (v := .ref a3) (ty := .array .int) (C := RX4) (T := TX4) (N := 30) hx hb hts inE4 tyX4 tyX4_ok nmX4 hown hK hP hD hS 0 rfl rfl 3 (by decide) (hts _ mc_32) (fun _ h9 => h9) rfl hin rfl (by decide +kernel) rfl rfl (Nat.le_of_ble_eq_true rfl) dX4_init_30 (fun H locs hP hD hS => ?_)
  have hP : va_P D vwCl [(h0, .inr (4, [.int 10, .ref a1, .ref a2, .ref a3, .int 0, .int 0, .int 0, .int 0, .int 0, .null, .int 0, .long 0, .long 0, .int 0, .int 0, .null, .int 0, .null, .int 0, .null, .long 0, .null, .null, .null, .int 0, .int 0, .int 0, .null, .null, .int 0])), (a1, .inl (cA 0, 90, .inl (fun _ => 0))), (a2, .inl (cA 0, 10, .inl (fun _ => 0))), (a3, .inl (cA 0, 2, .inl (fun _ => 0)))] H := hP
  have hD : va_D A [(h0, .inr (4, [.int 10, .ref a1, .ref a2, .ref a3, .int 0, .int 0, .int 0, .int 0, .int 0, .null, .int 0, .long 0, .long 0, .int 0, .int 0, .null, .int 0, .null, .int 0, .null, .long 0, .null, .null, .null, .int 0, .int 0, .int 0, .null, .null, .int 0])), (a1, .inl (cA 0, 90, .inl (fun _ => 0))), (a2, .inl (cA 0, 10, .inl (fun _ => 0))), (a3, .inl (cA 0, 2, .inl (fun _ => 0)))] := hD
  refine lv_aload_n hx hb dX4_init_33 rfl (lv_at hl 0 rfl) ?_
  refine lv_iconst (v := 2) hx hb dX4_init_34 (by decide) ?_
  refine va_put (D := D) (ci := 4) (v := .int 2) (ty := .int) (C := RX4) (T := TX4) (N := 30) hx hb hts inE4 tyX4 tyX4_ok nmX4 hown hK hP hD hS 0 rfl rfl 5 (by decide) (hts _ mc_33) (fun _ h9 => h9) rfl (by decide +kernel) rfl rfl (Nat.le_of_ble_eq_true rfl) dX4_init_35 (fun H locs hP hD hS => ?_)
  have hP : va_P D vwCl [(h0, .inr (4, [.int 10, .ref a1, .ref a2, .ref a3, .int 0, .int 2, .int 0, .int 0, .int 0, .null, .int 0, .long 0, .long 0, .int 0, .int 0, .null, .int 0, .null, .int 0, .null, .long 0, .null, .null, .null, .int 0, .int 0, .int 0, .null, .null, .int 0])), (a1, .inl (cA 0, 90, .inl (fun _ => 0))), (a2, .inl (cA 0, 10, .inl (fun _ => 0))), (a3, .inl (cA 0, 2, .inl (fun _ => 0)))] H := hP
  have hD : va_D A [(h0, .inr (4, [.int 10, .ref a1, .ref a2, .ref a3, .int 0, .int 2, .int 0, .int 0, .int 0, .null, .int 0, .long 0, .long 0, .int 0, .int 0, .null, .int 0, .null, .int 0, .null, .long 0, .null, .null, .null, .int 0, .int 0, .int 0, .null, .null, .int 0])), (a1, .inl (cA 0, 90, .inl (fun _ => 0))), (a2, .inl (cA 0, 10, .inl (fun _ => 0))), (a3, .inl (cA 0, 2, .inl (fun _ => 0)))] := hD
  refine lv_aload_n hx hb dX4_init_38 rfl (lv_at hl 0 rfl) ?_
  refine lv_iconst (v := 1) hx hb dX4_init_39 (by decide) ?_
  refine va_put (D := D) (ci := 4) (v := .int 1) (ty := .int) (C := RX4) (T := TX4) (N := 30) hx hb hts inE4 tyX4 tyX4_ok nmX4 hown hK hP hD hS 0 rfl rfl 7 (by decide) (hts _ mc_34) (fun _ h9 => h9) rfl (by decide +kernel) rfl rfl (Nat.le_of_ble_eq_true rfl) dX4_init_40 (fun H locs hP hD hS => ?_)
  have hP : va_P D vwCl [(h0, .inr (4, [.int 10, .ref a1, .ref a2, .ref a3, .int 0, .int 2, .int 0, .int 1, .int 0, .null, .int 0, .long 0, .long 0, .int 0, .int 0, .null, .int 0, .null, .int 0, .null, .long 0, .null, .null, .null, .int 0, .int 0, .int 0, .null, .null, .int 0])), (a1, .inl (cA 0, 90, .inl (fun _ => 0))), (a2, .inl (cA 0, 10, .inl (fun _ => 0))), (a3, .inl (cA 0, 2, .inl (fun _ => 0)))] H := hP
  have hD : va_D A [(h0, .inr (4, [.int 10, .ref a1, .ref a2, .ref a3, .int 0, .int 2, .int 0, .int 1, .int 0, .null, .int 0, .long 0, .long 0, .int 0, .int 0, .null, .int 0, .null, .int 0, .null, .long 0, .null, .null, .null, .int 0, .int 0, .int 0, .null, .null, .int 0])), (a1, .inl (cA 0, 90, .inl (fun _ => 0))), (a2, .inl (cA 0, 10, .inl (fun _ => 0))), (a3, .inl (cA 0, 2, .inl (fun _ => 0)))] := hD
  refine lv_aload_n hx hb dX4_init_43 rfl (lv_at hl 0 rfl) ?_
  refine lv_iconst (v := 2) hx hb dX4_init_44 (by decide) ?_
  refine va_put (D := D) (ci := 4) (v := .int 2) (ty := .int) (C := RX4) (T := TX4) (N := 30) hx hb hts inE4 tyX4 tyX4_ok nmX4 hown hK hP hD hS 0 rfl rfl 8 (by decide) (hts _ mc_35) (fun _ h9 => h9) rfl (by decide +kernel) rfl rfl (Nat.le_of_ble_eq_true rfl) dX4_init_45 (fun H locs hP hD hS => ?_)
  have hP : va_P D vwCl [(h0, .inr (4, [.int 10, .ref a1, .ref a2, .ref a3, .int 0, .int 2, .int 0, .int 1, .int 2, .null, .int 0, .long 0, .long 0, .int 0, .int 0, .null, .int 0, .null, .int 0, .null, .long 0, .null, .null, .null, .int 0, .int 0, .int 0, .null, .null, .int 0])), (a1, .inl (cA 0, 90, .inl (fun _ => 0))), (a2, .inl (cA 0, 10, .inl (fun _ => 0))), (a3, .inl (cA 0, 2, .inl (fun _ => 0)))] H := hP
  have hD : va_D A [(h0, .inr (4, [.int 10, .ref a1, .ref a2, .ref a3, .int 0, .int 2, .int 0, .int 1, .int 2, .null, .int 0, .long 0, .long 0, .int 0, .int 0, .null, .int 0, .null, .int 0, .null, .long 0, .null, .null, .null, .int 0, .int 0, .int 0, .null, .null, .int 0])), (a1, .inl (cA 0, 90, .inl (fun _ => 0))), (a2, .inl (cA 0, 10, .inl (fun _ => 0))), (a3, .inl (cA 0, 2, .inl (fun _ => 0)))] := hD
  refine lv_aload_n hx hb dX4_init_48 rfl (lv_at hl 0 rfl) ?_
  refine lv_bipush (v := 40) hx hb dX4_init_49 (by decide) ?_
  refine x_newa (atype := .int) (ty := .int) (cA := cA 0) (N' := 40) (a0 := (40, .inl (fun _ => 0))) hx hb (hts _ mc_3) rfl (fun x h9 => x_hu h9 (hK.2 0 _ rfl).2) hK hP hD hS hA (fun _ => rfl) (by decide) (by decide) (by decide) (Nat.le_of_ble_eq_true rfl) (Nat.le_of_ble_eq_true rfl) dX4_init_51 (fun a4 H hP hD hS => ?_)
  have hP : va_P D vwCl [(h0, .inr (4, [.int 10, .ref a1, .ref a2, .ref a3, .int 0, .int 2, .int 0, .int 1, .int 2, .null, .int 0, .long 0, .long 0, .int 0, .int 0, .null, .int 0, .null, .int 0, .null, .long 0, .null, .null, .null, .int 0, .int 0, .int 0, .null, .null, .int 0])), (a1, .inl (cA 0, 90, .inl (fun _ => 0))), (a2, .inl (cA 0, 10, .inl (fun _ => 0))), (a3, .inl (cA 0, 2, .inl (fun _ => 0))), (a4, .inl (cA 0, 40, .inl (fun _ => 0)))] H := hP
  have hD : va_D A [(h0, .inr (4, [.int 10, .ref a1, .ref a2, .ref a3, .int 0, .int 2, .int 0, .int 1, .int 2, .null, .int 0, .long 0, .long 0, .int 0, .int 0, .null, .int 0, .null, .int 0, .null, .long 0, .null, .null, .null, .int 0, .int 0, .int 0, .null, .null, .int 0])), (a1, .inl (cA 0, 90, .inl (fun _ => 0))), (a2, .inl (cA 0, 10, .inl (fun _ => 0))), (a3, .inl (cA 0, 2, .inl (fun _ => 0))), (a4, .inl (cA 0, 40, .inl (fun _ => 0)))] := hD
  refine W.widen (k := 4) (n := 142) (by omega) (by omega) ?_
  refine va_putF (D := D) (ci := 4) (v := .ref a4) (ty := .array .int) (C := RX4) (T := TX4) (N := 30) hx hb hts inE4 tyX4 tyX4_ok nmX4 hown hK hP hD hS 0 rfl rfl 9 (by decide) (hts _ mc_36) (fun _ h9 => h9) rfl hin rfl (by decide +kernel) rfl rfl (Nat.le_of_ble_eq_true rfl) dX4_init_53 (fun H locs hP hD hS => ?_)
  have hP : va_P D vwCl [(h0, .inr (4, [.int 10, .ref a1, .ref a2, .ref a3, .int 0, .int 2, .int 0, .int 1, .int 2, .ref a4, .int 0, .long 0, .long 0, .int 0, .int 0, .null, .int 0, .null, .int 0, .null, .long 0, .null, .null, .null, .int 0, .int 0, .int 0, .null, .null, .int 0])), (a1, .inl (cA 0, 90, .inl (fun _ => 0))), (a2, .inl (cA 0, 10, .inl (fun _ => 0))), (a3, .inl (cA 0, 2, .inl (fun _ => 0))), (a4, .inl (cA 0, 40, .inl (fun _ => 0)))] H := hP
  have hD : va_D A [(h0, .inr (4, [.int 10, .ref a1, .ref a2, .ref a3, .int 0, .int 2, .int 0, .int 1, .int 2, .ref a4, .int 0, .long 0, .long 0, .int 0, .int 0, .null, .int 0, .null, .int 0, .null, .long 0, .null, .null, .null, .int 0, .int 0, .int 0, .null, .null, .int 0])), (a1, .inl (cA 0, 90, .inl (fun _ => 0))), (a2, .inl (cA 0, 10, .inl (fun _ => 0))), (a3, .inl (cA 0, 2, .inl (fun _ => 0))), (a4, .inl (cA 0, 40, .inl (fun _ => 0)))] := hD
  refine lv_aload_n hx hb dX4_init_56 rfl (lv_at hl 0 rfl) ?_
  refine lv_lconst (v := 1) hx hb dX4_init_57 (by decide) ?_
  refine va_put (D := D) (ci := 4) (v := .long 1) (ty := .long) (C := RX4) (T := TX4) (N := 30) hx hb hts inE4 tyX4 tyX4_ok nmX4 hown hK hP hD hS 0 rfl rfl 12 (by decide) (hts _ mc_37) (fun _ h9 => h9) rfl (by decide +kernel) rfl rfl (Nat.le_of_ble_eq_true rfl) dX4_init_58 (fun H locs hP hD hS => ?_)
  have hP : va_P D vwCl [(h0, .inr (4, [.int 10, .ref a1, .ref a2, .ref a3, .int 0, .int 2, .int 0, .int 1, .int 2, .ref a4, .int 0, .long 0, .long 1, .int 0, .int 0, .null, .int 0, .null, .int 0, .null, .long 0, .null, .null, .null, .int 0, .int 0, .int 0, .null, .null, .int 0])), (a1, .inl (cA 0, 90, .inl (fun _ => 0))), (a2, .inl (cA 0, 10, .inl (fun _ => 0))), (a3, .inl (cA 0, 2, .inl (fun _ => 0))), (a4, .inl (cA 0, 40, .inl (fun _ => 0)))] H := hP
  have hD : va_D A [(h0, .inr (4, [.int 10, .ref a1, .ref a2, .ref a3, .int 0, .int 2, .int 0, .int 1, .int 2, .ref a4, .int 0, .long 0, .long 1, .int 0, .int 0, .null, .int 0, .null, .int 0, .null, .long 0, .null, .null, .null, .int 0, .int 0, .int 0, .null, .null, .int 0])), (a1, .inl (cA 0, 90, .inl (fun _ => 0))), (a2, .inl (cA 0, 10, .inl (fun _ => 0))), (a3, .inl (cA 0, 2, .inl (fun _ => 0))), (a4, .inl (cA 0, 40, .inl (fun _ => 0)))] := hD
  refine lv_aload_n hx hb dX4_init_61 rfl (lv_at hl 0 rfl) ?_
  refine lv_bipush (v := 64) hx hb dX4_init_62 (by decide) ?_
  refine x_newa (atype := .long) (ty := .long) (cA := cA 1) (N' := 64) (a0 := (64, .inr (.inl (fun _ => 0)))) hx hb (hts _ mc_23) rfl (fun x h9 => x_hu h9 (hK.2 1 _ rfl).2) hK hP hD hS hA (fun _ => rfl) (by decide) (by decide) (by decide) (Nat.le_of_ble_eq_true rfl) (Nat.le_of_ble_eq_true rfl) dX4_init_64 (fun a5 H hP hD hS => ?_)
  have hP : va_P D vwCl [(h0, .inr (4, [.int 10, .ref a1, .ref a2, .ref a3, .int 0, .int 2, .int 0, .int 1, .int 2, .ref a4, .int 0, .long 0, .long 1, .int 0, .int 0, .null, .int 0, .null, .int 0, .null, .long 0, .null, .null, .null, .int 0, .int 0, .int 0, .null, .null, .int 0])), (a1, .inl (cA 0, 90, .inl (fun _ => 0))), (a2, .inl (cA 0, 10, .inl (fun _ => 0))), (a3, .inl (cA 0, 2, .inl (fun _ => 0))), (a4, .inl (cA 0, 40, .inl (fun _ => 0))), (a5, .inl (cA 1, 64, .inr (.inl (fun _ => 0))))] H := hP
  have hD : va_D A [(h0, .inr (4, [.int 10, .ref a1, .ref a2, .ref a3, .int 0, .int 2, .int 0, .int 1, .int 2, .ref a4, .int 0, .long 0, .long 1, .int 0, .int 0, .null, .int 0, .null, .int 0, .null, .long 0, .null, .null, .null, .int 0, .int 0, .int 0, .null, .null, .int 0])), (a1, .inl (cA 0, 90, .inl (fun _ => 0))), (a2, .inl (cA 0, 10, .inl (fun _ => 0))), (a3, .inl (cA 0, 2, .inl (fun _ => 0))), (a4, .inl (cA 0, 40, .inl (fun _ => 0))), (a5, .inl (cA 1, 64, .inr (.inl (fun _ => 0))))] := hD
  refine W.widen (k := 5) (n := 206) (by omega) (by omega) ?_
  refine va_putF (D := D) (ci := 4) (v := .ref a5) (ty := .array .long) (C := RX4) (T := TX4) (N := 30) hx hb hts inE4 tyX4 tyX4_ok nmX4 hown hK hP hD hS 0 rfl rfl 15 (by decide) (hts _ mc_38) (fun _ h9 => h9) rfl hin rfl (by decide +kernel) rfl rfl (Nat.le_of_ble_eq_true rfl) dX4_init_66 (fun H locs hP hD hS => ?_)
  have hP : va_P D vwCl [(h0, .inr (4, [.int 10, .ref a1, .ref a2, .ref a3, .int 0, .int 2, .int 0, .int 1, .int 2, .ref a4, .int 0, .long 0, .long 1, .int 0, .int 0, .ref a5, .int 0, .null, .int 0, .null, .long 0, .null, .null, .null, .int 0, .int 0, .int 0, .null, .null, .int 0])), (a1, .inl (cA 0, 90, .inl (fun _ => 0))), (a2, .inl (cA 0, 10, .inl (fun _ => 0))), (a3, .inl (cA 0, 2, .inl (fun _ => 0))), (a4, .inl (cA 0, 40, .inl (fun _ => 0))), (a5, .inl (cA 1, 64, .inr (.inl (fun _ => 0))))] H := hP
  have hD : va_D A [(h0, .inr (4, [.int 10, .ref a1, .ref a2, .ref a3, .int 0, .int 2, .int 0, .int 1, .int 2, .ref a4, .int 0, .long 0, .long 1, .int 0, .int 0, .ref a5, .int 0, .null, .int 0, .null, .long 0, .null, .null, .null, .int 0, .int 0, .int 0, .null, .null, .int 0])), (a1, .inl (cA 0, 90, .inl (fun _ => 0))), (a2, .inl (cA 0, 10, .inl (fun _ => 0))), (a3, .inl (cA 0, 2, .inl (fun _ => 0))), (a4, .inl (cA 0, 40, .inl (fun _ => 0))), (a5, .inl (cA 1, 64, .inr (.inl (fun _ => 0))))] := hD
  refine lv_aload_n hx hb dX4_init_69 rfl (lv_at hl 0 rfl) ?_
  refine lv_sipush (v := 128) hx hb dX4_init_70 (by decide) ?_
  refine x_newa (atype := .int) (ty := .int) (cA := cA 0) (N' := 128) (a0 := (128, .inl (fun _ => 0))) hx hb (hts _ mc_3) rfl (fun x h9 => x_hu h9 (hK.2 0 _ rfl).2) hK hP hD hS hA (fun _ => rfl) (by decide) (by decide) (by decide) (Nat.le_of_ble_eq_true rfl) (Nat.le_of_ble_eq_true rfl) dX4_init_73 (fun a6 H hP hD hS => ?_)
  have hP : va_P D vwCl [(h0, .inr (4, [.int 10, .ref a1, .ref a2, .ref a3, .int 0, .int 2, .int 0, .int 1, .int 2, .ref a4, .int 0, .long 0, .long 1, .int 0, .int 0, .ref a5, .int 0, .null, .int 0, .null, .long 0, .null, .null, .null, .int 0, .int 0, .int 0, .null, .null, .int 0])), (a1, .inl (cA 0, 90, .inl (fun _ => 0))), (a2, .inl (cA 0, 10, .inl (fun _ => 0))), (a3, .inl (cA 0, 2, .inl (fun _ => 0))), (a4, .inl (cA 0, 40, .inl (fun _ => 0))), (a5, .inl (cA 1, 64, .inr (.inl (fun _ => 0)))), (a6, .inl (cA 0, 128, .inl (fun _ => 0)))] H := hP
  have hD : va_D A [(h0, .inr (4, [.int 10, .ref a1, .ref a2, .ref a3, .int 0, .int 2, .int 0, .int 1, .int 2, .ref a4, .int 0, .long 0, .long 1, .int 0, .int 0, .ref a5, .int 0, .null, .int 0, .null, .long 0, .null, .null, .null, .int 0, .int 0, .int 0, .null, .null, .int 0])), (a1, .inl (cA 0, 90, .inl (fun _ => 0))), (a2, .inl (cA 0, 10, .inl (fun _ => 0))), (a3, .inl (cA 0, 2, .inl (fun _ => 0))), (a4, .inl (cA 0, 40, .inl (fun _ => 0))), (a5, .inl (cA 1, 64, .inr (.inl (fun _ => 0)))), (a6, .inl (cA 0, 128, .inl (fun _ => 0)))] := hD
  refine W.widen (k := 6) (n := 334) (by omega) (by omega) ?_
  refine va_putF (D := D) (ci := 4) (v := .ref a6) (ty := .array .int) (C := RX4) (T := TX4) (N := 30) hx hb hts inE4 tyX4 tyX4_ok nmX4 hown hK hP hD hS 0 rfl rfl 17 (by decide) (hts _ mc_39) (fun _ h9 => h9) rfl hin rfl (by decide +kernel) rfl rfl (Nat.le_of_ble_eq_true rfl) dX4_init_75 (fun H locs hP hD hS => ?_)
  have hP : va_P D vwCl [(h0, .inr (4, [.int 10, .ref a1, .ref a2, .ref a3, .int 0, .int 2, .int 0, .int 1, .int 2, .ref a4, .int 0, .long 0, .long 1, .int 0, .int 0, .ref a5, .int 0, .ref a6, .int 0, .null, .long 0, .null, .null, .null, .int 0, .int 0, .int 0, .null, .null, .int 0])), (a1, .inl (cA 0, 90, .inl (fun _ => 0))), (a2, .inl (cA 0, 10, .inl (fun _ => 0))), (a3, .inl (cA 0, 2, .inl (fun _ => 0))), (a4, .inl (cA 0, 40, .inl (fun _ => 0))), (a5, .inl (cA 1, 64, .inr (.inl (fun _ => 0)))), (a6, .inl (cA 0, 128, .inl (fun _ => 0)))] H := hP
  have hD : va_D A [(h0, .inr (4, [.int 10, .ref a1, .ref a2, .ref a3, .int 0, .int 2, .int 0, .int 1, .int 2, .ref a4, .int 0, .long 0, .long 1, .int 0, .int 0, .ref a5, .int 0, .ref a6, .int 0, .null, .long 0, .null, .null, .null, .int 0, .int 0, .int 0, .null, .null, .int 0])), (a1, .inl (cA 0, 90, .inl (fun _ => 0))), (a2, .inl (cA 0, 10, .inl (fun _ => 0))), (a3, .inl (cA 0, 2, .inl (fun _ => 0))), (a4, .inl (cA 0, 40, .inl (fun _ => 0))), (a5, .inl (cA 1, 64, .inr (.inl (fun _ => 0)))), (a6, .inl (cA 0, 128, .inl (fun _ => 0)))] := hD
  refine lv_aload_n hx hb dX4_init_78 rfl (lv_at hl 0 rfl) ?_
  refine lv_iconst (v := 5) hx hb dX4_init_79 (by decide) ?_
  refine x_newa (atype := .long) (ty := .long) (cA := cA 1) (N' := 5) (a0 := (5, .inr (.inl (fun _ => 0)))) hx hb (hts _ mc_23) rfl (fun x h9 => x_hu h9 (hK.2 1 _ rfl).2) hK hP hD hS hA (fun _ => rfl) (by decide) (by decide) (by decide) (Nat.le_of_ble_eq_true rfl) (Nat.le_of_ble_eq_true rfl) dX4_init_80 (fun a7 H hP hD hS => ?_)
  have hP : va_P D vwCl [(h0, .inr (4, [.int 10, .ref a1, .ref a2, .ref a3, .int 0, .int 2, .int 0, .int 1, .int 2, .ref a4, .int 0, .long 0, .long 1, .int 0, .int 0, .ref a5, .int 0, .ref a6, .int 0, .null, .long 0, .null, .null, .null, .int 0, .int 0, .int 0, .null, .null, .int 0])), (a1, .inl (cA 0, 90, .inl (fun _ => 0))), (a2, .inl (cA 0, 10, .inl (fun _ => 0))), (a3, .inl (cA 0, 2, .inl (fun _ => 0))), (a4, .inl (cA 0, 40, .inl (fun _ => 0))), (a5, .inl (cA 1, 64, .inr (.inl (fun _ => 0)))), (a6, .inl (cA 0, 128, .inl (fun _ => 0))), (a7, .inl (cA 1, 5, .inr (.inl (fun _ => 0))))] H := hP
  have hD : va_D A [(h0, .inr (4, [.int 10, .ref a1, .ref a2, .ref a3, .int 0, .int 2, .int 0, .int 1, .int 2, .ref a4, .int 0, .long 0, .long 1, .int 0, .int 0, .ref a5, .int 0, .ref a6, .int 0, .null, .long 0, .null, .null, .null, .int 0, .int 0, .int 0, .null, .null, .int 0])), (a1, .inl (cA 0, 90, .inl (fun _ => 0))), (a2, .inl (cA 0, 10, .inl (fun _ => 0))), (a3, .inl (cA 0, 2, .inl (fun _ => 0))), (a4, .inl (cA 0, 40, .inl (fun _ => 0))), (a5, .inl (cA 1, 64, .inr (.inl (fun _ => 0)))), (a6, .inl (cA 0, 128, .inl (fun _ => 0))), (a7, .inl (cA 1, 5, .inr (.inl (fun _ => 0))))] := hD
  refine W.widen (k := 7) (n := 339) (by omega) (by omega) ?_
  refine va_putF (D := D) (ci := 4) (v := .ref a7) (ty := .array .long) (C := RX4) (T := TX4) (N := 30) hx hb hts inE4 tyX4 tyX4_ok nmX4 hown hK hP hD hS 0 rfl rfl 19 (by decide) (hts _ mc_40) (fun _ h9 => h9) rfl hin rfl (by decide +kernel) rfl rfl (Nat.le_of_ble_eq_true rfl) dX4_init_82 (fun H locs hP hD hS => ?_)
  have hP : va_P D vwCl [(h0, .inr (4, [.int 10, .ref a1, .ref a2, .ref a3, .int 0, .int 2, .int 0, .int 1, .int 2, .ref a4, .int 0, .long 0, .long 1, .int 0, .int 0, .ref a5, .int 0, .ref a6, .int 0, .ref a7, .long 0, .null, .null, .null, .int 0, .int 0, .int 0, .null, .null, .int 0])), (a1, .inl (cA 0, 90, .inl (fun _ => 0))), (a2, .inl (cA 0, 10, .inl (fun _ => 0))), (a3, .inl (cA 0, 2, .inl (fun _ => 0))), (a4, .inl (cA 0, 40, .inl (fun _ => 0))), (a5, .inl (cA 1, 64, .inr (.inl (fun _ => 0)))), (a6, .inl (cA 0, 128, .inl (fun _ => 0))), (a7, .inl (cA 1, 5, .inr (.inl (fun _ => 0))))] H := hP
  have hD : va_D A [(h0, .inr (4, [.int 10, .ref a1, .ref a2, .ref a3, .int 0, .int 2, .int 0, .int 1, .int 2, .ref a4, .int 0, .long 0, .long 1, .int 0, .int 0, .ref a5, .int 0, .ref a6, .int 0, .ref a7, .long 0, .null, .null, .null, .int 0, .int 0, .int 0, .null, .null, .int 0])), (a1, .inl (cA 0, 90, .inl (fun _ => 0))), (a2, .inl (cA 0, 10, .inl (fun _ => 0))), (a3, .inl (cA 0, 2, .inl (fun _ => 0))), (a4, .inl (cA 0, 40, .inl (fun _ => 0))), (a5, .inl (cA 1, 64, .inr (.inl (fun _ => 0)))), (a6, .inl (cA 0, 128, .inl (fun _ => 0))), (a7, .inl (cA 1, 5, .inr (.inl (fun _ => 0))))] := hD
  refine lv_aload_n hx hb dX4_init_85 rfl (lv_at hl 0 rfl) ?_
  refine lv_bipush (v := 25) hx hb dX4_init_86 (by decide) ?_
  refine x_newa (atype := .boolean) (ty := .boolean) (cA := cA 2) (N' := 25) (a0 := (25, .inl (fun _ => 0))) hx hb (hts _ mc_7) rfl (fun x h9 => x_hu h9 (hK.2 2 _ rfl).2) hK hP hD hS hA (fun _ => rfl) (by decide) (by decide) (by decide) (Nat.le_of_ble_eq_true rfl) (Nat.le_of_ble_eq_true rfl) dX4_init_88 (fun a8 H hP hD hS => ?_)
  have hP : va_P D vwCl [(h0, .inr (4, [.int 10, .ref a1, .ref a2, .ref a3, .int 0, .int 2, .int 0, .int 1, .int 2, .ref a4, .int 0, .long 0, .long 1, .int 0, .int 0, .ref a5, .int 0, .ref a6, .int 0, .ref a7, .long 0, .null, .null, .null, .int 0, .int 0, .int 0, .null, .null, .int 0])), (a1, .inl (cA 0, 90, .inl (fun _ => 0))), (a2, .inl (cA 0, 10, .inl (fun _ => 0))), (a3, .inl (cA 0, 2, .inl (fun _ => 0))), (a4, .inl (cA 0, 40, .inl (fun _ => 0))), (a5, .inl (cA 1, 64, .inr (.inl (fun _ => 0)))), (a6, .inl (cA 0, 128, .inl (fun _ => 0))), (a7, .inl (cA 1, 5, .inr (.inl (fun _ => 0)))), (a8, .inl (cA 2, 25, .inl (fun _ => 0)))] H := hP
  have hD : va_D A [(h0, .inr (4, [.int 10, .ref a1, .ref a2, .ref a3, .int 0, .int 2, .int 0, .int 1, .int 2, .ref a4, .int 0, .long 0, .long 1, .int 0, .int 0, .ref a5, .int 0, .ref a6, .int 0, .ref a7, .long 0, .null, .null, .null, .int 0, .int 0, .int 0, .null, .null, .int 0])), (a1, .inl (cA 0, 90, .inl (fun _ => 0))), (a2, .inl (cA 0, 10, .inl (fun _ => 0))), (a3, .inl (cA 0, 2, .inl (fun _ => 0))), (a4, .inl (cA 0, 40, .inl (fun _ => 0))), (a5, .inl (cA 1, 64, .inr (.inl (fun _ => 0)))), (a6, .inl (cA 0, 128, .inl (fun _ => 0))), (a7, .inl (cA 1, 5, .inr (.inl (fun _ => 0)))), (a8, .inl (cA 2, 25, .inl (fun _ => 0)))] := hD
  refine W.widen (k := 8) (n := 364) (by omega) (by omega) ?_
  refine va_putF (D := D) (ci := 4) (v := .ref a8) (ty := .array .boolean) (C := RX4) (T := TX4) (N := 30) hx hb hts inE4 tyX4 tyX4_ok nmX4 hown hK hP hD hS 0 rfl rfl 21 (by decide) (hts _ mc_41) (fun _ h9 => h9) rfl hin rfl (by decide +kernel) rfl rfl (Nat.le_of_ble_eq_true rfl) dX4_init_90 (fun H locs hP hD hS => ?_)
  have hP : va_P D vwCl [(h0, .inr (4, [.int 10, .ref a1, .ref a2, .ref a3, .int 0, .int 2, .int 0, .int 1, .int 2, .ref a4, .int 0, .long 0, .long 1, .int 0, .int 0, .ref a5, .int 0, .ref a6, .int 0, .ref a7, .long 0, .ref a8, .null, .null, .int 0, .int 0, .int 0, .null, .null, .int 0])), (a1, .inl (cA 0, 90, .inl (fun _ => 0))), (a2, .inl (cA 0, 10, .inl (fun _ => 0))), (a3, .inl (cA 0, 2, .inl (fun _ => 0))), (a4, .inl (cA 0, 40, .inl (fun _ => 0))), (a5, .inl (cA 1, 64, .inr (.inl (fun _ => 0)))), (a6, .inl (cA 0, 128, .inl (fun _ => 0))), (a7, .inl (cA 1, 5, .inr (.inl (fun _ => 0)))), (a8, .inl (cA 2, 25, .inl (fun _ => 0)))] H := hP
  have hD : va_D A [(h0, .inr (4, [.int 10, .ref a1, .ref a2, .ref a3, .int 0, .int 2, .int 0, .int 1, .int 2, .ref a4, .int 0, .long 0, .long 1, .int 0, .int 0, .ref a5, .int 0, .ref a6, .int 0, .ref a7, .long 0, .ref a8, .null, .null, .int 0, .int 0, .int 0, .null, .null, .int 0])), (a1, .inl (cA 0, 90, .inl (fun _ => 0))), (a2, .inl (cA 0, 10, .inl (fun _ => 0))), (a3, .inl (cA 0, 2, .inl (fun _ => 0))), (a4, .inl (cA 0, 40, .inl (fun _ => 0))), (a5, .inl (cA 1, 64, .inr (.inl (fun _ => 0)))), (a6, .inl (cA 0, 128, .inl (fun _ => 0))), (a7, .inl (cA 1, 5, .inr (.inl (fun _ => 0)))), (a8, .inl (cA 2, 25, .inl (fun _ => 0)))] := hD
  refine lv_aload_n hx hb dX4_init_93 rfl (lv_at hl 0 rfl) ?_
  refine lv_bipush (v := 25) hx hb dX4_init_94 (by decide) ?_
  refine x_newa (atype := .int) (ty := .int) (cA := cA 0) (N' := 25) (a0 := (25, .inl (fun _ => 0))) hx hb (hts _ mc_3) rfl (fun x h9 => x_hu h9 (hK.2 0 _ rfl).2) hK hP hD hS hA (fun _ => rfl) (by decide) (by decide) (by decide) (Nat.le_of_ble_eq_true rfl) (Nat.le_of_ble_eq_true rfl) dX4_init_96 (fun a9 H hP hD hS => ?_)
  have hP : va_P D vwCl [(h0, .inr (4, [.int 10, .ref a1, .ref a2, .ref a3, .int 0, .int 2, .int 0, .int 1, .int 2, .ref a4, .int 0, .long 0, .long 1, .int 0, .int 0, .ref a5, .int 0, .ref a6, .int 0, .ref a7, .long 0, .ref a8, .null, .null, .int 0, .int 0, .int 0, .null, .null, .int 0])), (a1, .inl (cA 0, 90, .inl (fun _ => 0))), (a2, .inl (cA 0, 10, .inl (fun _ => 0))), (a3, .inl (cA 0, 2, .inl (fun _ => 0))), (a4, .inl (cA 0, 40, .inl (fun _ => 0))), (a5, .inl (cA 1, 64, .inr (.inl (fun _ => 0)))), (a6, .inl (cA 0, 128, .inl (fun _ => 0))), (a7, .inl (cA 1, 5, .inr (.inl (fun _ => 0)))), (a8, .inl (cA 2, 25, .inl (fun _ => 0))), (a9, .inl (cA 0, 25, .inl (fun _ => 0)))] H := hP
  have hD : va_D A [(h0, .inr (4, [.int 10, .ref a1, .ref a2, .ref a3, .int 0, .int 2, .int 0, .int 1, .int 2, .ref a4, .int 0, .long 0, .long 1, .int 0, .int 0, .ref a5, .int 0, .ref a6, .int 0, .ref a7, .long 0, .ref a8, .null, .null, .int 0, .int 0, .int 0, .null, .null, .int 0])), (a1, .inl (cA 0, 90, .inl (fun _ => 0))), (a2, .inl (cA 0, 10, .inl (fun _ => 0))), (a3, .inl (cA 0, 2, .inl (fun _ => 0))), (a4, .inl (cA 0, 40, .inl (fun _ => 0))), (a5, .inl (cA 1, 64, .inr (.inl (fun _ => 0)))), (a6, .inl (cA 0, 128, .inl (fun _ => 0))), (a7, .inl (cA 1, 5, .inr (.inl (fun _ => 0)))), (a8, .inl (cA 2, 25, .inl (fun _ => 0))), (a9, .inl (cA 0, 25, .inl (fun _ => 0)))] := hD
  refine W.widen (k := 9) (n := 389) (by omega) (by omega) ?_
  refine va_putF (D := D) (ci := 4) (v := .ref a9) (ty := .array .int) (C := RX4) (T := TX4) (N := 30) hx hb hts inE4 tyX4 tyX4_ok nmX4 hown hK hP hD hS 0 rfl rfl 22 (by decide) (hts _ mc_42) (fun _ h9 => h9) rfl hin rfl (by decide +kernel) rfl rfl (Nat.le_of_ble_eq_true rfl) dX4_init_98 (fun H locs hP hD hS => ?_)
  have hP : va_P D vwCl [(h0, .inr (4, [.int 10, .ref a1, .ref a2, .ref a3, .int 0, .int 2, .int 0, .int 1, .int 2, .ref a4, .int 0, .long 0, .long 1, .int 0, .int 0, .ref a5, .int 0, .ref a6, .int 0, .ref a7, .long 0, .ref a8, .ref a9, .null, .int 0, .int 0, .int 0, .null, .null, .int 0])), (a1, .inl (cA 0, 90, .inl (fun _ => 0))), (a2, .inl (cA 0, 10, .inl (fun _ => 0))), (a3, .inl (cA 0, 2, .inl (fun _ => 0))), (a4, .inl (cA 0, 40, .inl (fun _ => 0))), (a5, .inl (cA 1, 64, .inr (.inl (fun _ => 0)))), (a6, .inl (cA 0, 128, .inl (fun _ => 0))), (a7, .inl (cA 1, 5, .inr (.inl (fun _ => 0)))), (a8, .inl (cA 2, 25, .inl (fun _ => 0))), (a9, .inl (cA 0, 25, .inl (fun _ => 0)))] H := hP
  have hD : va_D A [(h0, .inr (4, [.int 10, .ref a1, .ref a2, .ref a3, .int 0, .int 2, .int 0, .int 1, .int 2, .ref a4, .int 0, .long 0, .long 1, .int 0, .int 0, .ref a5, .int 0, .ref a6, .int 0, .ref a7, .long 0, .ref a8, .ref a9, .null, .int 0, .int 0, .int 0, .null, .null, .int 0])), (a1, .inl (cA 0, 90, .inl (fun _ => 0))), (a2, .inl (cA 0, 10, .inl (fun _ => 0))), (a3, .inl (cA 0, 2, .inl (fun _ => 0))), (a4, .inl (cA 0, 40, .inl (fun _ => 0))), (a5, .inl (cA 1, 64, .inr (.inl (fun _ => 0)))), (a6, .inl (cA 0, 128, .inl (fun _ => 0))), (a7, .inl (cA 1, 5, .inr (.inl (fun _ => 0)))), (a8, .inl (cA 2, 25, .inl (fun _ => 0))), (a9, .inl (cA 0, 25, .inl (fun _ => 0)))] := hD
  refine lv_aload_n hx hb dX4_init_101 rfl (lv_at hl 0 rfl) ?_
  refine lv_bipush (v := 25) hx hb dX4_init_102 (by decide) ?_
  refine x_newa (atype := .int) (ty := .int) (cA := cA 0) (N' := 25) (a0 := (25, .inl (fun _ => 0))) hx hb (hts _ mc_3) rfl (fun x h9 => x_hu h9 (hK.2 0 _ rfl).2) hK hP hD hS hA (fun _ => rfl) (by decide) (by decide) (by decide) (Nat.le_of_ble_eq_true rfl) (Nat.le_of_ble_eq_true rfl) dX4_init_104 (fun a10 H hP hD hS => ?_)
  have hP : va_P D vwCl [(h0, .inr (4, [.int 10, .ref a1, .ref a2, .ref a3, .int 0, .int 2, .int 0, .int 1, .int 2, .ref a4, .int 0, .long 0, .long 1, .int 0, .int 0, .ref a5, .int 0, .ref a6, .int 0, .ref a7, .long 0, .ref a8, .ref a9, .null, .int 0, .int 0, .int 0, .null, .null, .int 0])), (a1, .inl (cA 0, 90, .inl (fun _ => 0))), (a2, .inl (cA 0, 10, .inl (fun _ => 0))), (a3, .inl (cA 0, 2, .inl (fun _ => 0))), (a4, .inl (cA 0, 40, .inl (fun _ => 0))), (a5, .inl (cA 1, 64, .inr (.inl (fun _ => 0)))), (a6, .inl (cA 0, 128, .inl (fun _ => 0))), (a7, .inl (cA 1, 5, .inr (.inl (fun _ => 0)))), (a8, .inl (cA 2, 25, .inl (fun _ => 0))), (a9, .inl (cA 0, 25, .inl (fun _ => 0))), (a10, .inl (cA 0, 25, .inl (fun _ => 0)))] H := hP
  have hD : va_D A [(h0, .inr (4, [.int 10, .ref a1, .ref a2, .ref a3, .int 0, .int 2, .int 0, .int 1, .int 2, .ref a4, .int 0, .long 0, .long 1, .int 0, .int 0, .ref a5, .int 0, .ref a6, .int 0, .ref a7, .long 0, .ref a8, .ref a9, .null, .int 0, .int 0, .int 0, .null, .null, .int 0])), (a1, .inl (cA 0, 90, .inl (fun _ => 0))), (a2, .inl (cA 0, 10, .inl (fun _ => 0))), (a3, .inl (cA 0, 2, .inl (fun _ => 0))), (a4, .inl (cA 0, 40, .inl (fun _ => 0))), (a5, .inl (cA 1, 64, .inr (.inl (fun _ => 0)))), (a6, .inl (cA 0, 128, .inl (fun _ => 0))), (a7, .inl (cA 1, 5, .inr (.inl (fun _ => 0)))), (a8, .inl (cA 2, 25, .inl (fun _ => 0))), (a9, .inl (cA 0, 25, .inl (fun _ => 0))), (a10, .inl (cA 0, 25, .inl (fun _ => 0)))] := hD
  refine W.widen (k := 10) (n := 414) (by omega) (by omega) ?_
  refine va_putF (D := D) (ci := 4) (v := .ref a10) (ty := .array .int) (C := RX4) (T := TX4) (N := 30) hx hb hts inE4 tyX4 tyX4_ok nmX4 hown hK hP hD hS 0 rfl rfl 23 (by decide) (hts _ mc_43) (fun _ h9 => h9) rfl hin rfl (by decide +kernel) rfl rfl (Nat.le_of_ble_eq_true rfl) dX4_init_106 (fun H locs hP hD hS => ?_)
  have hP : va_P D vwCl [(h0, .inr (4, [.int 10, .ref a1, .ref a2, .ref a3, .int 0, .int 2, .int 0, .int 1, .int 2, .ref a4, .int 0, .long 0, .long 1, .int 0, .int 0, .ref a5, .int 0, .ref a6, .int 0, .ref a7, .long 0, .ref a8, .ref a9, .ref a10, .int 0, .int 0, .int 0, .null, .null, .int 0])), (a1, .inl (cA 0, 90, .inl (fun _ => 0))), (a2, .inl (cA 0, 10, .inl (fun _ => 0))), (a3, .inl (cA 0, 2, .inl (fun _ => 0))), (a4, .inl (cA 0, 40, .inl (fun _ => 0))), (a5, .inl (cA 1, 64, .inr (.inl (fun _ => 0)))), (a6, .inl (cA 0, 128, .inl (fun _ => 0))), (a7, .inl (cA 1, 5, .inr (.inl (fun _ => 0)))), (a8, .inl (cA 2, 25, .inl (fun _ => 0))), (a9, .inl (cA 0, 25, .inl (fun _ => 0))), (a10, .inl (cA 0, 25, .inl (fun _ => 0)))] H := hP
  have hD : va_D A [(h0, .inr (4, [.int 10, .ref a1, .ref a2, .ref a3, .int 0, .int 2, .int 0, .int 1, .int 2, .ref a4, .int 0, .long 0, .long 1, .int 0, .int 0, .ref a5, .int 0, .ref a6, .int 0, .ref a7, .long 0, .ref a8, .ref a9, .ref a10, .int 0, .int 0, .int 0, .null, .null, .int 0])), (a1, .inl (cA 0, 90, .inl (fun _ => 0))), (a2, .inl (cA 0, 10, .inl (fun _ => 0))), (a3, .inl (cA 0, 2, .inl (fun _ => 0))), (a4, .inl (cA 0, 40, .inl (fun _ => 0))), (a5, .inl (cA 1, 64, .inr (.inl (fun _ => 0)))), (a6, .inl (cA 0, 128, .inl (fun _ => 0))), (a7, .inl (cA 1, 5, .inr (.inl (fun _ => 0)))), (a8, .inl (cA 2, 25, .inl (fun _ => 0))), (a9, .inl (cA 0, 25, .inl (fun _ => 0))), (a10, .inl (cA 0, 25, .inl (fun _ => 0)))] := hD
  refine lv_aload_n hx hb dX4_init_109 rfl (lv_at hl 0 rfl) ?_
  refine lv_bipush (v := 25) hx hb dX4_init_110 (by decide) ?_
  refine x_newa (atype := .int) (ty := .int) (cA := cA 0) (N' := 25) (a0 := (25, .inl (fun _ => 0))) hx hb (hts _ mc_3) rfl (fun x h9 => x_hu h9 (hK.2 0 _ rfl).2) hK hP hD hS hA (fun _ => rfl) (by decide) (by decide) (by decide) (Nat.le_of_ble_eq_true rfl) (Nat.le_of_ble_eq_true rfl) dX4_init_112 (fun a11 H hP hD hS => ?_)
  have hP : va_P D vwCl [(h0, .inr (4, [.int 10, .ref a1, .ref a2, .ref a3, .int 0, .int 2, .int 0, .int 1, .int 2, .ref a4, .int 0, .long 0, .long 1, .int 0, .int 0, .ref a5, .int 0, .ref a6, .int 0, .ref a7, .long 0, .ref a8, .ref a9, .ref a10, .int 0, .int 0, .int 0, .null, .null, .int 0])), (a1, .inl (cA 0, 90, .inl (fun _ => 0))), (a2, .inl (cA 0, 10, .inl (fun _ => 0))), (a3, .inl (cA 0, 2, .inl (fun _ => 0))), (a4, .inl (cA 0, 40, .inl (fun _ => 0))), (a5, .inl (cA 1, 64, .inr (.inl (fun _ => 0)))), (a6, .inl (cA 0, 128, .inl (fun _ => 0))), (a7, .inl (cA 1, 5, .inr (.inl (fun _ => 0)))), (a8, .inl (cA 2, 25, .inl (fun _ => 0))), (a9, .inl (cA 0, 25, .inl (fun _ => 0))), (a10, .inl (cA 0, 25, .inl (fun _ => 0))), (a11, .inl (cA 0, 25, .inl (fun _ => 0)))] H := hP
  have hD : va_D A [(h0, .inr (4, [.int 10, .ref a1, .ref a2, .ref a3, .int 0, .int 2, .int 0, .int 1, .int 2, .ref a4, .int 0, .long 0, .long 1, .int 0, .int 0, .ref a5, .int 0, .ref a6, .int 0, .ref a7, .long 0, .ref a8, .ref a9, .ref a10, .int 0, .int 0, .int 0, .null, .null, .int 0])), (a1, .inl (cA 0, 90, .inl (fun _ => 0))), (a2, .inl (cA 0, 10, .inl (fun _ => 0))), (a3, .inl (cA 0, 2, .inl (fun _ => 0))), (a4, .inl (cA 0, 40, .inl (fun _ => 0))), (a5, .inl (cA 1, 64, .inr (.inl (fun _ => 0)))), (a6, .inl (cA 0, 128, .inl (fun _ => 0))), (a7, .inl (cA 1, 5, .inr (.inl (fun _ => 0)))), (a8, .inl (cA 2, 25, .inl (fun _ => 0))), (a9, .inl (cA 0, 25, .inl (fun _ => 0))), (a10, .inl (cA 0, 25, .inl (fun _ => 0))), (a11, .inl (cA 0, 25, .inl (fun _ => 0)))] := hD
  refine W.widen (k := 11) (n := 439) (by omega) (by omega) ?_
  refine va_putF (D := D) (ci := 4) (v := .ref a11) (ty := .array .int) (C := RX4) (T := TX4) (N := 30) hx hb hts inE4 tyX4 tyX4_ok nmX4 hown hK hP hD hS 0 rfl rfl 27 (by decide) (hts _ mc_44) (fun _ h9 => h9) rfl hin rfl (by decide +kernel) rfl rfl (Nat.le_of_ble_eq_true rfl) dX4_init_114 (fun H locs hP hD hS => ?_)
  have hP : va_P D vwCl [(h0, .inr (4, [.int 10, .ref a1, .ref a2, .ref a3, .int 0, .int 2, .int 0, .int 1, .int 2, .ref a4, .int 0, .long 0, .long 1, .int 0, .int 0, .ref a5, .int 0, .ref a6, .int 0, .ref a7, .long 0, .ref a8, .ref a9, .ref a10, .int 0, .int 0, .int 0, .ref a11, .null, .int 0])), (a1, .inl (cA 0, 90, .inl (fun _ => 0))), (a2, .inl (cA 0, 10, .inl (fun _ => 0))), (a3, .inl (cA 0, 2, .inl (fun _ => 0))), (a4, .inl (cA 0, 40, .inl (fun _ => 0))), (a5, .inl (cA 1, 64, .inr (.inl (fun _ => 0)))), (a6, .inl (cA 0, 128, .inl (fun _ => 0))), (a7, .inl (cA 1, 5, .inr (.inl (fun _ => 0)))), (a8, .inl (cA 2, 25, .inl (fun _ => 0))), (a9, .inl (cA 0, 25, .inl (fun _ => 0))), (a10, .inl (cA 0, 25, .inl (fun _ => 0))), (a11, .inl (cA 0, 25, .inl (fun _ => 0)))] H := hP
  have hD : va_D A [(h0, .inr (4, [.int 10, .ref a1, .ref a2, .ref a3, .int 0, .int 2, .int 0, .int 1, .int 2, .ref a4, .int 0, .long 0, .long 1, .int 0, .int 0, .ref a5, .int 0, .ref a6, .int 0, .ref a7, .long 0, .ref a8, .ref a9, .ref a10, .int 0, .int 0, .int 0, .ref a11, .null, .int 0])), (a1, .inl (cA 0, 90, .inl (fun _ => 0))), (a2, .inl (cA 0, 10, .inl (fun _ => 0))), (a3, .inl (cA 0, 2, .inl (fun _ => 0))), (a4, .inl (cA 0, 40, .inl (fun _ => 0))), (a5, .inl (cA 1, 64, .inr (.inl (fun _ => 0)))), (a6, .inl (cA 0, 128, .inl (fun _ => 0))), (a7, .inl (cA 1, 5, .inr (.inl (fun _ => 0)))), (a8, .inl (cA 2, 25, .inl (fun _ => 0))), (a9, .inl (cA 0, 25, .inl (fun _ => 0))), (a10, .inl (cA 0, 25, .inl (fun _ => 0))), (a11, .inl (cA 0, 25, .inl (fun _ => 0)))] := hD
  refine lv_aload_n hx hb dX4_init_117 rfl (lv_at hl 0 rfl) ?_
  refine lv_bipush (v := 25) hx hb dX4_init_118 (by decide) ?_
  refine x_newa (atype := .int) (ty := .int) (cA := cA 0) (N' := 25) (a0 := (25, .inl (fun _ => 0))) hx hb (hts _ mc_3) rfl (fun x h9 => x_hu h9 (hK.2 0 _ rfl).2) hK hP hD hS hA (fun _ => rfl) (by decide) (by decide) (by decide) (Nat.le_of_ble_eq_true rfl) (Nat.le_of_ble_eq_true rfl) dX4_init_120 (fun a12 H hP hD hS => ?_)
  have hP : va_P D vwCl [(h0, .inr (4, [.int 10, .ref a1, .ref a2, .ref a3, .int 0, .int 2, .int 0, .int 1, .int 2, .ref a4, .int 0, .long 0, .long 1, .int 0, .int 0, .ref a5, .int 0, .ref a6, .int 0, .ref a7, .long 0, .ref a8, .ref a9, .ref a10, .int 0, .int 0, .int 0, .ref a11, .null, .int 0])), (a1, .inl (cA 0, 90, .inl (fun _ => 0))), (a2, .inl (cA 0, 10, .inl (fun _ => 0))), (a3, .inl (cA 0, 2, .inl (fun _ => 0))), (a4, .inl (cA 0, 40, .inl (fun _ => 0))), (a5, .inl (cA 1, 64, .inr (.inl (fun _ => 0)))), (a6, .inl (cA 0, 128, .inl (fun _ => 0))), (a7, .inl (cA 1, 5, .inr (.inl (fun _ => 0)))), (a8, .inl (cA 2, 25, .inl (fun _ => 0))), (a9, .inl (cA 0, 25, .inl (fun _ => 0))), (a10, .inl (cA 0, 25, .inl (fun _ => 0))), (a11, .inl (cA 0, 25, .inl (fun _ => 0))), (a12, .inl (cA 0, 25, .inl (fun _ => 0)))] H := hP
  have hD : va_D A [(h0, .inr (4, [.int 10, .ref a1, .ref a2, .ref a3, .int 0, .int 2, .int 0, .int 1, .int 2, .ref a4, .int 0, .long 0, .long 1, .int 0, .int 0, .ref a5, .int 0, .ref a6, .int 0, .ref a7, .long 0, .ref a8, .ref a9, .ref a10, .int 0, .int 0, .int 0, .ref a11, .null, .int 0])), (a1, .inl (cA 0, 90, .inl (fun _ => 0))), (a2, .inl (cA 0, 10, .inl (fun _ => 0))), (a3, .inl (cA 0, 2, .inl (fun _ => 0))), (a4, .inl (cA 0, 40, .inl (fun _ => 0))), (a5, .inl (cA 1, 64, .inr (.inl (fun _ => 0)))), (a6, .inl (cA 0, 128, .inl (fun _ => 0))), (a7, .inl (cA 1, 5, .inr (.inl (fun _ => 0)))), (a8, .inl (cA 2, 25, .inl (fun _ => 0))), (a9, .inl (cA 0, 25, .inl (fun _ => 0))), (a10, .inl (cA 0, 25, .inl (fun _ => 0))), (a11, .inl (cA 0, 25, .inl (fun _ => 0))), (a12, .inl (cA 0, 25, .inl (fun _ => 0)))] := hD
  refine W.widen (k := 12) (n := 464) (by omega) (by omega) ?_
  refine va_putF (D := D) (ci := 4) (v := .ref a12) (ty := .array .int) (C := RX4) (T := TX4) (N := 30) hx hb hts inE4 tyX4 tyX4_ok nmX4 hown hK hP hD hS 0 rfl rfl 28 (by decide) (hts _ mc_45) (fun _ h9 => h9) rfl hin rfl (by decide +kernel) rfl rfl (Nat.le_of_ble_eq_true rfl) dX4_init_122 (fun H locs hP hD hS => ?_)
  have hP : va_P D vwCl [(h0, .inr (4, [.int 10, .ref a1, .ref a2, .ref a3, .int 0, .int 2, .int 0, .int 1, .int 2, .ref a4, .int 0, .long 0, .long 1, .int 0, .int 0, .ref a5, .int 0, .ref a6, .int 0, .ref a7, .long 0, .ref a8, .ref a9, .ref a10, .int 0, .int 0, .int 0, .ref a11, .ref a12, .int 0])), (a1, .inl (cA 0, 90, .inl (fun _ => 0))), (a2, .inl (cA 0, 10, .inl (fun _ => 0))), (a3, .inl (cA 0, 2, .inl (fun _ => 0))), (a4, .inl (cA 0, 40, .inl (fun _ => 0))), (a5, .inl (cA 1, 64, .inr (.inl (fun _ => 0)))), (a6, .inl (cA 0, 128, .inl (fun _ => 0))), (a7, .inl (cA 1, 5, .inr (.inl (fun _ => 0)))), (a8, .inl (cA 2, 25, .inl (fun _ => 0))), (a9, .inl (cA 0, 25, .inl (fun _ => 0))), (a10, .inl (cA 0, 25, .inl (fun _ => 0))), (a11, .inl (cA 0, 25, .inl (fun _ => 0))), (a12, .inl (cA 0, 25, .inl (fun _ => 0)))] H := hP
  have hD : va_D A [(h0, .inr (4, [.int 10, .ref a1, .ref a2, .ref a3, .int 0, .int 2, .int 0, .int 1, .int 2, .ref a4, .int 0, .long 0, .long 1, .int 0, .int 0, .ref a5, .int 0, .ref a6, .int 0, .ref a7, .long 0, .ref a8, .ref a9, .ref a10, .int 0, .int 0, .int 0, .ref a11, .ref a12, .int 0])), (a1, .inl (cA 0, 90, .inl (fun _ => 0))), (a2, .inl (cA 0, 10, .inl (fun _ => 0))), (a3, .inl (cA 0, 2, .inl (fun _ => 0))), (a4, .inl (cA 0, 40, .inl (fun _ => 0))), (a5, .inl (cA 1, 64, .inr (.inl (fun _ => 0)))), (a6, .inl (cA 0, 128, .inl (fun _ => 0))), (a7, .inl (cA 1, 5, .inr (.inl (fun _ => 0)))), (a8, .inl (cA 2, 25, .inl (fun _ => 0))), (a9, .inl (cA 0, 25, .inl (fun _ => 0))), (a10, .inl (cA 0, 25, .inl (fun _ => 0))), (a11, .inl (cA 0, 25, .inl (fun _ => 0))), (a12, .inl (cA 0, 25, .inl (fun _ => 0)))] := hD
  refine lv_iconst (v := 0) hx hb dX4_init_125 (by decide) ?_
  refine lv_istore_n (lv' := [(1, .int 0), (0, .ref h0)]) hx hb dX4_init_126 rfl hl (by decide) rfl (fun ls hl => ?_)
  refine lv_iload_n hx hb dX4_init_127 rfl (lv_at hl 0 rfl) ?_
  refine lv_iconst (v := 2) hx hb dX4_init_128 (by decide) ?_
  refine lv_icmp_ge (tgt := 167) hx hb dX4_init_129 (by decide) (fun h9 => absurd h9 (by decide)) (fun _ => ?_)
  refine lv_aload_n hx hb dX4_init_132 rfl (lv_at hl 1 rfl) ?_
  refine va_get (D := D) (ci := 4) (v := .ref a1) (C := RX4) (T := TX4) (N := 30) hx hb hts inE4 hown hK hP 0 rfl rfl 1 (by decide) (hts _ mc_30) (fun _ h9 => h9) rfl dX4_init_133 ?_
  refine lv_bipush (v := 45) hx hb dX4_init_136 (by decide) ?_
  refine lv_iload_n hx hb dX4_init_138 rfl (lv_at hl 0 rfl) ?_
  refine lv_imul hx hb dX4_init_139 ?_
  rw [show (45 : Int32) * 0 = 0 from by decide]
  refine lv_iconst (v := 0) hx hb dX4_init_140 (by decide) ?_
  refine lv_iadd hx hb dX4_init_141 ?_
  rw [show (0 : Int32) + 0 = 0 from by decide]
  refine lv_bipush (v := 10) hx hb dX4_init_142 (by decide) ?_
  refine va_iast hx hb hK hP hD hS 1 0 rfl rfl (i := 0) (x := 10) (e_inb_in rfl) dX4_init_144 (fun H locs hP hD hS => ?_)
  have hP : va_P D vwCl [(h0, .inr (4, [.int 10, .ref a1, .ref a2, .ref a3, .int 0, .int 2, .int 0, .int 1, .int 2, .ref a4, .int 0, .long 0, .long 1, .int 0, .int 0, .ref a5, .int 0, .ref a6, .int 0, .ref a7, .long 0, .ref a8, .ref a9, .ref a10, .int 0, .int 0, .int 0, .ref a11, .ref a12, .int 0])), (a1, .inl (cA 0, 90, .inl (upd (fun _ => 0) 0 10))), (a2, .inl (cA 0, 10, .inl (fun _ => 0))), (a3, .inl (cA 0, 2, .inl (fun _ => 0))), (a4, .inl (cA 0, 40, .inl (fun _ => 0))), (a5, .inl (cA 1, 64, .inr (.inl (fun _ => 0)))), (a6, .inl (cA 0, 128, .inl (fun _ => 0))), (a7, .inl (cA 1, 5, .inr (.inl (fun _ => 0)))), (a8, .inl (cA 2, 25, .inl (fun _ => 0))), (a9, .inl (cA 0, 25, .inl (fun _ => 0))), (a10, .inl (cA 0, 25, .inl (fun _ => 0))), (a11, .inl (cA 0, 25, .inl (fun _ => 0))), (a12, .inl (cA 0, 25, .inl (fun _ => 0)))] H := hP
  have hD : va_D A [(h0, .inr (4, [.int 10, .ref a1, .ref a2, .ref a3, .int 0, .int 2, .int 0, .int 1, .int 2, .ref a4, .int 0, .long 0, .long 1, .int 0, .int 0, .ref a5, .int 0, .ref a6, .int 0, .ref a7, .long 0, .ref a8, .ref a9, .ref a10, .int 0, .int 0, .int 0, .ref a11, .ref a12, .int 0])), (a1, .inl (cA 0, 90, .inl (upd (fun _ => 0) 0 10))), (a2, .inl (cA 0, 10, .inl (fun _ => 0))), (a3, .inl (cA 0, 2, .inl (fun _ => 0))), (a4, .inl (cA 0, 40, .inl (fun _ => 0))), (a5, .inl (cA 1, 64, .inr (.inl (fun _ => 0)))), (a6, .inl (cA 0, 128, .inl (fun _ => 0))), (a7, .inl (cA 1, 5, .inr (.inl (fun _ => 0)))), (a8, .inl (cA 2, 25, .inl (fun _ => 0))), (a9, .inl (cA 0, 25, .inl (fun _ => 0))), (a10, .inl (cA 0, 25, .inl (fun _ => 0))), (a11, .inl (cA 0, 25, .inl (fun _ => 0))), (a12, .inl (cA 0, 25, .inl (fun _ => 0)))] := hD
  refine lv_aload_n hx hb dX4_init_145 rfl (lv_at hl 1 rfl) ?_
  refine va_get (D := D) (ci := 4) (v := .ref a2) (C := RX4) (T := TX4) (N := 30) hx hb hts inE4 hown hK hP 0 rfl rfl 2 (by decide) (hts _ mc_31) (fun _ h9 => h9) rfl dX4_init_146 ?_
  refine lv_iconst (v := 5) hx hb dX4_init_149 (by decide) ?_
  refine lv_iload_n hx hb dX4_init_150 rfl (lv_at hl 0 rfl) ?_
  refine lv_imul hx hb dX4_init_151 ?_
  rw [show (5 : Int32) * 0 = 0 from by decide]
  refine lv_iconst (v := 1) hx hb dX4_init_152 (by decide) ?_
  refine va_iast hx hb hK hP hD hS 2 0 rfl rfl (i := 0) (x := 1) (e_inb_in rfl) dX4_init_153 (fun H locs hP hD hS => ?_)
  have hP : va_P D vwCl [(h0, .inr (4, [.int 10, .ref a1, .ref a2, .ref a3, .int 0, .int 2, .int 0, .int 1, .int 2, .ref a4, .int 0, .long 0, .long 1, .int 0, .int 0, .ref a5, .int 0, .ref a6, .int 0, .ref a7, .long 0, .ref a8, .ref a9, .ref a10, .int 0, .int 0, .int 0, .ref a11, .ref a12, .int 0])), (a1, .inl (cA 0, 90, .inl (upd (fun _ => 0) 0 10))), (a2, .inl (cA 0, 10, .inl (upd (fun _ => 0) 0 1))), (a3, .inl (cA 0, 2, .inl (fun _ => 0))), (a4, .inl (cA 0, 40, .inl (fun _ => 0))), (a5, .inl (cA 1, 64, .inr (.inl (fun _ => 0)))), (a6, .inl (cA 0, 128, .inl (fun _ => 0))), (a7, .inl (cA 1, 5, .inr (.inl (fun _ => 0)))), (a8, .inl (cA 2, 25, .inl (fun _ => 0))), (a9, .inl (cA 0, 25, .inl (fun _ => 0))), (a10, .inl (cA 0, 25, .inl (fun _ => 0))), (a11, .inl (cA 0, 25, .inl (fun _ => 0))), (a12, .inl (cA 0, 25, .inl (fun _ => 0)))] H := hP
  have hD : va_D A [(h0, .inr (4, [.int 10, .ref a1, .ref a2, .ref a3, .int 0, .int 2, .int 0, .int 1, .int 2, .ref a4, .int 0, .long 0, .long 1, .int 0, .int 0, .ref a5, .int 0, .ref a6, .int 0, .ref a7, .long 0, .ref a8, .ref a9, .ref a10, .int 0, .int 0, .int 0, .ref a11, .ref a12, .int 0])), (a1, .inl (cA 0, 90, .inl (upd (fun _ => 0) 0 10))), (a2, .inl (cA 0, 10, .inl (upd (fun _ => 0) 0 1))), (a3, .inl (cA 0, 2, .inl (fun _ => 0))), (a4, .inl (cA 0, 40, .inl (fun _ => 0))), (a5, .inl (cA 1, 64, .inr (.inl (fun _ => 0)))), (a6, .inl (cA 0, 128, .inl (fun _ => 0))), (a7, .inl (cA 1, 5, .inr (.inl (fun _ => 0)))), (a8, .inl (cA 2, 25, .inl (fun _ => 0))), (a9, .inl (cA 0, 25, .inl (fun _ => 0))), (a10, .inl (cA 0, 25, .inl (fun _ => 0))), (a11, .inl (cA 0, 25, .inl (fun _ => 0))), (a12, .inl (cA 0, 25, .inl (fun _ => 0)))] := hD
  refine lv_aload_n hx hb dX4_init_154 rfl (lv_at hl 1 rfl) ?_
  refine va_get (D := D) (ci := 4) (v := .ref a3) (C := RX4) (T := TX4) (N := 30) hx hb hts inE4 hown hK hP 0 rfl rfl 3 (by decide) (hts _ mc_32) (fun _ h9 => h9) rfl dX4_init_155 ?_
  refine lv_iload_n hx hb dX4_init_158 rfl (lv_at hl 0 rfl) ?_
  refine lv_iconst (v := 1) hx hb dX4_init_159 (by decide) ?_
  refine va_iast hx hb hK hP hD hS 3 0 rfl rfl (i := 0) (x := 1) (e_inb_in rfl) dX4_init_160 (fun H locs hP hD hS => ?_)
  have hP : va_P D vwCl [(h0, .inr (4, [.int 10, .ref a1, .ref a2, .ref a3, .int 0, .int 2, .int 0, .int 1, .int 2, .ref a4, .int 0, .long 0, .long 1, .int 0, .int 0, .ref a5, .int 0, .ref a6, .int 0, .ref a7, .long 0, .ref a8, .ref a9, .ref a10, .int 0, .int 0, .int 0, .ref a11, .ref a12, .int 0])), (a1, .inl (cA 0, 90, .inl (upd (fun _ => 0) 0 10))), (a2, .inl (cA 0, 10, .inl (upd (fun _ => 0) 0 1))), (a3, .inl (cA 0, 2, .inl (upd (fun _ => 0) 0 1))), (a4, .inl (cA 0, 40, .inl (fun _ => 0))), (a5, .inl (cA 1, 64, .inr (.inl (fun _ => 0)))), (a6, .inl (cA 0, 128, .inl (fun _ => 0))), (a7, .inl (cA 1, 5, .inr (.inl (fun _ => 0)))), (a8, .inl (cA 2, 25, .inl (fun _ => 0))), (a9, .inl (cA 0, 25, .inl (fun _ => 0))), (a10, .inl (cA 0, 25, .inl (fun _ => 0))), (a11, .inl (cA 0, 25, .inl (fun _ => 0))), (a12, .inl (cA 0, 25, .inl (fun _ => 0)))] H := hP
  have hD : va_D A [(h0, .inr (4, [.int 10, .ref a1, .ref a2, .ref a3, .int 0, .int 2, .int 0, .int 1, .int 2, .ref a4, .int 0, .long 0, .long 1, .int 0, .int 0, .ref a5, .int 0, .ref a6, .int 0, .ref a7, .long 0, .ref a8, .ref a9, .ref a10, .int 0, .int 0, .int 0, .ref a11, .ref a12, .int 0])), (a1, .inl (cA 0, 90, .inl (upd (fun _ => 0) 0 10))), (a2, .inl (cA 0, 10, .inl (upd (fun _ => 0) 0 1))), (a3, .inl (cA 0, 2, .inl (upd (fun _ => 0) 0 1))), (a4, .inl (cA 0, 40, .inl (fun _ => 0))), (a5, .inl (cA 1, 64, .inr (.inl (fun _ => 0)))), (a6, .inl (cA 0, 128, .inl (fun _ => 0))), (a7, .inl (cA 1, 5, .inr (.inl (fun _ => 0)))), (a8, .inl (cA 2, 25, .inl (fun _ => 0))), (a9, .inl (cA 0, 25, .inl (fun _ => 0))), (a10, .inl (cA 0, 25, .inl (fun _ => 0))), (a11, .inl (cA 0, 25, .inl (fun _ => 0))), (a12, .inl (cA 0, 25, .inl (fun _ => 0)))] := hD
  refine lv_iinc (k := 0) (v := 1) (lv' := [(1, .int 1), (0, .ref h0)]) hx hb dX4_init_161 hl rfl (by decide) (by decide) rfl (fun ls hl => ?_)
  refine lv_goto (tgt := 127) hx hb dX4_init_164 (by decide) ?_
  refine lv_iload_n hx hb dX4_init_127 rfl (lv_at hl 0 rfl) ?_
  refine lv_iconst (v := 2) hx hb dX4_init_128 (by decide) ?_
  refine lv_icmp_ge (tgt := 167) hx hb dX4_init_129 (by decide) (fun h9 => absurd h9 (by decide)) (fun _ => ?_)
  refine lv_aload_n hx hb dX4_init_132 rfl (lv_at hl 1 rfl) ?_
  refine va_get (D := D) (ci := 4) (v := .ref a1) (C := RX4) (T := TX4) (N := 30) hx hb hts inE4 hown hK hP 0 rfl rfl 1 (by decide) (hts _ mc_30) (fun _ h9 => h9) rfl dX4_init_133 ?_
  refine lv_bipush (v := 45) hx hb dX4_init_136 (by decide) ?_
  refine lv_iload_n hx hb dX4_init_138 rfl (lv_at hl 0 rfl) ?_
  refine lv_imul hx hb dX4_init_139 ?_
  rw [show (45 : Int32) * 1 = 45 from by decide]
  refine lv_iconst (v := 0) hx hb dX4_init_140 (by decide) ?_
  refine lv_iadd hx hb dX4_init_141 ?_
  rw [show (45 : Int32) + 0 = 45 from by decide]
  refine lv_bipush (v := 10) hx hb dX4_init_142 (by decide) ?_
  refine va_iast hx hb hK hP hD hS 1 0 rfl rfl (i := 45) (x := 10) (e_inb_in rfl) dX4_init_144 (fun H locs hP hD hS => ?_)
  have hP : va_P D vwCl [(h0, .inr (4, [.int 10, .ref a1, .ref a2, .ref a3, .int 0, .int 2, .int 0, .int 1, .int 2, .ref a4, .int 0, .long 0, .long 1, .int 0, .int 0, .ref a5, .int 0, .ref a6, .int 0, .ref a7, .long 0, .ref a8, .ref a9, .ref a10, .int 0, .int 0, .int 0, .ref a11, .ref a12, .int 0])), (a1, .inl (cA 0, 90, .inl (upd (upd (fun _ => 0) 0 10) 45 10))), (a2, .inl (cA 0, 10, .inl (upd (fun _ => 0) 0 1))), (a3, .inl (cA 0, 2, .inl (upd (fun _ => 0) 0 1))), (a4, .inl (cA 0, 40, .inl (fun _ => 0))), (a5, .inl (cA 1, 64, .inr (.inl (fun _ => 0)))), (a6, .inl (cA 0, 128, .inl (fun _ => 0))), (a7, .inl (cA 1, 5, .inr (.inl (fun _ => 0)))), (a8, .inl (cA 2, 25, .inl (fun _ => 0))), (a9, .inl (cA 0, 25, .inl (fun _ => 0))), (a10, .inl (cA 0, 25, .inl (fun _ => 0))), (a11, .inl (cA 0, 25, .inl (fun _ => 0))), (a12, .inl (cA 0, 25, .inl (fun _ => 0)))] H := hP
  have hD : va_D A [(h0, .inr (4, [.int 10, .ref a1, .ref a2, .ref a3, .int 0, .int 2, .int 0, .int 1, .int 2, .ref a4, .int 0, .long 0, .long 1, .int 0, .int 0, .ref a5, .int 0, .ref a6, .int 0, .ref a7, .long 0, .ref a8, .ref a9, .ref a10, .int 0, .int 0, .int 0, .ref a11, .ref a12, .int 0])), (a1, .inl (cA 0, 90, .inl (upd (upd (fun _ => 0) 0 10) 45 10))), (a2, .inl (cA 0, 10, .inl (upd (fun _ => 0) 0 1))), (a3, .inl (cA 0, 2, .inl (upd (fun _ => 0) 0 1))), (a4, .inl (cA 0, 40, .inl (fun _ => 0))), (a5, .inl (cA 1, 64, .inr (.inl (fun _ => 0)))), (a6, .inl (cA 0, 128, .inl (fun _ => 0))), (a7, .inl (cA 1, 5, .inr (.inl (fun _ => 0)))), (a8, .inl (cA 2, 25, .inl (fun _ => 0))), (a9, .inl (cA 0, 25, .inl (fun _ => 0))), (a10, .inl (cA 0, 25, .inl (fun _ => 0))), (a11, .inl (cA 0, 25, .inl (fun _ => 0))), (a12, .inl (cA 0, 25, .inl (fun _ => 0)))] := hD
  refine lv_aload_n hx hb dX4_init_145 rfl (lv_at hl 1 rfl) ?_
  refine va_get (D := D) (ci := 4) (v := .ref a2) (C := RX4) (T := TX4) (N := 30) hx hb hts inE4 hown hK hP 0 rfl rfl 2 (by decide) (hts _ mc_31) (fun _ h9 => h9) rfl dX4_init_146 ?_
  refine lv_iconst (v := 5) hx hb dX4_init_149 (by decide) ?_
  refine lv_iload_n hx hb dX4_init_150 rfl (lv_at hl 0 rfl) ?_
  refine lv_imul hx hb dX4_init_151 ?_
  rw [show (5 : Int32) * 1 = 5 from by decide]
  refine lv_iconst (v := 1) hx hb dX4_init_152 (by decide) ?_
  refine va_iast hx hb hK hP hD hS 2 0 rfl rfl (i := 5) (x := 1) (e_inb_in rfl) dX4_init_153 (fun H locs hP hD hS => ?_)
  have hP : va_P D vwCl [(h0, .inr (4, [.int 10, .ref a1, .ref a2, .ref a3, .int 0, .int 2, .int 0, .int 1, .int 2, .ref a4, .int 0, .long 0, .long 1, .int 0, .int 0, .ref a5, .int 0, .ref a6, .int 0, .ref a7, .long 0, .ref a8, .ref a9, .ref a10, .int 0, .int 0, .int 0, .ref a11, .ref a12, .int 0])), (a1, .inl (cA 0, 90, .inl (upd (upd (fun _ => 0) 0 10) 45 10))), (a2, .inl (cA 0, 10, .inl (upd (upd (fun _ => 0) 0 1) 5 1))), (a3, .inl (cA 0, 2, .inl (upd (fun _ => 0) 0 1))), (a4, .inl (cA 0, 40, .inl (fun _ => 0))), (a5, .inl (cA 1, 64, .inr (.inl (fun _ => 0)))), (a6, .inl (cA 0, 128, .inl (fun _ => 0))), (a7, .inl (cA 1, 5, .inr (.inl (fun _ => 0)))), (a8, .inl (cA 2, 25, .inl (fun _ => 0))), (a9, .inl (cA 0, 25, .inl (fun _ => 0))), (a10, .inl (cA 0, 25, .inl (fun _ => 0))), (a11, .inl (cA 0, 25, .inl (fun _ => 0))), (a12, .inl (cA 0, 25, .inl (fun _ => 0)))] H := hP
  have hD : va_D A [(h0, .inr (4, [.int 10, .ref a1, .ref a2, .ref a3, .int 0, .int 2, .int 0, .int 1, .int 2, .ref a4, .int 0, .long 0, .long 1, .int 0, .int 0, .ref a5, .int 0, .ref a6, .int 0, .ref a7, .long 0, .ref a8, .ref a9, .ref a10, .int 0, .int 0, .int 0, .ref a11, .ref a12, .int 0])), (a1, .inl (cA 0, 90, .inl (upd (upd (fun _ => 0) 0 10) 45 10))), (a2, .inl (cA 0, 10, .inl (upd (upd (fun _ => 0) 0 1) 5 1))), (a3, .inl (cA 0, 2, .inl (upd (fun _ => 0) 0 1))), (a4, .inl (cA 0, 40, .inl (fun _ => 0))), (a5, .inl (cA 1, 64, .inr (.inl (fun _ => 0)))), (a6, .inl (cA 0, 128, .inl (fun _ => 0))), (a7, .inl (cA 1, 5, .inr (.inl (fun _ => 0)))), (a8, .inl (cA 2, 25, .inl (fun _ => 0))), (a9, .inl (cA 0, 25, .inl (fun _ => 0))), (a10, .inl (cA 0, 25, .inl (fun _ => 0))), (a11, .inl (cA 0, 25, .inl (fun _ => 0))), (a12, .inl (cA 0, 25, .inl (fun _ => 0)))] := hD
  refine lv_aload_n hx hb dX4_init_154 rfl (lv_at hl 1 rfl) ?_
  refine va_get (D := D) (ci := 4) (v := .ref a3) (C := RX4) (T := TX4) (N := 30) hx hb hts inE4 hown hK hP 0 rfl rfl 3 (by decide) (hts _ mc_32) (fun _ h9 => h9) rfl dX4_init_155 ?_
  refine lv_iload_n hx hb dX4_init_158 rfl (lv_at hl 0 rfl) ?_
  refine lv_iconst (v := 1) hx hb dX4_init_159 (by decide) ?_
  refine va_iast hx hb hK hP hD hS 3 0 rfl rfl (i := 1) (x := 1) (e_inb_in rfl) dX4_init_160 (fun H locs hP hD hS => ?_)
  have hP : va_P D vwCl [(h0, .inr (4, [.int 10, .ref a1, .ref a2, .ref a3, .int 0, .int 2, .int 0, .int 1, .int 2, .ref a4, .int 0, .long 0, .long 1, .int 0, .int 0, .ref a5, .int 0, .ref a6, .int 0, .ref a7, .long 0, .ref a8, .ref a9, .ref a10, .int 0, .int 0, .int 0, .ref a11, .ref a12, .int 0])), (a1, .inl (cA 0, 90, .inl (upd (upd (fun _ => 0) 0 10) 45 10))), (a2, .inl (cA 0, 10, .inl (upd (upd (fun _ => 0) 0 1) 5 1))), (a3, .inl (cA 0, 2, .inl (upd (upd (fun _ => 0) 0 1) 1 1))), (a4, .inl (cA 0, 40, .inl (fun _ => 0))), (a5, .inl (cA 1, 64, .inr (.inl (fun _ => 0)))), (a6, .inl (cA 0, 128, .inl (fun _ => 0))), (a7, .inl (cA 1, 5, .inr (.inl (fun _ => 0)))), (a8, .inl (cA 2, 25, .inl (fun _ => 0))), (a9, .inl (cA 0, 25, .inl (fun _ => 0))), (a10, .inl (cA 0, 25, .inl (fun _ => 0))), (a11, .inl (cA 0, 25, .inl (fun _ => 0))), (a12, .inl (cA 0, 25, .inl (fun _ => 0)))] H := hP
  have hD : va_D A [(h0, .inr (4, [.int 10, .ref a1, .ref a2, .ref a3, .int 0, .int 2, .int 0, .int 1, .int 2, .ref a4, .int 0, .long 0, .long 1, .int 0, .int 0, .ref a5, .int 0, .ref a6, .int 0, .ref a7, .long 0, .ref a8, .ref a9, .ref a10, .int 0, .int 0, .int 0, .ref a11, .ref a12, .int 0])), (a1, .inl (cA 0, 90, .inl (upd (upd (fun _ => 0) 0 10) 45 10))), (a2, .inl (cA 0, 10, .inl (upd (upd (fun _ => 0) 0 1) 5 1))), (a3, .inl (cA 0, 2, .inl (upd (upd (fun _ => 0) 0 1) 1 1))), (a4, .inl (cA 0, 40, .inl (fun _ => 0))), (a5, .inl (cA 1, 64, .inr (.inl (fun _ => 0)))), (a6, .inl (cA 0, 128, .inl (fun _ => 0))), (a7, .inl (cA 1, 5, .inr (.inl (fun _ => 0)))), (a8, .inl (cA 2, 25, .inl (fun _ => 0))), (a9, .inl (cA 0, 25, .inl (fun _ => 0))), (a10, .inl (cA 0, 25, .inl (fun _ => 0))), (a11, .inl (cA 0, 25, .inl (fun _ => 0))), (a12, .inl (cA 0, 25, .inl (fun _ => 0)))] := hD
  refine lv_iinc (k := 0) (v := 2) (lv' := [(1, .int 2), (0, .ref h0)]) hx hb dX4_init_161 hl rfl (by decide) (by decide) rfl (fun ls hl => ?_)
  refine lv_goto (tgt := 127) hx hb dX4_init_164 (by decide) ?_
  refine lv_iload_n hx hb dX4_init_127 rfl (lv_at hl 0 rfl) ?_
  refine lv_iconst (v := 2) hx hb dX4_init_128 (by decide) ?_
  refine lv_icmp_ge (tgt := 167) hx hb dX4_init_129 (by decide) (fun _ => ?_) (fun h9 => absurd (by decide) h9)
  have hP9 := hP.sub (ws' := [(h0, .inr (4, [.int 10, .ref a1, .ref a2, .ref a3, .int 0, .int 2, .int 0, .int 1, .int 2, .ref a4, .int 0, .long 0, .long 1, .int 0, .int 0, .ref a5, .int 0, .ref a6, .int 0, .ref a7, .long 0, .ref a8, .ref a9, .ref a10, .int 0, .int 0, .int 0, .ref a11, .ref a12, .int 0])), (a1, .inl (cA 0, 90, .inl (upd (upd (fun _ => 0) 0 10) 45 10))), (a2, .inl (cA 0, 10, .inl (upd (upd (fun _ => 0) 0 1) 5 1))), (a3, .inl (cA 0, 2, .inl (upd (upd (fun _ => 0) 0 1) 1 1))), (a4, .inl (cA 0, 40, .inl (fun _ => 0))), (a5, .inl (cA 1, 64, .inr (.inl (fun _ => 0)))), (a6, .inl (cA 0, 128, .inl (fun _ => 0))), (a7, .inl (cA 1, 5, .inr (.inl (fun _ => 0)))), (a8, .inl (cA 2, 25, .inl (fun _ => 0))), (a9, .inl (cA 0, 25, .inl (fun _ => 0))), (a10, .inl (cA 0, 25, .inl (fun _ => 0))), (a11, .inl (cA 0, 25, .inl (fun _ => 0))), (a12, .inl (cA 0, 25, .inl (fun _ => 0)))]) [0, 1, 2, 3, 4, 5, 6, 7, 8, 9, 10, 11, 12] rfl
  have hD9 := hD.sub (ws' := [(h0, .inr (4, [.int 10, .ref a1, .ref a2, .ref a3, .int 0, .int 2, .int 0, .int 1, .int 2, .ref a4, .int 0, .long 0, .long 1, .int 0, .int 0, .ref a5, .int 0, .ref a6, .int 0, .ref a7, .long 0, .ref a8, .ref a9, .ref a10, .int 0, .int 0, .int 0, .ref a11, .ref a12, .int 0])), (a1, .inl (cA 0, 90, .inl (upd (upd (fun _ => 0) 0 10) 45 10))), (a2, .inl (cA 0, 10, .inl (upd (upd (fun _ => 0) 0 1) 5 1))), (a3, .inl (cA 0, 2, .inl (upd (upd (fun _ => 0) 0 1) 1 1))), (a4, .inl (cA 0, 40, .inl (fun _ => 0))), (a5, .inl (cA 1, 64, .inr (.inl (fun _ => 0)))), (a6, .inl (cA 0, 128, .inl (fun _ => 0))), (a7, .inl (cA 1, 5, .inr (.inl (fun _ => 0)))), (a8, .inl (cA 2, 25, .inl (fun _ => 0))), (a9, .inl (cA 0, 25, .inl (fun _ => 0))), (a10, .inl (cA 0, 25, .inl (fun _ => 0))), (a11, .inl (cA 0, 25, .inl (fun _ => 0))), (a12, .inl (cA 0, 25, .inl (fun _ => 0)))]) [0, 1, 2, 3, 4, 5, 6, 7, 8, 9, 10, 11, 12] (by decide) rfl
  refine W.widen (k := 12) (n := 464) (by omega) (by omega) ?_
  exact W.vret hx hb hr (fun t ht hW => ⟨⟨(), rfl, trivial, a1, a2, a3, a4, a5, a6, a7, a8, a9, a10, a11, a12, by rw [ht]; exact hP9, hD9⟩, hS.F ht⟩) hS.2.2 dX4_init_167
