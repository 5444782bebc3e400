/-! SOUNDNESS: what the abstract machine does, the machine does -/
def e_tbl : List Cond := lw_tbl.filter goodWord
theorem e_tbl_mem {w : Cond} (h : w ∈ lw_tbl) (hg : goodWord w = true) : w ∈ e_tbl := List.mem_filter.mpr ⟨h, hg⟩
theorem e_tbl_good {ws : List Cond} (h : ∀ w ∈ ws, w ∈ e_tbl) : GoodIn e_tbl ws := fun w hw => ⟨h w hw, good_of_word (List.mem_filter.mp (h w hw)).2⟩
abbrev e_Md : Type := Nat → MethodName × ByteArray × Nat × Option FieldType
def e_A (ad : Nat → Nat) : Nat → Prop := fun q => ∃ i : Nat, i < e_N ∧ q = ad i
def e_B (base : Nat) : Nat → Prop := fun q => base ≤ q
def e_Ro (base : Nat) (ro : Nat → Nat) (U : State) (H : Heap) : Prop :=
  va_Z "HardEnvoys" "LEAST" "[I" (.ref (ro 1)) (e_B base) U H ∧ va_T .int (ro 1) 9 (fun j => .int (e_lo j)) (e_B base) U H ∧
  va_Z "HardEnvoys" "MOST" "[I" (.ref (ro 2)) (e_B base) U H ∧ va_T .int (ro 2) 9 (fun j => .int (e_hi j)) (e_B base) U H ∧
  vk_R "HardEnvoys$Rule" 81 "lunwv" (ro 3) U ∧ va_O "java/lang/String" (ro 3) (e_B base) U H ∧ va_OF "java/lang/String" "coder" "B" (.int 0) (ro 3) (e_B base) U H ∧
  va_OF "java/lang/String" "value" "[B" (.ref (ro 4)) (ro 3) (e_B base) U H ∧ va_T .byte (ro 4) 5 (fun j => .int (e_by j)) (e_B base) U H ∧
  va_Z "java/lang/String" "COMPACT_STRINGS" "Z" (.int 1) (e_B base) U H
theorem e_Ro.move {base : Nat} {ro : Nat → Nat} {s U : State} {H H1 : Heap} (h : e_Ro base ro s H) (hW : s.WarmedH U.vm) (hq : ∀ a : Nat, a < H.size → ¬ e_B base a → H1[a]? = H[a]?) : e_Ro base ro U H1 := by
  obtain ⟨h1, h2, h3, h4, h5, h6, h7, h8, h9, h10⟩ := h
  have hv := hW.alike
  exact ⟨(va_Z.moved hv h1).kept hq, (va_T.moved hv h2).kept hq, (va_Z.moved hv h3).kept hq, (va_T.moved hv h4).kept hq, vk_R.warm hW h5, (va_O.moved hv h6).kept hq, (va_OF.moved hv h7).kept hq, (va_OF.moved hv h8).kept hq, (va_T.moved hv h9).kept hq, (va_Z.moved hv h10).kept hq⟩
theorem e_Ro.same {base : Nat} {ro : Nat → Nat} {s U : State} {H : Heap} (h : e_Ro base ro s H) (hv : U.vm = s.vm) : e_Ro base ro U H := by
  obtain ⟨h1, h2, h3, h4, h5, h6, h7, h8, h9, h10⟩ := h
  have ha : s.vm.Alike U.vm := by rw [hv]; exact Vm.Alike.refl s.vm
  exact ⟨va_Z.moved ha h1, va_T.moved ha h2, va_Z.moved ha h3, va_T.moved ha h4, vk_R.same hv h5, va_O.moved ha h6, va_OF.moved ha h7, va_OF.moved ha h8, va_T.moved ha h9, va_Z.moved ha h10⟩
def e_room (d : Nat) : Room := { frames := d, cells := 0, slots := 0, locals := 60 * d }
def e_J (ad : Nat → Nat) (base : Nat) : Prop := (∀ i j : Nat, i < e_N → j < e_N → ad i = ad j → i = j) ∧ ∀ i : Nat, i < e_N → base ≤ ad i
def e_Pc (D : va_G) (cA : Nat → ClassId) (ad ro : Nat → Nat) (base : Nat) (h : e_H) (args : List Value) : Array Value → State → Prop := va_Pc (args.map (e_t ad ro)) (fun U => va_P D vwCl (e_w ad cA h) U.heap ∧ va_K D vwCl (e_tys cA) U ∧ e_Ro base ro U U.heap)
def e_Qc (D : va_G) (cA : Nat → ClassId) (ad ro : Nat → Nat) (r : Option Value) (h : e_H) : Array Value → State → Outcome → State → Prop := fun _ st oc t => oc = .returned (r.map (e_t ad ro)) ∧ va_P D vwCl (e_w ad cA h) t.heap ∧ va_F (e_A ad) st t
abbrev e_ws (q : MethodName × ByteArray × Nat × Option FieldType) : List Cond := Cond.code q.1 q.2.1 q.2.2.1 q.2.2.2 :: e_tbl
/-- what is known of the methods at depth d -/
def e_IH (pg : e_Pg) (md : e_Md) (d : Nat) : Prop := ∀ (l : Launch) (k : Nat) (args : List Value) (h : e_H) (r : Option Value) (h2 : e_H), e_X pg d k args h = some (r, h2) → ∀ (D : va_G) (cA : Nat → ClassId) (ad ro : Nat → Nat) (base : Nat), e_J ad base →
  Met l (md k).1 (e_ws (md k)) (e_room d) (e_Pc D cA ad ro base h args) (e_Qc D cA ad ro r h2) 0 0 (e_A ad)
/-- what holds in a method all along -/
def e_K (d : Nat) (own : String) (cc : ByteArray) (nL : Nat) (ret : Option FieldType) (p : Program) (R : Room) (s : State) (m : MethodId) (args : Array Value) (meth : Method) (c : Code) (cells slots : Nat) (D : va_G) (cA : Nat → ClassId) (ad ro : Nat → Nat) (base : Nat) (A : Nat → Prop) : Prop :=
  p.tables.exec = Jvm.exec ∧ c.code = cc ∧ c.maxLocals = nL ∧ meth.sig.returnType = ret ∧ s.vm.findClass own = some m.cls ∧ (∀ w ∈ e_tbl, w.before args s = true) ∧ meth.locks = false ∧ va_K D vwCl (e_tys cA) s ∧
  (d + 1 ≤ R.frames ∧ 60 * (d + 1) ≤ R.locals ∧ cells ≤ R.cells ∧ slots ≤ R.slots) ∧ (∀ i : Nat, i < e_N → A (ad i)) ∧ (∀ q : Nat, A q → e_B base q) ∧ e_J ad base ∧ e_Ro base ro s s.heap
def e_St (D : va_G) (cA : Nat → ClassId) (ad : Nat → Nat) (A : Nat → Prop) (s : State) (h : e_H) (H : Heap) (locs : List Loc) : Prop := va_P D vwCl (e_w ad cA h) H ∧ va_S A s.heap H locs
def e_rOk (cc : ByteArray) (ret : Option FieldType) (pc : Nat) (r : Option Value) : Prop := match r with
  | none => decode cc pc = .ok (.return_, 1) ∧ ret = none
  | some (.int v) => decode cc pc = .ok (.ireturn, 1) ∧ ∃ ty, ret = some ty ∧ narrow ty (.int v) = .int v
  | some (.long _) => decode cc pc = .ok (.lreturn, 1) ∧ ret = some .long
  | some (.ref _) => decode cc pc = .ok (.areturn, 1) ∧ ∃ n, ret = some (.object n)
  | _ => False
/-- the machine does at pc what op says -/
def e_Snd (pg : e_Pg) (md : e_Md) (own : String) (cc : ByteArray) (nL : Nat) (ret : Option FieldType) (pc : Nat) (op : e_Op) : Prop :=
  ∀ (d : Nat) (_ : e_IH pg md d) (p : Program) (l : Launch) (e : Env) (R : Room) (s : State) (m : MethodId) (args : Array Value) (below : List Frame) (meth : Method) (c : Code) (cells slots : Nat) (Q : State → Prop) (D : va_G) (cA : Nat → ClassId) (ad ro : Nat → Nat) (base : Nat) (A : Nat → Prop),
    e_K d own cc nL ret p R s m args meth c cells slots D cA ad ro base A → ∀ (ls st : List Value) (h : e_H) (out : e_C ⊕ e_R), op (e_X pg d) ls st h = some out → ∀ (H : Heap) (locs : List Loc) (lc : Array Slot), e_St D cA ad A s h H locs → e_L (e_t ad ro) lc nL ls →
    match out with
    | .inl (pc2, ls2, st2, h2) => (∀ (H2 : Heap) (locs2 : List Loc) (lc2 : Array Slot), e_St D cA ad A s h2 H2 locs2 → e_L (e_t ad ro) lc2 nL ls2 → W p l e R s m args below meth c H2 locs2 cells slots Q (F0 m pc2 lc2 (st2.map (e_t ad ro)))) → W p l e R s m args below meth c H locs cells slots Q (F0 m pc lc (st.map (e_t ad ro)))
    | .inr (r, h2) => h2 = h ∧ st = r.toList ∧ e_rOk cc ret pc r
theorem e_cond {α : Type} {c : Bool} {x : Option α} {y : α} (h : (bif c then x else none) = some y) : c = true ∧ x = some y := by
  cases c with
  | true => exact ⟨rfl, h⟩
  | false => cases h
theorem e_ncond {α : Type} {c : Bool} {x : Option α} {y : α} (h : (bif c then none else x) = some y) : c = false ∧ x = some y := by
  cases c with
  | true => cases h
  | false => exact ⟨rfl, h⟩
theorem e_ok_lt {o kd : Nat} (h : e_ok o kd = true) : o < e_N ∧ e_kd o = kd := by
  unfold e_ok at h
  simp only [Bool.and_eq_true] at h
  exact ⟨Nat.ble_eq.mp h.1, Nat.eq_of_beq_eq_true h.2⟩
theorem e_wD {ad : Nat → Nat} {cA : Nat → ClassId} {h : e_H} {A : Nat → Prop} {base : Nat} (hJ : e_J ad base) (hA : ∀ i : Nat, i < e_N → A (ad i)) : va_D A (e_w ad cA h) := by
  have key : ∀ (i : Nat) (q : Nat × va_E), (e_w ad cA h)[i]? = some q → i < e_N ∧ q.1 = ad i := fun i q hq => by
    by_cases hi : i < e_N
    · rw [e_w_get hi] at hq
      cases hq
      exact ⟨hi, rfl⟩
    · rw [e_w_none hi] at hq
      cases hq
  refine ⟨fun i j x y hx hy hxy => ?_, fun k q hq => ?_⟩
  · obtain ⟨a1, a2⟩ := key i x hx
    obtain ⟨b1, b2⟩ := key j y hy
    exact hJ.1 i j a1 b1 (by rw [← a2, ← b2]; exact hxy)
  · obtain ⟨a1, a2⟩ := key k q hq
    rw [a2]
    exact hA k a1
theorem e_cell_0 {ad : Nat → Nat} {cA : Nat → ClassId} {h : e_H} {i : Nat} (hk : e_kd i = 0) : e_cell ad cA h i = .inl (cA 0, e_len i, .inl (h.1 i)) := by unfold e_cell; rw [hk]; rfl
theorem e_cell_1 {ad : Nat → Nat} {cA : Nat → ClassId} {h : e_H} {i : Nat} (hk : e_kd i = 1) : e_cell ad cA h i = .inl (cA 1, e_len i, .inr (.inl (h.2 i))) := by unfold e_cell; rw [hk]; rfl
theorem e_cell_2 {ad : Nat → Nat} {cA : Nat → ClassId} {h : e_H} {i : Nat} (hk : e_kd i = 2) : e_cell ad cA h i = .inl (cA 2, e_len i, .inl (h.1 i)) := by unfold e_cell; rw [hk]; rfl
theorem e_cell_3 {ad : Nat → Nat} {cA : Nat → ClassId} {h : e_H} {i : Nat} (hk : e_kd i = 3) : e_cell ad cA h i = .inl (cA 3, e_len i, .inr (.inr (.inr (.inr (fun k => some (ad (e_rf i k))))))) := by unfold e_cell; rw [hk]; rfl
theorem e_cell_4 {ad : Nat → Nat} {cA : Nat → ClassId} {h : e_H} {i : Nat} (hk : e_kd i = 4) : e_cell ad cA h i = .inl (cA 4, e_len i, .inr (.inr (.inr (.inr (fun k => some (ad (e_rf i k))))))) := by unfold e_cell; rw [hk]; rfl
theorem e_cell_5 {ad : Nat → Nat} {cA : Nat → ClassId} {h : e_H} {i : Nat} (hk : e_kd i = 5) : e_cell ad cA h i = .inl (cA 5, e_len i, .inr (.inr (.inr (.inr (fun k => some (ad (e_rf i k))))))) := by unfold e_cell; rw [hk]; rfl
theorem e_cell_o {ad : Nat → Nat} {cA : Nat → ClassId} {h : e_H} {i ci : Nat} (hk : e_kd i = 10 + ci) : e_cell ad cA h i = .inr (ci, (List.range (e_nf ci)).map (fun f => e_fv ad h i (e_ty ci f) f)) := by
  unfold e_cell
  rw [hk, Nat.add_comm 10 ci]
  rfl
theorem e_w_at {ad : Nat → Nat} {cA : Nat → ClassId} {h : e_H} {o kd : Nat} {x : va_E} (ho : e_ok o kd = true) (hx : ∀ _ : e_kd o = kd, e_cell ad cA h o = x) : (e_w ad cA h)[o]? = some (ad o, x) := by
  obtain ⟨h1, h2⟩ := e_ok_lt ho
  rw [e_w_get h1, hx h2]

theorem u_iconst {pg : e_Pg} {md : e_Md} {own : String} {cc : ByteArray} {nL : Nat} {ret : Option FieldType} {pc : Nat} {n : Int} {v : Int32} (hd : decode cc pc = .ok (.iconst n, 1)) (hv : Int32.ofInt n = v) : e_Snd pg md own cc nL ret pc (o_const (.int v) (pc + 1)) := by
  intro d hIH p l e R s m args below meth c cells slots Q D cA ad ro base A K ls st h out ho H locs lc hS hL
  obtain ⟨hx, hb, hml, hr, hown, hts, hlocks, hK, hR, hAd, hAb, hJ, hRo⟩ := K
  unfold o_const at ho
  cases ho
  intro kk
  exact lv_iconst hx hb hd hv (kk H locs lc hS hL)

theorem u_bipush {pg : e_Pg} {md : e_Md} {own : String} {cc : ByteArray} {nL : Nat} {ret : Option FieldType} {pc : Nat} {n : Int} {v : Int32} (hd : decode cc pc = .ok (.bipush n, 2)) (hv : (Int8.ofInt n).toInt32 = v) : e_Snd pg md own cc nL ret pc (o_const (.int v) (pc + 2)) := by
  intro d hIH p l e R s m args below meth c cells slots Q D cA ad ro base A K ls st h out ho H locs lc hS hL
  obtain ⟨hx, hb, hml, hr, hown, hts, hlocks, hK, hR, hAd, hAb, hJ, hRo⟩ := K
  unfold o_const at ho
  cases ho
  intro kk
  exact lv_bipush hx hb hd hv (kk H locs lc hS hL)

theorem u_sipush {pg : e_Pg} {md : e_Md} {own : String} {cc : ByteArray} {nL : Nat} {ret : Option FieldType} {pc : Nat} {n : Int} {v : Int32} (hd : decode cc pc = .ok (.sipush n, 3)) (hv : (Int16.ofInt n).toInt32 = v) : e_Snd pg md own cc nL ret pc (o_const (.int v) (pc + 3)) := by
  intro d hIH p l e R s m args below meth c cells slots Q D cA ad ro base A K ls st h out ho H locs lc hS hL
  obtain ⟨hx, hb, hml, hr, hown, hts, hlocks, hK, hR, hAd, hAb, hJ, hRo⟩ := K
  unfold o_const at ho
  cases ho
  intro kk
  exact lv_sipush hx hb hd hv (kk H locs lc hS hL)

theorem u_lconst {pg : e_Pg} {md : e_Md} {own : String} {cc : ByteArray} {nL : Nat} {ret : Option FieldType} {pc : Nat} {n : Fin 2} {v : Int64} (hd : decode cc pc = .ok (.lconst n, 1)) (hv : Int64.ofNat (n : Nat) = v) : e_Snd pg md own cc nL ret pc (o_const (.long v) (pc + 1)) := by
  intro d hIH p l e R s m args below meth c cells slots Q D cA ad ro base A K ls st h out ho H locs lc hS hL
  obtain ⟨hx, hb, hml, hr, hown, hts, hlocks, hK, hR, hAd, hAb, hJ, hRo⟩ := K
  unfold o_const at ho
  cases ho
  intro kk
  exact lv_lconst hx hb hd hv (kk H locs lc hS hL)

theorem u_ldc {pg : e_Pg} {md : e_Md} {own : String} {cc : ByteArray} {nL : Nat} {ret : Option FieldType} {pc : Nat} {index : Nat} {v : Int32} (hc : Cond.constant own index v ∈ e_tbl) (hd : decode cc pc = .ok (.ldc index, 2)) : e_Snd pg md own cc nL ret pc (o_const (.int v) (pc + 2)) := by
  intro d hIH p l e R s m args below meth c cells slots Q D cA ad ro base A K ls st h out ho H locs lc hS hL
  obtain ⟨hx, hb, hml, hr, hown, hts, hlocks, hK, hR, hAd, hAb, hJ, hRo⟩ := K
  unfold o_const at ho
  cases ho
  intro kk
  exact lv_ldc hx hb hown (hts _ hc) hd (kk H locs lc hS hL)

theorem u_ldc2 {pg : e_Pg} {md : e_Md} {own : String} {cc : ByteArray} {nL : Nat} {ret : Option FieldType} {pc : Nat} {index : Nat} {v : Int64} (hc : Cond.constantLong own index v ∈ e_tbl) (hd : decode cc pc = .ok (.ldc2_w index, 3)) : e_Snd pg md own cc nL ret pc (o_const (.long v) (pc + 3)) := by
  intro d hIH p l e R s m args below meth c cells slots Q D cA ad ro base A K ls st h out ho H locs lc hS hL
  obtain ⟨hx, hb, hml, hr, hown, hts, hlocks, hK, hR, hAd, hAb, hJ, hRo⟩ := K
  unfold o_const at ho
  cases ho
  intro kk
  exact lv_ldc2 hx hb hown (hts _ hc) hd (kk H locs lc hS hL)

theorem u_iload_n {pg : e_Pg} {md : e_Md} {own : String} {cc : ByteArray} {nL : Nat} {ret : Option FieldType} {pc : Nat} {k : Fin 4} {i : Nat} (hd : decode cc pc = .ok (.iload_n k, 1)) (hi : (k : Nat) = i) : e_Snd pg md own cc nL ret pc (o_iload i (pc + 1)) := by
  intro d hIH p l e R s m args below meth c cells slots Q D cA ad ro base A K ls st h out ho H locs lc hS hL
  obtain ⟨hx, hb, hml, hr, hown, hts, hlocks, hK, hR, hAd, hAb, hJ, hRo⟩ := K
  unfold o_iload at ho
  split at ho
  · rename_i x hv
    cases ho
    intro kk
    exact lv_iload_n hx hb hd hi (e_L_at hL hv (fun q => by cases q)) (kk H locs lc hS hL)
  · cases ho

theorem u_iload {pg : e_Pg} {md : e_Md} {own : String} {cc : ByteArray} {nL : Nat} {ret : Option FieldType} {pc : Nat} {i : Nat} (hd : decode cc pc = .ok (.iload i, 2)) : e_Snd pg md own cc nL ret pc (o_iload i (pc + 2)) := by
  intro d hIH p l e R s m args below meth c cells slots Q D cA ad ro base A K ls st h out ho H locs lc hS hL
  obtain ⟨hx, hb, hml, hr, hown, hts, hlocks, hK, hR, hAd, hAb, hJ, hRo⟩ := K
  unfold o_iload at ho
  split at ho
  · rename_i x hv
    cases ho
    intro kk
    exact lv_iload hx hb hd (e_L_at hL hv (fun q => by cases q)) (kk H locs lc hS hL)
  · cases ho

theorem u_lload_n {pg : e_Pg} {md : e_Md} {own : String} {cc : ByteArray} {nL : Nat} {ret : Option FieldType} {pc : Nat} {k : Fin 4} {i : Nat} (hd : decode cc pc = .ok (.lload_n k, 1)) (hi : (k : Nat) = i) : e_Snd pg md own cc nL ret pc (o_lload i (pc + 1)) := by
  intro d hIH p l e R s m args below meth c cells slots Q D cA ad ro base A K ls st h out ho H locs lc hS hL
  obtain ⟨hx, hb, hml, hr, hown, hts, hlocks, hK, hR, hAd, hAb, hJ, hRo⟩ := K
  unfold o_lload at ho
  split at ho
  · rename_i x hv
    cases ho
    intro kk
    exact lv_lload_n hx hb hd hi (e_L_at hL hv (fun q => by cases q)) (kk H locs lc hS hL)
  · cases ho

theorem u_lload {pg : e_Pg} {md : e_Md} {own : String} {cc : ByteArray} {nL : Nat} {ret : Option FieldType} {pc : Nat} {i : Nat} (hd : decode cc pc = .ok (.lload i, 2)) : e_Snd pg md own cc nL ret pc (o_lload i (pc + 2)) := by
  intro d hIH p l e R s m args below meth c cells slots Q D cA ad ro base A K ls st h out ho H locs lc hS hL
  obtain ⟨hx, hb, hml, hr, hown, hts, hlocks, hK, hR, hAd, hAb, hJ, hRo⟩ := K
  unfold o_lload at ho
  split at ho
  · rename_i x hv
    cases ho
    intro kk
    exact lv_lload hx hb hd (e_L_at hL hv (fun q => by cases q)) (kk H locs lc hS hL)
  · cases ho

theorem u_aload_n {pg : e_Pg} {md : e_Md} {own : String} {cc : ByteArray} {nL : Nat} {ret : Option FieldType} {pc : Nat} {k : Fin 4} {i : Nat} (hd : decode cc pc = .ok (.aload_n k, 1)) (hi : (k : Nat) = i) : e_Snd pg md own cc nL ret pc (o_aload i (pc + 1)) := by
  intro d hIH p l e R s m args below meth c cells slots Q D cA ad ro base A K ls st h out ho H locs lc hS hL
  obtain ⟨hx, hb, hml, hr, hown, hts, hlocks, hK, hR, hAd, hAb, hJ, hRo⟩ := K
  unfold o_aload at ho
  split at ho
  · rename_i x hv
    cases ho
    intro kk
    exact lv_aload_n hx hb hd hi (e_L_at hL hv (fun q => by cases q)) (kk H locs lc hS hL)
  · rename_i x hv
    cases ho
    intro kk
    exact lv_aload_n hx hb hd hi (e_L_at hL hv (fun q => by cases q)) (kk H locs lc hS hL)
  · cases ho

theorem u_aload {pg : e_Pg} {md : e_Md} {own : String} {cc : ByteArray} {nL : Nat} {ret : Option FieldType} {pc : Nat} {i : Nat} (hd : decode cc pc = .ok (.aload i, 2)) : e_Snd pg md own cc nL ret pc (o_aload i (pc + 2)) := by
  intro d hIH p l e R s m args below meth c cells slots Q D cA ad ro base A K ls st h out ho H locs lc hS hL
  obtain ⟨hx, hb, hml, hr, hown, hts, hlocks, hK, hR, hAd, hAb, hJ, hRo⟩ := K
  unfold o_aload at ho
  split at ho
  · rename_i x hv
    cases ho
    intro kk
    exact lv_aload hx hb hd (e_L_at hL hv (fun q => by cases q)) (kk H locs lc hS hL)
  · rename_i x hv
    cases ho
    intro kk
    exact lv_aload hx hb hd (e_L_at hL hv (fun q => by cases q)) (kk H locs lc hS hL)
  · cases ho

theorem e_L_s1 {t : Value → Value} {lc lc2 : Array Slot} {nL i : Nat} {ls : List Value} {v w : Value} (hL : e_L t lc nL ls) (ht : ∀ x, (t x).category = x.category) (hw : w = t v) (h2 : lv_has lc2 nL ((i, w) :: (e_Ll t ls).filter (fun q => !(q.1 == i) && !(q.1 + 1 == i && q.2.category == 2)))) : e_L t lc2 nL (e_s1 ls i v) := by
  subst hw
  refine ⟨by rw [e_s1_len]; exact hL.1, lv_has_sub h2 (fun q hq => ?_)⟩
  obtain ⟨a, b⟩ := q
  obtain ⟨x, h3, h4, h5⟩ := e_Ll_mem.mp hq
  dsimp only at h3 h5
  rcases e_s1_get h3 h4 with ⟨g1, g2⟩ | ⟨g1, g2, g3⟩
  · subst g1; subst g2; subst h5
    exact List.mem_cons_self
  · refine List.mem_cons_of_mem _ (List.mem_filter.mpr ⟨e_Ll_mem.mpr ⟨x, g2, h4, h5⟩, ?_⟩)
    have e1 : (a == i) = false := by simpa using g1
    dsimp only
    rw [e1]
    by_cases ha : a + 1 = i
    · have e2 : ¬ b.category = 2 := by rw [h5, ht]; exact g3 ha
      simp [e2]
    · simp [ha]
theorem e_L_s2 {t : Value → Value} {lc lc2 : Array Slot} {nL i : Nat} {ls : List Value} {v w : Value} (hL : e_L t lc nL ls) (ht : ∀ x, (t x).category = x.category) (hw : w = t v) (h2 : lv_has lc2 nL ((i, w) :: (e_Ll t ls).filter (fun q => !(q.1 == i) && (!(q.1 == i + 1) && !(q.1 + 1 == i && q.2.category == 2))))) : e_L t lc2 nL (e_s2 ls i v) := by
  subst hw
  refine ⟨by rw [e_s2_len]; exact hL.1, lv_has_sub h2 (fun q hq => ?_)⟩
  obtain ⟨a, b⟩ := q
  obtain ⟨x, h3, h4, h5⟩ := e_Ll_mem.mp hq
  dsimp only at h3 h5
  unfold e_s2 at h3
  have hne : a ≠ i + 1 := by
    intro q
    subst q
    rw [List.getElem?_set] at h3
    simp only [if_true] at h3
    split at h3
    · exact h4 (Option.some.inj h3).symm
    · cases h3
  rw [List.getElem?_set_ne (fun q => hne q.symm)] at h3
  rcases e_s1_get h3 h4 with ⟨g1, g2⟩ | ⟨g1, g2, g3⟩
  · subst g1; subst g2; subst h5
    exact List.mem_cons_self
  · refine List.mem_cons_of_mem _ (List.mem_filter.mpr ⟨e_Ll_mem.mpr ⟨x, g2, h4, h5⟩, ?_⟩)
    have e1 : (a == i) = false := by simpa using g1
    have e0 : (a == i + 1) = false := by simpa using hne
    dsimp only
    rw [e1, e0]
    by_cases ha : a + 1 = i
    · have e2 : ¬ b.category = 2 := by rw [h5, ht]; exact g3 ha
      simp [e2]
    · simp [ha]

theorem u_istore_n {pg : e_Pg} {md : e_Md} {own : String} {cc : ByteArray} {nL : Nat} {ret : Option FieldType} {pc : Nat} {k : Fin 4} {i : Nat} (hd : decode cc pc = .ok (.istore_n k, 1)) (hi : (k : Nat) = i) : e_Snd pg md own cc nL ret pc (o_istore i (pc + 1)) := by
  intro d hIH p l e R s m args below meth c cells slots Q D cA ad ro base A K ls st h out ho H locs lc hS hL
  obtain ⟨hx, hb, hml, hr, hown, hts, hlocks, hK, hR, hAd, hAb, hJ, hRo⟩ := K
  unfold o_istore at ho
  split at ho
  · obtain ⟨hc, ho⟩ := e_cond ho
    have hlt := Nat.ble_eq.mp hc
    rw [hL.1] at hlt
    cases ho
    intro kk
    exact lv_istore_n hx hb hd hi hL.2 hlt rfl (fun lc2 h2 => kk H locs lc2 hS (e_L_s1 hL (e_t_cat ad ro) rfl h2))
  · cases ho

theorem u_istore {pg : e_Pg} {md : e_Md} {own : String} {cc : ByteArray} {nL : Nat} {ret : Option FieldType} {pc : Nat} {i : Nat} (hd : decode cc pc = .ok (.istore i, 2)) : e_Snd pg md own cc nL ret pc (o_istore i (pc + 2)) := by
  intro d hIH p l e R s m args below meth c cells slots Q D cA ad ro base A K ls st h out ho H locs lc hS hL
  obtain ⟨hx, hb, hml, hr, hown, hts, hlocks, hK, hR, hAd, hAb, hJ, hRo⟩ := K
  unfold o_istore at ho
  split at ho
  · obtain ⟨hc, ho⟩ := e_cond ho
    have hlt := Nat.ble_eq.mp hc
    rw [hL.1] at hlt
    cases ho
    intro kk
    exact lv_istore hx hb hd hL.2 hlt rfl (fun lc2 h2 => kk H locs lc2 hS (e_L_s1 hL (e_t_cat ad ro) rfl h2))
  · cases ho

theorem u_astore_n {pg : e_Pg} {md : e_Md} {own : String} {cc : ByteArray} {nL : Nat} {ret : Option FieldType} {pc : Nat} {k : Fin 4} {i : Nat} (hd : decode cc pc = .ok (.astore_n k, 1)) (hi : (k : Nat) = i) : e_Snd pg md own cc nL ret pc (o_astore i (pc + 1)) := by
  intro d hIH p l e R s m args below meth c cells slots Q D cA ad ro base A K ls st h out ho H locs lc hS hL
  obtain ⟨hx, hb, hml, hr, hown, hts, hlocks, hK, hR, hAd, hAb, hJ, hRo⟩ := K
  unfold o_astore at ho
  split at ho
  · obtain ⟨hc, ho⟩ := e_cond ho
    have hlt := Nat.ble_eq.mp hc
    rw [hL.1] at hlt
    cases ho
    intro kk
    exact lv_astore_n hx hb hd hi hL.2 hlt rfl (fun lc2 h2 => kk H locs lc2 hS (e_L_s1 hL (e_t_cat ad ro) rfl h2))
  · cases ho

theorem u_astore {pg : e_Pg} {md : e_Md} {own : String} {cc : ByteArray} {nL : Nat} {ret : Option FieldType} {pc : Nat} {i : Nat} (hd : decode cc pc = .ok (.astore i, 2)) : e_Snd pg md own cc nL ret pc (o_astore i (pc + 2)) := by
  intro d hIH p l e R s m args below meth c cells slots Q D cA ad ro base A K ls st h out ho H locs lc hS hL
  obtain ⟨hx, hb, hml, hr, hown, hts, hlocks, hK, hR, hAd, hAb, hJ, hRo⟩ := K
  unfold o_astore at ho
  split at ho
  · obtain ⟨hc, ho⟩ := e_cond ho
    have hlt := Nat.ble_eq.mp hc
    rw [hL.1] at hlt
    cases ho
    intro kk
    exact lv_astore hx hb hd hL.2 hlt rfl (fun lc2 h2 => kk H locs lc2 hS (e_L_s1 hL (e_t_cat ad ro) rfl h2))
  · cases ho

theorem u_lstore_n {pg : e_Pg} {md : e_Md} {own : String} {cc : ByteArray} {nL : Nat} {ret : Option FieldType} {pc : Nat} {k : Fin 4} {i : Nat} (hd : decode cc pc = .ok (.lstore_n k, 1)) (hi : (k : Nat) = i) : e_Snd pg md own cc nL ret pc (o_lstore i (pc + 1)) := by
  intro d hIH p l e R s m args below meth c cells slots Q D cA ad ro base A K ls st h out ho H locs lc hS hL
  obtain ⟨hx, hb, hml, hr, hown, hts, hlocks, hK, hR, hAd, hAb, hJ, hRo⟩ := K
  unfold o_lstore at ho
  split at ho
  · obtain ⟨hc, ho⟩ := e_cond ho
    have hlt := Nat.ble_eq.mp hc
    rw [hL.1] at hlt
    cases ho
    intro kk
    exact lv_lstore_n hx hb hd hi hL.2 hlt rfl (fun lc2 h2 => kk H locs lc2 hS (e_L_s2 hL (e_t_cat ad ro) rfl h2))
  · cases ho

theorem u_lstore {pg : e_Pg} {md : e_Md} {own : String} {cc : ByteArray} {nL : Nat} {ret : Option FieldType} {pc : Nat} {i : Nat} (hd : decode cc pc = .ok (.lstore i, 2)) : e_Snd pg md own cc nL ret pc (o_lstore i (pc + 2)) := by
  intro d hIH p l e R s m args below meth c cells slots Q D cA ad ro base A K ls st h out ho H locs lc hS hL
  obtain ⟨hx, hb, hml, hr, hown, hts, hlocks, hK, hR, hAd, hAb, hJ, hRo⟩ := K
  unfold o_lstore at ho
  split at ho
  · obtain ⟨hc, ho⟩ := e_cond ho
    have hlt := Nat.ble_eq.mp hc
    rw [hL.1] at hlt
    cases ho
    intro kk
    exact lv_lstore hx hb hd hL.2 hlt rfl (fun lc2 h2 => kk H locs lc2 hS (e_L_s2 hL (e_t_cat ad ro) rfl h2))
  · cases ho

theorem u_iinc {pg : e_Pg} {md : e_Md} {own : String} {cc : ByteArray} {nL : Nat} {ret : Option FieldType} {pc : Nat} {i : Nat} {n : Int} {v : Int32} (hd : decode cc pc = .ok (.iinc i n, 3)) (hv : Int32.ofInt n = v) : e_Snd pg md own cc nL ret pc (o_iinc i v (pc + 3)) := by
  intro d hIH p l e R s m args below meth c cells slots Q D cA ad ro base A K ls st h out ho H locs lc hS hL
  obtain ⟨hx, hb, hml, hr, hown, hts, hlocks, hK, hR, hAd, hAb, hJ, hRo⟩ := K
  subst hv
  unfold o_iinc at ho
  split at ho
  · rename_i x hv
    cases ho
    intro kk
    obtain ⟨k, hk⟩ := List.getElem?_of_mem (e_Ll_mem (t := e_t ad ro) (q := (i, .int x)).mpr ⟨_, hv, (fun q => by cases q), rfl⟩)
    have hlt : i < nL := by rw [← hL.1]; exact (List.getElem?_eq_some_iff.mp hv).1
    exact lv_iinc hx hb hd hL.2 hk rfl hlt rfl (fun lc2 h2 => kk H locs lc2 hS (e_L_s1 hL (e_t_cat ad ro) rfl h2))
  · cases ho

theorem u_iadd {pg : e_Pg} {md : e_Md} {own : String} {cc : ByteArray} {nL : Nat} {ret : Option FieldType} {pc : Nat} (hd : decode cc pc = .ok (.iadd, 1)) : e_Snd pg md own cc nL ret pc (o_ib (fun x y => x + y) (pc + 1)) := by
  intro d hIH p l e R s m args below meth c cells slots Q D cA ad ro base A K ls st h out ho H locs lc hS hL
  obtain ⟨hx, hb, hml, hr, hown, hts, hlocks, hK, hR, hAd, hAb, hJ, hRo⟩ := K
  unfold o_ib at ho
  split at ho
  · cases ho
    intro kk
    exact lv_iadd hx hb hd (kk H locs lc hS hL)
  · cases ho

theorem u_isub {pg : e_Pg} {md : e_Md} {own : String} {cc : ByteArray} {nL : Nat} {ret : Option FieldType} {pc : Nat} (hd : decode cc pc = .ok (.isub, 1)) : e_Snd pg md own cc nL ret pc (o_ib (fun x y => x - y) (pc + 1)) := by
  intro d hIH p l e R s m args below meth c cells slots Q D cA ad ro base A K ls st h out ho H locs lc hS hL
  obtain ⟨hx, hb, hml, hr, hown, hts, hlocks, hK, hR, hAd, hAb, hJ, hRo⟩ := K
  unfold o_ib at ho
  split at ho
  · cases ho
    intro kk
    exact lv_isub hx hb hd (kk H locs lc hS hL)
  · cases ho

theorem u_imul {pg : e_Pg} {md : e_Md} {own : String} {cc : ByteArray} {nL : Nat} {ret : Option FieldType} {pc : Nat} (hd : decode cc pc = .ok (.imul, 1)) : e_Snd pg md own cc nL ret pc (o_ib (fun x y => x * y) (pc + 1)) := by
  intro d hIH p l e R s m args below meth c cells slots Q D cA ad ro base A K ls st h out ho H locs lc hS hL
  obtain ⟨hx, hb, hml, hr, hown, hts, hlocks, hK, hR, hAd, hAb, hJ, hRo⟩ := K
  unfold o_ib at ho
  split at ho
  · cases ho
    intro kk
    exact lv_imul hx hb hd (kk H locs lc hS hL)
  · cases ho

theorem u_iand {pg : e_Pg} {md : e_Md} {own : String} {cc : ByteArray} {nL : Nat} {ret : Option FieldType} {pc : Nat} (hd : decode cc pc = .ok (.iand, 1)) : e_Snd pg md own cc nL ret pc (o_ib (fun x y => x &&& y) (pc + 1)) := by
  intro d hIH p l e R s m args below meth c cells slots Q D cA ad ro base A K ls st h out ho H locs lc hS hL
  obtain ⟨hx, hb, hml, hr, hown, hts, hlocks, hK, hR, hAd, hAb, hJ, hRo⟩ := K
  unfold o_ib at ho
  split at ho
  · cases ho
    intro kk
    exact lv_iand hx hb hd (kk H locs lc hS hL)
  · cases ho

theorem u_ior {pg : e_Pg} {md : e_Md} {own : String} {cc : ByteArray} {nL : Nat} {ret : Option FieldType} {pc : Nat} (hd : decode cc pc = .ok (.ior, 1)) : e_Snd pg md own cc nL ret pc (o_ib (fun x y => x ||| y) (pc + 1)) := by
  intro d hIH p l e R s m args below meth c cells slots Q D cA ad ro base A K ls st h out ho H locs lc hS hL
  obtain ⟨hx, hb, hml, hr, hown, hts, hlocks, hK, hR, hAd, hAb, hJ, hRo⟩ := K
  unfold o_ib at ho
  split at ho
  · cases ho
    intro kk
    exact lv_ior hx hb hd (kk H locs lc hS hL)
  · cases ho

theorem u_ishl {pg : e_Pg} {md : e_Md} {own : String} {cc : ByteArray} {nL : Nat} {ret : Option FieldType} {pc : Nat} (hd : decode cc pc = .ok (.ishl, 1)) : e_Snd pg md own cc nL ret pc (o_ib (fun x y => x <<< (y &&& 31)) (pc + 1)) := by
  intro d hIH p l e R s m args below meth c cells slots Q D cA ad ro base A K ls st h out ho H locs lc hS hL
  obtain ⟨hx, hb, hml, hr, hown, hts, hlocks, hK, hR, hAd, hAb, hJ, hRo⟩ := K
  unfold o_ib at ho
  split at ho
  · cases ho
    intro kk
    exact lv_ishl hx hb hd (kk H locs lc hS hL)
  · cases ho

theorem u_ishr {pg : e_Pg} {md : e_Md} {own : String} {cc : ByteArray} {nL : Nat} {ret : Option FieldType} {pc : Nat} (hd : decode cc pc = .ok (.ishr, 1)) : e_Snd pg md own cc nL ret pc (o_ib (fun x y => x >>> (y &&& 31)) (pc + 1)) := by
  intro d hIH p l e R s m args below meth c cells slots Q D cA ad ro base A K ls st h out ho H locs lc hS hL
  obtain ⟨hx, hb, hml, hr, hown, hts, hlocks, hK, hR, hAd, hAb, hJ, hRo⟩ := K
  unfold o_ib at ho
  split at ho
  · cases ho
    intro kk
    exact lv_ishr hx hb hd (kk H locs lc hS hL)
  · cases ho

theorem u_iushr {pg : e_Pg} {md : e_Md} {own : String} {cc : ByteArray} {nL : Nat} {ret : Option FieldType} {pc : Nat} (hd : decode cc pc = .ok (.iushr, 1)) : e_Snd pg md own cc nL ret pc (o_ib (fun x y => (x.toUInt32 >>> (y.toUInt32 &&& Int32.toUInt32 31)).toInt32) (pc + 1)) := by
  intro d hIH p l e R s m args below meth c cells slots Q D cA ad ro base A K ls st h out ho H locs lc hS hL
  obtain ⟨hx, hb, hml, hr, hown, hts, hlocks, hK, hR, hAd, hAb, hJ, hRo⟩ := K
  unfold o_ib at ho
  split at ho
  · cases ho
    intro kk
    exact lv_iushr hx hb hd rfl (kk H locs lc hS hL)
  · cases ho

theorem u_ladd {pg : e_Pg} {md : e_Md} {own : String} {cc : ByteArray} {nL : Nat} {ret : Option FieldType} {pc : Nat} (hd : decode cc pc = .ok (.ladd, 1)) : e_Snd pg md own cc nL ret pc (o_lb (fun x y => x + y) (pc + 1)) := by
  intro d hIH p l e R s m args below meth c cells slots Q D cA ad ro base A K ls st h out ho H locs lc hS hL
  obtain ⟨hx, hb, hml, hr, hown, hts, hlocks, hK, hR, hAd, hAb, hJ, hRo⟩ := K
  unfold o_lb at ho
  split at ho
  · cases ho
    intro kk
    exact lv_ladd hx hb hd (kk H locs lc hS hL)
  · cases ho

theorem u_lsub {pg : e_Pg} {md : e_Md} {own : String} {cc : ByteArray} {nL : Nat} {ret : Option FieldType} {pc : Nat} (hd : decode cc pc = .ok (.lsub, 1)) : e_Snd pg md own cc nL ret pc (o_lb (fun x y => x - y) (pc + 1)) := by
  intro d hIH p l e R s m args below meth c cells slots Q D cA ad ro base A K ls st h out ho H locs lc hS hL
  obtain ⟨hx, hb, hml, hr, hown, hts, hlocks, hK, hR, hAd, hAb, hJ, hRo⟩ := K
  unfold o_lb at ho
  split at ho
  · cases ho
    intro kk
    exact lv_lsub hx hb hd (kk H locs lc hS hL)
  · cases ho

theorem u_lmul {pg : e_Pg} {md : e_Md} {own : String} {cc : ByteArray} {nL : Nat} {ret : Option FieldType} {pc : Nat} (hd : decode cc pc = .ok (.lmul, 1)) : e_Snd pg md own cc nL ret pc (o_lb (fun x y => x * y) (pc + 1)) := by
  intro d hIH p l e R s m args below meth c cells slots Q D cA ad ro base A K ls st h out ho H locs lc hS hL
  obtain ⟨hx, hb, hml, hr, hown, hts, hlocks, hK, hR, hAd, hAb, hJ, hRo⟩ := K
  unfold o_lb at ho
  split at ho
  · cases ho
    intro kk
    exact lv_lmul hx hb hd (kk H locs lc hS hL)
  · cases ho

theorem u_irem {pg : e_Pg} {md : e_Md} {own : String} {cc : ByteArray} {nL : Nat} {ret : Option FieldType} {pc : Nat} (hd : decode cc pc = .ok (.irem, 1)) : e_Snd pg md own cc nL ret pc (o_irem (pc + 1)) := by
  intro d hIH p l e R s m args below meth c cells slots Q D cA ad ro base A K ls st h out ho H locs lc hS hL
  obtain ⟨hx, hb, hml, hr, hown, hts, hlocks, hK, hR, hAd, hAb, hJ, hRo⟩ := K
  unfold o_irem at ho
  split at ho
  · obtain ⟨hc, ho⟩ := e_ncond ho
    cases ho
    intro kk
    exact lv_irem hx hb hd (of_decide_eq_false hc) (kk H locs lc hS hL)
  · cases ho

theorem u_ldiv {pg : e_Pg} {md : e_Md} {own : String} {cc : ByteArray} {nL : Nat} {ret : Option FieldType} {pc : Nat} (hd : decode cc pc = .ok (.ldiv, 1)) : e_Snd pg md own cc nL ret pc (o_ldiv (pc + 1)) := by
  intro d hIH p l e R s m args below meth c cells slots Q D cA ad ro base A K ls st h out ho H locs lc hS hL
  obtain ⟨hx, hb, hml, hr, hown, hts, hlocks, hK, hR, hAd, hAb, hJ, hRo⟩ := K
  unfold o_ldiv at ho
  split at ho
  · obtain ⟨hc, ho⟩ := e_ncond ho
    cases ho
    intro kk
    exact lv_ldiv hx hb hd (of_decide_eq_false hc) (kk H locs lc hS hL)
  · cases ho

theorem u_lrem {pg : e_Pg} {md : e_Md} {own : String} {cc : ByteArray} {nL : Nat} {ret : Option FieldType} {pc : Nat} (hd : decode cc pc = .ok (.lrem, 1)) : e_Snd pg md own cc nL ret pc (o_lrem (pc + 1)) := by
  intro d hIH p l e R s m args below meth c cells slots Q D cA ad ro base A K ls st h out ho H locs lc hS hL
  obtain ⟨hx, hb, hml, hr, hown, hts, hlocks, hK, hR, hAd, hAb, hJ, hRo⟩ := K
  unfold o_lrem at ho
  split at ho
  · obtain ⟨hc, ho⟩ := e_ncond ho
    cases ho
    intro kk
    exact lv_lrem hx hb hd (of_decide_eq_false hc) (kk H locs lc hS hL)
  · cases ho

theorem u_lneg {pg : e_Pg} {md : e_Md} {own : String} {cc : ByteArray} {nL : Nat} {ret : Option FieldType} {pc : Nat} (hd : decode cc pc = .ok (.lneg, 1)) : e_Snd pg md own cc nL ret pc (o_lneg (pc + 1)) := by
  intro d hIH p l e R s m args below meth c cells slots Q D cA ad ro base A K ls st h out ho H locs lc hS hL
  obtain ⟨hx, hb, hml, hr, hown, hts, hlocks, hK, hR, hAd, hAb, hJ, hRo⟩ := K
  unfold o_lneg at ho
  split at ho
  · cases ho
    intro kk
    exact lv_lneg hx hb hd (kk H locs lc hS hL)
  · cases ho

theorem u_ineg {pg : e_Pg} {md : e_Md} {own : String} {cc : ByteArray} {nL : Nat} {ret : Option FieldType} {pc : Nat} (hd : decode cc pc = .ok (.ineg, 1)) : e_Snd pg md own cc nL ret pc (o_iu (fun x => -x) (pc + 1)) := by
  intro d hIH p l e R s m args below meth c cells slots Q D cA ad ro base A K ls st h out ho H locs lc hS hL
  obtain ⟨hx, hb, hml, hr, hown, hts, hlocks, hK, hR, hAd, hAb, hJ, hRo⟩ := K
  unfold o_iu at ho
  split at ho
  · cases ho
    intro kk
    exact lv_ineg hx hb hd (kk H locs lc hS hL)
  · cases ho

theorem u_i2l {pg : e_Pg} {md : e_Md} {own : String} {cc : ByteArray} {nL : Nat} {ret : Option FieldType} {pc : Nat} (hd : decode cc pc = .ok (.i2l, 1)) : e_Snd pg md own cc nL ret pc (o_i2l (pc + 1)) := by
  intro d hIH p l e R s m args below meth c cells slots Q D cA ad ro base A K ls st h out ho H locs lc hS hL
  obtain ⟨hx, hb, hml, hr, hown, hts, hlocks, hK, hR, hAd, hAb, hJ, hRo⟩ := K
  unfold o_i2l at ho
  split at ho
  · cases ho
    intro kk
    exact lv_i2l hx hb hd rfl (kk H locs lc hS hL)
  · cases ho

theorem u_l2i {pg : e_Pg} {md : e_Md} {own : String} {cc : ByteArray} {nL : Nat} {ret : Option FieldType} {pc : Nat} (hd : decode cc pc = .ok (.l2i, 1)) : e_Snd pg md own cc nL ret pc (o_l2i (pc + 1)) := by
  intro d hIH p l e R s m args below meth c cells slots Q D cA ad ro base A K ls st h out ho H locs lc hS hL
  obtain ⟨hx, hb, hml, hr, hown, hts, hlocks, hK, hR, hAd, hAb, hJ, hRo⟩ := K
  unfold o_l2i at ho
  split at ho
  · cases ho
    intro kk
    exact lv_l2i hx hb hd rfl (kk H locs lc hS hL)
  · cases ho

theorem u_i2c {pg : e_Pg} {md : e_Md} {own : String} {cc : ByteArray} {nL : Nat} {ret : Option FieldType} {pc : Nat} (hd : decode cc pc = .ok (.i2c, 1)) : e_Snd pg md own cc nL ret pc (o_iu (fun x => (x.toUInt32 % 65536).toInt32) (pc + 1)) := by
  intro d hIH p l e R s m args below meth c cells slots Q D cA ad ro base A K ls st h out ho H locs lc hS hL
  obtain ⟨hx, hb, hml, hr, hown, hts, hlocks, hK, hR, hAd, hAb, hJ, hRo⟩ := K
  unfold o_iu at ho
  split at ho
  · cases ho
    intro kk
    exact lv_i2c hx hb hd rfl (kk H locs lc hS hL)
  · cases ho

theorem u_i2b {pg : e_Pg} {md : e_Md} {own : String} {cc : ByteArray} {nL : Nat} {ret : Option FieldType} {pc : Nat} (hd : decode cc pc = .ok (.i2b, 1)) : e_Snd pg md own cc nL ret pc (o_iu (fun x => x.toInt8.toInt32) (pc + 1)) := by
  intro d hIH p l e R s m args below meth c cells slots Q D cA ad ro base A K ls st h out ho H locs lc hS hL
  obtain ⟨hx, hb, hml, hr, hown, hts, hlocks, hK, hR, hAd, hAb, hJ, hRo⟩ := K
  unfold o_iu at ho
  split at ho
  · cases ho
    intro kk
    exact lv_i2b hx hb hd rfl (kk H locs lc hS hL)
  · cases ho

theorem u_lcmp {pg : e_Pg} {md : e_Md} {own : String} {cc : ByteArray} {nL : Nat} {ret : Option FieldType} {pc : Nat} (hd : decode cc pc = .ok (.lcmp, 1)) : e_Snd pg md own cc nL ret pc (o_lcmp (pc + 1)) := by
  intro d hIH p l e R s m args below meth c cells slots Q D cA ad ro base A K ls st h out ho H locs lc hS hL
  obtain ⟨hx, hb, hml, hr, hown, hts, hlocks, hK, hR, hAd, hAb, hJ, hRo⟩ := K
  unfold o_lcmp at ho
  split at ho
  · cases ho
    intro kk
    exact W.lcmp hx hb hd (kk H locs lc hS hL)
  · cases ho

theorem u_dup {pg : e_Pg} {md : e_Md} {own : String} {cc : ByteArray} {nL : Nat} {ret : Option FieldType} {pc : Nat} (hd : decode cc pc = .ok (.dup, 1)) : e_Snd pg md own cc nL ret pc (o_dup (pc + 1)) := by
  intro d hIH p l e R s m args below meth c cells slots Q D cA ad ro base A K ls st h out ho H locs lc hS hL
  obtain ⟨hx, hb, hml, hr, hown, hts, hlocks, hK, hR, hAd, hAb, hJ, hRo⟩ := K
  unfold o_dup at ho
  split at ho
  · obtain ⟨hc, ho⟩ := e_cond ho
    cases ho
    intro kk
    exact lv_dup hx hb hd ((e_t_cat ad ro _).trans (Nat.eq_of_beq_eq_true hc)) (kk H locs lc hS hL)
  · cases ho

theorem u_pop {pg : e_Pg} {md : e_Md} {own : String} {cc : ByteArray} {nL : Nat} {ret : Option FieldType} {pc : Nat} (hd : decode cc pc = .ok (.pop, 1)) : e_Snd pg md own cc nL ret pc (o_pop (pc + 1)) := by
  intro d hIH p l e R s m args below meth c cells slots Q D cA ad ro base A K ls st h out ho H locs lc hS hL
  obtain ⟨hx, hb, hml, hr, hown, hts, hlocks, hK, hR, hAd, hAb, hJ, hRo⟩ := K
  unfold o_pop at ho
  split at ho
  · obtain ⟨hc, ho⟩ := e_cond ho
    cases ho
    intro kk
    exact lv_pop hx hb hd ((e_t_cat ad ro _).trans (Nat.eq_of_beq_eq_true hc)) (kk H locs lc hS hL)
  · cases ho

theorem u_dup2 {pg : e_Pg} {md : e_Md} {own : String} {cc : ByteArray} {nL : Nat} {ret : Option FieldType} {pc : Nat} (hd : decode cc pc = .ok (.dup2, 1)) : e_Snd pg md own cc nL ret pc (o_dup2 (pc + 1)) := by
  intro d hIH p l e R s m args below meth c cells slots Q D cA ad ro base A K ls st h out ho H locs lc hS hL
  obtain ⟨hx, hb, hml, hr, hown, hts, hlocks, hK, hR, hAd, hAb, hJ, hRo⟩ := K
  unfold o_dup2 at ho
  split at ho
  · obtain ⟨hc, ho⟩ := e_cond ho
    simp only [Bool.and_eq_true] at hc
    cases ho
    intro kk
    exact lv_dup2_11 hx hb hd ((e_t_cat ad ro _).trans (Nat.eq_of_beq_eq_true hc.1)) ((e_t_cat ad ro _).trans (Nat.eq_of_beq_eq_true hc.2)) (kk H locs lc hS hL)
  · cases ho

theorem u_goto {pg : e_Pg} {md : e_Md} {own : String} {cc : ByteArray} {nL : Nat} {ret : Option FieldType} {pc : Nat} {off : Int} {tgt : Nat} (hd : decode cc pc = .ok (.goto off, 3)) (ht : (pc : Int) + off = (tgt : Int)) : e_Snd pg md own cc nL ret pc (o_goto tgt) := by
  intro d hIH p l e R s m args below meth c cells slots Q D cA ad ro base A K ls st h out ho H locs lc hS hL
  obtain ⟨hx, hb, hml, hr, hown, hts, hlocks, hK, hR, hAd, hAb, hJ, hRo⟩ := K
  unfold o_goto at ho
  cases ho
  intro kk
  exact lv_goto hx hb hd ht (kk H locs lc hS hL)

theorem u_if_eq {pg : e_Pg} {md : e_Md} {own : String} {cc : ByteArray} {nL : Nat} {ret : Option FieldType} {pc : Nat} {off : Int} {tgt : Nat} (hd : decode cc pc = .ok (.ifCond .eq off, 3)) (ht : (pc : Int) + off = (tgt : Int)) : e_Snd pg md own cc nL ret pc (o_if (fun x => decide (x = 0)) tgt (pc + 3)) := by
  intro d hIH p l e R s m args below meth c cells slots Q D cA ad ro base A K ls st h out ho H locs lc hS hL
  obtain ⟨hx, hb, hml, hr, hown, hts, hlocks, hK, hR, hAd, hAb, hJ, hRo⟩ := K
  unfold o_if at ho
  split at ho
  · cases ho
    intro kk
    exact lv_if_eq hx hb hd ht (fun q => by have k2 := kk H locs lc hS hL; simp only [decide_eq_true q, cond_true] at k2; exact k2) (fun q => by have k2 := kk H locs lc hS hL; simp only [decide_eq_false q, cond_false] at k2; exact k2)
  · cases ho

theorem u_ic_eq {pg : e_Pg} {md : e_Md} {own : String} {cc : ByteArray} {nL : Nat} {ret : Option FieldType} {pc : Nat} {off : Int} {tgt : Nat} (hd : decode cc pc = .ok (.if_icmp .eq off, 3)) (ht : (pc : Int) + off = (tgt : Int)) : e_Snd pg md own cc nL ret pc (o_ic (fun x y => decide (x = y)) tgt (pc + 3)) := by
  intro d hIH p l e R s m args below meth c cells slots Q D cA ad ro base A K ls st h out ho H locs lc hS hL
  obtain ⟨hx, hb, hml, hr, hown, hts, hlocks, hK, hR, hAd, hAb, hJ, hRo⟩ := K
  unfold o_ic at ho
  split at ho
  · cases ho
    intro kk
    exact lv_icmp_eq hx hb hd ht (fun q => by have k2 := kk H locs lc hS hL; simp only [decide_eq_true q, cond_true] at k2; exact k2) (fun q => by have k2 := kk H locs lc hS hL; simp only [decide_eq_false q, cond_false] at k2; exact k2)
  · cases ho

theorem u_if_ne {pg : e_Pg} {md : e_Md} {own : String} {cc : ByteArray} {nL : Nat} {ret : Option FieldType} {pc : Nat} {off : Int} {tgt : Nat} (hd : decode cc pc = .ok (.ifCond .ne off, 3)) (ht : (pc : Int) + off = (tgt : Int)) : e_Snd pg md own cc nL ret pc (o_if (fun x => decide (¬ x = 0)) tgt (pc + 3)) := by
  intro d hIH p l e R s m args below meth c cells slots Q D cA ad ro base A K ls st h out ho H locs lc hS hL
  obtain ⟨hx, hb, hml, hr, hown, hts, hlocks, hK, hR, hAd, hAb, hJ, hRo⟩ := K
  unfold o_if at ho
  split at ho
  · cases ho
    intro kk
    exact lv_if_ne hx hb hd ht (fun q => by have k2 := kk H locs lc hS hL; simp only [decide_eq_true q, cond_true] at k2; exact k2) (fun q => by have k2 := kk H locs lc hS hL; simp only [decide_eq_false (not_not_intro q), cond_false] at k2; exact k2)
  · cases ho

theorem u_ic_ne {pg : e_Pg} {md : e_Md} {own : String} {cc : ByteArray} {nL : Nat} {ret : Option FieldType} {pc : Nat} {off : Int} {tgt : Nat} (hd : decode cc pc = .ok (.if_icmp .ne off, 3)) (ht : (pc : Int) + off = (tgt : Int)) : e_Snd pg md own cc nL ret pc (o_ic (fun x y => decide (¬ x = y)) tgt (pc + 3)) := by
  intro d hIH p l e R s m args below meth c cells slots Q D cA ad ro base A K ls st h out ho H locs lc hS hL
  obtain ⟨hx, hb, hml, hr, hown, hts, hlocks, hK, hR, hAd, hAb, hJ, hRo⟩ := K
  unfold o_ic at ho
  split at ho
  · cases ho
    intro kk
    exact lv_icmp_ne hx hb hd ht (fun q => by have k2 := kk H locs lc hS hL; simp only [decide_eq_true q, cond_true] at k2; exact k2) (fun q => by have k2 := kk H locs lc hS hL; simp only [decide_eq_false (not_not_intro q), cond_false] at k2; exact k2)
  · cases ho

theorem u_if_lt {pg : e_Pg} {md : e_Md} {own : String} {cc : ByteArray} {nL : Nat} {ret : Option FieldType} {pc : Nat} {off : Int} {tgt : Nat} (hd : decode cc pc = .ok (.ifCond .lt off, 3)) (ht : (pc : Int) + off = (tgt : Int)) : e_Snd pg md own cc nL ret pc (o_if (fun x => decide (x < 0)) tgt (pc + 3)) := by
  intro d hIH p l e R s m args below meth c cells slots Q D cA ad ro base A K ls st h out ho H locs lc hS hL
  obtain ⟨hx, hb, hml, hr, hown, hts, hlocks, hK, hR, hAd, hAb, hJ, hRo⟩ := K
  unfold o_if at ho
  split at ho
  · cases ho
    intro kk
    exact lv_if_lt hx hb hd ht (fun q => by have k2 := kk H locs lc hS hL; simp only [decide_eq_true q, cond_true] at k2; exact k2) (fun q => by have k2 := kk H locs lc hS hL; simp only [decide_eq_false q, cond_false] at k2; exact k2)
  · cases ho

theorem u_ic_lt {pg : e_Pg} {md : e_Md} {own : String} {cc : ByteArray} {nL : Nat} {ret : Option FieldType} {pc : Nat} {off : Int} {tgt : Nat} (hd : decode cc pc = .ok (.if_icmp .lt off, 3)) (ht : (pc : Int) + off = (tgt : Int)) : e_Snd pg md own cc nL ret pc (o_ic (fun x y => decide (x < y)) tgt (pc + 3)) := by
  intro d hIH p l e R s m args below meth c cells slots Q D cA ad ro base A K ls st h out ho H locs lc hS hL
  obtain ⟨hx, hb, hml, hr, hown, hts, hlocks, hK, hR, hAd, hAb, hJ, hRo⟩ := K
  unfold o_ic at ho
  split at ho
  · cases ho
    intro kk
    exact lv_icmp_lt hx hb hd ht (fun q => by have k2 := kk H locs lc hS hL; simp only [decide_eq_true q, cond_true] at k2; exact k2) (fun q => by have k2 := kk H locs lc hS hL; simp only [decide_eq_false q, cond_false] at k2; exact k2)
  · cases ho

theorem u_if_ge {pg : e_Pg} {md : e_Md} {own : String} {cc : ByteArray} {nL : Nat} {ret : Option FieldType} {pc : Nat} {off : Int} {tgt : Nat} (hd : decode cc pc = .ok (.ifCond .ge off, 3)) (ht : (pc : Int) + off = (tgt : Int)) : e_Snd pg md own cc nL ret pc (o_if (fun x => decide (0 ≤ x)) tgt (pc + 3)) := by
  intro d hIH p l e R s m args below meth c cells slots Q D cA ad ro base A K ls st h out ho H locs lc hS hL
  obtain ⟨hx, hb, hml, hr, hown, hts, hlocks, hK, hR, hAd, hAb, hJ, hRo⟩ := K
  unfold o_if at ho
  split at ho
  · cases ho
    intro kk
    exact lv_if_ge hx hb hd ht (fun q => by have k2 := kk H locs lc hS hL; simp only [decide_eq_true q, cond_true] at k2; exact k2) (fun q => by have k2 := kk H locs lc hS hL; simp only [decide_eq_false q, cond_false] at k2; exact k2)
  · cases ho

theorem u_ic_ge {pg : e_Pg} {md : e_Md} {own : String} {cc : ByteArray} {nL : Nat} {ret : Option FieldType} {pc : Nat} {off : Int} {tgt : Nat} (hd : decode cc pc = .ok (.if_icmp .ge off, 3)) (ht : (pc : Int) + off = (tgt : Int)) : e_Snd pg md own cc nL ret pc (o_ic (fun x y => decide (y ≤ x)) tgt (pc + 3)) := by
  intro d hIH p l e R s m args below meth c cells slots Q D cA ad ro base A K ls st h out ho H locs lc hS hL
  obtain ⟨hx, hb, hml, hr, hown, hts, hlocks, hK, hR, hAd, hAb, hJ, hRo⟩ := K
  unfold o_ic at ho
  split at ho
  · cases ho
    intro kk
    exact lv_icmp_ge hx hb hd ht (fun q => by have k2 := kk H locs lc hS hL; simp only [decide_eq_true q, cond_true] at k2; exact k2) (fun q => by have k2 := kk H locs lc hS hL; simp only [decide_eq_false q, cond_false] at k2; exact k2)
  · cases ho

theorem u_if_gt {pg : e_Pg} {md : e_Md} {own : String} {cc : ByteArray} {nL : Nat} {ret : Option FieldType} {pc : Nat} {off : Int} {tgt : Nat} (hd : decode cc pc = .ok (.ifCond .gt off, 3)) (ht : (pc : Int) + off = (tgt : Int)) : e_Snd pg md own cc nL ret pc (o_if (fun x => decide (0 < x)) tgt (pc + 3)) := by
  intro d hIH p l e R s m args below meth c cells slots Q D cA ad ro base A K ls st h out ho H locs lc hS hL
  obtain ⟨hx, hb, hml, hr, hown, hts, hlocks, hK, hR, hAd, hAb, hJ, hRo⟩ := K
  unfold o_if at ho
  split at ho
  · cases ho
    intro kk
    exact lv_if_gt hx hb hd ht (fun q => by have k2 := kk H locs lc hS hL; simp only [decide_eq_true q, cond_true] at k2; exact k2) (fun q => by have k2 := kk H locs lc hS hL; simp only [decide_eq_false q, cond_false] at k2; exact k2)
  · cases ho

theorem u_ic_gt {pg : e_Pg} {md : e_Md} {own : String} {cc : ByteArray} {nL : Nat} {ret : Option FieldType} {pc : Nat} {off : Int} {tgt : Nat} (hd : decode cc pc = .ok (.if_icmp .gt off, 3)) (ht : (pc : Int) + off = (tgt : Int)) : e_Snd pg md own cc nL ret pc (o_ic (fun x y => decide (y < x)) tgt (pc + 3)) := by
  intro d hIH p l e R s m args below meth c cells slots Q D cA ad ro base A K ls st h out ho H locs lc hS hL
  obtain ⟨hx, hb, hml, hr, hown, hts, hlocks, hK, hR, hAd, hAb, hJ, hRo⟩ := K
  unfold o_ic at ho
  split at ho
  · cases ho
    intro kk
    exact lv_icmp_gt hx hb hd ht (fun q => by have k2 := kk H locs lc hS hL; simp only [decide_eq_true q, cond_true] at k2; exact k2) (fun q => by have k2 := kk H locs lc hS hL; simp only [decide_eq_false q, cond_false] at k2; exact k2)
  · cases ho

theorem u_if_le {pg : e_Pg} {md : e_Md} {own : String} {cc : ByteArray} {nL : Nat} {ret : Option FieldType} {pc : Nat} {off : Int} {tgt : Nat} (hd : decode cc pc = .ok (.ifCond .le off, 3)) (ht : (pc : Int) + off = (tgt : Int)) : e_Snd pg md own cc nL ret pc (o_if (fun x => decide (x ≤ 0)) tgt (pc + 3)) := by
  intro d hIH p l e R s m args below meth c cells slots Q D cA ad ro base A K ls st h out ho H locs lc hS hL
  obtain ⟨hx, hb, hml, hr, hown, hts, hlocks, hK, hR, hAd, hAb, hJ, hRo⟩ := K
  unfold o_if at ho
  split at ho
  · cases ho
    intro kk
    exact lv_if_le hx hb hd ht (fun q => by have k2 := kk H locs lc hS hL; simp only [decide_eq_true q, cond_true] at k2; exact k2) (fun q => by have k2 := kk H locs lc hS hL; simp only [decide_eq_false q, cond_false] at k2; exact k2)
  · cases ho

theorem u_ic_le {pg : e_Pg} {md : e_Md} {own : String} {cc : ByteArray} {nL : Nat} {ret : Option FieldType} {pc : Nat} {off : Int} {tgt : Nat} (hd : decode cc pc = .ok (.if_icmp .le off, 3)) (ht : (pc : Int) + off = (tgt : Int)) : e_Snd pg md own cc nL ret pc (o_ic (fun x y => decide (x ≤ y)) tgt (pc + 3)) := by
  intro d hIH p l e R s m args below meth c cells slots Q D cA ad ro base A K ls st h out ho H locs lc hS hL
  obtain ⟨hx, hb, hml, hr, hown, hts, hlocks, hK, hR, hAd, hAb, hJ, hRo⟩ := K
  unfold o_ic at ho
  split at ho
  · cases ho
    intro kk
    exact lv_icmp_le hx hb hd ht (fun q => by have k2 := kk H locs lc hS hL; simp only [decide_eq_true q, cond_true] at k2; exact k2) (fun q => by have k2 := kk H locs lc hS hL; simp only [decide_eq_false q, cond_false] at k2; exact k2)
  · cases ho

theorem e_sw_look {pc : Nat} {x : Int32} {dflt : Int} {td : Nat} (hd : (pc : Int) + dflt = (td : Int)) : ∀ (ps : List (Int × Int)) (ks : List (Int32 × Nat)), ps.map (fun q => (q.1, (pc : Int) + q.2)) = ks.map (fun q => (q.1.toInt, (q.2 : Int))) → (pc : Int) + Op.lookupswitch.offset ps dflt x.toInt = ((e_sw td x ks : Nat) : Int) := by
  intro ps
  induction ps with
  | nil =>
    intro ks h
    cases ks with
    | nil => exact hd
    | cons a b => cases h
  | cons q r ih =>
    intro ks h
    cases ks with
    | nil => cases h
    | cons a b =>
      obtain ⟨k, t⟩ := a
      obtain ⟨u, v⟩ := q
      rw [List.map_cons, List.map_cons] at h
      have h1 := (List.cons.inj h).1
      have h2 := (List.cons.inj h).2
      have h3 : u = k.toInt := (Prod.mk.inj h1).1
      have h4 : (pc : Int) + v = (t : Int) := (Prod.mk.inj h1).2
      rw [Op.lookupswitch.offset_cons]
      show _ = (((if x = k then t else e_sw td x b) : Nat) : Int)
      by_cases hx : x = k
      · subst hx
        rw [if_pos rfl, if_pos h3]
        exact h4
      · rw [if_neg hx, if_neg (fun z => hx (Int32.toInt_inj.mp (by rw [← h3]; exact z.symm)))]
        exact ih b h2
theorem e_sw_tab {pc : Nat} {x : Int32} {td : Nat} : ∀ (offs : List Int) (ks : List (Int32 × Nat)) (lo : Int), ks.map (fun q => (q.1.toInt, (q.2 : Int))) = (offs.zipIdx).map (fun q => (lo + (q.2 : Int), (pc : Int) + q.1)) → ∀ off, ¬ x.toInt < lo → offs[(x.toInt - lo).toNat]? = some off → (pc : Int) + off = ((e_sw td x ks : Nat) : Int) := by
  suffices H : ∀ (offs : List Int) (ks : List (Int32 × Nat)) (lo : Int) (n : Nat), ks.map (fun q => (q.1.toInt, (q.2 : Int))) = (offs.zipIdx n).map (fun q => (lo + (q.2 : Int), (pc : Int) + q.1)) → ∀ off, ¬ x.toInt < lo + n → offs[(x.toInt - lo - n).toNat]? = some off → (pc : Int) + off = ((e_sw td x ks : Nat) : Int) by
    intro offs ks lo h off h1 h2
    exact H offs ks lo 0 h off (by simpa using h1) (by simpa using h2)
  intro offs
  induction offs with
  | nil =>
    intro ks lo n h off h1 h2
    simp at h2
  | cons a r ih =>
    intro ks lo n h off h1 h2
    cases ks with
    | nil => simp at h
    | cons q b =>
      obtain ⟨k, t⟩ := q
      rw [List.zipIdx_cons, List.map_cons, List.map_cons] at h
      have e1 := (List.cons.inj h).1
      have e2 := (List.cons.inj h).2
      have h3 : k.toInt = lo + (n : Int) := (Prod.mk.inj e1).1
      have h4 : (t : Int) = (pc : Int) + a := (Prod.mk.inj e1).2
      show _ = (((if x = k then t else e_sw td x b) : Nat) : Int)
      by_cases hx : x = k
      · subst hx
        rw [if_pos rfl]
        have : (x.toInt - lo - (n : Int)).toNat = 0 := by omega
        rw [this] at h2
        have : a = off := Option.some.inj h2
        omega
      · rw [if_neg hx]
        have hne : x.toInt ≠ lo + (n : Int) := fun z => hx (Int32.toInt_inj.mp (by rw [h3]; exact z))
        refine ih b lo (n + 1) e2 off (by omega) ?_
        have : (x.toInt - lo - (n : Int)).toNat = (x.toInt - lo - ((n + 1 : Nat) : Int)).toNat + 1 := by omega
        rw [this, List.getElem?_cons_succ] at h2
        exact h2
theorem e_sw_out {x : Int32} {td : Nat} : ∀ (ks : List (Int32 × Nat)), (∀ q ∈ ks, x ≠ q.1) → e_sw td x ks = td := by
  intro ks
  induction ks with
  | nil => intro _; rfl
  | cons q b ih =>
    intro h
    show (if x = q.1 then q.2 else e_sw td x b) = td
    rw [if_neg (h q List.mem_cons_self)]
    exact ih (fun z hz => h z (List.mem_cons_of_mem _ hz))

theorem u_look {pg : e_Pg} {md : e_Md} {own : String} {cc : ByteArray} {nL : Nat} {ret : Option FieldType} {pc : Nat} {dflt : Int} {ps : Array (Int × Int)} {len td : Nat} {ks : List (Int32 × Nat)} (hd : decode cc pc = .ok (.lookupswitch dflt ps, len)) (hp : (ps.toList.zip (ps.toList.drop 1)).all (fun (a, next) => a.1 < next.1) = true) (ht : (pc : Int) + dflt = (td : Int)) (hk : ps.toList.map (fun q => (q.1, (pc : Int) + q.2)) = ks.map (fun q => (q.1.toInt, (q.2 : Int)))) : e_Snd pg md own cc nL ret pc (o_sw ks td) := by
  intro d hIH p l e R s m args below meth c cells slots Q D cA ad ro base A K ls st h out ho H locs lc hS hL
  obtain ⟨hx, hb, hml, hr, hown, hts, hlocks, hK, hR, hAd, hAb, hJ, hRo⟩ := K
  unfold o_sw at ho
  split at ho
  · cases ho
    intro kk
    exact lv_lookup hx hb hd hp rfl (e_sw_look ht ps.toList ks hk) (kk H locs lc hS hL)
  · cases ho

theorem u_table {pg : e_Pg} {md : e_Md} {own : String} {cc : ByteArray} {nL : Nat} {ret : Option FieldType} {pc : Nat} {dflt lo hi : Int} {offs : Array Int} {len td : Nat} {ks : List (Int32 × Nat)} (hd : decode cc pc = .ok (.tableswitch dflt lo hi offs, len)) (ht : (pc : Int) + dflt = (td : Int)) (hk : ks.map (fun q => (q.1.toInt, (q.2 : Int))) = (offs.toList.zipIdx).map (fun q => (lo + (q.2 : Int), (pc : Int) + q.1))) (hn : hi + 1 = lo + offs.toList.length) : e_Snd pg md own cc nL ret pc (o_sw ks td) := by
  intro d hIH p l e R s m args below meth c cells slots Q D cA ad ro base A K ls st h out ho H locs lc hS hL
  obtain ⟨hx, hb, hml, hr, hown, hts, hlocks, hK, hR, hAd, hAb, hJ, hRo⟩ := K
  unfold o_sw at ho
  split at ho
  · rename_i x r
    cases ho
    intro kk
    by_cases h1 : x.toInt < lo ∨ hi < x.toInt
    · have hout : e_sw td x ks = td := e_sw_out ks (fun q hq z => by
        have h2 : (q.1.toInt, (q.2 : Int)) ∈ ks.map (fun q => (q.1.toInt, (q.2 : Int))) := List.mem_map.mpr ⟨q, hq, rfl⟩
        rw [hk] at h2
        obtain ⟨w, hw, he⟩ := List.mem_map.mp h2
        have h3 : lo + (w.2 : Int) = q.1.toInt := (Prod.mk.inj he).1
        have h4 := List.mem_zipIdx hw
        have h5 : w.2 < offs.toList.length := by omega
        rw [← z] at h3
        omega)
      have k2 := kk H locs lc hS hL
      rw [hout] at k2
      exact lv_tableOut hx hb hd h1 ht k2
    · have h2 : ¬ x.toInt < lo := fun q => h1 (Or.inl q)
      have h3 : ¬ hi < x.toInt := fun q => h1 (Or.inr q)
      have h4 : (x.toInt - lo).toNat < offs.toList.length := by omega
      have h5 : offs.toList[(x.toInt - lo).toNat]? = some (offs.toList[(x.toInt - lo).toNat]'h4) := List.getElem?_eq_getElem h4
      have h6 : offs[(x.toInt - lo).toNat]? = some (offs.toList[(x.toInt - lo).toNat]'h4) := by rw [← Array.getElem?_toList]; exact h5
      exact lv_tableIn hx hb hd h2 h3 h6 (e_sw_tab offs.toList ks lo hk _ h2 h5) (kk H locs lc hS hL)
  · cases ho

