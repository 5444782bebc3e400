/-! THE MACHINE FOLLOWS the abstract machine: any configuration, any depth -/
theorem e_walk {pg : e_Pg} {md : e_Md} {own : String} {cc : ByteArray} {nL : Nat} {ret : Option FieldType} {cd : e_Cd} (hcd : ∀ (pc : Nat) (op : e_Op), e_at cd pc = some op → e_Snd pg md own cc nL ret pc op) {d : Nat} (hIH : e_IH pg md d) {p : Program} {l : Launch} {e : Env} {R : Room} {s : State} {m : MethodId} {args : Array Value} {below : List Frame} {meth : Method} {c : Code} {cells slots : Nat} {Q : State → Prop} {D : va_G} {cA : Nat → ClassId} {ad ro : Nat → Nat} {base : Nat} {A : Nat → Prop}
    (K : e_K d own cc nL ret p R s m args meth c cells slots D cA ad ro base A) {r : Option Value} {h2 : e_H}
    (hfin : ∀ (H2 : Heap) (locs2 : List Loc) (lc2 : Array Slot) (pc2 : Nat), e_St D cA ad A s h2 H2 locs2 → e_rOk cc ret pc2 r → W p l e R s m args below meth c H2 locs2 cells slots Q (F0 m pc2 lc2 (r.toList.map (e_t ad ro)))) :
    ∀ (n pc : Nat) (ls st : List Value) (h : e_H), e_it cd (e_X pg d) n (pc, ls, st, h) = some (r, h2) → ∀ (H : Heap) (locs : List Loc) (lc : Array Slot), e_St D cA ad A s h H locs → e_L (e_t ad ro) lc nL ls → W p l e R s m args below meth c H locs cells slots Q (F0 m pc lc (st.map (e_t ad ro))) := by
  intro n
  induction n with
  | zero => intro pc ls st h hn; cases hn
  | succ n ih =>
    intro pc ls st h hn H locs lc hS hL
    unfold e_it at hn
    cases hs : e_step cd (e_X pg d) (pc, ls, st, h) with
    | none => rw [hs] at hn; cases hn
    | some out =>
      rw [hs] at hn
      unfold e_step at hs
      cases ha : e_at cd pc with
      | none => rw [show e_at cd (pc, ls, st, h).1 = none from ha] at hs; cases hs
      | some op =>
        rw [show e_at cd (pc, ls, st, h).1 = some op from ha] at hs
        have hsnd := hcd pc op ha d hIH p l e R s m args below meth c cells slots Q D cA ad ro base A K ls st h out hs H locs lc hS hL
        cases out with
        | inl c2 =>
          obtain ⟨pc2, ls2, st2, h3⟩ := c2
          exact hsnd (fun H2 locs2 lc2 hS2 hL2 => ih pc2 ls2 st2 h3 hn H2 locs2 lc2 hS2 hL2)
        | inr q =>
          obtain ⟨r3, h3⟩ := q
          have hq : (r3, h3) = (r, h2) := Option.some.inj hn
          cases hq
          obtain ⟨e1, e2, e3⟩ := hsnd
          subst e1
          rw [e2]
          exact hfin H locs lc pc hS e3
theorem e_ar_args {t : Value → Value} (ht : ∀ x, (t x).category = x.category) : ∀ (args : List Value) (n i : Nat) (v : Value), (e_ar args)[i]? = some v → v ≠ Value.null → (n + i, t v) ∈ lv_args n (args.map t) := by
  intro args
  induction args with
  | nil => intro n i v h; cases h
  | cons a r ih =>
    intro n i v h hv
    rw [List.map_cons]
    unfold lv_args
    have one : ∀ (he : e_ar (a :: r) = a :: e_ar r) (hc : ¬ a.category = 2), (n + i, t v) ∈ (n, t a) :: lv_args (if (t a).category = 2 then n + 2 else n + 1) (r.map t) := by
      intro he hc
      rw [he] at h
      rw [if_neg (by rw [ht]; exact hc)]
      cases i with
      | zero => cases h; exact List.mem_cons_self
      | succ i =>
        have h9 := ih (n + 1) i v h hv
        rw [show n + 1 + i = n + (i + 1) by omega] at h9
        exact List.mem_cons_of_mem _ h9
    have two : ∀ (he : e_ar (a :: r) = a :: Value.null :: e_ar r) (hc : a.category = 2), (n + i, t v) ∈ (n, t a) :: lv_args (if (t a).category = 2 then n + 2 else n + 1) (r.map t) := by
      intro he hc
      rw [he] at h
      rw [if_pos (by rw [ht]; exact hc)]
      cases i with
      | zero => cases h; exact List.mem_cons_self
      | succ i =>
        cases i with
        | zero => cases h; exact absurd rfl hv
        | succ i =>
          have h9 := ih (n + 2) i v h hv
          rw [show n + 2 + i = n + (i + 1 + 1) by omega] at h9
          exact List.mem_cons_of_mem _ h9
    cases a <;> first | exact two rfl rfl | exact one rfl (fun q => by cases q)
theorem e_ar_len {t : Value → Value} (ht : ∀ x, (t x).category = x.category) : ∀ (args : List Value), (lg_sl (args.map t)).length = (e_ar args).length := by
  intro args
  induction args with
  | nil => rfl
  | cons a r ih =>
    have h2 : lg_sl ((a :: r).map t) = (if (t a).category = 2 then [Slot.val (t a), Slot.second] else [Slot.val (t a)]) ++ lg_sl (r.map t) := rfl
    rw [h2, List.length_append, ih, ht]
    cases a <;> simp [Value.category, e_ar] <;> omega
theorem e_enter {t : Value → Value} (ht : ∀ x, (t x).category = x.category) {args : List Value} {nL : Nat} (h : (e_ar args).length ≤ nL) : e_L t (lg_sl (args.map t) ++ List.replicate (nL - (lg_sl (args.map t)).length) Slot.unset).toArray nL (e_in nL args) := by
  have hl := lv_entry (args.map t) (n := nL) (by rw [e_ar_len ht]; exact h)
  refine ⟨by unfold e_in; rw [List.length_append, List.length_replicate]; omega, lv_has_sub hl (fun q hq => ?_)⟩
  obtain ⟨i, b⟩ := q
  obtain ⟨v, h1, h2, h3⟩ := e_Ll_mem.mp hq
  dsimp only at h1 h3
  unfold e_in at h1
  by_cases hi : i < (e_ar args).length
  · rw [List.getElem?_append_left hi] at h1
    have h9 := e_ar_args ht args 0 i v h1 h2
    rw [Nat.zero_add] at h9
    rw [h3]
    exact h9
  · rw [List.getElem?_append_right (by omega), List.getElem?_replicate] at h1
    split at h1
    · exact absurd (Option.some.inj h1).symm h2
    · cases h1
/-- every method, at every depth, does what the abstract machine says -/
theorem e_all {pg : e_Pg} {md : e_Md} (hcd : ∀ k : Nat, (pg k).2 = [] ∨ (plainName (md k).1.cls = true ∧ (pg k).1 = (md k).2.2.1 ∧ ∀ (pc : Nat) (op : e_Op), e_at (pg k).2 pc = some op → e_Snd pg md (md k).1.cls (md k).2.1 (md k).2.2.1 (md k).2.2.2 pc op)) : ∀ d, e_IH pg md d := by
  intro d
  induction d with
  | zero => intro l k args h r h2 hX; cases hX
  | succ d ih =>
    intro l k args h r h2 hX D cA ad ro base hJ
    have hX : (bif Nat.ble (e_ar args).length (pg k).1 then e_F (pg k).2 (e_X pg d) 0 (e_in (pg k).1 args) [] h else none) = some (r, h2) := hX
    obtain ⟨hlen, hF⟩ := e_cond hX
    have hlen := Nat.ble_eq.mp hlen
    unfold e_F at hF
    obtain ⟨n, hn⟩ := e_E_some.mp hF
    rcases hcd k with h0 | ⟨hpl, hnl, hsnd⟩
    · cases n with
      | zero => cases hn
      | succ n =>
        unfold e_it e_step at hn
        rw [h0] at hn
        cases hn
    · rw [hnl] at hlen hn
      refine Met.ofW (cc := (md k).2.1) (maxL := (md k).2.2.1) (ret := (md k).2.2.2) hpl rfl ?_
      intro p e s m as below meth c s₁ B hml hv
      obtain ⟨rfl, hP, hK, hRo⟩ := hv
      have hx := B.exec
      have hb := B.bytes
      have hr := B.returns
      have hts : ∀ w ∈ e_ws (md k), w.before (args.map (e_t ad ro)).toArray s = true := atoms_spec (ws := e_ws (md k)) B.pre
      have hown : s.vm.findClass (md k).1.cls = some m.cls := findClass_of_methodNamed B.named
      have hlocks := B.notSynchronized
      rw [lg_entry_eq]
      refine e_walk (hsnd) ih (A := e_A ad) (D := D) (cA := cA) (ad := ad) (ro := ro) (base := base) ⟨hx, hb, hml, hr, hown, fun w hw => hts w (List.mem_cons_of_mem _ hw), hlocks, hK, ⟨Nat.le_refl _, Nat.le_refl _, Nat.le_refl _, Nat.le_refl _⟩, fun i hi => ⟨i, hi, rfl⟩, fun q ⟨i, hi, hq⟩ => by rw [hq]; exact hJ.2 i hi, hJ, hRo⟩ ?_ n 0 (e_in (md k).2.2.1 args) [] h hn s.heap [] _ ⟨hP, va_S.rf⟩ (e_enter (e_t_cat ad ro) hlen)
      intro H2 locs2 lc2 pc2 hS2 hok
      have post : ∀ t : State, t.heap = H2 → s.WarmedH t.vm → e_Qc D cA ad ro r h2 (args.map (e_t ad ro)).toArray s (.returned (r.map (e_t ad ro))) t := fun t ht hW => ⟨rfl, by rw [ht]; exact hS2.1, hS2.2.F ht⟩
      cases r with
      | none => exact W.vret hx hb (hr.trans hok.2) post hS2.2.2.2 hok.1
      | some v =>
        cases v with
        | int v =>
          obtain ⟨g1, ty, g2, g3⟩ := hok
          exact W.zret hx hb (hr.trans g2) g3 post hS2.2.2.2 g1
        | long v => exact W.lret hx hb (hr.trans hok.2) post hS2.2.2.2 hok.1
        | ref v =>
          obtain ⟨g1, nm, g2⟩ := hok
          exact W.aret hx hb (hr.trans g2) (Or.inl ⟨nm, rfl⟩) (Or.inr ⟨_, rfl⟩) post hS2.2.2.2 g1
        | float v => exact absurd hok id
        | double v => exact absurd hok id
        | null => exact absurd hok id
        | retAddr v => exact absurd hok id
