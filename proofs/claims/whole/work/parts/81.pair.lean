/-! both calls side by side: the state between calls -/
abbrev q_LL : List Nat := [7, 8, 9, 30, 32, 33, 35, 36, 38, 39, 40, 41, 42, 43, 44, 45, 46, 47, 48, 49, 50, 51, 52]
def q_I (h : e_H) : Prop := q_ok h ∧ q_w1 h ∧ q_sl h ∧ q_M h h
theorem q_M.keep {S h f : e_H} (m : q_M S h) (h1 : ∀ o, 40 ≤ o → e_gI f o = e_gI h o) (h2 : ∀ o, 40 ≤ o → e_gJ f o = e_gJ h o) : q_M S f := by
  unfold q_M at m ⊢
  rw [h1 40 (by decide), h1 43 (by decide), h1 41 (by decide), h1 42 (by decide), h1 44 (by decide), h2 40 (by decide)]
  exact m
theorem q_M.left {S T h : e_H} (m : q_M S h) (hS : q_ok S) (hI : ∀ o, o < 30 → o ∉ [7, 8, 9] → e_gI T o = e_gI S o) (hJ : e_gJ T 0 = e_gJ S 0) : q_M T h := by
  obtain ⟨⟨a1, a2, a3, a4, a5, a6, a7, a8, a9⟩, b, c, e, g⟩ := m
  have T0 := hI 0 (by decide) (by decide)
  have T1 := hI 1 (by decide) (by decide)
  have T3 := hI 3 (by decide) (by decide)
  have T4 := hI 4 (by decide) (by decide)
  refine ⟨⟨?_, ?_, ?_, ?_, ?_, ?_, ?_, ?_, ?_⟩, fun s hs => ?_, fun s k w hs hk hw => ?_, fun s k hs hk => ?_, fun k => ?_⟩
  · rw [T0]; exact a1
  · rw [T0]; exact a2
  · rw [T0]; exact a3
  · rw [T0]; exact a4
  · rw [T0]; exact a5
  · rw [T0]; exact a6
  · rw [T3]; exact a7
  · rw [hJ]; exact a8
  · rw [hJ]; exact a9
  · rw [T1]; exact b s hs
  · have := q_x_lt hs hk
    unfold q_N
    rw [hI _ (by omega) (by simp <;> omega)]
    exact c s k w hs hk hw
  · have ec : q_c T s = q_c S s := by unfold q_c; rw [T1]
    rw [ec] at hk
    have h5 := (hS.c hs).2.2
    have := q_x_lt hs (show k < 5 by omega)
    rw [hI _ (by omega) (by simp <;> omega)]
    exact e s k hs hk
  · rw [T4]; exact g k
theorem q_I_of {S g : e_H} (a : q_ok S) (b : q_w1 S) (c : q_sl S) (m : q_M S g) (hf : e_fr q_LL S g) : q_I g := by
  have hI : ∀ o, o < 30 → o ∉ [7, 8, 9] → e_gI g o = e_gI S o := fun o h1 h2 => hf.I (by simp at h2 ⊢; omega)
  have hJ : e_gJ g 0 = e_gJ S 0 := hf.J (by simp)
  refine ⟨q_ok_cg (A := S) (fun o h1 h2 h3 h4 h5 => hI o (by omega) (by simp <;> omega)) (fun s k hs hk => ?_) a, fun s k hs h1 h2 => ?_, fun s hs => ?_, m.left a hI hJ⟩
  · have := q_x_lt hs hk
    unfold q_N
    rw [hI _ (by omega) (by simp <;> omega)]
    exact a.N hs hk
  · have := q_x_lt hs h2
    rw [hI _ (by omega) (by simp <;> omega)]
    refine b s k hs ?_ h2
    unfold q_c at h1 ⊢
    rw [hI 1 (by decide) (by decide)] at h1
    exact h1
  · have := q_x_lt hs (show 0 < 5 by decide)
    unfold q_N
    rw [hI _ (by omega) (by simp <;> omega)]
    exact c s hs
/-- the class's call and the model's answer alike, and the state holds behind both -/
def q_pairI (D k3 k4 : Nat) (as : List Value) (h : e_H) : Prop := ∃ (v : Int32) (f g : e_H), e_X e_pg D k3 (.ref 0 :: as) h = some (some (.int v), f) ∧ e_X e_pg D k4 (.ref 40 :: as) f = some (some (.int v), g) ∧ q_I g
def q_pairJ (D k3 k4 : Nat) (as : List Value) (h : e_H) : Prop := ∃ (v : Int64) (f g : e_H), e_X e_pg D k3 (.ref 0 :: as) h = some (some (.long v), f) ∧ e_X e_pg D k4 (.ref 40 :: as) f = some (some (.long v), g) ∧ q_I g
theorem q_fr2 {T f g : e_H} (hC : q_C T f) (hF : e_fr q_lM f g) : e_fr q_LL T g := (e_fr.mono hC (fun o ho => by simp at ho ⊢; omega)).trans (hF.mono (fun o ho => by simp at ho ⊢; omega))
theorem q_pairI_of {D k3 k4 : Nat} {as : List Value} {S T f g : e_H} {v : Int32} (h1 : e_X e_pg D k3 (.ref 0 :: as) S = some (some (.int v), f)) (hC : q_C T f) (h2 : e_X e_pg D k4 (.ref 40 :: as) f = some (some (.int v), g)) (hM : q_M T g) (hF : e_fr q_lM f g) (a : q_ok T) (b : q_w1 T) (c : q_sl T) : q_pairI D k3 k4 as S := ⟨v, f, g, h1, h2, q_I_of a b c hM (q_fr2 hC hF)⟩
theorem q_M.C {S f : e_H} (m : q_M S S) (hC : q_C S f) : q_M S f := m.keep (fun o ho => e_fr.I hC (by simp <;> omega)) (fun o ho => e_fr.J hC (by simp <;> omega))
/-- a call that changes nothing that lasts -/
theorem q_pairI_rd {D k3 k4 : Nat} {as : List Value} {S : e_H} {v : Int32} (hI : q_I S) (h1 : ∃ f, e_X e_pg D k3 (.ref 0 :: as) S = some (some (.int v), f) ∧ q_C S f) (h2 : ∀ f, q_M S f → ∃ g, e_X e_pg D k4 (.ref 40 :: as) f = some (some (.int v), g) ∧ q_M S g ∧ e_fr q_lM f g) : q_pairI D k3 k4 as S := by
  obtain ⟨a, b, c, m⟩ := hI
  obtain ⟨f, e1, hC⟩ := h1
  obtain ⟨g, e2, hM, hF⟩ := h2 f (m.C hC)
  exact q_pairI_of e1 hC e2 hM hF a b c
theorem q_rd_mr {D k4 : Nat} {as : List Value} {S f : e_H} {v : Int32} (hM : q_M S f) (h : ∃ g, e_X e_pg D k4 (.ref 40 :: as) f = some (some (.int v), g) ∧ q_mr f g) : ∃ g, e_X e_pg D k4 (.ref 40 :: as) f = some (some (.int v), g) ∧ q_M S g ∧ e_fr q_lM f g := by
  obtain ⟨g, e, r⟩ := h
  exact ⟨g, e, hM.mf r, r.fr⟩
/-- a call that changes nothing at all -/
theorem q_pairI_no {D k3 k4 : Nat} {as : List Value} {S : e_H} {v : Int32} (hI : q_I S) (h1 : e_X e_pg D k3 (.ref 0 :: as) S = some (some (.int v), S)) (h2 : e_X e_pg D k4 (.ref 40 :: as) S = some (some (.int v), S)) : q_pairI D k3 k4 as S := ⟨v, S, S, h1, h2, hI⟩
theorem q_pairJ_no {D k3 k4 : Nat} {as : List Value} {S : e_H} {v : Int64} (hI : q_I S) (h1 : e_X e_pg D k3 (.ref 0 :: as) S = some (some (.long v), S)) (h2 : e_X e_pg D k4 (.ref 40 :: as) S = some (some (.long v), S)) : q_pairJ D k3 k4 as S := ⟨v, S, S, h1, h2, hI⟩
/-! single numbers of both -/
theorem q_M.fl {S h : e_H} (m : q_M S h) {x y : Nat} {v : Int32} (hxy : (x = 6 ∧ y = 0) ∨ (x = 7 ∧ y = 4) ∨ (x = 8 ∧ y = 5) ∨ (x = 9 ∧ y = 6) ∨ (x = 10 ∧ y = 7) ∨ (x = 11 ∧ y = 8)) : q_M (e_pI S 0 x v) (e_pI h 40 y v) := by
  obtain ⟨⟨a1, a2, a3, a4, a5, a6, a7, a8, a9⟩, b, c, e, g⟩ := m
  refine ⟨?_, fun s hs => ?_, fun s k w hs hk hw => ?_, fun s k hs hk => ?_, fun k => ?_⟩
  · rcases hxy with ⟨rfl, rfl⟩ | ⟨rfl, rfl⟩ | ⟨rfl, rfl⟩ | ⟨rfl, rfl⟩ | ⟨rfl, rfl⟩ | ⟨rfl, rfl⟩ <;> simp [e_gI_pI, e_gJ_pI, a1, a2, a3, a4, a5, a6, a7, a8, a9]
  · rw [e_pI_o (by decide), e_pI_o (by decide)]
    exact b s hs
  · unfold q_N
    rw [e_pI_o (by decide), e_pI_o (by omega)]
    exact c s k w hs hk hw
  · have ec : q_c (e_pI S 0 x v) s = q_c S s := by unfold q_c; rw [e_pI_o (by decide)]
    rw [ec] at hk
    rw [e_pI_o (by decide), e_pI_o (by omega)]
    exact e s k hs hk
  · rw [e_pI_o (by decide), e_pI_o (by decide)]
    exact g k
theorem q_M.pI {S h : e_H} (m : q_M S h) {o k : Nat} {v : Int32} (ho : o < 40) : q_M S (e_pI h o k v) := m.keep (fun a ha => e_pI_o (by omega)) (fun a ha => rfl)
theorem q_w1_fl {S : e_H} {x : Nat} {v : Int32} (b : q_w1 S) : q_w1 (e_pI S 0 x v) := fun s k hs h1 h2 => by
  rw [e_pI_o (by omega)]
  refine b s k hs ?_ h2
  unfold q_c at h1 ⊢
  rw [e_pI_o (by decide)] at h1
  exact h1
theorem q_sl_fl {S : e_H} {x : Nat} {v : Int32} (c : q_sl S) : q_sl (e_pI S 0 x v) := fun s hs => by
  unfold q_N
  rw [e_pI_o (by omega)]
  exact c s hs
theorem q_ok_fl {S : e_H} {x : Nat} {v : Int32} (a : q_ok S) (h6 : x = 6 → ∃ r, q_is v r 1 24) (h7 : x = 7 → v = 0 ∨ v = 1 ∨ v = 2 ∨ v = 3) (h8 : x = 8 → ∃ r, q_is v r 1 9) (h10 : x ≠ 10) (h11 : x ≠ 11) : q_ok (e_pI S 0 x v) := by
  obtain ⟨a1, a2, a3, a4, a5, a6, a7, a8, a9⟩ := a
  have one : ∀ {r p q : Nat}, q ≤ 100 → q_is v r p q → q_is v v.toNatClampNeg p q := fun {r p q} h1 h => by
    have : v.toNatClampNeg = r := by rw [h.1]; exact nI_clamp (by have := h.2.2; omega)
    rw [this]
    exact h
  refine ⟨?_, ?_, ?_, ?_, ?_, fun s hs => ?_, fun s k hs hk => ?_, fun s k hs hk => ?_, ?_⟩
  · unfold q_n
    by_cases c : x = 6
    · obtain ⟨r, hr⟩ := h6 c
      rw [e_gI_pI, if_pos ⟨rfl, c.symm⟩]
      exact one (by decide) hr
    · rw [e_gI_pI, if_neg (fun q => c q.2.symm)]
      exact a1
  · unfold q_way
    by_cases c : x = 7
    · rw [e_gI_pI, if_pos ⟨rfl, c.symm⟩]
      exact h7 c
    · rw [e_gI_pI, if_neg (fun q => c q.2.symm)]
      exact a2
  · unfold q_R
    by_cases c : x = 8
    · obtain ⟨r, hr⟩ := h8 c
      rw [e_gI_pI, if_pos ⟨rfl, c.symm⟩]
      exact one (by decide) hr
    · rw [e_gI_pI, if_neg (fun q => c q.2.symm)]
      exact a3
  · unfold q_a q_b
    rw [e_gI_pI, if_neg (fun q => h10 q.2.symm), e_gI_pI, if_neg (fun q => h11 q.2.symm)]
    exact a4
  · unfold q_b
    rw [e_gI_pI, if_neg (fun q => h11 q.2.symm)]
    exact a5
  · unfold q_c
    rw [e_pI_o (by decide)]
    exact a6 s hs
  · unfold q_N
    rw [e_pI_o (by omega)]
    exact a7 s k hs hk
  · unfold q_W
    rw [e_pI_o (by omega)]
    exact a8 s k hs hk
  · unfold q_rule q_L q_Z
    rw [e_pI_o (show 3 ≠ 0 by decide), e_pI_o (show 4 ≠ 0 by decide), e_pI_o (show 5 ≠ 0 by decide), e_pI_o (show 6 ≠ 0 by decide)]
    exact a9
theorem is_of {v m : Int32} {p q : Nat} (lo : Int32) (hlo : lo.toInt = p) (hm : m.toInt = q) (h1 : ¬ v < lo) (h2 : v ≤ m) : ∃ r, q_is v r p q := by
  have h0 : ¬ v < 0 := fun z => h1 (by rw [Int32.lt_iff_toInt_lt] at z ⊢; rw [ti_0] at z; omega)
  obtain ⟨j, hj, rfl⟩ := nI_of2 hm h0 h2
  have hq : q < 2 ^ 31 := by
    have := Int32.toInt_lt m
    omega
  have ej : (nI j).toInt = j := nI_toInt (by omega)
  rw [Int32.lt_iff_toInt_lt] at h1
  exact ⟨j, rfl, by omega, hj⟩
theorem t_fl {D k3 k4 : Nat} {as : List Value} {S : e_H} {x y : Nat} {v : Int32} (hI : q_I S) (hxy : (x = 6 ∧ y = 0) ∨ (x = 7 ∧ y = 4) ∨ (x = 8 ∧ y = 5) ∨ (x = 9 ∧ y = 6) ∨ (x = 10 ∧ y = 7) ∨ (x = 11 ∧ y = 8)) (hok : q_ok (e_pI S 0 x v)) (hv : e_gI S 40 y = e_gI S 0 x) (h1 : e_X e_pg D k3 (.ref 0 :: as) S = some (some (.int (e_gI S 0 x)), e_pI S 0 x v)) (h2 : ∀ h : e_H, e_X e_pg D k4 (.ref 40 :: as) h = some (some (.int (e_gI h 40 y)), e_pI h 40 y v)) : q_pairI D k3 k4 as S := by
  obtain ⟨a, b, c, m⟩ := hI
  refine q_pairI_of (T := e_pI S 0 x v) (f := e_pI S 0 x v) (g := e_pI (e_pI S 0 x v) 40 y v) (v := e_gI S 0 x) h1 (q_C.refl _) ?_ ?_ ((e_fr.refl _ _).pI (by simp)) hok (q_w1_fl b) (q_sl_fl c)
  · rw [h2 (e_pI S 0 x v), e_pI_o (show 40 ≠ 0 by decide), hv]
  · exact (m.pI (by decide)).fl hxy
theorem tp_steps {S : e_H} (hI : q_I S) {v : Int32} : q_pairI 260 31 89 [.int v] S := by
  have r1 := fun h : e_H => r_steps (d := 259) (v := v) (h := h)
  have r2 := fun h : e_H => r_M_steps (d := 258) (v := v) (h := h)
  by_cases c1 : v < 1
  · simp only [c1, if_true] at r1 r2
    exact q_pairI_no hI (r1 S) (r2 S)
  · by_cases c2 : v ≤ 24
    · simp only [c1, c2, if_true, if_false] at r1 r2
      exact t_fl hI (Or.inl ⟨rfl, rfl⟩) (q_ok_fl hI.1 (fun _ => is_of 1 rfl rfl c1 c2) (fun q => by omega) (fun q => by omega) (by decide) (by decide)) hI.2.2.2.1.1 (r1 S) r2
    · simp only [c1, c2, if_false] at r1 r2
      exact q_pairI_no hI (r1 S) (r2 S)
theorem tp_set {S : e_H} (hI : q_I S) {w v : Int32} : q_pairI 260 36 98 [.int w, .int v] S := by
  by_cases w0 : w = 0
  · subst w0
    have r1 := fun h : e_H => r_set0 (d := 258) (v := v) (h := h)
    have r2 := fun h : e_H => r_M_set0 (d := 258) (v := v) (h := h)
    by_cases c1 : v < 0
    · simp only [c1, if_true] at r1 r2
      exact q_pairI_no hI (r1 S) (r2 S)
    · by_cases c2 : v ≤ 3
      · simp only [c1, c2, if_true, if_false] at r1 r2
        refine t_fl hI (Or.inr (Or.inl ⟨rfl, rfl⟩)) (q_ok_fl hI.1 (fun q => by omega) (fun _ => ?_) (fun q => by omega) (by decide) (by decide)) hI.2.2.2.1.2.1 (r1 S) r2
        obtain ⟨r, e, -, hr⟩ := is_of (p := 0) (q := 3) 0 rfl rfl c1 c2
        rcases (show r = 0 ∨ r = 1 ∨ r = 2 ∨ r = 3 by omega) with rfl | rfl | rfl | rfl
        · exact Or.inl e
        · exact Or.inr (Or.inl e)
        · exact Or.inr (Or.inr (Or.inl e))
        · exact Or.inr (Or.inr (Or.inr e))
      · simp only [c1, c2, if_false] at r1 r2
        exact q_pairI_no hI (r1 S) (r2 S)
  · by_cases w1 : w = 1
    · subst w1
      have r1 := fun h : e_H => r_set1 (d := 258) (v := v) (h := h)
      have r2 := fun h : e_H => r_M_set1 (d := 258) (v := v) (h := h)
      by_cases c1 : v < 1
      · simp only [c1, if_true] at r1 r2
        exact q_pairI_no hI (r1 S) (r2 S)
      · by_cases c2 : v ≤ 9
        · simp only [c1, c2, if_true, if_false] at r1 r2
          exact t_fl hI (Or.inr (Or.inr (Or.inl ⟨rfl, rfl⟩))) (q_ok_fl hI.1 (fun q => by omega) (fun q => by omega) (fun _ => is_of 1 rfl rfl c1 c2) (by decide) (by decide)) hI.2.2.2.1.2.2.1 (r1 S) r2
        · simp only [c1, c2, if_false] at r1 r2
          exact q_pairI_no hI (r1 S) (r2 S)
    · by_cases w2 : w = 2
      · subst w2
        have r1 := fun h : e_H => r_set2 (d := 258) (v := v) (h := h)
        have r2 := fun h : e_H => r_M_set2 (d := 258) (v := v) (h := h)
        by_cases c1 : v < 0
        · simp only [c1, if_true] at r1 r2
          exact q_pairI_no hI (r1 S) (r2 S)
        · by_cases c2 : v ≤ 50
          · simp only [c1, c2, if_true, if_false] at r1 r2
            exact t_fl hI (Or.inr (Or.inr (Or.inr (Or.inl ⟨rfl, rfl⟩)))) (q_ok_fl hI.1 (fun q => by omega) (fun q => by omega) (fun q => by omega) (by decide) (by decide)) hI.2.2.2.1.2.2.2.1 (r1 S) r2
          · simp only [c1, c2, if_false] at r1 r2
            exact q_pairI_no hI (r1 S) (r2 S)
      · exact q_pairI_no hI (r_setX (d := 258) w0 w1 w2) (r_M_setX (d := 258) w0 w1 w2)
theorem q_ok_lot {S : e_H} {a b : Int32} (h : q_ok S) {x y : Nat} (ha : q_is a x 0 y) (hb : q_is b y 1 9) : q_ok (e_pI (e_pI S 0 10 a) 0 11 b) := by
  obtain ⟨a1, a2, a3, a4, a5, a6, a7, a8, a9⟩ := h
  have eo : ∀ o, o ≠ 0 → e_gI (e_pI (e_pI S 0 10 a) 0 11 b) o = e_gI S o := fun o ho => by rw [e_pI_o ho, e_pI_o ho]
  have e0 : ∀ k, k ≠ 10 → k ≠ 11 → e_gI (e_pI (e_pI S 0 10 a) 0 11 b) 0 k = e_gI S 0 k := fun k h1 h2 => by rw [e_gI_pI, if_neg (fun q => h2 q.2), e_gI_pI, if_neg (fun q => h1 q.2)]
  have e10 : e_gI (e_pI (e_pI S 0 10 a) 0 11 b) 0 10 = a := by simp [e_gI_pI]
  have e11 : e_gI (e_pI (e_pI S 0 10 a) 0 11 b) 0 11 = b := by simp [e_gI_pI]
  have ca : a.toNatClampNeg = x := by rw [ha.1]; exact nI_clamp (by have := ha.2.2; have := hb.2.2; omega)
  have cb : b.toNatClampNeg = y := by rw [hb.1]; exact nI_clamp (by have := hb.2.2; omega)
  refine ⟨?_, ?_, ?_, ?_, ?_, fun s hs => ?_, fun s k hs hk => ?_, fun s k hs hk => ?_, ?_⟩
  · unfold q_n; rw [e0 6 (by decide) (by decide)]; exact a1
  · unfold q_way; rw [e0 7 (by decide) (by decide)]; exact a2
  · unfold q_R; rw [e0 8 (by decide) (by decide)]; exact a3
  · unfold q_a q_b; rw [e10, e11, ca, cb]; exact ha
  · unfold q_b; rw [e11, cb]; exact hb
  · unfold q_c; rw [eo 1 (by decide)]; exact a6 s hs
  · unfold q_N; rw [eo _ (by omega)]; exact a7 s k hs hk
  · unfold q_W; rw [eo _ (by omega)]; exact a8 s k hs hk
  · unfold q_rule q_L q_Z
    rw [eo 3 (by decide), eo 4 (by decide), eo 5 (by decide), eo 6 (by decide)]
    exact a9
theorem tp_lot {S : e_H} (hI : q_I S) {a b : Int32} : q_pairI 260 37 99 [.int a, .int b] S := by
  have r1 := fun h : e_H => r_lot (d := 259) (a := a) (b := b) (h := h)
  have r2 := fun h : e_H => r_M_lot (d := 258) (a := a) (b := b) (h := h)
  by_cases c1 : b < 1
  · simp only [c1, if_true] at r1 r2
    exact q_pairI_no hI (r1 S) (r2 S)
  · by_cases c2 : 9 < b
    · simp only [c1, c2, if_true, if_false] at r1 r2
      exact q_pairI_no hI (r1 S) (r2 S)
    · by_cases c3 : a < 0
      · simp only [c1, c2, c3, if_true, if_false] at r1 r2
        exact q_pairI_no hI (r1 S) (r2 S)
      · by_cases c4 : a ≤ b
        · simp only [c1, c2, c3, c4, if_true, if_false] at r1 r2
          obtain ⟨y, hy⟩ := is_of (v := b) (p := 1) (q := 9) 1 rfl rfl c1 (Int32.not_lt.mp c2)
          obtain ⟨x, hx⟩ := is_of (v := a) (m := b) (p := 0) (q := y) 0 rfl (by rw [hy.1]; exact nI_toInt (by have := hy.2.2; omega)) c3 c4
          obtain ⟨ok, w1, sl, m⟩ := hI
          refine q_pairI_of (T := e_pI (e_pI S 0 10 a) 0 11 b) (r1 S) (q_C.refl _) (r2 _) ?_ (((e_fr.refl _ _).pI (by simp)).pI (by simp)) (q_ok_lot ok hx hy) (q_w1_fl (q_w1_fl w1)) (q_sl_fl (q_sl_fl sl))
          have m1 : q_M (e_pI S 0 10 a) (e_pI (e_pI (e_pI S 0 10 a) 0 11 b) 40 7 a) := ((m.pI (by decide)).pI (by decide)).fl (Or.inr (Or.inr (Or.inr (Or.inr (Or.inl ⟨rfl, rfl⟩)))))
          exact m1.fl (Or.inr (Or.inr (Or.inr (Or.inr (Or.inr ⟨rfl, rfl⟩)))))
        · simp only [c1, c2, c3, c4, if_false] at r1 r2
          exact q_pairI_no hI (r1 S) (r2 S)
theorem tp_part {S : e_H} (hI : q_I S) {w : Int32} : q_pairJ 260 55 144 [.int w] S := by
  have m := hI.2.2.2.1
  have r1 := fun h : e_H => r_part (d := 259) (w := w) (h := h)
  have r2 := fun h : e_H => r_M_part (d := 259) (w := w) (h := h)
  by_cases c0 : w = 0
  · simp only [c0, if_true] at r1 r2
    rw [c0]
    refine q_pairJ_no hI (r1 S) ?_
    rw [← m.2.2.2.2.2.2.2.1]
    exact r2 S
  · by_cases c1 : w = 1
    · subst c1
      simp only [c0, if_true, if_false] at r1 r2
      refine q_pairJ_no hI (r1 S) ?_
      rw [← m.2.2.2.2.2.2.2.2]
      exact r2 S
    · simp only [c0, c1, if_false] at r1 r2
      exact q_pairJ_no hI (r1 S) (r2 S)
theorem tp_count {S : e_H} (hI : q_I S) {w : Int32} : q_pairI 260 56 145 [.int w] S := by
  have m := hI.2.2.2.2.1
  have r1 := fun h : e_H => r_count (d := 258) (s := w) (h := h)
  have r2 := fun h : e_H => r_M_count (d := 257) (s := w) (h := h)
  by_cases c0 : w = 0
  · subst c0
    simp only [if_true] at r1 r2
    refine q_pairI_no hI (r1 S) ?_
    rw [← m 0 (by decide)]
    exact r2 S
  · by_cases c1 : w = 1
    · subst c1
      simp only [c0, if_true, if_false] at r1 r2
      refine q_pairI_no hI (r1 S) ?_
      rw [← m 1 (by decide)]
      exact r2 S
    · simp only [c0, c1, if_false] at r1 r2
      exact q_pairI_no hI (r1 S) (r2 S)
theorem tp_digest {S : e_H} (hI : q_I S) : q_pairJ 260 57 146 [] S := q_pairJ_no hI (r_digest (d := 258) hI.1) (r_M_digest (d := 258) hI.1 hI.2.2.2)
