/-- what may come behind a level that was read: a sign of it or of a finer one only if it is a second comparison -/
def z_nx (L : Nat) (P : List Int32) (c : Int32) : Prop := (∀ M, L ≤ M → M < 5 → M ≠ 2 → c_joins M c = false) ∧ (L ≤ 2 → c_joins 2 c = true → ∃ P2 t R, P = P2 ++ t :: R ∧ (∀ x ∈ P2, m_dn 4 x) ∧ ¬ 1000 ≤ t ∧ m_rank t = 3)
def z_ok (X0 : Option e_R) (d op n : Nat) (T : Nat → Int32) (h : e_H) (L : Nat) (V : List Int64) (S : List Int32) (cs0 : List (Int32 × Int32)) (p0 : Nat) (s : c_S) : Prop := ∃ (es : List (Int32 × Int32)) (v : Int64) (P : List Int32) (W : List Int64) (g2 : e_H) (p2 : Nat) (a5 : Value), s.1 = -1 ∧ s.2.2 = cs0 ++ es ∧ v_pu (e_gJ h 47) es v ∧ p0 < s.2.1 ∧ s.2.1 ≤ n ∧ es.length + p0 ≤ s.2.1 ∧ c_skip T n p2 = c_skip T n s.2.1 ∧ X0 = m_H d op 0 a5 g2 ∧ m_P T n h g2 (-1) p2 (W ++ V) (P ++ S) ∧ W.length = P.length + 1 ∧ m_red P W = v ∧ (∀ c ∈ P, m_dn (nI (L + 1)) c) ∧ z_nx L P (c_ch T n (c_skip T n s.2.1)) ∧ (W ++ V).length ≤ s.2.1 ∧ (P ++ S).length ≤ s.2.1
def z_bad (X0 : Option e_R) (h : e_H) (s : c_S) : Prop := ∃ g2, ¬ s.1 = -1 ∧ X0 = some (some (.int 0), g2) ∧ m_E h g2 s.1 0
/-- the signs below a level -/
def z_top (L : Nat) (S : List Int32) : Prop := ∀ c R, S = c :: R → c = 1000 ∨ (¬ 1000 ≤ c ∧ m_rank c < nI (L + 1))
def z_RS (f d n : Nat) (T : Nat → Int32) (h : e_H) : Prop := ∀ (L op : Nat) (s : c_S) (V : List Int64) (S : List Int32) (g : e_H) (a4 : Value) (pM : Nat), L ≤ 5 → op ≤ 8 → 6 * (8 - op) + (6 - L) ≤ f → s.1 = -1 → s.2.2.length ≤ s.2.1 → s.2.1 ≤ n → c_skip T n pM = c_skip T n s.2.1 → m_P T n h g (-1) pM V S → z_top L S → V.length ≤ s.2.1 → S.length ≤ s.2.1 → z_ok (m_H d op 1 a4 g) d op n T h L V S s.2.2 s.2.1 (c_lvl T n f L op s) ∨ z_bad (m_H d op 1 a4 g) h (c_lvl T n f L op s)
theorem c_spoil_1 {s : c_S} (h : s.1 = -1) (w : Nat) (k : Int32) : (c_spoil s w k).1 = 10 * nI w + k := by
  unfold c_spoil
  rw [if_neg (by rw [h]; decide)]
theorem z_fault_ne {w k : Nat} (hw : w ≤ 40) (hk : k ≤ 3) : ¬ 10 * nI w + nI k = -1 := by
  intro z
  have hh : (10 * nI w + nI k).toInt = -1 := by rw [z]; rfl
  rw [show (10 : Int32) = nI 10 from rfl, pk_mul, nI_add, nI_toInt (by omega)] at hh
  omega
/-- the signs ahead of a unit -/
theorem z_signs {d op n first : Nat} (hn : n ≤ 40) {T : Nat → Int32} {h : e_H} {V : List Int64} {S : List Int32} (hS : S.length ≤ first) : ∀ (f : Nat) (g : e_H) (a4 : Value) (pM q : Nat), first ≤ q → q ≤ n → c_skip T n pM = q → m_P T n h g (-1) pM V (z_us T first (q - first) ++ S) → ∃ g2 a5 p2, m_H d op 1 a4 g = m_H d op 1 a5 g2 ∧ c_skip T n p2 = c_sg T n f q ∧ q ≤ c_sg T n f q ∧ m_P T n h g2 (-1) p2 V (z_us T first (c_sg T n f q - first) ++ S) := by
  intro f
  induction f with
  | zero => intro g a4 pM q h1 h2 h3 hP; exact ⟨g, a4, pM, rfl, h3, Nat.le_refl _, hP⟩
  | succ f ih =>
    intro g a4 pM q h1 h2 h3 hP
    unfold c_sg
    by_cases hc : c_ch T n q = 33 ∨ c_ch T n q = 45
    · rw [if_pos hc]
      have hlt : q < n := c_ch_lt (by rcases hc with hc | hc <;> rw [hc] <;> decide)
      have hT : c_ch T n q = T q := by unfold c_ch; rw [if_pos hlt]
      have hul := z_us_len (T := T) (first := first) (q - first)
      obtain ⟨g2, a5, e1, e2⟩ := m_s_un (d := d) (op := op) (a4 := a4) hn hP (by rw [h3]; exact hc) (by rw [List.length_append]; omega)
      rw [h3] at e2
      have hk := c_skip_le (T := T) (n := n) (p := q + 1) (by omega)
      have hu : (if c_ch T n q = 33 then (1001 : Int32) else 1002) :: (z_us T first (q - first) ++ S) = z_us T first (c_skip T n (q + 1) - first) ++ S := by
        have e3 : z_us T first (c_skip T n (q + 1) - first) = z_us T first (q - first + 1) := by
          have := z_us_bl (T := T) (first := first) (c_skip T n (q + 1) - (q + 1)) (q - first + 1) (fun i h1 h2 => c_skip_bl (n := n) (p := q + 1) (by omega) (by omega))
          rw [← this]
          congr 1
          omega
        have e4 : first + (q - first) = q := by omega
        rw [e3, z_us, e4, hT]
        rw [hT] at hc
        by_cases c33 : T q = 33
        · rw [if_pos c33, if_pos c33]; rfl
        · rcases hc with z | z
          · exact absurd z c33
          · rw [if_neg c33, if_neg c33, if_pos z]; rfl
      rw [hu] at e2
      obtain ⟨g3, a6, p3, q1, q2, q3, q4⟩ := ih g2 a5 (q + 1) (c_skip T n (q + 1)) (by omega) hk.2 rfl e2
      exact ⟨g3, a6, p3, e1.trans q1, q2, by omega, q4⟩
    · rw [if_neg hc]
      exact ⟨g, a4, pM, rfl, h3, Nat.le_refl _, hP⟩
theorem c_let_neg (c : Int32) : (c_let c < 0) ↔ c_let c = -1 := by
  unfold c_let
  repeat' split
  all_goals decide
theorem m_rank_j (c : Int32) (h : ¬ m_rank c = 0) : ∃ M, M < 5 ∧ c_joins M c = true ∧ m_rank c = nI (M + 1) := by
  unfold m_rank at h ⊢
  by_cases c1 : c = 38
  · exact ⟨1, by decide, by rw [c1]; rfl, by rw [if_pos c1]; rfl⟩
  · rw [if_neg c1] at h ⊢
    by_cases c2 : c = 42
    · exact ⟨4, by decide, by rw [c2]; rfl, by rw [if_pos c2]; rfl⟩
    · rw [if_neg c2] at h ⊢
      by_cases c3 : c = 43
      · exact ⟨3, by decide, by rw [c3]; rfl, by rw [if_pos c3]; rfl⟩
      · rw [if_neg c3] at h ⊢
        by_cases c4 : c = 45
        · exact ⟨3, by decide, by rw [c4]; rfl, by rw [if_pos c4]; rfl⟩
        · rw [if_neg c4] at h ⊢
          by_cases c5 : c = 47
          · exact ⟨4, by decide, by rw [c5]; rfl, by rw [if_pos c5]; rfl⟩
          · rw [if_neg c5] at h ⊢
            by_cases c6 : c = 60
            · exact ⟨2, by decide, by rw [c6]; rfl, by rw [if_pos c6]; rfl⟩
            · rw [if_neg c6] at h ⊢
              by_cases c7 : c = 61
              · exact ⟨2, by decide, by rw [c7]; rfl, by rw [if_pos c7]; rfl⟩
              · rw [if_neg c7] at h ⊢
                by_cases c8 : c = 62
                · exact ⟨2, by decide, by rw [c8]; rfl, by rw [if_pos c8]; rfl⟩
                · rw [if_neg c8] at h ⊢
                  by_cases c9 : c = 124
                  · exact ⟨0, by decide, by rw [c9]; rfl, by rw [if_pos c9]; rfl⟩
                  · rw [if_neg c9] at h
                    exact absurd rfl h
/-- behind a whole value, what isn't its end: the model faults there -/
theorem z_stray {d op n : Nat} (hn : n ≤ 40) (hop : op ≤ 8) {a4 : Value} {T : Nat → Int32} {h g : e_H} {p : Nat} {V W : List Int64} {P S : List Int32} (hP : m_P T n h g (-1) p (W ++ V) (P ++ S)) (hl : W.length = P.length + 1) (hx : z_nx 0 P (c_ch T n (c_skip T n p))) (h1 : c_ch T n (c_skip T n p) = 41 → op = 0) (h3 : c_ch T n (c_skip T n p) = -1 → 0 < op) : ∃ g2, m_H d op 0 a4 g = some (some (.int 0), g2) ∧ m_E h g2 (10 * nI (c_skip T n p) + 1) 0 := by
  by_cases hr : m_rank (c_ch T n (c_skip T n p)) = 0
  · exact m_s_stray hn hP hop h1 hr h3
  · obtain ⟨M, hM, hj, hrk⟩ := m_rank_j _ hr
    have hM2 : M = 2 := by
      rcases Nat.decEq M 2 with z | z
      · have := hx.1 M (by omega) hM z
        rw [this] at hj
        cases hj
      · exact z
    subst hM2
    obtain ⟨P2, t, R, e, hd, t1, t2⟩ := hx.2 (by omega) hj
    subst e
    have hP2 : m_P T n h g (-1) p (W.take (P2.length + 1) ++ (W.drop (P2.length + 1) ++ V)) (P2 ++ t :: (R ++ S)) := by
      rw [← List.append_assoc, List.take_append_drop]
      rw [List.append_assoc, List.cons_append] at hP
      exact hP
    refine m_s_cmp hn hP2 hrk ?_ hd t1 t2
    rw [List.length_take]
    simp at hl
    omega
/-- a unit, over its groups -/
theorem z_unit {f d n op : Nat} (hn : n ≤ 40) {T : Nat → Int32} {h : e_H} (RS : z_RS f d n T h) (hop : op ≤ 8) (hf : op < 8 → 6 * (8 - (op + 1)) + 6 ≤ f) {s : c_S} {V : List Int64} {S : List Int32} {g : e_H} {a4 : Value} {pM : Nat} (h0 : s.1 = -1) (hcs : s.2.2.length ≤ s.2.1) (hsn : s.2.1 ≤ n) (hsk : c_skip T n pM = c_skip T n s.2.1) (hP : m_P T n h g (-1) pM V S) (hS : ∀ c R, S = c :: R → c ≤ 1000) (hV : V.length ≤ s.2.1) (hSl : S.length ≤ s.2.1) : z_ok (m_H d op 1 a4 g) d op n T h 5 V S s.2.2 s.2.1 (c_un (fun o s => c_lvl T n f 0 o s) T n op s) ∨ z_bad (m_H d op 1 a4 g) h (c_un (fun o s => c_lvl T n f 0 o s) T n op s) := by
  have l1 := c_skip_le (T := T) hsn
  have hu0 : z_us T s.2.1 (c_skip T n s.2.1 - s.2.1) = [] := by
    have := z_us_bl (T := T) (first := s.2.1) (c_skip T n s.2.1 - s.2.1) 0 (fun i h1 h2 => c_skip_bl (n := n) (p := s.2.1) (by omega) (by omega))
    rw [Nat.zero_add] at this
    exact this
  obtain ⟨g1, a5, p1, q1, q2, q3, q4⟩ := z_signs (d := d) (op := op) hn hSl 40 g a4 pM (c_skip T n s.2.1) l1.1 l1.2 hsk (by rw [hu0]; exact hP)
  rw [q1]
  have l2 := c_sg_le (T := T) (n := n) 40 _ l1.2
  have nos := c_sg_st (T := T) (n := n) 40 (c_skip T n s.2.1) (by omega) l1.2
  have sks := c_sg_skip (T := T) (n := n) 40 (c_skip T n s.2.1) l1.2 (c_skip_id hsn)
  unfold c_un
  generalize hq : c_sg T n 40 (c_skip T n s.2.1) = q at *
  have hum := z_us_mem (T := T) (first := s.2.1) (q - s.2.1)
  have hul := z_us_len (T := T) (first := s.2.1) (q - s.2.1)
  generalize hU : z_us T s.2.1 (q - s.2.1) = U at *
  have hn33 : ¬ c_ch T n q = 33 := fun z => nos (Or.inl z)
  have hn45 : ¬ c_ch T n q = 45 := fun z => nos (Or.inr z)
  have nx5 : ∀ c, z_nx 5 [] c := fun c => ⟨fun M h1 h2 => by omega, fun z => by omega⟩
  -- how a plain unit that was read ends
  have fin : ∀ (es : List (Int32 × Int32)) (v : Int64) (p' p2 : Nat) (g2 : e_H) (a6 : Value), q < p' → p' ≤ n → es.length + q ≤ p' → v_pu (e_gJ h 47) es v → c_skip T n p2 = c_skip T n p' → m_H d op 1 a5 g1 = m_H d op 0 a6 g2 → m_P T n h g2 (-1) p2 (m_un U v :: V) S → z_ok (m_H d op 1 a5 g1) d op n T h 5 V S s.2.2 s.2.1 (c_up T s.2.1 (q - s.2.1) (s.1, p', s.2.2 ++ es)) := by
    intro es v p' p2 g2 a6 h1 h2 h3 h4 h5 h6 h7
    rw [c_up_eq _ _ (by rw [hU]; simp; omega), hU]
    refine ⟨es ++ U.map z_cd, m_un U v, [], [m_un U v], g2, p2, a6, h0, ?_, ?_, ?_, h2, ?_, h5, h6, h7, rfl, rfl, fun c hc => (by cases hc), nx5 _, ?_, ?_⟩
    · simp
    · intro st
      rw [v_ev_app, h4, v_ev_us _ _ _ hum]
    · show s.2.1 < p'
      omega
    · simp; omega
    · simp; omega
    · simp; omega
  have bad : ∀ (s1 : c_S) (g2 : e_H) (fl : Int32), s1.1 = fl → ¬ fl = -1 → m_H d op 1 a5 g1 = some (some (.int 0), g2) → m_E h g2 fl 0 → (∀ k, (c_up T s.2.1 k s1).1 = s1.1) → z_bad (m_H d op 1 a5 g1) h (c_up T s.2.1 (q - s.2.1) s1) := by
    intro s1 g2 fl h1 h2 h3 h4 h5
    refine ⟨g2, ?_, h3, ?_⟩
    · rw [h5, h1]; exact h2
    · rw [h5, h1]; exact h4
  have upf : ∀ (s1 : c_S) (k : Nat), (c_up T s.2.1 k s1).1 = s1.1 := by
    intro s1 k
    induction k generalizing s1 with
    | zero => rfl
    | succ k ih =>
      unfold c_up
      rw [ih]
      have em : ∀ c o, (c_emit s1 c o).1 = s1.1 := fun c o => by unfold c_emit; split <;> rfl
      split
      · exact em _ _
      · split
        · exact em _ _
        · rfl
  unfold c_plain
  dsimp only
  by_cases c1 : c_dig (c_ch T n q) = 0
  · rw [if_neg (by rw [c1]; decide)]
    by_cases c2 : c_ch T n q = 40
    · rw [if_pos c2]
      unfold c_group
      dsimp only
      by_cases c8 : 8 ≤ op
      · rw [if_pos c8]
        refine Or.inr ?_
        obtain ⟨g2, b1, b2⟩ := m_s_bad (d := d) (op := op) (a4 := a5) hn q4 hop (by rw [q2]; exact c1) (by rw [q2, c2]; rfl) (by rw [q2]; exact hn33) (by rw [q2]; exact hn45) (fun _ => c8)
        rw [q2, if_pos c2] at b2
        exact bad _ g2 _ (c_spoil_1 (s := (s.1, q, s.2.2)) h0 q _) (z_fault_ne (k := 3) (by omega) (by decide)) b1 b2 (upf _)
      · rw [if_neg c8]
        have hlt : q < n := c_ch_lt (by rw [c2]; decide)
        obtain ⟨g2, a6, o1, o2⟩ := m_s_open (d := d) (op := op) (a4 := a5) hn q4 (by rw [q2]; exact c2) (by omega) (by rw [List.length_append]; omega)
        rw [q2] at o2
        have rs := RS 0 (op + 1) (s.1, q + 1, s.2.2) V (1000 :: (U ++ S)) g2 a6 (q + 1) (by omega) (by omega) (by have := hf (by omega); omega) h0 (by show s.2.2.length ≤ q + 1; omega) (by show q + 1 ≤ n; omega) rfl o2 (fun c R e => by cases e; exact Or.inl rfl) (by show V.length ≤ q + 1; omega) (by simp; omega)
        rw [o1]
        obtain ⟨s1, hs1⟩ : ∃ s1, c_lvl T n f 0 (op + 1) (s.1, q + 1, s.2.2) = s1 := ⟨_, rfl⟩
        rw [hs1] at rs
        simp only [hs1]
        rcases rs with ⟨es, v, P, W, g3, p3, a7, r1, r2, r3, r4, r5, r6, r7, r8, r9, r10, r11, r12, r13, r14, r15⟩ | ⟨g3, r1, r2, r3⟩
        · have lk := c_skip_le (T := T) r5
          by_cases c41 : c_ch T n (c_skip T n s1.2.1) = 41
          · rw [if_pos c41]
            refine Or.inl ?_
            have hlt2 : c_skip T n s1.2.1 < n := c_ch_lt (by rw [c41]; decide)
            obtain ⟨g4, a8, t1, t2⟩ := m_s_close (d := d) (op := op + 1) (a4 := a7) hn r9 (by rw [r7]; exact c41) (by omega) (by omega) r10 (fun c hc => r12 c hc) (by omega) hS hum
            rw [r7, r11] at t2
            rw [r7, Nat.add_sub_cancel] at *
            have := fin es v (c_skip T n s1.2.1 + 1) (c_skip T n s1.2.1 + 1) g4 a8 (by dsimp only at r4; omega) (by omega) (by dsimp only at r6; omega) r3 rfl (o1.trans (r8.trans t1)) t2
            rw [o1] at this
            rw [r1, r2]
            rw [h0] at this
            exact this
          · rw [if_neg c41]
            refine Or.inr ?_
            obtain ⟨g4, t1, t2⟩ := z_stray (d := d) (op := op + 1) (a4 := a7) hn (by omega) r9 r10 (by rw [r7]; exact r13) (by rw [r7]; exact fun z => absurd z c41) (fun _ => by omega)
            rw [r7] at t2
            have := bad (c_spoil (s1.1, c_skip T n s1.2.1, s1.2.2) (c_skip T n s1.2.1) 1) g4 _ (c_spoil_1 (s := (s1.1, c_skip T n s1.2.1, s1.2.2)) r1 _ _) (z_fault_ne (k := 1) (by omega) (by decide)) (o1.trans (r8.trans t1)) t2 (upf _)
            rw [o1] at this
            exact this
        · refine Or.inr ?_
          have hfl : ∀ s2 : c_S, s2.1 = s1.1 → z_bad (m_H d (op + 1) 1 a6 g2) h (c_up T s.2.1 (q - s.2.1) s2) := fun s2 e => by
            have := bad s2 g3 s1.1 e r1 (o1.trans r2) r3 (upf _)
            rw [o1] at this
            exact this
          split
          · exact hfl _ rfl
          · refine hfl _ ?_
            unfold c_spoil
            rw [if_pos r1]
    · rw [if_neg c2]
      by_cases c3 : c_ch T n q = -1
      · rw [if_pos c3]
        refine Or.inr ?_
        obtain ⟨g2, b1, b2⟩ := m_s_bad (d := d) (op := op) (a4 := a5) hn q4 hop (by rw [q2]; exact c1) (by rw [q2, c3]; rfl) (by rw [q2]; exact hn33) (by rw [q2]; exact hn45) (fun z => by rw [q2] at z; exact absurd z c2)
        rw [q2, if_neg c2] at b2
        exact bad _ g2 _ (c_spoil_1 (s := (s.1, q, s.2.2)) h0 q _) (z_fault_ne (k := 1) (by omega) (by decide)) b1 b2 (upf _)
      · rw [if_neg c3]
        by_cases c4 : c_let (c_ch T n q) < 0
        · rw [if_pos c4]
          refine Or.inr ?_
          obtain ⟨g2, b1, b2⟩ := m_s_bad (d := d) (op := op) (a4 := a5) hn q4 hop (by rw [q2]; exact c1) (by rw [q2]; exact (c_let_neg _).mp c4) (by rw [q2]; exact hn33) (by rw [q2]; exact hn45) (fun z => by rw [q2] at z; exact absurd z c2)
          rw [q2, if_neg c2] at b2
          exact bad _ g2 _ (c_spoil_1 (s := (s.1, q, s.2.2)) h0 q _) (z_fault_ne (k := 1) (by omega) (by decide)) b1 b2 (upf _)
        · rw [if_neg c4]
          refine Or.inl ?_
          have hlt : q < n := c_ch_lt c3
          have hle : ¬ c_let (c_ch T n q) = -1 := fun z => c4 ((c_let_neg _).mpr z)
          obtain ⟨g2, a6, b1, b2⟩ := m_s_let (d := d) (op := op) (a4 := a5) hn q4 (by rw [q2]; exact c1) (by rw [q2]; exact hle) (by omega) hS hum
          rw [q2] at b2
          rw [c_emit_ok (by show s.2.2.length < 40; omega)]
          refine fin [(2, c_let (c_ch T n q))] (e_gJ h 47 (c_let (c_ch T n q)).toNatClampNeg) (q + 1) (q + 1) g2 a6 (by omega) (by omega) (by simp; omega) (fun st => ?_) rfl b1 b2
          show v_st (e_gJ h 47) 2 (c_let (c_ch T n q)) st = _
          unfold v_st
          have h5 : ¬ 5 ≤ c_let (c_ch T n q) := by
            unfold c_let
            repeat' split
            all_goals decide
          rw [if_pos (Or.inr rfl), if_pos ⟨rfl, c4, h5⟩]
  · rw [if_pos c1]
    rcases m_s_dig (d := d) (op := op) (a4 := a5) hn q4 (by rw [q2]; exact c1) (by omega) hS hum with ⟨b0, g2, b1, b2⟩ | ⟨g2, p2, w, a6, b0, b1, b2⟩
    · rw [q2] at b0 b2
      refine Or.inr ?_
      exact bad _ g2 _ ((c_nm_nd 7 (s.1, q, s.2.2) 0 h0).1 b0) (z_fault_ne (k := 2) (by omega) (by decide)) b1 b2 (upf _)
    · rw [q2] at b0
      refine Or.inl ?_
      have hg := m_nd_gt1 c1 b0
      rw [(c_nm_nd 7 (s.1, q, s.2.2) 0 h0).2 p2 w b0, c_emit_ok (by show s.2.2.length < 40; omega)]
      refine fin [(1, w)] w.toInt64 p2 p2 g2 a6 hg.1 hg.2 (by simp; omega) (fun st => ?_) rfl b1 b2
      rfl
