theorem z_join {L : Nat} (hL : L < 5) {c : Int32} (h : c_joins L c = true) : m_rank c = nI (L + 1) ∧ ¬ 1000 ≤ c ∧ ¬ (c = 1 ∨ c = 2) ∧ ¬ (c = 3 ∨ c = 33) := by
  have key : ∀ x : Int32, c = x → (m_rank x = nI (L + 1) ∧ ¬ 1000 ≤ x ∧ ¬ (x = 1 ∨ x = 2) ∧ ¬ (x = 3 ∨ x = 33)) → m_rank c = nI (L + 1) ∧ ¬ 1000 ≤ c ∧ ¬ (c = 1 ∨ c = 2) ∧ ¬ (c = 3 ∨ c = 33) := fun x e k => by rw [e]; exact k
  rcases (show L = 0 ∨ L = 1 ∨ L = 2 ∨ L = 3 ∨ L = 4 by omega) with rfl | rfl | rfl | rfl | rfl
  · exact key 124 (of_decide_eq_true h) (by decide)
  · exact key 38 (of_decide_eq_true h) (by decide)
  · rcases (of_decide_eq_true h : c = 60 ∨ c = 62 ∨ c = 61) with z | z | z
    · exact key 60 z (by decide)
    · exact key 62 z (by decide)
    · exact key 61 z (by decide)
  · rcases (of_decide_eq_true h : c = 43 ∨ c = 45) with z | z
    · exact key 43 z (by decide)
    · exact key 45 z (by decide)
  · rcases (of_decide_eq_true h : c = 42 ∨ c = 47) with z | z
    · exact key 42 z (by decide)
    · exact key 47 z (by decide)
theorem m_red_app : ∀ (P : List Int32) (W : List Int64) (c : Int32) (v : Int64), W.length = P.length + 1 → m_red (P ++ [c]) (W ++ [v]) = s_join c v (m_red P W) := by
  intro P
  induction P with
  | nil =>
    intro W c v h
    match W, h with
    | [x], _ => rfl
  | cons a P ih =>
    intro W c v h
    match W, h with
    | b :: x :: W2, h => exact ih (s_join a x b :: W2) c v (by simp at h ⊢; omega)
theorem m_dn_mono {r r2 c : Int32} (h : m_dn r c) (hr : r2 ≤ r) : m_dn r2 c := by
  refine ⟨h.1, fun z => h.2 ?_⟩
  rw [Int32.lt_iff_toInt_lt] at z ⊢
  rw [Int32.le_iff_toInt_le] at hr
  omega
theorem z_nx_app {L : Nat} {P X : List Int32} {c : Int32} (h : z_nx L P c) : z_nx L (P ++ X) c := by
  refine ⟨h.1, fun h1 h2 => ?_⟩
  obtain ⟨P2, t, R, e, r⟩ := h.2 h1 h2
  exact ⟨P2, t, R ++ X, by rw [e]; simp, r⟩
theorem c_lp_bad {rc : c_S → c_S} {T : Nat → Int32} {n L : Nat} : ∀ (t : Nat) (s : c_S), ¬ s.1 = -1 → c_lp rc T n L t s = s := by
  intro t s h
  cases t with
  | zero => rfl
  | succ t => unfold c_lp; rw [if_pos h]
theorem c_emit_1 (s : c_S) (c o : Int32) : (c_emit s c o).1 = s.1 := by unfold c_emit; split <;> rfl
theorem z_lp {f d n op L : Nat} (hn : n ≤ 40) (hL : L < 5) (hop : op ≤ 8) {T : Nat → Int32} {h : e_H} (RS : z_RS f d n T h) (hf : 6 * (8 - op) + (6 - (L + 1)) ≤ f) {X0 : Option e_R} {V : List Int64} {S : List Int32} {cs0 : List (Int32 × Int32)} {p0 : Nat} (hS : z_top L S) (hcs0 : cs0.length ≤ p0) : ∀ (t : Nat) (s : c_S) (es : List (Int32 × Int32)) (v : Int64) (P : List Int32) (W : List Int64) (g : e_H) (p2 : Nat) (a5 : Value), s.1 = -1 → s.2.2 = cs0 ++ es → v_pu (e_gJ h 47) es v → p0 < s.2.1 → s.2.1 ≤ n → es.length + p0 ≤ s.2.1 → c_skip T n p2 = c_skip T n s.2.1 → X0 = m_H d op 0 a5 g → m_P T n h g (-1) p2 (W ++ V) (P ++ S) → W.length = P.length + 1 → m_red P W = v → (∀ c ∈ P, m_dn (nI (L + 1)) c) → (L = 2 → 0 < t → ∀ c ∈ P, m_dn 4 c) → z_nx (L + 1) P (c_ch T n (c_skip T n s.2.1)) → (t = 0 → z_nx L P (c_ch T n (c_skip T n s.2.1))) → (W ++ V).length ≤ s.2.1 → (P ++ S).length ≤ s.2.1 → (L ≠ 2 → 41 ≤ s.2.1 + t) → (L = 2 → t ≤ 1) → z_ok X0 d op n T h L V S cs0 p0 (c_lp (c_lvl T n f (L + 1) op) T n L t s) ∨ z_bad X0 h (c_lp (c_lvl T n f (L + 1) op) T n L t s) := by
  intro t
  induction t with
  | zero =>
    intro s es v P W g p2 a5 h0 h1 h2 h3 h4 h5 h6 h7 h8 h9 h10 h11 _ h13 h14 h15 h16 _ _
    exact Or.inl ⟨es, v, P, W, g, p2, a5, h0, h1, h2, h3, h4, h5, h6, h7, h8, h9, h10, h11, h14 rfl, h15, h16⟩
  | succ t ih =>
    intro s es v P W g p2 a5 h0 h1 h2 h3 h4 h5 h6 h7 h8 h9 h10 h11 h12 h13 _ h15 h16 h17 h18
    have lk := c_skip_le (T := T) h4
    unfold c_lp
    rw [if_neg (by rw [h0]; decide)]
    by_cases hj : c_joins L (c_ch T n (c_skip T n s.2.1)) = true
    · rw [if_pos hj]
      obtain ⟨j1, j2, j3, j4⟩ := z_join hL hj
      have hlt : c_skip T n s.2.1 < n := c_ch_lt (by
        intro z
        rw [z] at j1
        have : ∀ L, L < 5 → ¬ m_rank (-1) = nI (L + 1) := by decide
        exact this L hL j1)
      generalize hq : c_skip T n s.2.1 = q at *
      generalize hc : c_ch T n q = c at *
      have hwr : (∀ x ∈ P, m_dn (m_wr c) x) ∧ (nI (L + 1) ≤ m_wr c) ∧ (m_rank c = 3 → L = 2) := by
        unfold m_wr
        by_cases c3 : m_rank c = 3
        · have hL2 : L = 2 := by
            rw [j1, show (3 : Int32) = nI 3 from rfl, nI_eq (by omega) (by decide)] at c3
            omega
          rw [if_pos c3]
          exact ⟨h12 hL2 (by omega), by rw [hL2]; decide, fun _ => hL2⟩
        · rw [if_neg c3, j1]
          exact ⟨h11, by rw [Int32.le_iff_toInt_le]; omega, fun z => absurd (j1.trans z) c3⟩
      have hpos : 0 < m_rank c := by rw [j1, Int32.lt_iff_toInt_lt, nI_toInt (by omega)]; show (0 : Int) < _; omega
      have hlW : 1 ≤ W.length := by omega
      simp only [List.length_append] at h15 h16
      obtain ⟨g2, a6, m1, m2⟩ := m_s_op (d := d) (op := op) (a4 := a5) hn h8 (by rw [h6, hc]; exact hpos) h9 (by rw [h6, hc]; exact hwr.1) (by
        rw [h6, hc]
        intro x R e
        rcases hS x R e with z | ⟨z1, z2⟩
        · exact Or.inl (by rw [z]; decide)
        · refine Or.inr ?_
          have := hwr.2.1
          rw [Int32.lt_iff_toInt_lt] at z2 ⊢
          rw [Int32.le_iff_toInt_le] at this
          omega) (by
        rw [h6, hc]
        intro c3 x R e
        rcases hS x R e with z | ⟨z1, z2⟩
        · exact Or.inl (by rw [z]; decide)
        · refine Or.inr (fun z3 => ?_)
          rw [z3, hwr.2.2 c3] at z2
          exact absurd z2 (by decide)) (by omega)
      rw [h6, hc, h10] at m2
      have rs := RS (L + 1) op (s.1, q + 1, s.2.2) (v :: V) (c :: S) g2 a6 (q + 1) (by omega) hop hf h0 (by show s.2.2.length ≤ q + 1; rw [h1]; simp; omega) (by show q + 1 ≤ n; omega) rfl m2 (by
        intro x R e
        cases e
        refine Or.inr ⟨j2, ?_⟩
        rw [j1]
        exact nI_lt (by omega) (by omega)) (by simp; omega) (by simp; omega)
      generalize hs2 : c_lvl T n f (L + 1) op (s.1, q + 1, s.2.2) = s2 at *
      rcases rs with ⟨es2, v2, P2, W2, g3, p3, a7, r1, r2, r3, r4, r5, r6, r7, r8, r9, r10, r11, r12, r13, r14, r15⟩ | ⟨g3, r1, r2, r3⟩
      · dsimp only at r2 r4 r6
        rw [h1] at r2
        have hle : s2.2.2.length < 40 := by rw [r2]; simp; omega
        rw [c_emit_ok hle]
        simp only [List.length_append, List.length_cons] at r14 r15
        refine ih (s2.1, s2.2.1, s2.2.2 ++ [(c, 0)]) (es ++ (es2 ++ [(c, 0)])) (s_join c v v2) (P2 ++ [c]) (W2 ++ [v]) g3 p3 a7 r1 ?_ (h2.join r3 j3 j4) ?_ r5 ?_ r7 (h7.trans (m1.trans r8)) ?_ ?_ ?_ ?_ ?_ (z_nx_app r13) ?_ ?_ ?_ ?_ ?_
        · dsimp only; rw [r2]; simp
        · dsimp only; omega
        · dsimp only; simp; omega
        · rw [List.append_assoc, List.append_assoc]; exact r9
        · simp; omega
        · rw [m_red_app _ _ _ _ r10, r11]
        · intro x hx
          rcases List.mem_append.mp hx with z | z
          · exact m_dn_mono (r12 x z) (nI_le (by omega) (by omega))
          · rw [List.mem_singleton] at z
            rw [z]
            exact ⟨j2, by rw [j1]; exact nI_nlt (Nat.le_refl _) (by omega)⟩
        · intro e1 e2
          have := h18 e1
          omega
        · intro e1
          have hL2 : L = 2 := by
            rcases Nat.decEq L 2 with z | z
            · have := h17 z; omega
            · exact z
          subst hL2
          refine ⟨fun M m1 m2 m3 => r13.1 M (by omega) m2 m3, fun _ hj2 => ⟨P2, c, [], rfl, r12, j2, j1⟩⟩
        · dsimp only; simp; omega
        · dsimp only; simp; omega
        · intro z; have := h17 z; dsimp only; omega
        · intro z; have := h18 z; omega
      · refine Or.inr ?_
        have hfl : ¬ (c_emit s2 c 0).1 = -1 := by rw [c_emit_1]; exact r1
        rw [c_lp_bad _ _ hfl]
        refine ⟨g3, hfl, h7.trans (m1.trans r2), ?_⟩
        rw [c_emit_1]
        exact r3
    · rw [if_neg hj]
      refine Or.inl ⟨es, v, P, W, g, p2, a5, h0, h1, h2, ?_, lk.2, ?_, ?_, h7, h8, h9, h10, h11, ?_, ?_, ?_⟩
      · dsimp only; omega
      · dsimp only; omega
      · dsimp only; rw [c_skip_id h4]; exact h6
      · dsimp only
        rw [c_skip_id h4]
        refine ⟨fun M m1 m2 m3 => ?_, fun m1 m2 => ?_⟩
        · by_cases e : M = L
          · subst e
            cases hb : c_joins M (c_ch T n (c_skip T n s.2.1)) with
            | false => rfl
            | true => exact absurd hb hj
          · exact h13.1 M (by omega) m2 m3
        · by_cases e : L = 2
          · subst e; exact absurd m2 hj
          · exact h13.2 (by omega) m2
      · dsimp only; omega
      · dsimp only; omega
theorem z_all {d n : Nat} (hn : n ≤ 40) {T : Nat → Int32} {h : e_H} : ∀ f, z_RS f d n T h := by
  intro f
  induction f with
  | zero => intro L op s V S g a4 pM hL hop hf; omega
  | succ f RS =>
    intro L op s V S g a4 pM hL hop hf h0 hcs hsn hsk hP hS hV hSl
    unfold c_lvl
    by_cases c5 : 5 ≤ L
    · rw [if_pos c5]
      have hL5 : L = 5 := by omega
      subst hL5
      exact z_unit hn RS hop (fun _ => by omega) h0 hcs hsn hsk hP (fun c R e => by
        rcases hS c R e with z | ⟨z, _⟩
        · rw [z]; decide
        · rw [Int32.le_iff_toInt_le] at z ⊢
          omega) hV hSl
    · rw [if_neg c5]
      have hS1 : z_top (L + 1) S := fun c R e => by
        rcases hS c R e with z | ⟨z1, z2⟩
        · exact Or.inl z
        · refine Or.inr ⟨z1, ?_⟩
          have : nI (L + 1) < nI (L + 1 + 1) := nI_lt (by omega) (by omega)
          rw [Int32.lt_iff_toInt_lt] at *
          omega
      have rs := RS (L + 1) op s V S g a4 pM (by omega) hop (by omega) h0 hcs hsn hsk hP hS1 hV hSl
      rcases rs with ⟨es, v, P, W, g2, p2, a5, r1, r2, r3, r4, r5, r6, r7, r8, r9, r10, r11, r12, r13, r14, r15⟩ | ⟨g2, r1, r2, r3⟩
      · have hd1 : ∀ c ∈ P, m_dn (nI (L + 1)) c := fun c hc => m_dn_mono (r12 c hc) (nI_le (by omega) (by omega))
        refine z_lp hn (by omega) hop RS (by omega) hS hcs _ _ es v P W g2 p2 a5 r1 r2 r3 r4 r5 r6 r7 r8 r9 r10 r11 hd1 ?_ r13 ?_ r14 r15 ?_ ?_
        · intro e _ c hc
          subst e
          exact r12 c hc
        · intro e
          split at e <;> omega
        · intro e
          rw [if_neg e]
          omega
        · intro e
          rw [if_pos e]
          omega
      · refine Or.inr ?_
        rw [c_lp_bad _ _ r1]
        exact ⟨g2, r1, r2, r3⟩
/-- the two readers of a text tell the same -/
theorem r_M_reads {d n : Nat} (hn : n ≤ 40) {T : Nat → Int32} {h : e_H} (h10 : e_gI h 40 10 = nI n) (hT : ∀ k, e_gI h 44 k = T k) : ∃ g told, e_X e_pg (d + 4) 109 [.ref 40] h = some (some (.int (if (c_comp T n).1 = -1 then 1 else 0)), g) ∧ m_E h g (c_comp T n).1 told ∧ ((c_comp T n).1 = -1 → v_pu (e_gJ h 47) (c_comp T n).2.2 told) := by
  have hP0 : m_P T n h (e_pI (e_pI (e_pI (e_pI h 40 13 0) 40 14 (-1)) 40 16 0) 40 18 0) (-1) 0 [] [] :=
    ⟨by simp [e_gI_pI, h10], fun k => by simp [e_gI_pI, hT], ((((m_Fr.refl h).p40 (by simp)).p40 (by simp)).p40 (by simp)).p40 (by simp), by simp [e_gI_pI], by simp [e_gI_pI, nI_0], by omega, by simp [e_gI_pI, nI_0], by simp, fun i hi => by simp at hi, by simp [e_gI_pI, nI_0], by simp, fun i hi => by simp at hi⟩
  have hX : e_X e_pg (d + 4) 109 [.ref 40] h = m_H d 0 1 .null (e_pI (e_pI (e_pI (e_pI h 40 13 0) 40 14 (-1)) 40 16 0) 40 18 0) := by
    rw [xX4_reads]
    simp only [zX4_reads_0, zX4_reads_1, zX4_reads_2, zX4_reads_5, zX4_reads_6, zX4_reads_7, zX4_reads_10, zX4_reads_11, zX4_reads_12, zX4_reads_15, zX4_reads_16, zX4_reads_17, zX4_reads_20, zX4_reads_21, zX4_reads_22, zX4_reads_23, zX4_reads_24, zX4_reads_25, e_k_int, e_k_ref, e_k_null, e_k_long, e_k_ret, e_cats_nil, e_cats_int, e_cats_ref, e_cats_ret, e_cats_long, Option.toList_some, Option.toList_none, List.nil_append, List.cons_append, Option.bind_some, Nat.reduceAdd, Nat.reduceLeDiff, Nat.add_zero, if_true, if_false, true_and, and_true, and_self, Int32.reduceToNatClampNeg]
    rfl
  rw [hX]
  have rs := z_all (d := d) hn 60 0 0 (-1, 0, []) [] [] _ .null 0 (by omega) (by omega) (by omega) rfl (by simp) (by simp) rfl hP0 (fun c R e => by cases e) (by simp) (by simp)
  unfold c_comp
  obtain ⟨s1, hs1⟩ : ∃ s1, c_lvl T n 60 0 0 (-1, 0, []) = s1 := ⟨_, rfl⟩
  rw [hs1] at rs
  simp only [hs1]
  rcases rs with ⟨es, v, P, W, g2, p2, a5, r1, r2, r3, r4, r5, r6, r7, r8, r9, r10, r11, r12, r13, r14, r15⟩ | ⟨g2, r1, r2, r3⟩
  · rw [r8]
    rw [List.append_nil, List.append_nil] at r9
    have lk := c_skip_le (T := T) r5
    by_cases ce : c_ch T n (c_skip T n s1.2.1) = -1
    · obtain ⟨g3, e1, e2⟩ := m_s_end (d := d) (a4 := a5) hn r9 (by rw [r7]; exact ce) r10 (fun c hc => r12 c hc)
      refine ⟨g3, v, ?_, ?_, ?_⟩
      · simp only [ce, if_true, r1]
        exact e1
      · simp only [ce, if_true, r1]
        rw [r11] at e2
        exact e2
      · intro _
        simp only [ce, if_true]
        rw [r2]
        exact r3
    · have r9' : m_P T n h g2 (-1) p2 (W ++ []) (P ++ []) := by rw [List.append_nil, List.append_nil]; exact r9
      obtain ⟨g3, e1, e2⟩ := z_stray (d := d) (op := 0) (a4 := a5) hn (by omega) r9' r10 (by rw [r7]; exact r13) (fun _ => rfl) (by rw [r7]; exact fun z => absurd z ce)
      rw [r7] at e2
      have hne : ¬ 10 * nI (c_skip T n s1.2.1) + 1 = -1 := z_fault_ne (k := 1) (by omega) (by decide)
      have hfl : (c_spoil (s1.1, c_skip T n s1.2.1, s1.2.2) (c_skip T n s1.2.1) 1).1 = 10 * nI (c_skip T n s1.2.1) + 1 := c_spoil_1 (s := (s1.1, c_skip T n s1.2.1, s1.2.2)) r1 _ _
      refine ⟨g3, 0, ?_, ?_, ?_⟩
      · simp only [ce, if_false, hfl, hne]
        exact e1
      · simp only [ce, if_false, hfl]
        exact e2
      · intro z
        simp only [ce, if_false, hfl] at z
        exact absurd z hne
  · have hfl : (if c_ch T n (c_skip T n s1.2.1) = -1 then (s1.1, c_skip T n s1.2.1, s1.2.2) else c_spoil (s1.1, c_skip T n s1.2.1, s1.2.2) (c_skip T n s1.2.1) 1).1 = s1.1 := by
      split
      · rfl
      · unfold c_spoil
        rw [if_pos r1]
    refine ⟨g2, 0, ?_, ?_, ?_⟩
    · rw [hfl, if_neg r1]
      exact r2
    · rw [hfl]
      exact r3
    · intro z
      rw [hfl] at z
      exact absurd z r1
/-- the class's work of the codes is what they lay -/
theorem s_run_ev {C O : Nat → Int32} {Lt : Nat → Int64} {cs : List (Int32 × Int32)} (hc : cs.length ≤ 40) (h : ∀ i, i < cs.length → cs[i]? = some (C i, O i)) : ∀ k, k ≤ cs.length → s_run C O Lt k = v_ev Lt (cs.take k) [] ∧ (s_run C O Lt k).length ≤ k := by
  intro k
  induction k with
  | zero => intro _; exact ⟨by simp [s_run, v_ev], by simp [s_run]⟩
  | succ k ih =>
    intro hk
    obtain ⟨h1, h2⟩ := ih (by omega)
    have e : cs.take (k + 1) = cs.take k ++ [(C k, O k)] := by
      rw [List.take_add_one, h k (by omega)]
      rfl
    have e2 : s_wst Lt (C k) (O k) (s_run C O Lt k) = v_st Lt (C k) (O k) (s_run C O Lt k) := by
      unfold s_wst v_st
      rw [if_neg (show ¬ 40 ≤ (s_run C O Lt k).length by omega)]
      rfl
    refine ⟨?_, ?_⟩
    · rw [s_run, e, v_ev_app, ← h1, e2]
      rfl
    · rw [s_run, e2]
      unfold v_st
      split
      · simp; omega
      · split
        · split
          · simp
          · rename_i _ x r heq
            rw [heq] at h2
            simp at h2 ⊢
            omega
        · split
          · rename_i _ b a r heq
            rw [heq] at h2
            simp at h2 ⊢
            omega
          · omega
theorem s_run_pu {C O : Nat → Int32} {Lt : Nat → Int64} {cs : List (Int32 × Int32)} {v : Int64} (hc : cs.length ≤ 40) (h : ∀ i, i < cs.length → cs[i]? = some (C i, O i)) (hv : v_pu Lt cs v) : (s_run C O Lt cs.length).getLastD 0 = v := by
  rw [(s_run_ev hc h cs.length (Nat.le_refl _)).1, List.take_length, hv]
  rfl
