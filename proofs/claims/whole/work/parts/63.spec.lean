/-! loops, in one row each -/
theorem f_lp {cd : e_Cd} {O : e_O} {pc : Nat} (I : Nat → List Value → e_H → Prop) {a n : Nat} (han : a ≤ n) (step : ∀ k ls h, a ≤ k → k < n → I k ls h → ∃ ls2 h2, e_F cd O pc ls [] h = e_F cd O pc ls2 [] h2 ∧ I (k + 1) ls2 h2) {ls : List Value} {h : e_H} (h0 : I a ls h) : ∃ ls2 h2, e_F cd O pc ls [] h = e_F cd O pc ls2 [] h2 ∧ I n ls2 h2 := by
  have : ∀ m k ls h, k + m = n → a ≤ k → I k ls h → ∃ ls2 h2, e_F cd O pc ls [] h = e_F cd O pc ls2 [] h2 ∧ I n ls2 h2 := by
    intro m
    induction m with
    | zero =>
      intro k ls h hk _ hi
      have : k = n := by omega
      subst this
      exact ⟨ls, h, rfl, hi⟩
    | succ m ih =>
      intro k ls h hk ha hi
      obtain ⟨l2, h2, e, i2⟩ := step k ls h ha (by omega) hi
      obtain ⟨l3, h3, e3, i3⟩ := ih (k + 1) l2 h2 (by omega) (by omega) i2
      exact ⟨l3, h3, e.trans e3, i3⟩
  exact this (n - a) a ls h (by omega) (Nat.le_refl _) h0
theorem f_lq {cd : e_Cd} {O : e_O} {pc : Nat} (I : Nat → List Value → e_H → Prop) (Q : Option e_R → Prop) {a n : Nat} (han : a ≤ n) (step : ∀ k ls h, a ≤ k → k < n → I k ls h → Q (e_F cd O pc ls [] h) ∨ ∃ ls2 h2, e_F cd O pc ls [] h = e_F cd O pc ls2 [] h2 ∧ I (k + 1) ls2 h2) (fin : ∀ ls h, I n ls h → Q (e_F cd O pc ls [] h)) {ls : List Value} {h : e_H} (h0 : I a ls h) : Q (e_F cd O pc ls [] h) := by
  have : ∀ m k ls h, k + m = n → a ≤ k → I k ls h → Q (e_F cd O pc ls [] h) := by
    intro m
    induction m with
    | zero =>
      intro k ls h hk _ hi
      have : k = n := by omega
      subst this
      exact fin ls h hi
    | succ m ih =>
      intro k ls h hk ha hi
      rcases step k ls h ha (by omega) hi with q | ⟨l2, h2, e, i2⟩
      · exact q
      · rw [e]
        exact ih (k + 1) l2 h2 (by omega) (by omega) i2
  exact this (n - a) a ls h (by omega) (Nat.le_refl _) h0
/-! what is settled depends on the shares 0 .. n alone -/
theorem s_prod_cg {G0 G1 B H0 H1 C : Nat → Int32} : ∀ k, (∀ x, x < k → G0 x = H0 x ∧ G1 x = H1 x ∧ B x = C x) → s_prod G0 G1 B k = s_prod H0 H1 C k := by
  intro k
  induction k with
  | zero => intro _; rfl
  | succ k ih =>
    intro h
    have q := ih (fun x hx => h x (by omega))
    obtain ⟨a, b, c⟩ := h k (by omega)
    simp only [s_prod, s_pst, q, a, b, c]
theorem s_best_cg {G0 G1 B H0 H1 C : Nat → Int32} {w : Int32} : ∀ k, k ≤ 100 → (∀ x, x < k → G0 x = H0 x ∧ G1 x = H1 x ∧ B x = C x) → s_best G0 G1 B w k = s_best H0 H1 C w k := by
  intro k
  induction k with
  | zero => intro _ _; rfl
  | succ k ih =>
    intro hk h
    have q := ih (by omega) (fun x hx => h x (by omega))
    obtain ⟨a, b, c⟩ := h k (by omega)
    simp only [s_best, s_bst, q, a, b, c]
    rcases s_best_in H0 H1 C w k with e | ⟨j, e1, e2⟩
    · rw [e, if_pos rfl, if_pos rfl]
    · rw [e2, nI_clamp (by omega), (h j (by omega)).1]
theorem s_go_cg {G H : Nat → Int32} {n : Nat} {dl t : Int32} {a : Int32 × Int32} (hn : n ≤ 24) (h : ∀ x, x ≤ n → G x = H x) (ha : s_sh n a.1) : s_go G dl t a = s_go H dl t a := by
  unfold s_go
  rcases ha with e | ⟨j, e1, e2⟩
  · rw [if_pos e, if_pos e]
  · rw [e2, nI_clamp (by omega), h j e1]
theorem s_off_cg {G0 G1 B H0 H1 C : Nat → Int32} {n : Nat} {dl : Int32} (hn : n ≤ 24) (h : ∀ x, x ≤ n → G0 x = H0 x ∧ G1 x = H1 x ∧ B x = C x) : ∀ (t : Nat) (a : Int32 × Int32), s_sh n a.1 → s_off G0 G1 B n dl t a = s_off H0 H1 C n dl t a := by
  have h0 : ∀ x, x ≤ n → G0 x = H0 x := fun x hx => (h x hx).1
  have h1 : ∀ x, x ≤ n → G1 x = H1 x := fun x hx => (h x hx).2.1
  intro t
  induction t with
  | zero => intro a _; rfl
  | succ t ih =>
    intro a ha
    have e : s_ost G0 G1 B n dl t a = s_ost H0 H1 C n dl t a := by
      unfold s_ost
      rw [s_go_cg hn h0 ha, s_go_cg hn h1 ha, s_best_cg (n + 1) (by omega) (fun x hx => h x (by omega)), s_best_cg (G0 := G1) (G1 := G0) (H0 := H1) (H1 := H0) (n + 1) (by omega) (fun x hx => ⟨h1 x (by omega), h0 x (by omega), (h x (by omega)).2.2⟩)]
      have k0 : ∀ w, ¬ s_best H0 H1 C w (n + 1) = -5 → G0 (s_best H0 H1 C w (n + 1)).toNatClampNeg = H0 (s_best H0 H1 C w (n + 1)).toNatClampNeg := fun w hw => by
        rcases s_best_sh H0 H1 C w n with q | ⟨j, q1, q2⟩
        · exact absurd q hw
        · rw [q2, nI_clamp (by omega), h0 j q1]
      have k1 : ∀ w, ¬ s_best H1 H0 C w (n + 1) = -5 → G1 (s_best H1 H0 C w (n + 1)).toNatClampNeg = H1 (s_best H1 H0 C w (n + 1)).toNatClampNeg := fun w hw => by
        rcases s_best_sh H1 H0 C w n with q | ⟨j, q1, q2⟩
        · exact absurd q hw
        · rw [q2, nI_clamp (by omega), h1 j q1]
      split
      · split
        · rfl
        · rename_i c
          rw [k0 _ c]
      · split
        · rfl
        · rename_i c
          rw [k1 _ c]
    show s_off G0 G1 B n dl t (s_ost G0 G1 B n dl t a) = s_off H0 H1 C n dl t (s_ost H0 H1 C n dl t a)
    rw [e]
    exact ih _ (s_ost_sh ha)
theorem s_lu_cg {B C : Nat → Int32} : ∀ k, (∀ x, x < k → B x = C x) → s_lu B k = s_lu C k := by
  intro k
  induction k with
  | zero => intro _; rfl
  | succ k ih =>
    intro h
    simp only [s_lu, ih (fun x hx => h x (by omega)), h k (by omega)]
theorem s_near_cg {B C : Nat → Int32} {w : Int32} : ∀ k, (∀ x, x < k → B x = C x) → s_near B w k = s_near C w k := by
  intro k
  induction k with
  | zero => intro _; rfl
  | succ k ih =>
    intro h
    simp only [s_near, s_nst, ih (fun x hx => h x (by omega)), h k (by omega)]
theorem s_rul_cg {B C : Nat → Int32} {n : Nat} {fl : Int32} {tl : Int32 → Int32 → Int64} (h : ∀ x, x ≤ n → B x = C x) : s_rul B n fl tl = s_rul C n fl tl := by
  unfold s_rul
  rw [s_lu_cg (n + 1) (fun x hx => h x (by omega)), s_near_cg (n + 1) (fun x hx => h x (by omega))]
theorem s_res_cg {G0 G1 B H0 H1 C : Nat → Int32} {n R : Nat} {way dl low rs : Int32} (hn : n ≤ 24) (h : ∀ x, x ≤ n → G0 x = H0 x ∧ G1 x = H1 x ∧ B x = C x) : s_res G0 G1 B n way R dl low rs = s_res H0 H1 C n way R dl low rs := by
  unfold s_res
  rw [s_off_cg hn h R (-5, -1) (Or.inl rfl), s_best_cg (n + 1) (by omega) (fun x hx => h x (by omega)), s_best_cg (G0 := G1) (G1 := G0) (H0 := H1) (H1 := H0) (n + 1) (by omega) (fun x hx => ⟨(h x (by omega)).2.1, (h x (by omega)).1, (h x (by omega)).2.2⟩), s_prod_cg (n + 1) (fun x hx => h x (by omega))]
theorem s_best_low {own oth B : Nat → Int32} {v w : Int32} : ∀ k, (∀ x, x < k → ¬ oth x < v ∧ ¬ oth x < w) → s_best own oth B v k = s_best own oth B w k := by
  intro k
  induction k with
  | zero => intro _; rfl
  | succ k ih =>
    intro h
    obtain ⟨a, b⟩ := h k (by omega)
    simp only [s_best, s_bst, ih (fun x hx => h x (by omega)), a, b, if_false]
theorem s_best_none {own oth B : Nat → Int32} {w : Int32} : ∀ k, k ≤ 100 → (∀ x, x < k → ¬ oth x < w) → (s_best own oth B w k = -5 ↔ ∀ x, x < k → B x = 0) := by
  intro k
  induction k with
  | zero => intro _ _; exact ⟨fun _ x hx => by omega, fun _ => rfl⟩
  | succ k ih =>
    intro hk h
    have q := ih (by omega) (fun x hx => h x (by omega))
    have a := h k (by omega)
    have n5 : ¬ nI k = -5 := nI_ne5 (by omega)
    simp only [s_best, s_bst, a, if_false]
    by_cases c : B k = 0
    · rw [if_pos c, q]
      constructor
      · intro z x hx
        by_cases e : x = k
        · rw [e]; exact c
        · exact z x (by omega)
      · intro z x hx; exact z x (by omega)
    · rw [if_neg c]
      have no : ¬ ∀ x, x < k + 1 → B x = 0 := fun z => c (z k (by omega))
      by_cases c2 : s_best own oth B w k = -5
      · rw [if_pos c2]; exact ⟨fun z => absurd z n5, fun z => absurd z no⟩
      · rw [if_neg c2]
        split
        · exact ⟨fun z => absurd z c2, fun z => absurd z no⟩
        · exact ⟨fun z => absurd z n5, fun z => absurd z no⟩
theorem s_prod_sh (G0 G1 B : Nat → Int32) (n : Nat) : ∀ k, k ≤ n + 1 → s_sh n (s_prod G0 G1 B k).1 := by
  intro k
  induction k with
  | zero => intro _; exact Or.inl rfl
  | succ k ih =>
    intro hk
    have q := ih (by omega)
    simp only [s_prod, s_pst]
    repeat' split
    all_goals first | exact q | exact Or.inr ⟨k, by omega, rfl⟩
theorem s_off_sh {G0 G1 B : Nat → Int32} {n : Nat} {dl : Int32} : ∀ (t : Nat) (a : Int32 × Int32), s_sh n a.1 → s_sh n (s_off G0 G1 B n dl t a).1 := by
  intro t
  induction t with
  | zero => intro a h; exact h
  | succ t ih => intro a h; exact ih _ (s_ost_sh h)
theorem s_near_sh (B : Nat → Int32) (w : Int32) (n : Nat) : ∀ k, k ≤ n + 1 → s_sh n (s_near B w k) := by
  intro k
  induction k with
  | zero => intro _; exact Or.inl rfl
  | succ k ih =>
    intro hk
    have q := ih (by omega)
    simp only [s_near, s_nst]
    repeat' split
    all_goals first | exact q | exact Or.inr ⟨k, by omega, rfl⟩
theorem s_rul_sh {B : Nat → Int32} {n : Nat} {fl : Int32} {tl : Int32 → Int32 → Int64} (hn : n ≤ 24) : s_sh n (s_rul B n fl tl) := by
  unfold s_rul
  have q : s_sh n (s_lu B (n + 1)).1 := by
    rcases s_lu_in B (n + 1) (by omega) with ⟨h1, h2, h3⟩ | ⟨l, u, h1, h2, h3, h4⟩
    · exact Or.inl h1
    · exact Or.inr ⟨l, by omega, by rw [h3]⟩
  repeat' split
  all_goals first | exact q | exact s_near_sh _ _ _ _ (Nat.le_refl _)
theorem s_res_sh {G0 G1 B : Nat → Int32} {n R : Nat} {way dl low rs : Int32} (hr : s_sh n rs) : s_sh n (s_res G0 G1 B n way R dl low rs).1 ∧ s_sh n (s_res G0 G1 B n way R dl low rs).2.1 := by
  unfold s_res
  split
  · exact ⟨s_off_sh _ _ (Or.inl rfl), s_off_sh _ _ (Or.inl rfl)⟩
  · split
    · exact ⟨s_best_sh _ _ _ _ _, s_best_sh _ _ _ _ _⟩
    · split
      · exact ⟨hr, hr⟩
      · exact ⟨s_prod_sh _ _ _ _ _ (Nat.le_refl _), s_prod_sh _ _ _ _ _ (Nat.le_refl _)⟩
/-! the state S: a heap, of which only what lasts is looked at (in the class's own places) -/
def q_n (S : e_H) : Nat := (e_gI S 0 6).toNatClampNeg
def q_R (S : e_H) : Nat := (e_gI S 0 8).toNatClampNeg
def q_c (S : e_H) (s : Nat) : Nat := (e_gI S 1 s).toNatClampNeg
def q_L (S : e_H) : Nat := (e_gI S 3 0).toNatClampNeg
def q_Z (S : e_H) : Nat := (e_gI S 3 7).toNatClampNeg
def q_a (S : e_H) : Nat := (e_gI S 0 10).toNatClampNeg
def q_b (S : e_H) : Nat := (e_gI S 0 11).toNatClampNeg
/-- the number of an envoy among all -/
def q_x (s k : Nat) : Nat := 5 * s + k
theorem q_x_lt {s k : Nat} (hs : s < 2) (hk : k < 5) : q_x s k < 10 := by unfold q_x; omega
theorem r_eAt {d s k : Nat} {h : e_H} {a b : Int32} (ha : a = nI s) (hb : b = nI k) (hs : s < 2) (hk : k < 5) : e_X e_pg (d + 1) 61 [.ref 0, .int a, .int b] h = some (some (.ref (q_x s k + 10)), h) := r_envoyAt ha hb hs hk
def q_N (S : e_H) (s k : Nat) : Nat → Int32 := e_gI S (q_x s k + 20)
def q_W (S : e_H) (s k : Nat) : Nat := (e_gI S (q_x s k + 10) 1).toNatClampNeg
/-- x is a number from a to b, and r is it -/
def q_is (x : Int32) (r a b : Nat) : Prop := x = nI r ∧ a ≤ r ∧ r ≤ b
def q_way (S : e_H) : Prop := e_gI S 0 7 = 0 ∨ e_gI S 0 7 = 1 ∨ e_gI S 0 7 = 2 ∨ e_gI S 0 7 = 3
def q_rule (S : e_H) : Prop := q_is (e_gI S 3 0) (q_L S) 0 40 ∧ (∀ k, k < q_L S → 0 ≤ (e_gI S 4 k).toInt ∧ (e_gI S 4 k).toInt < 128) ∧ e_gI S 3 1 = (c_comp (e_gI S 4) (q_L S)).1 ∧ q_is (e_gI S 3 7) (q_Z S) 0 40 ∧ q_Z S = (c_comp (e_gI S 4) (q_L S)).2.2.length ∧ ∀ i, i < (c_comp (e_gI S 4) (q_L S)).2.2.length → (c_comp (e_gI S 4) (q_L S)).2.2[i]? = some (e_gI S 5 i, e_gI S 6 i)
def q_ok (S : e_H) : Prop := q_is (e_gI S 0 6) (q_n S) 1 24 ∧ q_way S ∧ q_is (e_gI S 0 8) (q_R S) 1 9 ∧ q_is (e_gI S 0 10) (q_a S) 0 (q_b S) ∧ q_is (e_gI S 0 11) (q_b S) 1 9 ∧ (∀ s, s < 2 → q_is (e_gI S 1 s) (q_c S s) 1 5) ∧ (∀ s k, s < 2 → k < 5 → e_Rg (q_N S s k)) ∧ (∀ s k, s < 2 → k < 5 → q_is (e_gI S (q_x s k + 10) 1) (q_W S s k) 0 9) ∧ q_rule S
theorem q_ok.n {S : e_H} (h : q_ok S) : q_is (e_gI S 0 6) (q_n S) 1 24 := h.1
theorem q_ok.way {S : e_H} (h : q_ok S) : q_way S := h.2.1
theorem q_ok.R {S : e_H} (h : q_ok S) : q_is (e_gI S 0 8) (q_R S) 1 9 := h.2.2.1
theorem q_ok.a {S : e_H} (h : q_ok S) : q_is (e_gI S 0 10) (q_a S) 0 (q_b S) := h.2.2.2.1
theorem q_ok.b {S : e_H} (h : q_ok S) : q_is (e_gI S 0 11) (q_b S) 1 9 := h.2.2.2.2.1
theorem q_ok.c {S : e_H} (h : q_ok S) {s : Nat} (hs : s < 2) : q_is (e_gI S 1 s) (q_c S s) 1 5 := h.2.2.2.2.2.1 s hs
theorem q_ok.N {S : e_H} (h : q_ok S) {s k : Nat} (hs : s < 2) (hk : k < 5) : e_Rg (q_N S s k) := h.2.2.2.2.2.2.1 s k hs hk
theorem q_ok.W {S : e_H} (h : q_ok S) {s k : Nat} (hs : s < 2) (hk : k < 5) : q_is (e_gI S (q_x s k + 10) 1) (q_W S s k) 0 9 := h.2.2.2.2.2.2.2.1 s k hs hk
theorem q_ok.rule {S : e_H} (h : q_ok S) : q_rule S := h.2.2.2.2.2.2.2.2
/-- what the rule tells -/
def q_tl (S : e_H) (w0 w1 l u : Int32) : Int64 := (s_run (e_gI S 5) (e_gI S 6) (s_lt l u (nI (q_n S)) w0 w1) (q_Z S)).getLastD 0
/-- what two settle: the share, the other share (by lot), the round; B: which shares both take -/
def q_rB (S : e_H) (Ni Nj B : Nat → Int32) : Int32 × Int32 × Int32 := s_res (s_g0 Ni (q_n S)) (s_g1 Nj (q_n S)) B (q_n S) (e_gI S 0 7) (q_R S) (e_gI S 0 9) (-2147483648) (s_rul B (q_n S) (e_gI S 3 1) (q_tl S (Ni 4) (Nj 4)))
def q_bt (S : e_H) (i j : Nat) : Nat → Int32 := s_B (q_N S 0 i) (q_N S 1 j) (q_n S)
def q_res (S : e_H) (i j : Nat) : Int32 × Int32 × Int32 := q_rB S (q_N S 0 i) (q_N S 1 j) (q_bt S i j)
theorem q_rB_sh {S : e_H} (hS : q_ok S) {Ni Nj B : Nat → Int32} : s_sh (q_n S) (q_rB S Ni Nj B).1 ∧ s_sh (q_n S) (q_rB S Ni Nj B).2.1 := s_res_sh (s_rul_sh hS.n.2.2)
/-- the class's part of a heap is S, but for what is laid down while settling -/
def q_C (S g : e_H) : Prop := e_fr [7, 8, 9, 30, 32, 33, 35, 36, 38, 39] S g
theorem q_C.fr {S g f : e_H} (h : q_C S g) {L : List Nat} (hf : e_fr L g f) (hL : ∀ o, o ∈ L → o ∈ [7, 8, 9, 30, 32, 33, 35, 36, 38, 39]) : q_C S f := e_fr.trans h (hf.mono hL)
theorem q_C.at {S g : e_H} (h : q_C S g) {o : Nat} (ho : o ∉ [7, 8, 9, 30, 32, 33, 35, 36, 38, 39]) : e_gI g o = e_gI S o := funext fun k => h.1 o k ho
theorem q_C.N {S g : e_H} (h : q_C S g) {s k : Nat} (hs : s < 2) (hk : k < 5) : e_gI g (q_x s k + 20) = q_N S s k := h.at (by have := q_x_lt hs hk; simp; omega)
theorem r_concl {d : Nat} {S g : e_H} (hS : q_ok S) (hC : q_C S g) {Ni Nj B : Nat → Int32} (h2 : e_gI g 9 2 = nI (q_n S)) (h3 : e_gI g 9 3 = Ni 4) (h4 : e_gI g 9 4 = Nj 4) (h5 : e_gI g 9 5 = -5) (h6 : e_gI g 9 6 = -5) (h7 : e_gI g 9 7 = -1) (hx : ∀ x, x ≤ q_n S → e_gI g 32 x = s_g0 Ni (q_n S) x ∧ e_gI g 33 x = s_g1 Nj (q_n S) x ∧ e_gI g 30 x = B x) :
    ∃ f, e_X e_pg (d + 4) 67 [.ref 0] g = some (some (.int (q_rB S Ni Nj B).1), f) ∧ s_Fin2 g f (q_rB S Ni Nj B).1 (q_rB S Ni Nj B).2.1 (q_rB S Ni Nj B).2.2 := by
  have g0 : e_gI g 0 = e_gI S 0 := hC.at (by simp)
  have g3 : e_gI g 3 = e_gI S 3 := hC.at (by simp)
  have g5 : e_gI g 5 = e_gI S 5 := hC.at (by simp)
  have g6 : e_gI g 6 = e_gI S 6 := hC.at (by simp)
  have hW : e_gI g 3 1 = -1 → ∀ l u : Int32, ∃ g2, e_X e_pg (d + 2) 29 [.ref 3, .int l, .int u, .int (nI (q_n S)), .int (e_gI g 9 3), .int (e_gI g 9 4)] g = some (some (.long (q_tl S (Ni 4) (Nj 4) l u)), g2) ∧ e_fr [7, 8] g g2 := by
    intro _ l u
    have hz := hS.rule.2.2.2.1
    have := r_work (d := d) (l := l) (u := u) (n := nI (q_n S)) (w := e_gI g 9 3) (v := e_gI g 9 4) hz.2.2 (g := g) (by rw [g3]; exact hz.1)
    rw [g5, g6, h3, h4] at this
    rw [h3, h4]
    exact this
  obtain ⟨f, a1, a2⟩ := r_conclude (d := d) hS.n.2.2 hS.R.2.2 h2 h5 h6 h7 (by rw [g0]; exact hS.R.1) hW
  rw [s_rul_cg (C := B) (fun x q => (hx x q).2.2), s_res_cg hS.n.2.2 hx, g0, g3] at a1 a2
  exact ⟨f, a1, a2⟩
