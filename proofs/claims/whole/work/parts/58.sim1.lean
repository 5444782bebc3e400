/-! the two readers side by side: words for it -/
def v_st (Lt : Nat → Int64) (c o : Int32) (st : List Int64) : List Int64 :=
  if c = 1 ∨ c = 2 then (if c = 2 ∧ ¬ o < 0 ∧ ¬ 5 ≤ o then Lt o.toNatClampNeg else o.toInt64) :: st
  else if c = 3 ∨ c = 33 then (match st with
    | [] => []
    | x :: r => (if c = 33 then (if x = 0 then 1 else 0) else -x) :: r)
  else (match st with
    | b :: a :: r => s_join c a b :: r
    | s => s)
def v_ev (Lt : Nat → Int64) : List (Int32 × Int32) → List Int64 → List Int64
  | [], st => st
  | q :: r, st => v_ev Lt r (v_st Lt q.1 q.2 st)
theorem v_ev_app {Lt : Nat → Int64} : ∀ (a b : List (Int32 × Int32)) (st : List Int64), v_ev Lt (a ++ b) st = v_ev Lt b (v_ev Lt a st) := by
  intro a
  induction a with
  | nil => intro b st; rfl
  | cons q a ih => intro b st; exact ih b _
/-- codes that lay one value -/
def v_pu (Lt : Nat → Int64) (es : List (Int32 × Int32)) (v : Int64) : Prop := ∀ st, v_ev Lt es st = v :: st
theorem v_pu.join {Lt : Nat → Int64} {e1 e2 : List (Int32 × Int32)} {v1 v2 : Int64} (h1 : v_pu Lt e1 v1) (h2 : v_pu Lt e2 v2) {c : Int32} (hc : ¬ (c = 1 ∨ c = 2)) (hc2 : ¬ (c = 3 ∨ c = 33)) : v_pu Lt (e1 ++ (e2 ++ [(c, 0)])) (s_join c v1 v2) := by
  intro st
  rw [v_ev_app, v_ev_app, h1, h2]
  show v_st Lt c 0 (v2 :: v1 :: st) = _
  unfold v_st
  rw [if_neg hc, if_neg hc2]
/-- the signs of a unit between two places of the text, the last one first -/
def z_us (T : Nat → Int32) (first : Nat) : Nat → List Int32
  | 0 => []
  | k + 1 => if T (first + k) = 33 then 1001 :: z_us T first k else if T (first + k) = 45 then 1002 :: z_us T first k else z_us T first k
def z_cd (u : Int32) : Int32 × Int32 := if u = 1001 then (33, 0) else (3, 0)
theorem z_us_mem {T : Nat → Int32} {first : Nat} : ∀ k, ∀ u ∈ z_us T first k, u = 1001 ∨ u = 1002 := by
  intro k
  induction k with
  | zero => intro u hu; cases hu
  | succ k ih =>
    intro u hu
    unfold z_us at hu
    split at hu
    · rcases List.mem_cons.mp hu with h | h
      · exact Or.inl h
      · exact ih u h
    · split at hu
      · rcases List.mem_cons.mp hu with h | h
        · exact Or.inr h
        · exact ih u h
      · exact ih u hu
theorem z_us_len {T : Nat → Int32} {first : Nat} : ∀ k, (z_us T first k).length ≤ k := by
  intro k
  induction k with
  | zero => simp [z_us]
  | succ k ih =>
    unfold z_us
    split
    · simp; omega
    · split
      · simp; omega
      · omega
theorem c_emit_ok {s : c_S} {c o : Int32} (h : s.2.2.length < 40) : c_emit s c o = (s.1, s.2.1, s.2.2 ++ [(c, o)]) := by
  unfold c_emit
  rw [if_neg (by omega)]
theorem c_up_eq {T : Nat → Int32} {first : Nat} : ∀ (k : Nat) (s : c_S), s.2.2.length + (z_us T first k).length ≤ 40 → c_up T first k s = (s.1, s.2.1, s.2.2 ++ (z_us T first k).map z_cd) := by
  intro k
  induction k with
  | zero => intro s _; simp [c_up, z_us]
  | succ k ih =>
    intro s hl
    unfold c_up z_us
    unfold z_us at hl
    by_cases c1 : T (first + k) = 33
    · rw [if_pos c1] at hl ⊢
      rw [if_pos c1]
      simp only [List.length_cons] at hl
      rw [c_emit_ok (by omega), ih _ (by simp; omega)]
      simp [z_cd]
    · rw [if_neg c1] at hl ⊢
      rw [if_neg c1]
      by_cases c2 : T (first + k) = 45
      · rw [if_pos c2] at hl ⊢
        rw [if_pos c2]
        simp only [List.length_cons] at hl
        rw [c_emit_ok (by omega), ih _ (by simp; omega)]
        simp [z_cd]
      · rw [if_neg c2] at hl ⊢
        rw [if_neg c2]
        exact ih s hl
theorem v_ev_us {Lt : Nat → Int64} : ∀ (U : List Int32) (v : Int64) (st : List Int64), (∀ u ∈ U, u = 1001 ∨ u = 1002) → v_ev Lt (U.map z_cd) (v :: st) = m_un U v :: st := by
  intro U
  induction U with
  | nil => intro v st _; rfl
  | cons u U ih =>
    intro v st hU
    rw [List.map_cons, m_un]
    show v_ev Lt (U.map z_cd) (v_st Lt (z_cd u).1 (z_cd u).2 (v :: st)) = _
    have : v_st Lt (z_cd u).1 (z_cd u).2 (v :: st) = (if u = 1001 then (if v = 0 then 1 else 0) else -v) :: st := by
      rcases hU u List.mem_cons_self with h | h <;> subst h <;> rfl
    rw [this]
    exact ih _ _ (fun c hc => hU c (List.mem_cons_of_mem _ hc))
/-! blanks -/
theorem c_sk_bl {T : Nat → Int32} {n : Nat} : ∀ (f p i : Nat), p ≤ i → i < c_sk T n f p → T i = 32 := by
  intro f
  induction f with
  | zero => intro p i h1 h2; unfold c_sk at h2; omega
  | succ f ih =>
    intro p i h1 h2
    unfold c_sk at h2
    split at h2
    · split at h2
      · rename_i h3
        by_cases hi : i = p
        · subst hi; exact h3
        · exact ih (p + 1) i (by omega) h2
      · omega
    · omega
theorem c_sk_st {T : Nat → Int32} {n : Nat} : ∀ (f p : Nat), n - p ≤ f → p ≤ n → ¬ (c_sk T n f p < n ∧ T (c_sk T n f p) = 32) := by
  intro f
  induction f with
  | zero => intro p h1 h2 h3; unfold c_sk at h3; omega
  | succ f ih =>
    intro p h1 h2
    unfold c_sk
    split
    · split
      · exact ih (p + 1) (by omega) (by omega)
      · intro q; rename_i h3 _; exact absurd q.2 ‹_›
    · intro q; omega
theorem c_skip_bl {T : Nat → Int32} {n p i : Nat} (h1 : p ≤ i) (h2 : i < c_skip T n p) : T i = 32 := c_sk_bl _ _ _ h1 h2
theorem c_skip_id {T : Nat → Int32} {n p : Nat} (hp : p ≤ n) : c_skip T n (c_skip T n p) = c_skip T n p := by
  have h1 := c_sk_st (T := T) (n := n) (n - p) p (Nat.le_refl _) hp
  have h2 := (c_skip_le (T := T) hp)
  have h3 : c_sk T n (n - p) p = c_skip T n p := rfl
  rw [h3] at h1
  generalize c_skip T n p = q at h1 h2
  show c_sk T n (n - q) q = q
  cases hq : n - q with
  | zero => rfl
  | succ k =>
    unfold c_sk
    rw [if_pos (by omega), if_neg (fun z => h1 ⟨by omega, z⟩)]
theorem z_us_bl {T : Nat → Int32} {first : Nat} : ∀ (j k : Nat), (∀ i, first + k ≤ i → i < first + (k + j) → T i = 32) → z_us T first (k + j) = z_us T first k := by
  intro j
  induction j with
  | zero => intro k _; rfl
  | succ j ih =>
    intro k h
    rw [← ih k (fun i h1 h2 => h i h1 (by omega))]
    show z_us T first ((k + j) + 1) = _
    have h32 := h (first + (k + j)) (by omega) (by omega)
    rw [z_us, if_neg (by rw [h32]; decide), if_neg (by rw [h32]; decide)]
theorem c_sg_st {T : Nat → Int32} {n : Nat} : ∀ (f p : Nat), n - p ≤ f → p ≤ n → ¬ (c_ch T n (c_sg T n f p) = 33 ∨ c_ch T n (c_sg T n f p) = 45) := by
  intro f
  induction f with
  | zero =>
    intro p h1 h2
    have hp : ¬ p < n := by omega
    unfold c_sg c_ch
    rw [if_neg hp]
    decide
  | succ f ih =>
    intro p h1 h2
    unfold c_sg
    split
    · rename_i hc
      have hlt : p < n := c_ch_lt (by rcases hc with hc | hc <;> rw [hc] <;> decide)
      have h3 := c_skip_le (T := T) (n := n) (p := p + 1) (by omega)
      exact ih _ (by omega) h3.2
    · assumption
theorem c_sg_skip {T : Nat → Int32} {n : Nat} : ∀ (f p : Nat), p ≤ n → c_skip T n p = p → c_skip T n (c_sg T n f p) = c_sg T n f p := by
  intro f
  induction f with
  | zero => intro p _ h; exact h
  | succ f ih =>
    intro p hp h
    unfold c_sg
    split
    · rename_i hc
      have hlt : p < n := c_ch_lt (by rcases hc with hc | hc <;> rw [hc] <;> decide)
      exact ih _ (c_skip_le (by omega)).2 (c_skip_id (by omega))
    · exact h
theorem m_nd_gt {T : Nat → Int32} {n first : Nat} : ∀ (f p : Nat) (v : Int32) (p2 : Nat) (w : Int32), p ≤ n → m_nd T n first f p v = some (p2, w) → p ≤ p2 ∧ p2 ≤ n := by
  intro f
  induction f with
  | zero => intro p v p2 w hp h; simp [m_nd] at h; omega
  | succ f ih =>
    intro p v p2 w hp h
    unfold m_nd at h
    split at h
    · simp at h; omega
    · split at h
      · simp at h; omega
      · split at h
        · cases h
        · have := ih (p + 1) _ p2 w (by omega) h
          omega
theorem m_nd_gt1 {T : Nat → Int32} {n p : Nat} {p2 : Nat} {w : Int32} (hc : ¬ c_dig (c_ch T n p) = 0) (h : m_nd T n p 7 p 0 = some (p2, w)) : p < p2 ∧ p2 ≤ n := by
  have hlt : p < n := c_ch_lt (fun z => by rw [z] at hc; exact hc rfl)
  have e : c_ch T n p = T p := by unfold c_ch; rw [if_pos hlt]
  rw [e] at hc
  unfold m_nd at h
  rw [if_neg (by omega), if_neg hc, if_neg (by omega)] at h
  have := m_nd_gt _ _ _ _ _ (by omega) h
  omega
