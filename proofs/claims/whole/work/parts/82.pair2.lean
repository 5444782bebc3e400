/-! the other calls -/
theorem q_tell_J {S : e_H} {top : Int64} {b o : Nat} (ho : o ≠ 0) : e_gJ (q_tell S top b) o = e_gJ S o := by
  funext k
  unfold q_tell
  rw [e_gJ_pJ, if_neg (fun q => ho q.1), e_gJ_pJ, if_neg (fun q => ho q.1)]
theorem q_tell_ok {S : e_H} {top : Int64} {b : Nat} (h : q_ok S) : q_ok (q_tell S top b) := q_ok_cg (A := S) (fun o _ _ _ _ _ => rfl) (fun s k hs hk => h.N hs hk) h
theorem q_M.tellC {S f : e_H} (m : q_M S S) {top : Int64} {b : Nat} (hC : q_C (q_tell S top b) f) : q_M S f := m.keep (fun o ho => (e_fr.I hC (by simp <;> omega)).trans rfl) (fun o ho => (e_fr.J hC (by simp <;> omega)).trans (q_tell_J (by omega)))
/-- a call that tells a fraction -/
theorem q_pairI_tl {D k3 k4 : Nat} {as : List Value} {S : e_H} {v : Int32} {top : Int64} {b : Nat} (hI : q_I S) (h1 : ∃ f, e_X e_pg D k3 (.ref 0 :: as) S = some (some (.int v), f) ∧ q_C (q_tell S top b) f) (h2 : ∀ f, q_M S f → ∃ g, e_X e_pg D k4 (.ref 40 :: as) f = some (some (.int v), g) ∧ q_M (q_tell S top b) g ∧ e_fr q_lM f g) : q_pairI D k3 k4 as S := by
  obtain ⟨a, w, c, m⟩ := hI
  obtain ⟨f, e1, hC⟩ := h1
  obtain ⟨g, e2, hM, hF⟩ := h2 f (m.tellC hC)
  exact q_pairI_of e1 hC e2 hM hF (q_tell_ok a) w c
theorem tp_settle {S : e_H} (hI : q_I S) {a b : Int32} : q_pairI 260 41 121 [.int a, .int b] S := by
  by_cases h : ∃ i j, q_pr S i j ∧ a = nI i ∧ b = nI j
  · obtain ⟨i, j, hp, rfl, rfl⟩ := h
    exact q_pairI_rd hI (r_settle (d := 254) hI.1 hp) (fun f hM => q_rd_mr hM (r_M_settle (d := 252) hI.1 hM hp))
  · exact q_pairI_no hI (r_settle_no (d := 254) hI.1 h) (r_M_settle_no (d := 252) hI.1 hI.2.2.2 h)
theorem tp_round {S : e_H} (hI : q_I S) {a b : Int32} : q_pairI 260 42 122 [.int a, .int b] S := by
  by_cases h : ∃ i j, q_pr S i j ∧ a = nI i ∧ b = nI j
  · obtain ⟨i, j, hp, rfl, rfl⟩ := h
    exact q_pairI_rd hI (r_round (d := 254) hI.1 hp) (fun f hM => q_rd_mr hM (r_M_round (d := 252) hI.1 hM hp))
  · exact q_pairI_no hI (r_round_no (d := 254) hI.1 h) (r_M_round_no (d := 252) hI.1 hI.2.2.2 h)
theorem tp_has {S : e_H} (hI : q_I S) {s a b : Int32} : q_pairI 260 43 127 [.int s, .int a, .int b] S := by
  by_cases hs : ∃ k, k < 2 ∧ s = nI k
  · by_cases h : ∃ i j, q_pr S i j ∧ a = nI i ∧ b = nI j
    · obtain ⟨i, j, hp, rfl, rfl⟩ := h
      obtain ⟨k, hk, rfl⟩ := hs
      exact q_pairI_tl hI (r_has (d := 254) hI.1 hk hp) (fun f hM => r_M_has (d := 251) hI.1 hM hk hp)
    · exact q_pairI_no hI (r_has_no (d := 254) hI.1 (Or.inr h)) (r_M_has_no (d := 251) hI.1 hI.2.2.2 (Or.inr h))
  · exact q_pairI_no hI (r_has_no (d := 254) hI.1 (Or.inl hs)) (r_M_has_no (d := 251) hI.1 hI.2.2.2 (Or.inl hs))
theorem tp_best {S : e_H} (hI : q_I S) {a b : Int32} : q_pairI 260 44 130 [.int a, .int b] S := by
  by_cases h : ∃ s m, s < 2 ∧ m < q_c S (1 - s) ∧ a = nI s ∧ b = nI m
  · obtain ⟨s, m, hs, hm, rfl, rfl⟩ := h
    exact q_pairI_rd hI (r_best (d := 253) hI.1 hs hm) (fun f hM => q_rd_mr hM (r_M_best (d := 249) hI.1 hM hs hm))
  · exact q_pairI_no hI (r_best_no (d := 253) hI.1 h) (r_M_best_no (d := 249) hI.1 hI.2.2.2 h)
theorem tp_rest {S : e_H} (hI : q_I S) {w : Int32} : q_pairI 260 45 134 [.int w] S := by
  by_cases h : -1 ≤ w
  · exact q_pairI_rd hI (r_rest (d := 253) hI.1 h) (fun f hM => q_rd_mr hM (r_M_rest (d := 249) hI.1 hM h))
  · exact q_pairI_no hI (r_rest_no (d := 253) h) (r_M_rest_no (d := 249) h)
theorem tp_lose {S : e_H} (hI : q_I S) {w : Int32} : q_pairI 260 46 135 [.int w] S := by
  by_cases h : ∃ k, k < 2 ∧ w = nI k
  · obtain ⟨k, hk, rfl⟩ := h
    exact q_pairI_rd hI (r_lose (d := 253) hI.1 hk) (fun f hM => q_rd_mr hM (r_M_lose (d := 250) hI.1 hM hk))
  · exact q_pairI_no hI (r_lose_no (d := 253) h) (r_M_lose_no (d := 250) h)
theorem tp_thought {S : e_H} (hI : q_I S) {a : Int32} : q_pairI 260 48 137 [.int a] S := by
  by_cases h : ∃ s, s < 2 ∧ a = nI s
  · obtain ⟨s, hs, rfl⟩ := h
    by_cases hw : 0 < q_wt S (1 - s) (q_c S (1 - s))
    · exact q_pairI_tl hI (r_thought (d := 253) hI.1 hs hw) (fun f hM => r_M_thought (d := 250) hI.1 hM hs hw)
    · exact q_pairI_no hI (r_thought_0 (d := 253) hI.1 hs hw) (r_M_thought_0 (d := 250) hI.1 hI.2.2.2 hs hw)
  · exact q_pairI_no hI (r_thought_no (d := 253) h) (r_M_thought_no (d := 250) h)
theorem tp_paid {S : e_H} (hI : q_I S) {a b c : Int32} : q_pairI 260 49 138 [.int a, .int b, .int c] S := by
  by_cases h : ¬ q_two S a b c ∨ b = 0
  · exact q_pairI_no hI (r_paid_no (d := 253) hI.1 h) (r_M_paid_no (d := 250) hI.1 hI.2.2.2 h)
  · have h0 : q_two S a b c := Classical.not_not.mp (fun z => h (Or.inl z))
    obtain ⟨s, k, m, hs, hk, hm, rfl, rfl, rfl⟩ := h0
    have hk0 : k ≠ 0 := fun z => h (Or.inr (by rw [z]; rfl))
    exact q_pairI_rd hI (r_paid (d := 253) hI.1 hs hk hk0 hm) (fun f hM => r_M_paid (d := 250) hI.1 hM hs hk hk0 hm)
theorem tp_hard {S : e_H} (hI : q_I S) {a b c : Int32} : q_pairI 260 50 139 [.int a, .int b, .int c] S := by
  by_cases h : q_two S a b c
  · obtain ⟨s, k, m, hs, hk, hm, rfl, rfl, rfl⟩ := h
    exact q_pairI_rd hI (r_hard (d := 254) hI.1 hs hk hm) (fun f hM => r_M_hard (d := 252) hI.1 hM hs hk hm)
  · exact q_pairI_no hI (r_hard_no (d := 254) hI.1 h) (r_M_hard_no (d := 252) hI.1 hI.2.2.2 h)
theorem tp_committee {S : e_H} (hI : q_I S) {a v j : Int32} : q_pairI 260 51 140 [.int a, .int v, .int j] S := by
  by_cases h : ∃ x y z, q_cok S x y z ∧ a = nI x ∧ v = nI y ∧ j = nI z
  · obtain ⟨x, y, z, hk, rfl, rfl, rfl⟩ := h
    exact q_pairI_rd hI (r_committee (d := 255) hI.1 hk) (fun f hM => q_rd_mr hM (r_M_committee (d := 253) hI.1 hM hk))
  · exact q_pairI_no hI (r_committee_no (d := 255) hI.1 h) (r_M_committee_no (d := 253) hI.1 hI.2.2.2 h)
theorem tp_recall {S : e_H} (hI : q_I S) {s a b : Int32} : q_pairI 260 52 141 [.int s, .int a, .int b] S := by
  by_cases hs : ∃ k, k < 2 ∧ s = nI k
  · by_cases h : ∃ i j, q_pr S i j ∧ a = nI i ∧ b = nI j
    · obtain ⟨i, j, hp, rfl, rfl⟩ := h
      obtain ⟨k, hk, rfl⟩ := hs
      exact q_pairI_rd hI (r_recall (d := 254) hI.1 hk hp) (fun f hM => q_rd_mr hM (r_M_recall (d := 251) hI.1 hM hk hp))
    · exact q_pairI_no hI (r_recall_no (d := 254) hI.1 (Or.inr h)) (r_M_recall_no (d := 251) hI.1 hI.2.2.2 (Or.inr h))
  · exact q_pairI_no hI (r_recall_no (d := 254) hI.1 (Or.inl hs)) (r_M_recall_no (d := 251) hI.1 hI.2.2.2 (Or.inl hs))
theorem tp_middle {S : e_H} (hI : q_I S) {a b w : Int32} : q_pairI 260 53 142 [.int a, .int b, .int w] S := by
  by_cases h : ∃ i j, q_pr S i j ∧ a = nI i ∧ b = nI j
  · by_cases hw : -1 ≤ w
    · obtain ⟨i, j, hp, rfl, rfl⟩ := h
      exact q_pairI_rd hI (r_middle (d := 254) hI.1 hp hw) (fun f hM => q_rd_mr hM (r_M_middle (d := 252) hI.1 hM hp hw))
    · exact q_pairI_no hI (r_middle_no (d := 254) hI.1 (Or.inr hw)) (r_M_middle_no (d := 252) hI.1 hI.2.2.2 (Or.inr hw))
  · exact q_pairI_no hI (r_middle_no (d := 254) hI.1 (Or.inl h)) (r_M_middle_no (d := 252) hI.1 hI.2.2.2 (Or.inl h))
theorem tp_edge {S : e_H} (hI : q_I S) {a : Int32} : q_pairI 260 54 143 [.int a] S := by
  by_cases h : ∃ s, s < 2 ∧ a = nI s
  · obtain ⟨s, hs, rfl⟩ := h
    exact q_pairI_rd hI (r_edge (d := 253) hI.1 hI.2.2.1 hs) (fun f hM => r_M_edge (d := 249) hI.1 hI.2.2.1 hM hs)
  · exact q_pairI_no hI (r_edge_no (d := 253) h) (r_M_edge_no (d := 249) h)
theorem tp_worth {S : e_H} (hI : q_I S) {a b x : Int32} : q_pairI 260 34 96 [.int a, .int b, .int x] S := by
  by_cases h : q_eo S a b x
  · obtain ⟨s, k, y, hs, hk, hy, rfl, rfl, rfl⟩ := h
    exact q_pairI_no hI (r_worth (d := 257) hI.1 hs hk hy) (r_M_worth (d := 256) hI.1 hI.2.2.2 hs hk hy)
  · exact q_pairI_no hI (r_worth_no (d := 257) hI.1 h) (r_M_worth_no (d := 256) hI.1 hI.2.2.2 h)
theorem tp_takes {S : e_H} (hI : q_I S) {a b x : Int32} : q_pairI 260 35 97 [.int a, .int b, .int x] S := by
  by_cases h : q_eo S a b x
  · obtain ⟨s, k, y, hs, hk, hy, rfl, rfl, rfl⟩ := h
    exact q_pairI_no hI (r_takes (d := 256) hI.1 hs hk hy) (r_M_takes (d := 255) hI.1 hI.2.2.2 hs hk hy)
  · exact q_pairI_no hI (r_takes_no (d := 256) hI.1 h) (r_M_takes_no (d := 255) hI.1 hI.2.2.2 h)
theorem tp_fault {S : e_H} (hI : q_I S) : q_pairI 260 40 110 [] S :=
  q_pairI_rd hI ⟨S, r_fault (d := 259), q_C.refl S⟩ (fun f hM => q_rd_mr hM (r_M_fault (d := 255) hI.1 hM))
/-! calls that change what lasts -/
theorem q_w1_txt {S f : e_H} (b : q_w1 S) (hf : e_fr [3, 4, 5, 6] S f) : q_w1 f := fun s k hs h1 h2 => by
  rw [hf.I (by simp <;> omega)]
  refine b s k hs ?_ h2
  unfold q_c at h1 ⊢
  rw [hf.I (by simp)] at h1
  exact h1
theorem q_sl_txt {S f : e_H} (c : q_sl S) (hf : e_fr [3, 4, 5, 6] S f) : q_sl f := fun s hs => by
  unfold q_N
  rw [hf.I (by simp <;> omega)]
  exact c s hs
theorem tp_write {S : e_H} (hI : q_I S) {c : Int32} : q_pairI 260 38 100 [.int c] S := by
  by_cases h1 : c < 0
  · exact q_pairI_no hI (r_write_no (d := 11) (Or.inl h1)) (r_M_write_no (d := 258) (Or.inl h1))
  · by_cases h2 : c ≤ 127
    · by_cases hL : q_L S < 40
      · obtain ⟨f, e1, tx⟩ := r_write (d := 11) hI.1 h1 h2 hL
        have hf := tx.2.1
        have m : q_M S f := hI.2.2.2.keep (fun o ho => hf.I (by simp <;> omega)) (fun o ho => hf.J (by simp <;> omega))
        obtain ⟨g, e2, hM, hF⟩ := r_M_write (d := 258) hI.1 m h1 h2 hL tx
        exact q_pairI_of e1 (q_C.refl f) e2 hM hF tx.1 (q_w1_txt hI.2.1 hf) (q_sl_txt hI.2.2.1 hf)
      · exact q_pairI_no hI (r_write_full (d := 11) hI.1 h1 h2 hL) (r_M_write_full (d := 258) hI.1 hI.2.2.2 h1 h2 hL)
    · exact q_pairI_no hI (r_write_no (d := 11) (Or.inr h2)) (r_M_write_no (d := 258) (Or.inr h2))
theorem tp_erase {S : e_H} (hI : q_I S) : q_pairI 260 39 101 [] S := by
  obtain ⟨f, e1, tx⟩ := r_erase (d := 11) hI.1
  have hf := tx.2.1
  have m : q_M S f := hI.2.2.2.keep (fun o ho => hf.I (by simp <;> omega)) (fun o ho => hf.J (by simp <;> omega))
  obtain ⟨g, e2, hM, hF⟩ := r_M_erase (d := 259) hI.1 m tx
  exact q_pairI_of e1 (q_C.refl f) e2 hM hF tx.1 (q_w1_txt hI.2.1 hf) (q_sl_txt hI.2.2.1 hf)
theorem tp_weight {S : e_H} (hI : q_I S) {a b w : Int32} : q_pairI 260 47 136 [.int a, .int b, .int w] S := by
  by_cases h : (¬ ∃ s k, s < 2 ∧ k < q_c S s ∧ a = nI s ∧ b = nI k) ∨ w < 0 ∨ ¬ w ≤ 9
  · exact q_pairI_no hI (r_weight_no (d := 257) hI.1 h) (r_M_weight_no (d := 256) hI.1 hI.2.2.2 h)
  · have h0 : ∃ s k, s < 2 ∧ k < q_c S s ∧ a = nI s ∧ b = nI k := Classical.not_not.mp (fun z => h (Or.inl z))
    have h1 : ¬ w < 0 := fun z => h (Or.inr (Or.inl z))
    have h2 : w ≤ 9 := Classical.not_not.mp (fun z => h (Or.inr (Or.inr z)))
    obtain ⟨s, k, hs, hk, rfl, rfl⟩ := h0
    obtain ⟨ok, w1, sl, m⟩ := hI
    have hk5 : k < 5 := by have := (ok.c hs).2.2; omega
    have hx := q_x_lt hs hk5
    refine q_pairI_of (T := e_pI S (q_x s k + 10) 1 w) (r_weight (d := 257) ok hs hk h1 h2) (q_C.refl _) (r_M_weight (d := 256) ok (m.pI (by omega)) hs hk h1 h2) ((m.pI (by omega)).putW ok.c5 hs hk5 w) ((e_fr.refl _ _).pI (by simp)) ?_ ?_ ?_
    · obtain ⟨r, hr⟩ := is_of (v := w) (p := 0) (q := 9) 0 rfl rfl h1 h2
      obtain ⟨a1, a2, a3, a4, a5, a6, a7, a8, a9⟩ := ok
      refine ⟨?_, ?_, ?_, ?_, ?_, fun t ht => ?_, fun t n ht hn => ?_, fun t n ht hn => ?_, ?_⟩
      · unfold q_n; rw [e_pI_o (by omega)]; exact a1
      · unfold q_way; rw [e_pI_o (by omega)]; exact a2
      · unfold q_R; rw [e_pI_o (by omega)]; exact a3
      · unfold q_a q_b; rw [e_pI_o (by omega)]; exact a4
      · unfold q_b; rw [e_pI_o (by omega)]; exact a5
      · unfold q_c; rw [e_pI_o (by omega)]; exact a6 t ht
      · unfold q_N; rw [e_pI_o (by omega)]; exact a7 t n ht hn
      · unfold q_W
        rw [e_gI_pI]
        by_cases c : q_x t n + 10 = q_x s k + 10
        · rw [if_pos ⟨c, rfl⟩]
          have cl : w.toNatClampNeg = r := by rw [hr.1]; exact nI_clamp (by have := hr.2.2; omega)
          rw [cl]
          exact hr
        · rw [if_neg (fun q => c q.1)]
          exact a8 t n ht hn
      · unfold q_rule q_L q_Z
        rw [e_pI_o (show 3 ≠ q_x s k + 10 by omega), e_pI_o (show 4 ≠ q_x s k + 10 by omega), e_pI_o (show 5 ≠ q_x s k + 10 by omega), e_pI_o (show 6 ≠ q_x s k + 10 by omega)]
        exact a9
    · intro t n ht g1 g2
      have g3 : q_c S t ≤ n := by
        unfold q_c at g1 ⊢
        rw [e_pI_o (by omega)] at g1
        exact g1
      rw [e_gI_pI, if_neg]
      · exact w1 t n ht g3 g2
      · rintro ⟨q, -⟩
        have := (q_x_inj g2 hk5).mp (show q_x t n = q_x s k by omega)
        rw [this.1, this.2] at g3
        omega
    · intro t ht
      unfold q_N
      rw [e_pI_o (by omega)]
      exact sl t ht
theorem lo_rg {w : Nat} {v : Int32} (hw : w < 9) (h1 : ¬ v < e_lo w) (h2 : v ≤ e_hi w) : e_rgl w ≤ v.toInt ∧ v.toInt ≤ e_rgh w ∧ (w = 0 → v.toInt ≤ 60) := by
  rw [Int32.lt_iff_toInt_lt] at h1
  rw [Int32.le_iff_toInt_le] at h2
  have k : ∀ w, w < 9 → e_rgl w = (e_lo w).toInt ∧ (e_hi w).toInt ≤ e_rgh w ∧ (w = 0 → (e_hi w).toInt ≤ 60) := by decide +kernel
  obtain ⟨k1, k2, k3⟩ := k w hw
  refine ⟨by omega, by omega, fun z => ?_⟩
  have := k3 z
  omega
theorem tp_put {S : e_H} (hI : q_I S) {a b w v : Int32} : q_pairI 260 33 92 [.int a, .int b, .int w, .int v] S := by
  by_cases h : (¬ ∃ s k, s < 2 ∧ k < q_c S s ∧ a = nI s ∧ b = nI k) ∨ ¬ q_num w v
  · exact q_pairI_no hI (r_put_no (d := 257) hI.1 h) (r_M_put_no (d := 256) hI.1 hI.2.2.2 h)
  · have h0 : ∃ s k, s < 2 ∧ k < q_c S s ∧ a = nI s ∧ b = nI k := Classical.not_not.mp (fun z => h (Or.inl z))
    have hn : q_num w v := Classical.not_not.mp (fun z => h (Or.inr z))
    obtain ⟨s, k, hs, hk, rfl, rfl⟩ := h0
    obtain ⟨x, hx9, rfl, g1, g2⟩ := hn
    obtain ⟨ok, w1, sl, m⟩ := hI
    have hk5 : k < 5 := by have := (ok.c hs).2.2; omega
    have hx := q_x_lt hs hk5
    obtain ⟨l1, l2, l3⟩ := lo_rg hx9 g1 g2
    refine q_pairI_of (T := e_pI S (q_x s k + 20) x v) (r_put (d := 257) ok hs hk hx9 g1 g2) (q_C.refl _) (r_M_put (d := 256) ok (m.pI (by omega)) hs hk hx9 g1 g2) ((m.pI (by omega)).putN ok.c5 hs hk5 hx9 v) ((e_fr.refl _ _).pI (by simp)) (ok.putN hs hk5 ⟨l1, l2⟩) ?_ ?_
    · intro t n ht f1 f2
      have := q_x_lt ht f2
      rw [e_pI_o (by omega)]
      refine w1 t n ht ?_ f2
      unfold q_c at f1 ⊢
      rw [e_pI_o (by omega)] at f1
      exact f1
    · intro t ht
      unfold q_N
      rw [e_gI_pI]
      split
      · rename_i c
        exact l3 c.2.symm
      · exact sl t ht
theorem q_ok_env {S : e_H} (h : q_ok S) {s : Nat} (hs : s < 2) (hc : q_c S s < 5) : q_ok (q_env S s) := by
  have hx := q_x_lt hs hc
  have h0 := h
  obtain ⟨a1, a2, a3, a4, a5, a6, a7, a8, a9⟩ := h
  have eo : ∀ o, o ≠ 1 → o < 20 → e_gI (q_env S s) o = e_gI S o := fun o h1 h2 => q_env_o h1 (by omega)
  refine ⟨?_, ?_, ?_, ?_, ?_, fun t ht => ?_, fun t n ht hn => ?_, fun t n ht hn => ?_, ?_⟩
  · unfold q_n; rw [eo 0 (by decide) (by decide)]; exact a1
  · unfold q_way; rw [eo 0 (by decide) (by decide)]; exact a2
  · unfold q_R; rw [eo 0 (by decide) (by decide)]; exact a3
  · unfold q_a q_b; rw [eo 0 (by decide) (by decide)]; exact a4
  · unfold q_b; rw [eo 0 (by decide) (by decide)]; exact a5
  · rw [q_env_c h0 ht, q_env_1]
    by_cases c : t = s
    · rw [if_pos c, if_pos c]
      exact ⟨rfl, by omega, by omega⟩
    · rw [if_neg c, if_neg c]
      exact a6 t ht
  · intro w hw
    unfold q_N
    by_cases c : q_x t n = q_x s (q_c S s)
    · rw [c, q_env_N hw]
      split
      · rename_i z
        subst z
        exact ⟨by decide, by decide⟩
      · exact a7 s 0 hs (by decide) w hw
    · have hxn := q_x_lt ht hn
      rw [q_env_o (by omega) (by omega)]
      exact a7 t n ht hn w hw
  · have hxn := q_x_lt ht hn
    unfold q_W
    rw [eo _ (by omega) (by omega)]
    exact a8 t n ht hn
  · unfold q_rule q_L q_Z
    rw [eo 3 (by decide) (by decide), eo 4 (by decide) (by decide), eo 5 (by decide) (by decide), eo 6 (by decide) (by decide)]
    exact a9
theorem tp_envoy {S : e_H} (hI : q_I S) {a : Int32} : q_pairI 260 32 90 [.int a] S := by
  by_cases h : ∃ s, s < 2 ∧ a = nI s
  · obtain ⟨s, hs, rfl⟩ := h
    by_cases hc : q_c S s < 5
    · obtain ⟨ok, w1, sl, m⟩ := hI
      have hx := q_x_lt hs hc
      have c1 := (ok.c hs).2.1
      have m1 : q_M S (q_env S s) := m.keep (fun o ho => q_env_o (by omega) (by omega)) (fun o ho => funext fun k => q_env_J)
      obtain ⟨g, e2, hM, hF⟩ := r_M_envoy (d := 257) ok w1 m1 hs hc
      refine q_pairI_of (r_envoy (d := 257) ok hs hc) (q_C.refl _) e2 hM hF (q_ok_env ok hs hc) ?_ ?_
      · intro t n ht f1 f2
        have := q_x_lt ht f2
        rw [q_env_o (by omega) (by omega)]
        refine w1 t n ht ?_ f2
        rw [q_env_c ok ht] at f1
        split at f1
        · rename_i z
          rw [z]
          omega
        · exact f1
      · intro t ht
        unfold q_N
        rw [q_env_o (by omega) (by unfold q_x; omega)]
        exact sl t ht
    · exact q_pairI_no hI (r_envoy_full (d := 257) hI.1 hs hc) (r_M_envoy_full (d := 257) hI.1 hI.2.2.2 hs hc)
  · exact q_pairI_no hI (r_envoy_no (d := 257) h) (r_M_envoy_no (d := 257) h)
