/-! the heap at the start -/
def x_rI (o : Nat) : Nat → Int32 := bif Nat.beq o 0 then (fun k => [0, 0, 0, 0, 0, 0, 10, 0, 2, 0, 1, 2, 0, 0].getD k 0) else (bif Nat.beq o 1 then (upd (upd (fun _ => 0) 0 1) 1 1) else (bif Nat.beq o 3 then (fun k => [0, 1, 0, 0, 0, 0, 0, 0, 0].getD k 0) else (bif Nat.beq o 9 then (fun k => [0, 0, 1, 0, 0, (-5), (-5), (-1)].getD k 0) else (bif Nat.beq o 10 then (fun k => [0, 1].getD k 0) else (bif Nat.beq o 11 then (fun k => [0, 1].getD k 0) else (bif Nat.beq o 12 then (fun k => [0, 1].getD k 0) else (bif Nat.beq o 13 then (fun k => [0, 1].getD k 0) else (bif Nat.beq o 14 then (fun k => [0, 1].getD k 0) else (bif Nat.beq o 15 then (fun k => [0, 1].getD k 0) else (bif Nat.beq o 16 then (fun k => [0, 1].getD k 0) else (bif Nat.beq o 17 then (fun k => [0, 1].getD k 0) else (bif Nat.beq o 18 then (fun k => [0, 1].getD k 0) else (bif Nat.beq o 19 then (fun k => [0, 1].getD k 0) else (bif Nat.beq o 20 then (upd (fun _ => 0) 0 10) else (bif Nat.beq o 25 then (upd (fun _ => 0) 0 10) else (bif Nat.beq o 40 then (fun k => [10, 0, 0, 0, 0, 2, 0, 1, 2, 0, 0, 0, 0, 0, 0, 0, 0, 0, 0, 0, 0, 0, 0, 0, 0, 0, 0, 0, 0, 0].getD k 0) else (bif Nat.beq o 41 then (upd (upd (fun _ => 0) 0 10) 45 10) else (bif Nat.beq o 42 then (upd (upd (fun _ => 0) 0 1) 5 1) else (bif Nat.beq o 43 then (upd (upd (fun _ => 0) 0 1) 1 1) else (fun _ => 0))))))))))))))))))))
def x_rJ (o : Nat) : Nat → Int64 := bif Nat.beq o 0 then (fun k => [0, 0, 0, 0, 0, 0, 0, 0, 0, 0, 0, 0, 0, 1].getD k 0) else (bif Nat.beq o 40 then (fun k => [0, 0, 0, 0, 0, 0, 0, 0, 0, 0, 0, 0, 1, 0, 0, 0, 0, 0, 0, 0, 0, 0, 0, 0, 0, 0, 0, 0, 0, 0].getD k 0) else (fun _ => 0))
def x_h : e_H := (x_rI, x_rJ)
theorem x_ok : q_ok x_h := by
  refine ⟨?_, ?_, ?_, ?_, ?_, ?_, ?_, ?_, ?_⟩
  · unfold q_is; decide +kernel
  · unfold q_way; decide +kernel
  · unfold q_is; decide +kernel
  · unfold q_is; decide +kernel
  · unfold q_is; decide +kernel
  · unfold q_is; decide +kernel
  · have : ∀ s, s < 2 → ∀ k, k < 5 → ∀ w, w < 9 → e_rgl w ≤ (q_N x_h s k w).toInt ∧ (q_N x_h s k w).toInt ≤ e_rgh w := by decide +kernel
    exact fun s k hs hk w hw => this s hs k hk w hw
  · have : ∀ s, s < 2 → ∀ k, k < 5 → e_gI x_h (q_x s k + 10) 1 = nI (q_W x_h s k) ∧ 0 ≤ q_W x_h s k ∧ q_W x_h s k ≤ 9 := by decide +kernel
    exact fun s k hs hk => this s hs k hk
  · unfold q_rule q_is; decide +kernel
theorem x_w1 : q_w1 x_h := by
  have : ∀ s, s < 2 → ∀ k, k < 5 → e_gI x_h (q_x s k + 10) 1 = 1 := by decide +kernel
  exact fun s k hs _ hk => this s hs k hk
theorem x_sl : q_sl x_h := by unfold q_sl; decide +kernel
theorem x_M : q_M x_h x_h := by
  refine ⟨by decide +kernel, by decide +kernel, ?_, ?_, fun k => rfl⟩
  · have : ∀ s, s < 2 → ∀ k, k < 5 → ∀ w, w < 9 → e_gI x_h 41 (9 * q_x s k + w) = q_N x_h s k w := by decide +kernel
    exact fun s k w hs hk hw => this s hs k hk w hw
  · have : ∀ s, s < 2 → ∀ k, k < q_c x_h s → e_gI x_h 42 (q_x s k) = e_gI x_h (q_x s k + 10) 1 := by decide +kernel
    exact fun s k hs hk => this s hs k hk
theorem x_I : q_I x_h := ⟨x_ok, x_w1, x_sl, x_M⟩
def x_raw (ad : Nat → Nat) (cA : Nat → ClassId) : va_W := [((ad 0), .inr (3, [.ref (ad 1), .ref (ad 2), .ref (ad 3), .ref (ad 9), .ref (ad 34), .ref (ad 37), .int 10, .int 0, .int 2, .int 0, .int 1, .int 2, .long 0, .long 1])),
  ((ad 1), .inl (cA 0, 2, .inl (upd (upd (fun _ => 0) 0 1) 1 1))),
  ((ad 2), .inl (cA 3, 10, .inr (.inr (.inr (.inr (va_up (va_up (va_up (va_up (va_up (va_up (va_up (va_up (va_up (va_up (fun _ => none) 0 (some (ad 10))) 1 (some (ad 11))) 2 (some (ad 12))) 3 (some (ad 13))) 4 (some (ad 14))) 5 (some (ad 15))) 6 (some (ad 16))) 7 (some (ad 17))) 8 (some (ad 18))) 9 (some (ad 19)))))))),
  ((ad 3), .inr (2, [.int 0, .int 1, .ref (ad 4), .ref (ad 5), .ref (ad 6), .ref (ad 7), .ref (ad 8), .int 0, .int 0])),
  ((ad 4), .inl (cA 0, 40, .inl (fun _ => 0))),
  ((ad 5), .inl (cA 0, 40, .inl (fun _ => 0))),
  ((ad 6), .inl (cA 0, 40, .inl (fun _ => 0))),
  ((ad 7), .inl (cA 1, 40, .inr (.inl (fun _ => 0)))),
  ((ad 8), .inl (cA 1, 5, .inr (.inl (fun _ => 0)))),
  ((ad 9), .inr (1, [.ref (ad 30), .ref (ad 31), .int 1, .int 0, .int 0, .int (-5), .int (-5), .int (-1)])),
  ((ad 10), .inr (0, [.ref (ad 20), .int 1])),
  ((ad 11), .inr (0, [.ref (ad 21), .int 1])),
  ((ad 12), .inr (0, [.ref (ad 22), .int 1])),
  ((ad 13), .inr (0, [.ref (ad 23), .int 1])),
  ((ad 14), .inr (0, [.ref (ad 24), .int 1])),
  ((ad 15), .inr (0, [.ref (ad 25), .int 1])),
  ((ad 16), .inr (0, [.ref (ad 26), .int 1])),
  ((ad 17), .inr (0, [.ref (ad 27), .int 1])),
  ((ad 18), .inr (0, [.ref (ad 28), .int 1])),
  ((ad 19), .inr (0, [.ref (ad 29), .int 1])),
  ((ad 20), .inl (cA 0, 9, .inl (upd (fun _ => 0) 0 10))),
  ((ad 21), .inl (cA 0, 9, .inl (fun _ => 0))),
  ((ad 22), .inl (cA 0, 9, .inl (fun _ => 0))),
  ((ad 23), .inl (cA 0, 9, .inl (fun _ => 0))),
  ((ad 24), .inl (cA 0, 9, .inl (fun _ => 0))),
  ((ad 25), .inl (cA 0, 9, .inl (upd (fun _ => 0) 0 10))),
  ((ad 26), .inl (cA 0, 9, .inl (fun _ => 0))),
  ((ad 27), .inl (cA 0, 9, .inl (fun _ => 0))),
  ((ad 28), .inl (cA 0, 9, .inl (fun _ => 0))),
  ((ad 29), .inl (cA 0, 9, .inl (fun _ => 0))),
  ((ad 30), .inl (cA 2, 25, .inl (fun _ => 0))),
  ((ad 31), .inl (cA 4, 2, .inr (.inr (.inr (.inr (x_two (ad 32) (ad 33))))))),
  ((ad 32), .inl (cA 0, 25, .inl (fun _ => 0))),
  ((ad 33), .inl (cA 0, 25, .inl (fun _ => 0))),
  ((ad 34), .inl (cA 4, 2, .inr (.inr (.inr (.inr (x_two (ad 35) (ad 36))))))),
  ((ad 35), .inl (cA 0, 25, .inl (fun _ => 0))),
  ((ad 36), .inl (cA 0, 25, .inl (fun _ => 0))),
  ((ad 37), .inl (cA 5, 2, .inr (.inr (.inr (.inr (x_two (ad 38) (ad 39))))))),
  ((ad 38), .inl (cA 1, 25, .inr (.inl (fun _ => 0)))),
  ((ad 39), .inl (cA 1, 25, .inr (.inl (fun _ => 0)))),
  ((ad 40), .inr (4, [.int 10, .ref (ad 41), .ref (ad 42), .ref (ad 43), .int 0, .int 2, .int 0, .int 1, .int 2, .ref (ad 44), .int 0, .long 0, .long 1, .int 0, .int 0, .ref (ad 45), .int 0, .ref (ad 46), .int 0, .ref (ad 47), .long 0, .ref (ad 48), .ref (ad 49), .ref (ad 50), .int 0, .int 0, .int 0, .ref (ad 51), .ref (ad 52), .int 0])),
  ((ad 41), .inl (cA 0, 90, .inl (upd (upd (fun _ => 0) 0 10) 45 10))),
  ((ad 42), .inl (cA 0, 10, .inl (upd (upd (fun _ => 0) 0 1) 5 1))),
  ((ad 43), .inl (cA 0, 2, .inl (upd (upd (fun _ => 0) 0 1) 1 1))),
  ((ad 44), .inl (cA 0, 40, .inl (fun _ => 0))),
  ((ad 45), .inl (cA 1, 64, .inr (.inl (fun _ => 0)))),
  ((ad 46), .inl (cA 0, 128, .inl (fun _ => 0))),
  ((ad 47), .inl (cA 1, 5, .inr (.inl (fun _ => 0)))),
  ((ad 48), .inl (cA 2, 25, .inl (fun _ => 0))),
  ((ad 49), .inl (cA 0, 25, .inl (fun _ => 0))),
  ((ad 50), .inl (cA 0, 25, .inl (fun _ => 0))),
  ((ad 51), .inl (cA 0, 25, .inl (fun _ => 0))),
  ((ad 52), .inl (cA 0, 25, .inl (fun _ => 0)))]
theorem x_q {D : va_G} {cl : List vw_C} {a n : Nat} {c : ClassId} {f g : Nat → Option Nat} {H : Heap} (h : va_at D cl (a, .inl (c, n, .inr (.inr (.inr (.inr f))))) H) (hfg : ∀ j, j < n → f j = g j) : va_at D cl (a, .inl (c, n, .inr (.inr (.inr (.inr g))))) H := by
  show H[a]? = some (vp_cell c (n, .inr (.inr (.inr (.inr g)))))
  have h : H[a]? = some (vp_cell c (n, .inr (.inr (.inr (.inr f))))) := h
  have e : (fun j : Fin n => va_rf (f j.val)) = fun j : Fin n => va_rf (g j.val) := funext fun j => by rw [hfg j.val j.isLt]
  rw [h, vp_cell_q, vp_cell_q]
  show some ({ cls := c, slots := Array.ofFn (n := n) fun j => va_rf (f j.val), vm := .none } : Cell) = some ({ cls := c, slots := Array.ofFn (n := n) fun j => va_rf (g j.val), vm := .none } : Cell)
  rw [e]
set_option maxRecDepth 100000 in
theorem x_ew {D : va_G} {ad : Nat → Nat} {cA : Nat → ClassId} {H : Heap} (h : va_P D vwCl (x_raw ad cA) H) : ∀ k, k < 53 → va_at D vwCl (ad k, e_cell ad cA x_h k) H := fun k hk => match k, hk with
  | 0, _ => h 0 _ rfl
  | 1, _ => h 1 _ rfl
  | 2, _ => x_q (h 2 _ rfl) (fun j hj => match j, hj with | 0, _ => rfl | 1, _ => rfl | 2, _ => rfl | 3, _ => rfl | 4, _ => rfl | 5, _ => rfl | 6, _ => rfl | 7, _ => rfl | 8, _ => rfl | 9, _ => rfl | m + 10, h9 => absurd h9 (by show ¬ m + 10 < 10; omega))
  | 3, _ => h 3 _ rfl
  | 4, _ => h 4 _ rfl
  | 5, _ => h 5 _ rfl
  | 6, _ => h 6 _ rfl
  | 7, _ => h 7 _ rfl
  | 8, _ => h 8 _ rfl
  | 9, _ => h 9 _ rfl
  | 10, _ => h 10 _ rfl
  | 11, _ => h 11 _ rfl
  | 12, _ => h 12 _ rfl
  | 13, _ => h 13 _ rfl
  | 14, _ => h 14 _ rfl
  | 15, _ => h 15 _ rfl
  | 16, _ => h 16 _ rfl
  | 17, _ => h 17 _ rfl
  | 18, _ => h 18 _ rfl
  | 19, _ => h 19 _ rfl
  | 20, _ => h 20 _ rfl
  | 21, _ => h 21 _ rfl
  | 22, _ => h 22 _ rfl
  | 23, _ => h 23 _ rfl
  | 24, _ => h 24 _ rfl
  | 25, _ => h 25 _ rfl
  | 26, _ => h 26 _ rfl
  | 27, _ => h 27 _ rfl
  | 28, _ => h 28 _ rfl
  | 29, _ => h 29 _ rfl
  | 30, _ => h 30 _ rfl
  | 31, _ => x_q (h 31 _ rfl) (fun j hj => match j, hj with | 0, _ => rfl | 1, _ => rfl | m + 2, h9 => absurd h9 (by show ¬ m + 2 < 2; omega))
  | 32, _ => h 32 _ rfl
  | 33, _ => h 33 _ rfl
  | 34, _ => x_q (h 34 _ rfl) (fun j hj => match j, hj with | 0, _ => rfl | 1, _ => rfl | m + 2, h9 => absurd h9 (by show ¬ m + 2 < 2; omega))
  | 35, _ => h 35 _ rfl
  | 36, _ => h 36 _ rfl
  | 37, _ => x_q (h 37 _ rfl) (fun j hj => match j, hj with | 0, _ => rfl | 1, _ => rfl | m + 2, h9 => absurd h9 (by show ¬ m + 2 < 2; omega))
  | 38, _ => h 38 _ rfl
  | 39, _ => h 39 _ rfl
  | 40, _ => h 40 _ rfl
  | 41, _ => h 41 _ rfl
  | 42, _ => h 42 _ rfl
  | 43, _ => h 43 _ rfl
  | 44, _ => h 44 _ rfl
  | 45, _ => h 45 _ rfl
  | 46, _ => h 46 _ rfl
  | 47, _ => h 47 _ rfl
  | 48, _ => h 48 _ rfl
  | 49, _ => h 49 _ rfl
  | 50, _ => h 50 _ rfl
  | 51, _ => h 51 _ rfl
  | 52, _ => h 52 _ rfl
  | n + 53, h9 => absurd h9 (by omega)
theorem x_eP {D : va_G} {ad : Nat → Nat} {cA : Nat → ClassId} {H : Heap} (h : va_P D vwCl (x_raw ad cA) H) : va_P D vwCl (e_w ad cA x_h) H := by
  intro k q hk
  by_cases hN : k < e_N
  · rw [e_w_get hN] at hk
    cases hk
    exact x_ew h k hN
  · rw [e_w_none hN] at hk
    cases hk
set_option maxRecDepth 100000 in
theorem x_key {ad : Nat → Nat} {cA : Nat → ClassId} : ∀ k, k < 53 → ∃ x, (x_raw ad cA)[k]? = some (ad k, x) := fun k hk => match k, hk with
  | 0, _ => ⟨_, rfl⟩
  | 1, _ => ⟨_, rfl⟩
  | 2, _ => ⟨_, rfl⟩
  | 3, _ => ⟨_, rfl⟩
  | 4, _ => ⟨_, rfl⟩
  | 5, _ => ⟨_, rfl⟩
  | 6, _ => ⟨_, rfl⟩
  | 7, _ => ⟨_, rfl⟩
  | 8, _ => ⟨_, rfl⟩
  | 9, _ => ⟨_, rfl⟩
  | 10, _ => ⟨_, rfl⟩
  | 11, _ => ⟨_, rfl⟩
  | 12, _ => ⟨_, rfl⟩
  | 13, _ => ⟨_, rfl⟩
  | 14, _ => ⟨_, rfl⟩
  | 15, _ => ⟨_, rfl⟩
  | 16, _ => ⟨_, rfl⟩
  | 17, _ => ⟨_, rfl⟩
  | 18, _ => ⟨_, rfl⟩
  | 19, _ => ⟨_, rfl⟩
  | 20, _ => ⟨_, rfl⟩
  | 21, _ => ⟨_, rfl⟩
  | 22, _ => ⟨_, rfl⟩
  | 23, _ => ⟨_, rfl⟩
  | 24, _ => ⟨_, rfl⟩
  | 25, _ => ⟨_, rfl⟩
  | 26, _ => ⟨_, rfl⟩
  | 27, _ => ⟨_, rfl⟩
  | 28, _ => ⟨_, rfl⟩
  | 29, _ => ⟨_, rfl⟩
  | 30, _ => ⟨_, rfl⟩
  | 31, _ => ⟨_, rfl⟩
  | 32, _ => ⟨_, rfl⟩
  | 33, _ => ⟨_, rfl⟩
  | 34, _ => ⟨_, rfl⟩
  | 35, _ => ⟨_, rfl⟩
  | 36, _ => ⟨_, rfl⟩
  | 37, _ => ⟨_, rfl⟩
  | 38, _ => ⟨_, rfl⟩
  | 39, _ => ⟨_, rfl⟩
  | 40, _ => ⟨_, rfl⟩
  | 41, _ => ⟨_, rfl⟩
  | 42, _ => ⟨_, rfl⟩
  | 43, _ => ⟨_, rfl⟩
  | 44, _ => ⟨_, rfl⟩
  | 45, _ => ⟨_, rfl⟩
  | 46, _ => ⟨_, rfl⟩
  | 47, _ => ⟨_, rfl⟩
  | 48, _ => ⟨_, rfl⟩
  | 49, _ => ⟨_, rfl⟩
  | 50, _ => ⟨_, rfl⟩
  | 51, _ => ⟨_, rfl⟩
  | 52, _ => ⟨_, rfl⟩
  | n + 53, h9 => absurd h9 (by omega)
theorem x_J {ad : Nat → Nat} {cA : Nat → ClassId} {A : Nat → Prop} {base : Nat} (hD : va_D A (x_raw ad cA)) (hA : ∀ q, A q → base ≤ q) : e_J ad base ∧ ∀ i, i < e_N → A (ad i) := by
  refine ⟨⟨fun i j hi hj h => ?_, fun i hi => ?_⟩, fun i hi => ?_⟩
  · obtain ⟨x, hx⟩ := x_key (ad := ad) (cA := cA) i hi
    obtain ⟨y, hy⟩ := x_key (ad := ad) (cA := cA) j hj
    exact hD.1 i j _ _ hx hy h
  · obtain ⟨x, hx⟩ := x_key (ad := ad) (cA := cA) i hi
    exact hA _ (hD.2 i _ hx)
  · obtain ⟨x, hx⟩ := x_key (ad := ad) (cA := cA) i hi
    exact hD.2 i _ hx
def x_ad (l : List Nat) : Nat → Nat := fun i => l.getD i 0
