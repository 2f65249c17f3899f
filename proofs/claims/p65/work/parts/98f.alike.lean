/-! looks; two objects that show one row are alike -/
theorem bdS {α β : Type} {x : Option α} {f : α → Option β} {a : α} {r : Option β} (h : x = some a) (k : f a = r) : x.bind f = r := by rw [h]; exact k
theorem bdX {α β : Type} {x : Option (Nat ⊕ α)} {h : Nat → Option β} {c : α → Option β} {a : α} {r : Option β} (e : x = some (Sum.inr a)) (k : c a = r) : x.bind (fun o => exc o h c) = r := by rw [e]; exact k
theorem bdL {α β : Type} {x : Option (Nat ⊕ α)} {h : Nat → Option β} {c : α → Option β} {a : Nat} {r : Option β} (e : x = some (Sum.inl a)) (k : h a = r) : x.bind (fun o => exc o h c) = r := by rw [e]; exact k
theorem jnS {τ ρ : Type} {rest : τ → ρ} {use : (τ → ρ) → ρ} {r : ρ} (k : use rest = r) : jn rest use = r := k
theorem ifS {α : Type} {c : Prop} [Decidable c] {a b r : α} (h : c) (k : a = r) : (if c then a else b) = r := by rw [if_pos h]; exact k
theorem ifN {α : Type} {c : Prop} [Decidable c] {a b r : α} (h : ¬ c) (k : b = r) : (if c then a else b) = r := by rw [if_neg h]; exact k
theorem lk_row {N n : Nat} {B z : Int} {s : Int → Int} {S : SV} {xv : XV} {k : Int} (hN : 1500 < N) (h : INV B n s) (hS : shows s n z S) (h0 : 0 ≤ k) (h1 : k < n) : f_L_looks N xv S (0 : Int32) (i32 k) = some (i32 (if s (4 + 7 * k + 0) = 2 then -9 else s (4 + 7 * k + 1)), (xv, S)) := by
  have e := q_rowOf (xv := xv) hN h hS h0 h1
  unfold f_L_looks
  refine jnS (ifS rfl ?_)
  by_cases d : s (4 + 7 * k + 0) = 2
  · rw [if_pos d] at e ⊢
    exact bdL e (ifS rfl rfl)
  · rw [if_neg d] at e ⊢
    exact bdX e rfl
theorem lk_dist {N n : Nat} {B z : Int} {s : Int → Int} {S : SV} {xv : XV} {k : Int} (hN : 1500 < N) (h : INV B n s) (hS : shows s n z S) (h0 : 0 ≤ k) (h1 : k < n) : f_L_looks N xv S (1 : Int32) (i32 k) = some (i32 (if s (4 + 7 * k + 0) = 2 then -9 else dm s k), (xv, S)) := by
  have e := q_distanceOf (xv := xv) hN h hS h0 h1
  unfold f_L_looks
  refine jnS (ifN (by decide) (ifS rfl ?_))
  by_cases d : s (4 + 7 * k + 0) = 2
  · rw [if_pos d] at e ⊢
    exact bdL e (ifS rfl rfl)
  · rw [if_neg d] at e ⊢
    exact bdX e rfl
theorem lk_lead {N n : Nat} {B z : Int} {s : Int → Int} {S : SV} {xv : XV} {b : Int32} (hN : 1500 < N) (h : INV B n s) (hS : shows s n z S) : f_L_looks N xv S (2 : Int32) b = some (i32 (if sc s n = 0 then -9 else if 0 < sc s n then 0 else 1), (xv, S)) := by
  have e := q_leader (xv := xv) hN h hS
  unfold f_L_looks
  refine jnS (ifN (by decide) (ifN (by decide) (ifS rfl ?_)))
  by_cases d : sc s n = 0
  · rw [if_pos d] at e ⊢
    exact bdL e (ifS rfl rfl)
  · rw [if_neg d] at e ⊢
    exact bdX e rfl
theorem lk_gap {N n : Nat} {B z : Int} {s : Int → Int} {S : SV} {xv : XV} {b : Int32} (hN : 1500 < N) (h : INV B n s) (hS : shows s n z S) : f_L_looks N xv S (3 : Int32) b = some (i32 (if gapS s n = -1 then -9 else gapS s n), (xv, S)) := by
  have e := q_gap (xv := xv) hN h hS
  unfold f_L_looks
  refine jnS (ifN (by decide) (ifN (by decide) (ifN (by decide) (ifS rfl ?_))))
  by_cases d : gapS s n = -1
  · rw [if_pos d] at e ⊢
    exact bdL e (ifS rfl rfl)
  · rw [if_neg d] at e ⊢
    exact bdX e rfl
theorem lk_turn_p {N n : Nat} {B z : Int} {s : Int → Int} {S : SV} {xv : XV} {b : Int32} (hN : 1500 < N) (h : INV B n s) (hS : shows s n z S) (c : CanPlay s n) : f_L_looks N xv S (4 : Int32) b = some (i32 (sdS s n), (xv, S)) := by
  unfold f_L_looks
  refine jnS (ifN (by decide) (ifN (by decide) (ifN (by decide) (ifN (by decide) (ifS rfl ?_)))))
  exact bdX (q_turn_p (xv := xv) hN h hS c) rfl
theorem lk_turn_n {N n : Nat} {B z : Int} {s : Int → Int} {S : SV} {xv : XV} {b : Int32} (hN : 1500 < N) (h : INV B n s) (hS : shows s n z S) (c : ¬ CanPlay s n) : f_L_looks N xv S (4 : Int32) b = some (i32 (-9), (xv, S)) := by
  unfold f_L_looks
  refine jnS (ifN (by decide) (ifN (by decide) (ifN (by decide) (ifN (by decide) (ifS rfl ?_)))))
  exact bdL (q_turn_n (xv := xv) hN h hS c) (ifS rfl rfl)
theorem lk_jack {N n : Nat} {B z : Int} {s : Int → Int} {S : SV} {xv : XV} {b : Int32} (hN : 1500 < N) (h : INV B n s) (hS : shows s n z S) : f_L_looks N xv S (5 : Int32) b = some (i32 (if s 0 = 1 then s 1 else -9), (xv, S)) := by
  have e := q_jackRow (xv := xv) hN h hS
  unfold f_L_looks
  refine jnS (ifN (by decide) (ifN (by decide) (ifN (by decide) (ifN (by decide) (ifN (by decide) ?_)))))
  by_cases d : s 0 = 1
  · rw [if_pos d] at e ⊢
    exact bdX e rfl
  · rw [if_neg d] at e ⊢
    exact bdL e (ifS rfl rfl)
theorem alike_ok {N n : Nat} {B z y : Int} {s : Int → Int} {S T : SV} {xv yv : XV} (hN : 1500 < N) (h : INV B n s) (hS : shows s n z S) (hT : shows s n y T) : ∃ S' T', f_L_areAlike N xv S yv T = some (1, (xv, S', yv, T')) ∧ shows s n z S' ∧ shows s n y T' := by
  obtain ⟨S', p1, hS'⟩ := q_pointsByOrder (xv := xv) hN h hS
  obtain ⟨T', p2, hT'⟩ := q_pointsByOrder (xv := yv) hN h hT
  refine ⟨S', T', ?_, hS', hT'⟩
  have hn := h.2.1
  unfold f_L_areAlike
  refine bdS (q_isJackThere hN h hS) (bdS (q_isJackThere hN h hT) ?_)
  refine jnS (jnS (ifS rfl ?_))
  refine bdS (lk_jack hN h hS) (bdS (lk_jack hN h hT) ?_)
  refine ifS rfl ?_
  refine bdS (q_bowls hN h hS) (bdS (q_bowls hN h hT) ?_)
  refine ifS rfl ?_
  refine bdS (q_bowlsOfSide hN h hS) (bdS (q_bowlsOfSide hN h hT) ?_)
  refine ifS rfl ?_
  refine bdS (q_wind hN h hS) (bdS (q_wind hN h hT) ?_)
  refine ifS rfl ?_
  refine bdS (q_first hN h hS) (bdS (q_first hN h hT) ?_)
  refine ifS rfl ?_
  refine bdS (q_ends hN h hS) (bdS (q_ends hN h hT) ?_)
  refine ifS rfl ?_
  refine bdS (q_needed hN h hS) (bdS (q_needed hN h hT) ?_)
  refine ifS rfl ?_
  refine bdS (q_played hN h hS) (bdS (q_played hN h hT) ?_)
  refine ifS rfl ?_
  refine bdS (q_touchers hN h hS) (bdS (q_touchers hN h hT) ?_)
  refine ifS rfl ?_
  refine bdS (q_putBack hN h hS) (bdS (q_putBack hN h hT) ?_)
  refine ifS rfl ?_
  refine bdX (q_pointsOf (k := 0) hN h hS (by omega)) (bdX (q_pointsOf (k := 0) hN h hT (by omega)) (ifS rfl ?_))
  refine bdX (q_pointsOf (k := 1) hN h hS (by omega)) (bdX (q_pointsOf (k := 1) hN h hT (by omega)) (ifS rfl ?_))
  refine bdS (q_keptEnds hN h hS) (bdS (q_keptEnds hN h hT) ?_)
  refine ifS rfl ?_
  refine bdS p1 (bdS p2 (ifS rfl ?_))
  refine lp_for0 (fun j => ((1 : Int32), i32 (j : Int), xv, S', yv, T')) n 10 rfl (by omega) (fun j hj k => ?_) (fun k => ?_)
  · refine bdS (q_bowls hN h hS') (jnS (ifN (by rw [i32_le (by omega) (by omega) (by omega) (by omega)]; omega) (ifN (show ¬ (1 : Int32) = 0 by decide) ?_)))
    refine bdX (q_stateOf (k := j) hN h hS' (by omega) (by omega)) (bdX (q_stateOf (k := j) hN h hT' (by omega) (by omega)) ?_)
    refine jnS (jnS (ifS rfl ?_))
    refine bdX (q_isToucher (k := j) hN h hS' (by omega) (by omega)) (bdX (q_isToucher (k := j) hN h hT' (by omega) (by omega)) (ifS rfl ?_))
    refine bdS (lk_row (k := j) hN h hS' (by omega) (by omega)) (bdS (lk_row (k := j) hN h hT' (by omega) (by omega)) (ifS rfl ?_))
    refine bdX (q_stateOf (k := j) hN h hS' (by omega) (by omega)) (jnS ?_)
    have ei : i32 ((j + 1 : Nat) : Int) = i32 (j : Int) + (1 : Int32) := by rw [ncS, ← i32_add]; rfl
    have st := st012 h j (by omega) (by omega)
    by_cases d : s (4 + 7 * (j : Int) + 0) = 2
    · exact ifS (by rw [d]; rfl) (by rw [ei])
    · have c1 := q_columnOf (xv := xv) (k := j) hN h hS' (by omega) (by omega)
      have c2 := q_columnOf (xv := yv) (k := j) hN h hT' (by omega) (by omega)
      rw [if_neg d] at c1 c2
      refine ifN (by rw [show (2 : Int32) = i32 2 from rfl, i32_eq (by omega) (by omega) (by omega) (by omega)]; exact d) ?_
      refine bdX c1 (bdX c2 (ifS rfl ?_))
      rw [ei]
  · refine bdS (q_bowls hN h hS') (jnS (ifS (Int32.le_refl _) rfl))
