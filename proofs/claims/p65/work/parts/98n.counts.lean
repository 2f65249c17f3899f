/-! areCountsSo answers 1 -/
abbrev sA (s : Int → Int) (j : Nat) : Int := sumZ (fun k => s (83 + k)) j
abbrev sO (s : Int → Int) (j : Nat) : Int := sumZ (fun k => (if 8 < k then k - 8 else 0) * s (83 + k)) j
abbrev sT (s : Int → Int) (j : Nat) : Int := sumZ (fun k => (if k < 8 then 8 - k else 0) * s (83 + k)) j
theorem jnV {τ ρ : Type} {rest : τ → ρ} {use : (τ → ρ) → ρ} {x : τ} {r : ρ} (p : ∀ g : τ → ρ, use g = g x) (k : rest x = r) : jn rest use = r := (p rest).trans k
theorem counts_ok (F : FM) {N n : Nat} {B z : Int} {s : Int → Int} {S : SV} {xv : XV} (hN : 1500 < N) (h : INV B n s) (hS : shows s n z S) (x : EX s n) : f_L_areCountsSo N xv S = some (1, (xv, S)) := by
  obtain ⟨-, -, a1, a2, a3, a4, a5, a6, a7⟩ := x
  have h70 := h.2.2.2.2.2.2.2.2.2.1
  have h71 := h.2.2.2.2.2.2.2.2.2.2.1
  have hC := h.2.2.2.2.2.2.2.2.2.2.2.1
  have hB := h.2.2.2.2.2.2.2.2.2.2.2.2
  have h67 := h.2.2.2.2.2.2.2.2.1
  have c65 := hC 65 (by omega)
  have c66 := hC 66 (by omega)
  have c68 := hC 68 (by omega)
  have c69 := hC 69 (by omega)
  have c91 := hC 91 (by omega)
  have c101 := hC 101 (by omega)
  have c102 := hC 102 (by omega)
  obtain ⟨m, m1, m2, m3⟩ := q_streak (xv := xv) hN h hS
  obtain ⟨q, hq⟩ : ∃ q : Nat, s 70 = q := ⟨(s 70).toNat, by omega⟩
  unfold f_L_areCountsSo
  have e91 := q_endsWith (xv := xv) (k := 0) hN h hS (by omega) (by omega)
  rw [show (91 : Int) + 0 = 91 by omega] at e91
  refine bdS (q_burntEnds hN h hS) (bdX e91 ?_)
  refine jnS (jnS (ifN (by rw [i32_lt (by omega) (by omega) (by omega) (by omega)]; omega) ?_))
  refine bdS (q_touchers hN h hS) (bdS (q_played hN h hS) (ifN (by rw [i32_lt (by omega) (by omega) (by omega) (by omega)]; omega) ?_))
  refine bdS m2 (bdS (q_keptEnds hN h hS) (ifN (by rw [i32_lt (by omega) (by omega) (by omega) (by omega)]; omega) ?_))
  refine bdS (q_keptEnds hN h hS) (bdS (q_ends hN h hS) (jnV (x := i32 (s 70)) (fun g => ?_) (ifS rfl ?_)))
  · by_cases c : 12 ≤ s 68
    · refine ifS (by rw [l32_12, i32_le (by omega) (by omega) (by omega) (by omega)]; exact c) ?_
      rw [if_neg (by omega)] at a3
      rw [a3]; rfl
    · refine ifN (by rw [l32_12, i32_le (by omega) (by omega) (by omega) (by omega)]; exact c) (bdS (q_ends hN h hS) ?_)
      rw [if_pos (by omega)] at a3
      rw [a3]
  -- the kinds of ends
  have wb : ∀ k : Int, 0 ≤ k → k < 17 → 0 ≤ s (83 + k) ∧ s (83 + k) ≤ 1000000 := fun k u v => by
    have := hC (83 + k) (by omega)
    omega
  refine lp_for0 (fun j => (i32 (sA s j), i32 (sO s j), i32 (sT s j), i32 (-8 + (j : Int)))) 17 18 rfl (by decide) (fun j hj k => ?_) (fun k => ?_)
  · have e := q_endsWith (xv := xv) (k := -8 + (j : Int)) hN h hS (by omega) (by omega)
    rw [show 91 + (-8 + (j : Int)) = 83 + j by omega] at e
    refine ifN (by rw [l32_9, i32_le (by omega) (by omega) (by omega) (by omega)]; omega) (bdX e (jnS ?_))
    have eA : i32 (sA s j) + i32 (s (83 + j)) = i32 (sA s (j + 1)) := i32_add _ _
    have ej : i32 (-8 + (j : Int)) + (1 : Int32) = i32 (-8 + ((j + 1 : Nat) : Int)) := by rw [l32_1, i32_add, ncS, Int.add_assoc]
    have bw := wb j (by omega) (by omega)
    by_cases c : (j : Int) ≤ 8
    · refine ifS (by rw [l32_0, i32_le (by omega) (by omega) (by omega) (by omega)]; omega) (jnS ?_)
      have eO : i32 (sO s j) + (0 : Int32) = i32 (sO s (j + 1)) := by
        show _ = i32 (sO s j + (if 8 < (j : Int) then (j : Int) - 8 else 0) * s (83 + j))
        rw [if_neg (by omega), l32_0, i32_add, Int.zero_mul]
      by_cases d : (j : Int) = 8
      · have eT : i32 (sT s j) - (0 : Int32) = i32 (sT s (j + 1)) := by
          show _ = i32 (sT s j + (if (j : Int) < 8 then 8 - (j : Int) else 0) * s (83 + j))
          rw [if_neg (by omega), l32_0, i32_sub, Int.zero_mul, Int.sub_zero, Int.add_zero]
        refine ifS (by rw [l32_0, i32_le (by omega) (by omega) (by omega) (by omega)]; omega) ?_
        show k _ = k _
        rw [← eA, ← eO, ← eT, ← ej]
      · have eT : i32 (sT s j) - (i32 (-8 + (j : Int)) * i32 (s (83 + j))) = i32 (sT s (j + 1)) := by
          show _ = i32 (sT s j + (if (j : Int) < 8 then 8 - (j : Int) else 0) * s (83 + j))
          rw [if_pos (by omega), i32_mul, i32_sub, Int.sub_eq_add_neg, ← Int.neg_mul, show -(-8 + (j : Int)) = 8 - j by omega]
        refine ifN (by rw [l32_0, i32_le (by omega) (by omega) (by omega) (by omega)]; omega) (bdX e ?_)
        show k _ = k _
        rw [← eA, ← eO, ← eT, ← ej]
    · refine ifN (by rw [l32_0, i32_le (by omega) (by omega) (by omega) (by omega)]; omega) (bdX e (jnS ?_))
      have eO : i32 (sO s j) + (i32 (-8 + (j : Int)) * i32 (s (83 + j))) = i32 (sO s (j + 1)) := by
        show _ = i32 (sO s j + (if 8 < (j : Int) then (j : Int) - 8 else 0) * s (83 + j))
        rw [if_pos (by omega), i32_mul, i32_add, show -8 + (j : Int) = j - 8 by omega]
      have eT : i32 (sT s j) - (0 : Int32) = i32 (sT s (j + 1)) := by
        show _ = i32 (sT s j + (if (j : Int) < 8 then 8 - (j : Int) else 0) * s (83 + j))
        rw [if_neg (by omega), l32_0, i32_sub, Int.zero_mul, Int.sub_zero, Int.add_zero]
      refine ifS (by rw [l32_0, i32_le (by omega) (by omega) (by omega) (by omega)]; omega) ?_
      show k _ = k _
      rw [← eA, ← eO, ← eT, ← ej]
  · refine ifS (show (9 : Int32) ≤ i32 (-8 + ((17 : Nat) : Int)) by decide) ?_
    have b4 : sA s 17 = s 68 := a4
    have b5 : sO s 17 = s 65 := a5
    have b6 : sT s 17 = s 66 := a6
    rw [b4, b5, b6]
    -- the ends that are kept
    refine lp_for0 (fun i => (i32 (if (i : Int) = 0 then 0 else s (71 + (i : Int) - 1)), (1 : Int32), i32 (i : Int))) q 13 (by rw [if_pos nc0]; rfl) (by omega) (fun i hi k2 => ?_) (fun k2 => ?_)
    · have r := h71 i (by omega) (by omega)
      have p := a7 i (by omega) (by omega)
      have p9 := hC (91 + s (71 + i)) (by omega)
      refine bdS (q_keptEnds hN h hS) (ifN (by rw [i32_le (by omega) (by omega) (by omega) (by omega)]; omega) ?_)
      refine bdX (q_pointsOfEnd (k := i) hN h hS (by omega) (by omega)) (jnS (jnS ?_))
      refine ifN (show ¬ (1 : Int32) = 0 by decide) (ifN (by rw [show (-8 : Int32) = i32 (-8) from rfl, i32_lt (by omega) (by omega) (by omega) (by omega)]; omega) (ifN (by rw [l32_8, i32_lt (by omega) (by omega) (by omega) (by omega)]; omega) ?_))
      refine bdX (q_endsWith (k := s (71 + i)) hN h hS (by omega) (by omega)) (ifN (by rw [l32_0, i32_le (by omega) (by omega) (by omega) (by omega)]; omega) ?_)
      show k2 _ = k2 _
      have ei : i32 (i : Int) + (1 : Int32) = i32 ((i + 1 : Nat) : Int) := by rw [l32_1, i32_add, ncS]
      rw [if_neg (show ¬ ((i + 1 : Nat) : Int) = 0 by omega), show 71 + ((i + 1 : Nat) : Int) - 1 = 71 + (i : Int) by omega, ← ei]
    · refine bdS (q_keptEnds hN h hS) (ifS (by rw [i32_le (by omega) (by omega) (by omega) (by omega)]; omega) (jnS (jnS ?_)))
      refine ifN (show ¬ (1 : Int32) = 0 by decide) (bdS (q_ends hN h hS) (ifS rfl ?_))
      refine bdX (q_pointsOf (k := 0) hN h hS (by omega)) (ifS rfl ?_)
      refine bdX (q_pointsOf (k := 1) hN h hS (by omega)) (ifS rfl ?_)
      have lv : (if (q : Int) = 0 then 0 else s (71 + (q : Int) - 1)) = lastV s := by
        unfold lastV
        rw [hq]
      have lb : -8 ≤ lastV s ∧ lastV s ≤ 8 := by
        unfold lastV
        by_cases c : s 70 = 0
        · rw [if_pos c]; omega
        · rw [if_neg c]
          have := h71 (s 70 - 1) (by omega) (by omega)
          rw [show 71 + (s 70 - 1) = 71 + s 70 - 1 by omega] at this
          exact this
      refine bdS (q_isOver hN h hS) (bdS (q_needed hN h hS) (jnV (x := i32 (b2i (Over s))) (fun g => ?_) (ifS rfl ?_)))
      · by_cases c : s 67 ≤ s 65
        · rw [b2i_p (show Over s from Or.inl c)]
          exact jnS (ifS (by rw [i32_le (by omega) (by omega) (by omega) (by omega)]; exact c) rfl)
        · refine jnS (ifN (by rw [i32_le (by omega) (by omega) (by omega) (by omega)]; exact c) (bdS (q_needed hN h hS) ?_))
          by_cases d : s 66 < s 67
          · rw [b2i_n (show ¬ Over s by omega)]
            exact ifS (by rw [i32_lt (by omega) (by omega) (by omega) (by omega)]; exact d) rfl
          · rw [b2i_p (show Over s from Or.inr (by omega))]
            exact ifN (by rw [i32_lt (by omega) (by omega) (by omega) (by omega)]; exact d) rfl
      have mm : Op.cmpValue (FP.dcmp (mnV s) (mnV s)) CmpOp.l = 0 := by
        unfold mnV
        by_cases c : s 68 = 0
        · rw [if_pos c]; exact F.1
        · rw [if_neg c]; exact (F.2 (s 65 + s 66) (s 68) (by omega) (by omega) (by omega) (by omega)).2
      refine bdS (q_mean F hN h hS) (jnV (x := mnV s) (fun g => ?_) (ifS mm ?_))
      · unfold mnV
        by_cases c : s 68 = 0
        · rw [if_pos c]
          exact ifS (by rw [c]; rfl) rfl
        · rw [if_neg c]
          refine ifN (by rw [l32_0, i32_eq (by omega) (by omega) (by omega) (by omega)]; exact c) ?_
          simp only [i32_add]
          rw [gd_pos (F.2 (s 65 + s 66) (s 68) (by omega) (by omega) (by omega) (by omega)).1]
      refine bdS m2 (jnS ?_)
      by_cases c : lastV s = 0
      · have m0 : ¬ 0 < m := fun u => m3.mp u c
        refine ifS (by rw [l32_0, i32_le (by omega) (by omega) (by omega) (by omega)]; omega) (jnS (ifS ?_ (ifS rfl rfl)))
        show i32 (if (q : Int) = 0 then 0 else s (71 + (q : Int) - 1)) = 0
        rw [lv, c]; rfl
      · have m0 : 0 < m := m3.mpr c
        refine ifN (by rw [l32_0, i32_le (by omega) (by omega) (by omega) (by omega)]; omega) (jnS (ifN ?_ (ifS rfl rfl)))
        show ¬ i32 (if (q : Int) = 0 then 0 else s (71 + (q : Int) - 1)) = 0
        rw [lv, l32_0, i32_eq (by omega) (by omega) (by omega) (by omega)]
        exact c
