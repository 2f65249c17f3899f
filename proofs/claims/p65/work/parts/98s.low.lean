/-! the range of low; curves by their steps -/
theorem low_rng (p : Int32) {m : Int} (h0 : 0 < m) (h1 : m < 1000000) : ∃ r : Int, lowv p (i32 m) = i32 r ∧ 0 ≤ r ∧ r < m := by
  have e : 0 ≤ (p &&& (2147483647 : Int32)).toInt := by
    have q : (p &&& (2147483647 : Int32)).toBitVec.msb = false := by
      rw [Int32.toBitVec_and, BitVec.msb_and, show (2147483647 : Int32).toBitVec.msb = false by decide, Bool.and_false]
    rw [BitVec.msb_eq_toInt] at q
    have q2 := of_decide_eq_false q
    show 0 ≤ (p &&& (2147483647 : Int32)).toBitVec.toInt
    omega
  obtain ⟨A, hA, eA⟩ := arg32 (p &&& (2147483647 : Int32))
  rw [eA, i32_toInt hA.1 hA.2] at e
  have d : A / m * m ≤ A := Int.ediv_mul_le A (by omega)
  have d2 := Int.emod_nonneg A (show m ≠ 0 by omega)
  have d3 := Int.emod_lt_of_pos A h0
  have d4 := Int.emod_add_mul_ediv A m
  have d5 : m * (A / m) = A / m * m := Int.mul_comm _ _
  refine ⟨A % m, ?_, d2, d3⟩
  unfold lowv
  rw [eA, i32_div e (by omega) h0 (by omega), i32_mul, i32_sub]
  congr 1
  omega
theorem crv_neg {dr bi : Int} {q : Int} (hq : 0 ≤ q) (h : crv dr bi q < 0) : crv dr bi q = -1 ∧ crv dr bi (q + 1) = -1 := by
  by_cases c : ∀ j : Int, 1 ≤ j → j ≤ q → (0 ≤ clm j dr bi ∧ clm j dr bi < 21) ∧ j < 60
  · exfalso
    rw [crv_p c] at h
    by_cases q0 : q = 0
    · rw [q0, colAt_0] at h; omega
    · have := c q (by omega) (by omega)
      rw [colAt_s (by omega)] at h
      omega
  · have e : ∃ j : Int, 1 ≤ j ∧ j ≤ q ∧ ¬ ((0 ≤ clm j dr bi ∧ clm j dr bi < 21) ∧ j < 60) := Classical.byContradiction fun x => c fun j a b => Classical.byContradiction fun y => x ⟨j, a, b, y⟩
    obtain ⟨j, a, b, y⟩ := e
    exact ⟨crv_n a b y, crv_n a (by omega) y⟩
theorem crv_div {dr bi : Int} {q : Int} (hq : 0 ≤ q) (hb : q ≤ 100) (h : ¬ crv dr bi q < 0) : crv dr bi q / 21 = q ∧ crv dr bi q ≤ 3000 ∧ (∀ j : Int, 1 ≤ j → j ≤ q → (0 ≤ clm j dr bi ∧ clm j dr bi < 21) ∧ j < 60) ∧ crv dr bi q = 21 * q + colAt dr bi q := by
  by_cases c : ∀ j : Int, 1 ≤ j → j ≤ q → (0 ≤ clm j dr bi ∧ clm j dr bi < 21) ∧ j < 60
  · have e := crv_p c
    have b : 0 ≤ colAt dr bi q ∧ colAt dr bi q < 21 := by
      by_cases q0 : q = 0
      · rw [q0, colAt_0]; omega
      · have := c q (by omega) (by omega)
        rw [colAt_s (by omega)]
        exact this.1
    exact ⟨by omega, by omega, c, e⟩
  · exfalso
    have e : ∃ j : Int, 1 ≤ j ∧ j ≤ q ∧ ¬ ((0 ≤ clm j dr bi ∧ clm j dr bi < 21) ∧ j < 60) := Classical.byContradiction fun x => c fun j a b => Classical.byContradiction fun y => x ⟨j, a, b, y⟩
    obtain ⟨j, a, b, y⟩ := e
    exact h (by rw [crv_n a b y]; omega)
