/-! areBowlsSo, whole -/
set_option maxHeartbeats 8000000 in
theorem bowls_ok {N n : Nat} {B z : Int} {s : Int → Int} {S : SV} {xv : XV} (hN : 1500 < N) (h : INV B n s) (x : EX s n) (hS : shows s n z S) : ∃ S2, f_L_areBowlsSo N xv S = some (1, (xv, S2)) ∧ shows s n z S2 := by
  obtain ⟨S1, p1, hS1⟩ := q_pointsByOrder (xv := xv) hN h hS
  have hn := h.2.1
  have pb := pts_b h
  have ab := sc_abs s n
  have hb := (inv_b31 h)
  have h60 := h.2.2.2.1
  have le : (n : Int) ≤ 2 * s 60 ∧ (s 0 ≠ 1 → n = 0) := by
    rcases h.2.2.1 with q | q
    · exact ⟨by omega, fun _ => q.2⟩
    · exact ⟨q.2, fun c => absurd q.1.1 c⟩
  obtain ⟨x1, x2, x3⟩ := id x
  have ps : pts s n = 0 ↔ sc s n = 0 := by omega
  obtain ⟨S2, r1, r2⟩ := bowls_2 (xv := xv) (z := z) hN h x (S0 := S1) (y0 := (i32 (alv s n), (1 : Int32), i32 (n : Int), xv, S1)) rfl (oM s n).1 10 0 S1 hS1 (by omega) (by have := (oM_spec s n).1; omega)
  refine ⟨S2, ?_, r2⟩
  unfold f_L_areBowlsSo
  refine bdS (q_bowls hN h hS) (bdS p1 (bdS (q_isJackThere hN h hS1) (bdS (q_bowlsOfSide hN h hS1) (jnS (jnS (ifN ?_ (jnU (fun g => ?_) ?_)))))))
  · rw [l32_2, i32_mul, i32_lt (by omega) (by omega) (by omega) (by omega)]; omega
  · by_cases c : s 0 = 1
    · rw [b2i_p c]; exact ifN (by decide) rfl
    · rw [b2i_n c]
      exact ifS rfl (ifS (by rw [le.2 c]; rfl) rfl)
  refine bdS (q_pointsByPairs hN h hS1) (ifS rfl (ifN ?_ (ifN ?_ (jnV (x := i32 (b2i (pts s n = 0))) (fun g => ?_) ?_))))
  · show ¬ i32 (pts s n) < 0
    rw [l32_0, i32_lt (by omega) (by omega) (by omega) (by omega)]; omega
  · show ¬ (8 : Int32) < i32 (pts s n)
    rw [l32_8, i32_lt (by omega) (by omega) (by omega) (by omega)]; omega
  · by_cases c : pts s n = 0
    · rw [b2i_p c]; exact ifS (by show i32 (pts s n) = 0; rw [c]; rfl) rfl
    · rw [b2i_n c]; exact ifN (by show ¬ i32 (pts s n) = 0; rw [l32_0, i32_eq (by omega) (by omega) (by omega) (by omega)]; exact c) rfl
  refine bdS (lk_lead hN h hS1) (jnV (x := i32 (b2i (sc s n = 0))) (fun g => ?_) (ifS (by rw [b2i_congr ps]) (jnU (fun g => ?_) ?_)))
  · by_cases c : sc s n = 0
    · rw [b2i_p c]; exact ifS (by show i32 (if sc s n = 0 then -9 else if 0 < sc s n then 0 else 1) = -9; rw [if_pos c]; rfl) rfl
    · rw [b2i_n c]
      refine ifN ?_ rfl
      show ¬ i32 (if sc s n = 0 then -9 else if 0 < sc s n then 0 else 1) = -9
      rw [if_neg c]
      by_cases d : 0 < sc s n
      · rw [if_pos d]; decide
      · rw [if_neg d]; decide
  · by_cases c : s 0 = 1
    · have jr := q_jackRow (xv := xv) hN h hS1
      rw [if_pos c] at jr
      have q1 := x1 c
      have q2 := hb.2 c
      rw [b2i_p c]
      refine ifN (by decide) (bdX jr (ifN ?_ (bdX jr (ifN ?_ (bdX (q_jackColumn hN h hS1 c) (ifS ?_ rfl))))))
      · rw [l32_20, i32_lt (by omega) (by omega) (by omega) (by omega)]; omega
      · rw [l32_60, i32_lt (by omega) (by omega) (by omega) (by omega)]; omega
      · rw [q1.2]; rfl
    · rw [b2i_n c]; exact ifS rfl rfl
  refine bdS (q_isBurnt hN h hS1) (jnU (fun g => ?_) ?_)
  · by_cases c : Burnt s n
    · have jr := q_jackRow (xv := xv) hN h hS1
      rw [if_pos c.1] at jr
      rw [b2i_p c]
      refine ifN (by decide) (ifN (by rw [b2i_p c.1]; decide) (bdX jr (ifS (by rw [c.2.1]; rfl) (ifS ?_ rfl))))
      show i32 (pts s n) = 0
      rw [pts_n (fun q => q.2 c)]; rfl
    · rw [b2i_n c]; exact ifS rfl rfl
  refine lp_for0 (fun j => (i32 (alv s j), (1 : Int32), i32 (j : Int), xv, S1)) n 10 rfl (by omega) (fun j hj k => ?_) (fun k => ?_)
  · refine jnS (ifN (by rw [i32_le (by omega) (by omega) (by omega) (by omega)]; omega) (ifN (show ¬ (1 : Int32) = 0 by decide) ?_))
    have j0 : (0 : Int) ≤ j := by omega
    have j1 : (j : Int) < n := by omega
    have st := st012 h j j0 j1
    obtain ⟨g, bk, -, -⟩ := bowl_pl h j0 j1
    have tt := inv_tou h j j0 j1
    obtain ⟨y1, y2, y3, y4⟩ := x2 j j0 j1
    have sb : 0 ≤ alv s j ∧ alv s j ≤ 1 * j := sumZ_b (by omega) (fun b _ _ => by
      have := b2i_01 (aM s b)
      show 0 ≤ b2i (aM s b) ∧ b2i (aM s b) ≤ 1
      omega)
    have db : s (4 + 7 * (j : Int) + 0) ≠ 2 → 0 ≤ dm s j ∧ dm s j ≤ 10000 := fun q => dm_b h j0 j1 q
    have dp : s (4 + 7 * (j : Int) + 0) = 0 → 0 < dm s j := fun q => dm_pos h j0 j1 q
    have ba := q_bowlAt (xv := xv) hN h hS1 j0 j1
    refine bdS (lk_row hN h hS1 j0 j1) (bdS (lk_dist hN h hS1 j0 j1) (bdX (q_stateOf hN h hS1 j0 j1) (jnV (x := i32 (b2i (aM s j))) (fun g => ?_) ?_)))
    · by_cases c : s (4 + 7 * (j : Int) + 0) = 2
      · rw [b2i_n (show ¬ aM s j from fun q => q c)]
        exact ifS (by rw [c]; decide) rfl
      · rw [b2i_p (show aM s j from c)]
        exact ifN (by rw [l32_2, i32_le (by omega) (by omega) (by omega) (by omega)]; omega) rfl
    refine bdX (q_sideOf hN h hS1 j0 j1) (bdS (q_first hN h hS1) (jnV (x := (1 : Int32)) (fun g => ?_) ?_))
    rotate_left
    · show k (i32 (alv s j) + i32 (b2i (aM s j)), (1 : Int32), i32 (j : Int) + (1 : Int32), xv, S1) = k _
      have ei : i32 (j : Int) + (1 : Int32) = i32 ((j + 1 : Nat) : Int) := by rw [l32_1, i32_add, ncS]
      rw [ei, i32_add]
      rfl
    have h61 := h.2.2.2.2.1
    refine jnS (ifS ?_ ?_)
    · show i32 ((s 61 + j) % 2) = (i32 (s 61) + i32 (j : Int)) - (i32 (s 61) + i32 (j : Int)) / (2 : Int32) * (2 : Int32)
      rw [l32_2, i32_add, i32_div (by omega) (by omega) (by omega) (by omega), i32_mul, i32_sub]
      congr 1
      omega
    refine jnV (x := i32 (b2i (s (4 + 7 * (j : Int) + 0) = 2))) (fun g => ?_) (jnV (x := i32 (b2i (s (4 + 7 * (j : Int) + 0) = 2))) (fun g => ?_) (ifS rfl ?_))
    · by_cases c : s (4 + 7 * (j : Int) + 0) = 2
      · rw [b2i_p c]; exact ifS (by rw [c]; rfl) rfl
      · rw [b2i_n c]; exact ifN (by rw [l32_2, i32_eq (by omega) (by omega) (by omega) (by omega)]; exact c) rfl
    · by_cases c : s (4 + 7 * (j : Int) + 0) = 2
      · rw [b2i_p c]; exact ifS (by show i32 (if s (4 + 7 * (j : Int) + 0) = 2 then -9 else s (4 + 7 * (j : Int) + 1)) = (-9 : Int32); rw [if_pos c]; rfl) rfl
      · rw [b2i_n c]; exact ifN (by show ¬ i32 (if s (4 + 7 * (j : Int) + 0) = 2 then -9 else s (4 + 7 * (j : Int) + 1)) = (-9 : Int32); rw [if_neg c, show (-9 : Int32) = i32 (-9) from rfl, i32_eq (by omega) (by omega) (by omega) (by omega)]; omega) rfl
    refine jnV (x := i32 (b2i (s (4 + 7 * (j : Int) + 0) = 1))) (fun g => ?_) (jnV (x := i32 (b2i (s (4 + 7 * (j : Int) + 0) = 1))) (fun g => ?_) (ifS rfl ?_))
    · by_cases c : s (4 + 7 * (j : Int) + 0) = 1
      · rw [b2i_p c]; exact ifS (by rw [c]; rfl) rfl
      · rw [b2i_n c]; exact ifN (by rw [l32_1, i32_eq (by omega) (by omega) (by omega) (by omega)]; exact c) rfl
    · by_cases c : s (4 + 7 * (j : Int) + 0) = 1
      · rw [b2i_p c]; exact ifS (by show i32 (if s (4 + 7 * (j : Int) + 0) = 2 then -9 else s (4 + 7 * (j : Int) + 1)) = (60 : Int32); rw [if_neg (by omega), show s (4 + 7 * (j : Int) + 1) = 60 by omega]; rfl) rfl
      · rw [b2i_n c]
        refine ifN ?_ rfl
        show ¬ i32 (if s (4 + 7 * (j : Int) + 0) = 2 then -9 else s (4 + 7 * (j : Int) + 1)) = (60 : Int32)
        by_cases d : s (4 + 7 * (j : Int) + 0) = 2
        · rw [if_pos d]; decide
        · rw [if_neg d, l32_60, i32_eq (by omega) (by omega) (by omega) (by omega)]; omega
    -- the dead
    refine jnU (fun g => ?_) (jnU (fun g => ?_) (jnU (fun g => ?_) (jnU (fun g => ?_) ?_)))
    · by_cases c : s (4 + 7 * (j : Int) + 0) = 2
      · refine ifN (by rw [c]; decide) (ifS (by show i32 (if s (4 + 7 * (j : Int) + 0) = 2 then -9 else dm s j) = (-9 : Int32); rw [if_pos c]; rfl) (bdX (q_isToucher hN h hS1 j0 j1) (ifS (by rw [y1 c]; rfl) rfl)))
      · exact ifS (by rw [l32_2, i32_lt (by omega) (by omega) (by omega) (by omega)]; omega) rfl
    · by_cases c : s (4 + 7 * (j : Int) + 0) = 1
      · exact ifS (by rw [c]; rfl) (bdX (q_isToucher hN h hS1 j0 j1) (ifN (by rw [show s (4 + 7 * (j : Int) + 3) = 1 by omega]; decide) rfl))
      · exact ifN (by rw [l32_1, i32_eq (by omega) (by omega) (by omega) (by omega)]; exact c) rfl
    · by_cases c : s (4 + 7 * (j : Int) + 0) = 2
      · exact ifS (by rw [c]; rfl) rfl
      · have cl := q_columnOf (xv := xv) hN h hS1 j0 j1
        rw [if_neg c] at cl
        have d0 := db c
        refine ifN (by rw [l32_2, i32_eq (by omega) (by omega) (by omega) (by omega)]; exact c) (ifN ?_ (bdX cl (ifN ?_ (bdX cl (ifN ?_ rfl)))))
        · show ¬ i32 (if s (4 + 7 * (j : Int) + 0) = 2 then -9 else dm s j) < (0 : Int32)
          rw [if_neg c, l32_0, i32_lt (by omega) (by omega) (by omega) (by omega)]; omega
        · rw [l32_0, i32_lt (by omega) (by omega) (by omega) (by omega)]; omega
        · rw [l32_21, i32_le (by omega) (by omega) (by omega) (by omega)]; omega
    · by_cases c : s (4 + 7 * (j : Int) + 0) = 0
      · have cl := q_columnOf (xv := xv) hN h hS1 j0 j1
        rw [if_neg (by omega)] at cl
        have ba := ba c
        have d1 := dp c
        have d0 := db (by omega)
        refine ifS (by rw [c]; rfl) (bdX cl (bdX ?_ (ifS rfl (ifN ?_ rfl))))
        · show f_X5_bowlAt N xv S1 (i32 (if s (4 + 7 * (j : Int) + 0) = 2 then -9 else s (4 + 7 * (j : Int) + 1))) (i32 (s (4 + 7 * (j : Int) + 2))) = _
          rw [if_neg (by omega)]
          exact ba
        · show ¬ i32 (if s (4 + 7 * (j : Int) + 0) = 2 then -9 else dm s j) ≤ 0
          rw [if_neg (by omega), l32_0, i32_le (by omega) (by omega) (by omega) (by omega)]; omega
      · exact ifN (by rw [l32_0, i32_eq (by omega) (by omega) (by omega) (by omega)]; exact c) rfl
    refine bdX (q_weightOf hN h hS1 j0 j1) (ifN (by rw [l32_15, i32_lt (by omega) (by omega) (by omega) (by omega)]; omega) ?_)
    refine bdX (q_weightOf hN h hS1 j0 j1) (ifN (by rw [l32_70, i32_lt (by omega) (by omega) (by omega) (by omega)]; omega) ?_)
    refine bdX (q_aimOf hN h hS1 j0 j1) (ifN (by rw [show (-9 : Int32) = i32 (-9) from rfl, i32_lt (by omega) (by omega) (by omega) (by omega)]; omega) ?_)
    refine bdX (q_aimOf hN h hS1 j0 j1) (ifN (by rw [l32_9, i32_lt (by omega) (by omega) (by omega) (by omega)]; omega) ?_)
    refine bdX (q_biasOf hN h hS1 j0 j1) (ifN (by rw [show (-3 : Int32) = i32 (-3) from rfl, i32_lt (by omega) (by omega) (by omega) (by omega)]; omega) ?_)
    refine bdX (q_biasOf hN h hS1 j0 j1) (ifN (by rw [l32_3, i32_lt (by omega) (by omega) (by omega) (by omega)]; omega) ?_)
    rfl
  · refine jnS (ifS (Int32.le_refl _) ?_)
    exact r1
