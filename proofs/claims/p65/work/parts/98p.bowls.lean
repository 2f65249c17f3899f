/-! areBowlsSo answers 1 -/
def stZ (N : Nat) (o1 : Int32) (o3 : Int32 × (XV × SV)) (o5 : Int32) (s153 : Int32 × Int32 × Int32 × XV × SV) : Int32 × Int32 × Int32 × XV × SV → (Int32 × Int32 × Int32 × XV × SV → Option (Int32 × (XV × SV))) → Option (Int32 × (XV × SV)) := (fun (s450 : Int32 × Int32 × Int32 × XV × SV) (k450 : (Int32 × Int32 × Int32 × XV × SV) → Option (Int32 × (XV × SV))) => jn (fun (s497 : Unit) => jn (fun (s673 : Int32 × XV × SV) => some (s673.1, (s673.2.1, s673.2.2))) (fun (j673 : (Int32 × XV × SV) → Option (Int32 × (XV × SV))) => jn (fun (s672 : XV × SV) => j673 ((0 : Int32), s672.1, s672.2)) (fun (j672 : (XV × SV) → Option (Int32 × (XV × SV))) => (if s450.2.1 = 0 then j672 (s450.2.2.2.1, s450.2.2.2.2) else (f_X5_aliveOf N s450.2.2.2.1 s450.2.2.2.2 (0 : Int32)).bind (fun o11 => exc o11 (fun k => none) (fun (ro11 : Int32) => (f_X5_aliveOf N s450.2.2.2.1 s450.2.2.2.2 (1 : Int32)).bind (fun o13 => exc o13 (fun k => none) (fun (ro13 : Int32) => (if (ro11 + ro13) = s153.1 then (f_L_looks N s450.2.2.2.1 s450.2.2.2.2 (4 : Int32) (0 : Int32)).bind (fun o16 => jn (fun (s533 : Int32) => jn (fun (s560 : Int32) => (if s533 = s560 then (f_L_looks N o16.2.1 o16.2.2 (3 : Int32) (0 : Int32)).bind (fun o19 => jn (fun (s579 : Int32) => (f_X5_aliveOf N o19.2.1 o19.2.2 (0 : Int32)).bind (fun o21 => exc o21 (fun k => none) (fun (ro21 : Int32) => jn (fun (s600 : Int32) => (if s579 = s600 then jn (fun (s625 : XV × SV) => (f_L_looks N s625.1 s625.2 (3 : Int32) (0 : Int32)).bind (fun o24 => jn (fun (s638 : Unit) => jn (fun (s648 : Int32) => (f_X5_spread N o24.2.1 o24.2.2).bind (fun o26 => jn (fun (s665 : Int32) => (if s648 = s665 then j673 ((1 : Int32), o24.2.1, o24.2.2) else j672 (o24.2.1, o24.2.2))) (fun (j665 : (Int32) → Option (Int32 × (XV × SV))) => jn (fun (s660 : Unit) => j665 (1 : Int32)) (fun (j660 : (Unit) → Option (Int32 × (XV × SV))) => (if 0 < o26 then j660 () else (if s153.1 ≤ (1 : Int32) then j665 (0 : Int32) else j660 ())))))) (fun (j648 : (Int32) → Option (Int32 × (XV × SV))) => (if s153.1 ≤ (1 : Int32) then j648 (0 : Int32) else j648 (1 : Int32)))) (fun (j638 : (Unit) → Option (Int32 × (XV × SV))) => (if o24.1 = 0 then (if o3.1 = 0 then j638 () else j672 (o24.2.1, o24.2.2)) else j638 ())))) (fun (j625 : (XV × SV) → Option (Int32 × (XV × SV))) => (if o3.1 = 0 then j625 (o19.2.1, o19.2.2) else (f_X5_nearest N o19.2.1 o19.2.2 (0 : Int32)).bind (fun o35 => exc o35.1 (fun k => none) (fun (ro35 : Int32) => (f_X5_sideOf N o35.2.1 o35.2.2 ro35).bind (fun o37 => exc o37 (fun k => none) (fun (ro37 : Int32) => (f_L_looks N o35.2.1 o35.2.2 (2 : Int32) (0 : Int32)).bind (fun o39 => (if ro37 = o39.1 then j625 (o39.2.1, o39.2.2) else j672 (o39.2.1, o39.2.2))))))))) else j672 (o19.2.1, o19.2.2))) (fun (j600 : (Int32) → Option (Int32 × (XV × SV))) => jn (fun (s595 : Unit) => j600 (1 : Int32)) (fun (j595 : (Unit) → Option (Int32 × (XV × SV))) => (if ro21 = 0 then j595 () else (f_X5_aliveOf N o19.2.1 o19.2.2 (1 : Int32)).bind (fun o43 => exc o43 (fun k => none) (fun (ro43 : Int32) => (if ro43 = 0 then j595 () else j600 (0 : Int32)))))))))) (fun (j579 : (Int32) → Option (Int32 × (XV × SV))) => (if o19.1 = (-9 : Int32) then j579 (1 : Int32) else j579 (0 : Int32)))) else j672 (o16.2.1, o16.2.2))) (fun (j560 : (Int32) → Option (Int32 × (XV × SV))) => jn (fun (s555 : Unit) => j560 (1 : Int32)) (fun (j555 : (Unit) → Option (Int32 × (XV × SV))) => (if o5 = 0 then j555 () else (f_X5_bowlsOfSide N o16.2.1 o16.2.2).bind (fun o48 => (if o1 = ((2 : Int32) * o48) then j555 () else (f_X5_isBurnt N o16.2.1 o16.2.2).bind (fun o51 => (if o51 = 0 then j560 (0 : Int32) else j555 ())))))))) (fun (j533 : (Int32) → Option (Int32 × (XV × SV))) => (if o16.1 = (-9 : Int32) then j533 (1 : Int32) else j533 (0 : Int32)))) else j672 (s450.2.2.2.1, s450.2.2.2.2)))))))))) (fun (j497 : (Unit) → Option (Int32 × (XV × SV))) => (if s153.1 ≤ s450.2.2.1 then j497 () else (if s450.2.1 = 0 then j497 () else (f_X5_nearest N s450.2.2.2.1 s450.2.2.2.2 s450.2.2.1).bind (fun o58 => exc o58.1 (fun k => none) (fun (ro58 : Int32) => (f_X5_distanceOf N o58.2.1 o58.2.2 ro58).bind (fun o60 => exc o60 (fun k => none) (fun (ro60 : Int32) => jn (fun (s485 : Int32) => k450 (ro60, s485, (s450.2.2.1 + (1 : Int32)), o58.2.1, o58.2.2)) (fun (j485 : (Int32) → Option (Int32 × (XV × SV))) => (if ro60 < s450.1 then j485 (0 : Int32) else j485 (1 : Int32)))))))))))
theorem jnU {ρ : Type} {rest : Unit → ρ} {use : (Unit → ρ) → ρ} {r : ρ} (p : ∀ g : Unit → ρ, use g = g ()) (k : rest () = r) : jn rest use = r := (p rest).trans k
/-- the order's distances rise; then what stands behind them -/
theorem bowls_2 {N n : Nat} {B z : Int} {s : Int → Int} {xv : XV} (hN : 1500 < N) (h : INV B n s) (x : EX s n) {S0 : SV} {y0 : Int32 × Int32 × Int32 × XV × SV} (hy : y0.1 = i32 (alv s n)) : ∀ (d M i : Nat) (S : SV), shows s n z S → i + d = (oM s n).1 → d < M → ∃ S2, lpN (stZ N (i32 (n : Int)) (i32 (pts s n), (xv, S0)) (i32 (b2i (s 0 = 1))) y0) M (i32 (if (i : Int) = 0 then -1 else dm s ((oM s n).2 ((i : Int) - 1))), (1 : Int32), i32 (i : Int), xv, S) = some (1, (xv, S2)) ∧ shows s n z S2 := by
  have O := oM_spec s n
  have hn := h.2.1
  have am := alv_m s n
  have a2 := alv_2 s n
  have mn : (oM s n).1 ≤ n := O.1
  intro d
  induction d with
  | succ d ih =>
    intro M i S hS e hM
    obtain ⟨M, rfl⟩ : ∃ M', M = M' + 1 := ⟨M - 1, by omega⟩
    have oi := O.2.2.2.1 i (by omega) (by omega)
    obtain ⟨S1, n1, n2⟩ := q_nearest (xv := xv) hN h hS (k := i) (by omega) (by omega)
    have db := dm_b h oi.1 oi.2.1 oi.2.2
    have dq := q_distanceOf (xv := xv) hN h n2 oi.1 oi.2.1
    rw [if_neg oi.2.2] at dq
    obtain ⟨S2, r1, r2⟩ := ih M (i + 1) S1 n2 (by omega) (by omega)
    refine ⟨S2, ?_, r2⟩
    rw [if_neg (show ¬ ((i + 1 : Nat) : Int) = 0 by omega), show ((i + 1 : Nat) : Int) - 1 = (i : Int) by omega] at r1
    rw [lpN_s1]
    refine jnS (ifN ?_ (ifN (show ¬ (1 : Int32) = 0 by decide) (bdS n1 (excS (bdX dq (jnV (x := (1 : Int32)) (fun g => ?_) ?_))))))
    · show ¬ y0.1 ≤ i32 (i : Int)
      rw [hy, am, i32_le (by omega) (by omega) (by omega) (by omega)]
      omega
    · refine ifN ?_ rfl
      by_cases i0 : (i : Int) = 0
      · show ¬ i32 (dm s ((oM s n).2 i)) < i32 (if (i : Int) = 0 then -1 else dm s ((oM s n).2 ((i : Int) - 1)))
        rw [if_pos i0, i32_lt (by omega) (by omega) (by omega) (by omega)]
        omega
      · show ¬ i32 (dm s ((oM s n).2 i)) < i32 (if (i : Int) = 0 then -1 else dm s ((oM s n).2 ((i : Int) - 1)))
        have oj := O.2.2.2.1 ((i : Int) - 1) (by omega) (by omega)
        have dj := dm_b h oj.1 oj.2.1 oj.2.2
        have := O.2.2.1 ((i : Int) - 1) i (by omega) (by omega) (by omega)
        rw [if_neg i0, i32_lt (by omega) (by omega) (by omega) (by omega)]
        omega
    · have ei : i32 (i : Int) + (1 : Int32) = i32 ((i + 1 : Nat) : Int) := by rw [l32_1, i32_add, ncS]
      show lpN _ M (i32 (dm s ((oM s n).2 i)), (1 : Int32), i32 (i : Int) + (1 : Int32), xv, S1) = _
      rw [ei]
      exact r1
  | zero =>
    intro M i S hS e hM
    obtain ⟨M, rfl⟩ : ∃ M', M = M' + 1 := ⟨M - 1, by omega⟩
    rw [lpN_s1]
    have pb := pts_b h
    have gb := gapS_b h
    have g0 := gap_n h
    have gz := gap_0 h
    have h60 := h.2.2.2.1
    generalize hi : i32 (if (i : Int) = 0 then -1 else dm s ((oM s n).2 ((i : Int) - 1))) = bf
    -- the state behind the look at the nearest
    have near : ∃ S2, shows s n z S2 ∧ ∀ (g j : XV × SV → Option (Int32 × (XV × SV))), (if i32 (pts s n) = 0 then g (xv, S) else (f_X5_nearest N xv S (0 : Int32)).bind (fun o35 => exc o35.1 (fun k => none) (fun (ro35 : Int32) => (f_X5_sideOf N o35.2.1 o35.2.2 ro35).bind (fun o37 => exc o37 (fun k => none) (fun (ro37 : Int32) => (f_L_looks N o35.2.1 o35.2.2 (2 : Int32) (0 : Int32)).bind (fun o39 => (if ro37 = o39.1 then g (o39.2.1, o39.2.2) else j (o39.2.1, o39.2.2)))))))) = g (xv, S2) := by
      by_cases c : pts s n = 0
      · exact ⟨S, hS, fun g j => ifS (by rw [c]; rfl) rfl⟩
      · obtain ⟨m0, sd0, sc0⟩ := side_0 h c
        have oi := O.2.2.2.1 0 (by omega) (by omega)
        obtain ⟨S1, n1, n2⟩ := q_nearest (xv := xv) hN h hS (k := 0) (by omega) (by omega)
        refine ⟨S1, n2, fun g j => ifN (by rw [l32_0, i32_eq (by omega) (by omega) (by omega) (by omega)]; exact c) (bdS n1 (excS (bdX (q_sideOf hN h n2 oi.1 oi.2.1) (bdS (lk_lead hN h n2) (ifS ?_ rfl)))))⟩
        show i32 (sdS s ((oM s n).2 0)) = i32 (if sc s n = 0 then -9 else if 0 < sc s n then 0 else 1)
        rw [sd0, if_neg sc0]
    obtain ⟨S2, hS2, nr⟩ := near
    refine ⟨S2, ?_, hS2⟩
    refine jnU (fun g => ifS ?_ rfl) (jnS (jnS (ifN (show ¬ (1 : Int32) = 0 by decide) ?_)))
    · show y0.1 ≤ i32 (i : Int)
      rw [hy, am, i32_le (by omega) (by omega) (by omega) (by omega)]
      omega
    refine bdX (q_aliveOf (k := 0) hN h hS (by omega)) (bdX (q_aliveOf (k := 1) hN h hS (by omega)) (ifS ?_ ?_))
    · show i32 _ + i32 _ = y0.1
      rw [hy, i32_add, a2]
    -- whose turn
    have tn : ∃ v : Int, f_L_looks N xv S (4 : Int32) (0 : Int32) = some (i32 v, (xv, S)) ∧ (v = -9 ↔ ¬ CanPlay s n) ∧ -9 ≤ v ∧ v ≤ 1 := by
      by_cases c : CanPlay s n
      · refine ⟨sdS s n, lk_turn_p hN h hS c, ?_⟩
        have r : 0 ≤ sdS s n ∧ sdS s n ≤ 1 := by
          show 0 ≤ (s 61 + n) % 2 ∧ (s 61 + n) % 2 ≤ 1
          omega
        exact ⟨⟨fun q => by omega, fun q => absurd c q⟩, by omega, by omega⟩
      · exact ⟨-9, lk_turn_n hN h hS c, ⟨fun _ => c, fun _ => rfl⟩, by omega, by omega⟩
    obtain ⟨v, v1, v2, v3⟩ := tn
    refine bdS v1 (jnV (x := i32 (b2i (¬ CanPlay s n))) (fun g => ?_) (jnV (x := i32 (b2i (¬ CanPlay s n))) (fun g => ?_) (ifS rfl ?_)))
    · by_cases c : CanPlay s n
      · rw [b2i_n (fun q => q c)]
        exact ifN (by rw [show (-9 : Int32) = i32 (-9) from rfl, i32_eq (by omega) (by omega) (by omega) (by omega)]; exact fun q => (v2.mp q) c) rfl
      · rw [b2i_p c]
        exact ifS (by rw [v2.mpr c]; rfl) rfl
    · refine jnS ?_
      by_cases c0 : s 0 = 1
      · rw [b2i_p c0]
        refine ifN (by decide) (bdS (q_bowlsOfSide hN h hS) ?_)
        by_cases c1 : (n : Int) = 2 * s 60
        · rw [b2i_p (show ¬ CanPlay s n from fun q => by have := q.2.1; omega)]
          exact ifS (by rw [l32_2, i32_mul, c1]) rfl
        · refine ifN (by rw [l32_2, i32_mul, i32_eq (by omega) (by omega) (by omega) (by omega)]; exact c1) (bdS (q_isBurnt hN h hS) ?_)
          have le : (n : Int) ≤ 2 * s 60 := by
            rcases h.2.2.1 with q | q
            · omega
            · exact q.2
          by_cases c2 : Burnt s n
          · rw [b2i_p c2, b2i_p (show ¬ CanPlay s n from fun q => q.2.2 c2)]
            exact ifN (by decide) rfl
          · rw [b2i_n c2, b2i_n (show ¬ ¬ CanPlay s n from fun q => q ⟨c0, by omega, c2⟩)]
            exact ifS rfl rfl
      · rw [b2i_n c0, b2i_p (show ¬ CanPlay s n from fun q => c0 q.1)]
        exact ifS rfl rfl
    -- the gap
    refine bdS (lk_gap hN h hS) (jnV (x := i32 (b2i (gapS s n = -1))) (fun g => ?_) ?_)
    · by_cases c : gapS s n = -1
      · rw [b2i_p c]
        exact ifS (by show i32 (if gapS s n = -1 then -9 else gapS s n) = -9; rw [if_pos c]; rfl) rfl
      · rw [b2i_n c]
        exact ifN (by show ¬ i32 (if gapS s n = -1 then -9 else gapS s n) = -9; rw [if_neg c, show (-9 : Int32) = i32 (-9) from rfl, i32_eq (by omega) (by omega) (by omega) (by omega)]; omega) rfl
    have sb : ∀ k : Int, 0 ≤ sumZ (fun b => b2i (aM s b ∧ sdS s b = k)) n ∧ sumZ (fun b => b2i (aM s b ∧ sdS s b = k)) n ≤ 1 * n := fun k => sumZ_b (by omega) (fun b _ _ => by
      have := b2i_01 (aM s b ∧ sdS s b = k)
      show 0 ≤ b2i (aM s b ∧ sdS s b = k) ∧ b2i (aM s b ∧ sdS s b = k) ≤ 1
      omega)
    have sb0 := sb 0
    have sb1 := sb 1
    refine bdX (q_aliveOf (k := 0) hN h hS (by omega)) (jnV (x := i32 (b2i (gapS s n = -1))) (fun g => ?_) (ifS rfl ?_))
    · refine jnS ?_
      by_cases c0 : sumZ (fun b => b2i (aM s b ∧ sdS s b = 0)) n = 0
      · rw [b2i_p (g0.mpr (Or.inl c0))]
        exact ifS (by rw [c0]; rfl) rfl
      · refine ifN (by rw [l32_0, i32_eq (by omega) (by omega) (by omega) (by omega)]; exact c0) (bdX (q_aliveOf (k := 1) hN h hS (by omega)) ?_)
        by_cases c1 : sumZ (fun b => b2i (aM s b ∧ sdS s b = 1)) n = 0
        · rw [b2i_p (g0.mpr (Or.inr c1))]
          exact ifS (by rw [c1]; rfl) rfl
        · rw [b2i_n (fun q => (g0.mp q).elim c0 c1)]
          exact ifN (by rw [l32_0, i32_eq (by omega) (by omega) (by omega) (by omega)]; exact c1) rfl
    -- the nearest's side
    refine jnV (x := (xv, S2)) (fun g => nr g (fun q => some ((0 : Int32), (q.1, q.2)))) ?_
    refine bdS (lk_gap hN h hS2) (jnU (fun g => ?_) ?_)
    · by_cases c : gapS s n = 0
      · exact ifS (by show i32 (if gapS s n = -1 then -9 else gapS s n) = 0; rw [if_neg (by omega), c]; rfl) (ifS (by show i32 (pts s n) = 0; rw [gz c]; rfl) rfl)
      · refine ifN ?_ rfl
        show ¬ i32 (if gapS s n = -1 then -9 else gapS s n) = 0
        by_cases d : gapS s n = -1
        · rw [if_pos d]; decide
        · rw [if_neg d, l32_0, i32_eq (by omega) (by omega) (by omega) (by omega)]; exact c
    -- who lies far apart
    have wt := wid_two (c := aM s) (v := fun a b => (s (4 + 7 * a + 1) - s (4 + 7 * b + 1)) * (s (4 + 7 * a + 1) - s (4 + 7 * b + 1)) + (s (4 + 7 * a + 2) - s (4 + 7 * b + 2)) * (s (4 + 7 * a + 2) - s (4 + 7 * b + 2))) (n := n)
    have ws : ∃ W : Int, f_X5_spread N xv S2 = some (i32 W) ∧ W = widS s n ∧ 0 ≤ W ∧ W ≤ 10000 := ⟨_, q_spread hN h hS2, rfl, by
      have := wid_b (c := aM s) (v := fun a b => (s (4 + 7 * a + 1) - s (4 + 7 * b + 1)) * (s (4 + 7 * a + 1) - s (4 + 7 * b + 1)) + (s (4 + 7 * a + 2) - s (4 + 7 * b + 2)) * (s (4 + 7 * a + 2) - s (4 + 7 * b + 2))) (n := n) (fun a b a0 an b0 bn ha hb => by
        have q := wid_v h a0 an b0 (by omega) ha hb
        rw [← q.1]
        exact q.2)
      exact this⟩
    obtain ⟨W, w1, w2, w3⟩ := ws
    have wt : 0 < W → 1 < alv s n := by rw [w2]; exact wt
    have y1 : y0.1 = i32 (alv s n) := hy
    refine jnV (x := i32 (b2i (1 < alv s n))) (fun g => ?_) (bdS w1 (jnV (x := i32 (b2i (1 < alv s n))) (fun g => ?_) (ifS rfl rfl)))
    · by_cases c : 1 < alv s n
      · rw [b2i_p c]
        exact ifN (by rw [y1, l32_1, i32_le (by omega) (by omega) (by omega) (by omega)]; omega) rfl
      · rw [b2i_n c]
        exact ifS (by rw [y1, l32_1, i32_le (by omega) (by omega) (by omega) (by omega)]; omega) rfl
    · refine jnS ?_
      by_cases c : 0 < W
      · rw [b2i_p (wt c)]
        exact ifS (by rw [l32_0, i32_lt (by omega) (by omega) (by omega) (by omega)]; exact c) rfl
      · refine ifN (by rw [l32_0, i32_lt (by omega) (by omega) (by omega) (by omega)]; exact c) ?_
        by_cases d : 1 < alv s n
        · rw [b2i_p d]
          exact ifN (by rw [y1, l32_1, i32_le (by omega) (by omega) (by omega) (by omega)]; omega) rfl
        · rw [b2i_n d]
          exact ifS (by rw [y1, l32_1, i32_le (by omega) (by omega) (by omega) (by omega)]; omega) rfl
