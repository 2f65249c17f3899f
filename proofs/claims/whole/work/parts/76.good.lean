/-! the reference's reading, and the automaton -/
def rdI (bu : Int → Int) (i : Int) : Int := rd bu i.toNat
theorem rdI_s {bu : Int → Int} {i : Int} (h : 0 ≤ i) : rdI bu (i + 1) = aft (rdI bu i) (bu i) := by
  unfold rdI
  rw [show (i + 1).toNat = i.toNat + 1 by omega]
  show aft (rd bu i.toNat) (bu (i.toNat : Int)) = _
  rw [Int.toNat_of_nonneg h]
theorem rdI_w {bu : Int → Int} {i j : Int} (h : rdI bu i = -1) (hj : i ≤ j) (h0 : 0 ≤ i) : rdI bu j = -1 := rd_w h _ (by omega)
/-- the reading goes wrong at sp -/
abbrev Err (bu : Int → Int) (le sp : Int) : Prop := (0 ≤ sp ∧ sp ≤ le) ∧ rdI bu sp ≠ -1 ∧ (sp < le → rdI bu (sp + 1) = -1) ∧ (sp = le → rdI bu sp ≠ 16)
theorem tk_good {bu : Int → Int} {le sp q lo hi : Int} (hs : 0 ≤ sp ∧ sp ≤ le) (hq : rdI bu sp = q) (h1 : q ≠ -1) (h16 : q ≠ 16) (hn : ∀ c, ¬ (lo ≤ c ∧ c ≤ hi) → aft q c = -1) : (tk bu le sp 0 lo hi = (bu sp, sp + 1, 0) ∧ sp < le ∧ (lo ≤ bu sp ∧ bu sp ≤ hi) ∧ rdI bu (sp + 1) = aft q (bu sp)) ∨ (tk bu le sp 0 lo hi = (lo, sp, 1) ∧ Err bu le sp) := by
  have es := rdI_s (bu := bu) hs.1
  rw [hq] at es
  by_cases c1 : sp < le
  · by_cases c2 : lo ≤ bu sp ∧ bu sp ≤ hi
    · exact Or.inl ⟨tk_p c1 c2.1 c2.2, c1, c2, es⟩
    · refine Or.inr ⟨tk_n (fun x => c2 x.2.2), hs, by rw [hq]; exact h1, fun _ => by rw [es]; exact hn _ c2, fun e => by omega⟩
  · exact Or.inr ⟨tk_n (fun x => c1 x.2.1), hs, by rw [hq]; exact h1, fun e => absurd e c1, fun _ => by rw [hq]; exact h16⟩
theorem tk_bad {bu : Int → Int} {le sp lo hi : Int} : (tk bu le sp 1 lo hi).2 = (sp, 1) := by
  rw [tk_n (fun x => by omega)]
theorem num_bad {bu : Int → Int} {le sp a b : Int} : (numT bu le sp 1 a b).2 = (sp, 1) := by
  unfold numT
  show (tk bu le _ _ _ _).2 = _
  rw [tk_bad]
  exact tk_bad
theorem sgn_bad {bu : Int → Int} {le sp m : Int} : (sgnT bu le sp 1 m).2 = (sp, 1) := by
  unfold sgnT
  rw [if_neg (fun x => by omega)]
  show (tk bu le sp 1 48 (48 + m)).2 = _
  exact tk_bad
theorem num_20 {bu : Int → Int} {le sp : Int} (hs : 0 ≤ sp ∧ sp ≤ le) (hq : rdI bu sp = 1) : (numT bu le sp 0 20 50 = (10 * (bu sp - 48) + bu (sp + 1) - 48, sp + 2, 0) ∧ sp + 2 ≤ le ∧ (50 ≤ bu sp ∧ bu sp ≤ 53) ∧ (48 ≤ bu (sp + 1) ∧ bu (sp + 1) ≤ 57) ∧ (20 ≤ 10 * (bu sp - 48) + bu (sp + 1) - 48 ∧ 10 * (bu sp - 48) + bu (sp + 1) - 48 ≤ 50) ∧ rdI bu (sp + 2) = 16) ∨ (∃ e, (numT bu le sp 0 20 50).2 = (e, 1) ∧ Err bu le e) := by
  have e2 : (20 : Int) / 10 = 2 := rfl
  have e5 : (50 : Int) / 10 = 5 := rfl
  have f2 : (20 : Int) - 2 * 10 = 0 := rfl
  have f5 : (50 : Int) - 5 * 10 = 0 := rfl
  have g2 : (48 : Int) + 2 = 50 := rfl
  have g5 : (48 : Int) + 5 = 53 := rfl
  unfold numT
  rw [e2, e5, f2, f5, g2, g5]
  rcases tk_good (bu := bu) (le := le) (lo := 50) (hi := 53) hs hq (by omega) (by omega) (fun c hc => by
    show aft1 c = -1
    unfold aft1
    rw [if_neg (show ¬ (50 ≤ c ∧ c ≤ 52) by omega), if_neg (show ¬ c = 53 by omega)]) with ⟨t1, l1, b1, r1⟩ | ⟨t1, er⟩
  · rw [t1]
    have r1 : rdI bu (sp + 1) = aft1 (bu sp) := r1
    unfold aft1 at r1
    by_cases c : bu sp = 53
    · rw [if_neg (show ¬ (50 ≤ bu sp ∧ bu sp ≤ 52) by omega), if_pos c] at r1
      simp only [c, Int.add_zero]
      rw [if_neg (show ¬ (53 : Int) - 48 = 2 by omega), if_pos (show (53 : Int) - 48 = 5 by omega), Int.add_zero]
      rcases tk_good (bu := bu) (le := le) (lo := 48) (hi := 48) (sp := sp + 1) (by omega) r1 (by omega) (by omega) (fun c hc => by
        show aft3 c = -1
        unfold aft3
        rw [if_neg (show ¬ c = 48 by omega)]) with ⟨t2, l2, b2, r2⟩ | ⟨t2, er⟩
      · rw [t2]
        have r2 : rdI bu (sp + 1 + 1) = aft3 (bu (sp + 1)) := r2
        unfold aft3 at r2
        rw [if_pos (show bu (sp + 1) = 48 by omega)] at r2
        rw [show sp + 1 + 1 = sp + 2 by omega] at r2 ⊢
        exact Or.inl ⟨rfl, by omega, by omega, by omega, by omega, r2⟩
      · rw [t2]
        exact Or.inr ⟨_, rfl, er⟩
    · rw [if_pos (show (50 ≤ bu sp ∧ bu sp ≤ 52) by omega)] at r1
      have hz : (if bu sp - 48 = 2 then (0 : Int) else 0) = 0 := by
        by_cases z : bu sp - 48 = 2
        · rw [if_pos z]
        · rw [if_neg z]
      simp only [hz, Int.add_zero]
      rw [if_neg (show ¬ bu sp - 48 = 5 by omega)]
      rcases tk_good (bu := bu) (le := le) (lo := 48) (hi := 48 + 9) (sp := sp + 1) (by omega) r1 (by omega) (by omega) (fun c hc => by
        show aft2 c = -1
        unfold aft2
        rw [if_neg (show ¬ (48 ≤ c ∧ c ≤ 57) by omega)]) with ⟨t2, l2, b2, r2⟩ | ⟨t2, er⟩
      · rw [t2]
        have r2 : rdI bu (sp + 1 + 1) = aft2 (bu (sp + 1)) := r2
        unfold aft2 at r2
        rw [if_pos (show (48 ≤ bu (sp + 1) ∧ bu (sp + 1) ≤ 57) by omega)] at r2
        rw [show sp + 1 + 1 = sp + 2 by omega] at r2 ⊢
        exact Or.inl ⟨rfl, by omega, by omega, by omega, by omega, r2⟩
      · rw [t2]
        exact Or.inr ⟨_, rfl, er⟩
  · rw [t1]
    refine Or.inr ⟨sp, ?_, er⟩
    dsimp only
    exact tk_bad
theorem num_15 {bu : Int → Int} {le sp : Int} (hs : 0 ≤ sp ∧ sp ≤ le) (hq : rdI bu sp = 7) : (numT bu le sp 0 15 70 = (10 * (bu sp - 48) + bu (sp + 1) - 48, sp + 2, 0) ∧ sp + 2 ≤ le ∧ (49 ≤ bu sp ∧ bu sp ≤ 55) ∧ (48 ≤ bu (sp + 1) ∧ bu (sp + 1) ≤ 57) ∧ (15 ≤ 10 * (bu sp - 48) + bu (sp + 1) - 48 ∧ 10 * (bu sp - 48) + bu (sp + 1) - 48 ≤ 70) ∧ rdI bu (sp + 2) = 11) ∨ (∃ e, (numT bu le sp 0 15 70).2 = (e, 1) ∧ Err bu le e) := by
  have e2 : (15 : Int) / 10 = 1 := rfl
  have e5 : (70 : Int) / 10 = 7 := rfl
  have f2 : (15 : Int) - 1 * 10 = 5 := rfl
  have f5 : (70 : Int) - 7 * 10 = 0 := rfl
  have g2 : (48 : Int) + 1 = 49 := rfl
  have g5 : (48 : Int) + 7 = 55 := rfl
  unfold numT
  rw [e2, e5, f2, f5, g2, g5]
  rcases tk_good (bu := bu) (le := le) (lo := 49) (hi := 55) hs hq (by omega) (by omega) (fun c hc => by
    show aft7 c = -1
    unfold aft7
    rw [if_neg (show ¬ c = 49 by omega), if_neg (show ¬ (50 ≤ c ∧ c ≤ 54) by omega), if_neg (show ¬ c = 55 by omega)]) with ⟨t1, l1, b1, r1⟩ | ⟨t1, er⟩
  · rw [t1]
    have r1 : rdI bu (sp + 1) = aft7 (bu sp) := r1
    unfold aft7 at r1
    by_cases c : bu sp = 49
    · rw [if_pos c] at r1
      simp only [c]
      rw [if_pos (show (49 : Int) - 48 = 1 by omega), if_neg (show ¬ (49 : Int) - 48 = 7 by omega)]
      rcases tk_good (bu := bu) (le := le) (lo := 48 + 5) (hi := 48 + 9) (sp := sp + 1) (by omega) r1 (by omega) (by omega) (fun c hc => by
        show aft8 c = -1
        unfold aft8
        rw [if_neg (show ¬ (53 ≤ c ∧ c ≤ 57) by omega)]) with ⟨t2, l2, b2, r2⟩ | ⟨t2, er⟩
      · rw [t2]
        have r2 : rdI bu (sp + 1 + 1) = aft8 (bu (sp + 1)) := r2
        unfold aft8 at r2
        rw [if_pos (show (53 ≤ bu (sp + 1) ∧ bu (sp + 1) ≤ 57) by omega)] at r2
        rw [show sp + 1 + 1 = sp + 2 by omega] at r2 ⊢
        exact Or.inl ⟨rfl, by omega, by omega, by omega, by omega, r2⟩
      · rw [t2]
        exact Or.inr ⟨_, rfl, er⟩
    · by_cases c7 : bu sp = 55
      · rw [if_neg c, if_neg (show ¬ (50 ≤ bu sp ∧ bu sp ≤ 54) by omega), if_pos c7] at r1
        simp only [c7]
        rw [if_neg (show ¬ (55 : Int) - 48 = 1 by omega), if_pos (show (55 : Int) - 48 = 7 by omega)]
        rcases tk_good (bu := bu) (le := le) (lo := 48 + 0) (hi := 48 + 0) (sp := sp + 1) (by omega) r1 (by omega) (by omega) (fun c hc => by
          show aft10 c = -1
          unfold aft10
          rw [if_neg (show ¬ c = 48 by omega)]) with ⟨t2, l2, b2, r2⟩ | ⟨t2, er⟩
        · rw [t2]
          have r2 : rdI bu (sp + 1 + 1) = aft10 (bu (sp + 1)) := r2
          unfold aft10 at r2
          rw [if_pos (show bu (sp + 1) = 48 by omega)] at r2
          rw [show sp + 1 + 1 = sp + 2 by omega] at r2 ⊢
          exact Or.inl ⟨rfl, by omega, by omega, by omega, by omega, r2⟩
        · rw [t2]
          exact Or.inr ⟨_, rfl, er⟩
      · rw [if_neg c, if_pos (show (50 ≤ bu sp ∧ bu sp ≤ 54) by omega)] at r1
        dsimp only
        rw [if_neg (show ¬ bu sp - 48 = 1 by omega), if_neg (show ¬ bu sp - 48 = 7 by omega)]
        rcases tk_good (bu := bu) (le := le) (lo := 48 + 0) (hi := 48 + 9) (sp := sp + 1) (by omega) r1 (by omega) (by omega) (fun c hc => by
          show aft9 c = -1
          unfold aft9
          rw [if_neg (show ¬ (48 ≤ c ∧ c ≤ 57) by omega)]) with ⟨t2, l2, b2, r2⟩ | ⟨t2, er⟩
        · rw [t2]
          have r2 : rdI bu (sp + 1 + 1) = aft9 (bu (sp + 1)) := r2
          unfold aft9 at r2
          rw [if_pos (show (48 ≤ bu (sp + 1) ∧ bu (sp + 1) ≤ 57) by omega)] at r2
          rw [show sp + 1 + 1 = sp + 2 by omega] at r2 ⊢
          exact Or.inl ⟨rfl, by omega, by omega, by omega, by omega, r2⟩
        · rw [t2]
          exact Or.inr ⟨_, rfl, er⟩
  · rw [t1]
    refine Or.inr ⟨sp, ?_, er⟩
    dsimp only
    exact tk_bad
/-- a number of one digit up to m, below 0 behind "-" -/
abbrev SGN (bu : Int → Int) (sp m v sp' : Int) : Prop := (48 ≤ bu sp ∧ bu sp ≤ 48 + m ∧ v = bu sp - 48 ∧ sp' = sp + 1) ∨ (bu sp = 45 ∧ 49 ≤ bu (sp + 1) ∧ bu (sp + 1) ≤ 48 + m ∧ v = -(bu (sp + 1) - 48) ∧ sp' = sp + 2)
theorem sgn_good {bu : Int → Int} {le sp m q qa qb : Int} (hs : 0 ≤ sp ∧ sp ≤ le) (hm : 1 ≤ m ∧ m ≤ 9) (hq : rdI bu sp = q) (h1 : q ≠ -1) (h16 : q ≠ 16) (ha : qa ≠ -1) (ha16 : qa ≠ 16) (h45 : aft q 45 = qa) (hin : ∀ c, 48 ≤ c → c ≤ 48 + m → aft q c = qb) (hn : ∀ c, c ≠ 45 → ¬ (48 ≤ c ∧ c ≤ 48 + m) → aft q c = -1) (hin2 : ∀ c, 49 ≤ c → c ≤ 48 + m → aft qa c = qb) (hn2 : ∀ c, ¬ (49 ≤ c ∧ c ≤ 48 + m) → aft qa c = -1) : (∃ v sp', sgnT bu le sp 0 m = (v, sp', 0) ∧ sp < sp' ∧ sp' ≤ le ∧ SGN bu sp m v sp' ∧ rdI bu sp' = qb) ∨ (∃ e, (sgnT bu le sp 0 m).2 = (e, 1) ∧ Err bu le e) := by
  have es := rdI_s (bu := bu) hs.1
  rw [hq] at es
  unfold sgnT
  by_cases c : (0 : Int) = 0 ∧ sp < le ∧ 45 ≤ bu sp ∧ bu sp ≤ 45
  · rw [if_pos c]
    have c45 : bu sp = 45 := by omega
    rw [c45, h45] at es
    rcases tk_good (bu := bu) (le := le) (lo := 49) (hi := 48 + m) (sp := sp + 1) (by omega) es ha ha16 hn2 with ⟨t, l, b, r⟩ | ⟨t, er⟩
    · rw [t]
      rw [hin2 _ b.1 b.2] at r
      exact Or.inl ⟨_, _, rfl, by omega, by omega, Or.inr ⟨c45, b.1, b.2, rfl, by omega⟩, r⟩
    · rw [t]
      exact Or.inr ⟨_, rfl, er⟩
  · rw [if_neg c]
    by_cases c1 : sp < le
    · have c45 : bu sp ≠ 45 := fun e => c ⟨rfl, c1, by omega, by omega⟩
      by_cases c2 : 48 ≤ bu sp ∧ bu sp ≤ 48 + m
      · rw [tk_p c1 c2.1 c2.2]
        rw [hin _ c2.1 c2.2] at es
        exact Or.inl ⟨_, _, rfl, by omega, by omega, Or.inl ⟨c2.1, c2.2, rfl, rfl⟩, es⟩
      · rw [tk_n (fun x => c2 x.2.2)]
        exact Or.inr ⟨_, rfl, hs, by rw [hq]; exact h1, fun _ => by rw [es]; exact hn _ c45 c2, fun e => by omega⟩
    · rw [tk_n (fun x => c1 x.2.1)]
      exact Or.inr ⟨_, rfl, hs, by rw [hq]; exact h1, fun e => absurd e c1, fun _ => by rw [hq]; exact h16⟩
theorem sgn_4 {bu : Int → Int} {le sp : Int} (hs : 0 ≤ sp ∧ sp ≤ le) (hq : rdI bu sp = 4) : (∃ v sp', sgnT bu le sp 0 9 = (v, sp', 0) ∧ sp < sp' ∧ sp' ≤ le ∧ SGN bu sp 9 v sp' ∧ rdI bu sp' = 6) ∨ (∃ e, (sgnT bu le sp 0 9).2 = (e, 1) ∧ Err bu le e) := by
  refine sgn_good (q := 4) (qa := 5) (qb := 6) hs (by omega) hq (by omega) (by omega) (by omega) (by omega) rfl (fun c a b => ?_) (fun c a b => ?_) (fun c a b => ?_) (fun c a => ?_)
  · show aft4 c = 6
    unfold aft4
    rw [if_neg (show ¬ c = 45 by omega), if_pos (show 48 ≤ c ∧ c ≤ 57 by omega)]
  · show aft4 c = -1
    unfold aft4
    rw [if_neg a, if_neg (show ¬ (48 ≤ c ∧ c ≤ 57) by omega)]
  · show aft5 c = 6
    unfold aft5
    rw [if_pos (show 49 ≤ c ∧ c ≤ 57 by omega)]
  · show aft5 c = -1
    unfold aft5
    rw [if_neg (show ¬ (49 ≤ c ∧ c ≤ 57) by omega)]
theorem sgn_14 {bu : Int → Int} {le sp : Int} (hs : 0 ≤ sp ∧ sp ≤ le) (hq : rdI bu sp = 14) : (∃ v sp', sgnT bu le sp 0 5 = (v, sp', 0) ∧ sp < sp' ∧ sp' ≤ le ∧ SGN bu sp 5 v sp' ∧ rdI bu sp' = 16) ∨ (∃ e, (sgnT bu le sp 0 5).2 = (e, 1) ∧ Err bu le e) := by
  refine sgn_good (q := 14) (qa := 15) (qb := 16) hs (by omega) hq (by omega) (by omega) (by omega) (by omega) rfl (fun c a b => ?_) (fun c a b => ?_) (fun c a b => ?_) (fun c a => ?_)
  · show aft14 c = 16
    unfold aft14
    rw [if_neg (show ¬ c = 45 by omega), if_pos (show 48 ≤ c ∧ c ≤ 53 by omega)]
  · show aft14 c = -1
    unfold aft14
    rw [if_neg a, if_neg (show ¬ (48 ≤ c ∧ c ≤ 53) by omega)]
  · show aft15 c = 16
    unfold aft15
    rw [if_pos (show 49 ≤ c ∧ c ≤ 53 by omega)]
  · show aft15 c = -1
    unfold aft15
    rw [if_neg (show ¬ (49 ≤ c ∧ c ≤ 53) by omega)]
theorem sgn_12 {bu : Int → Int} {le sp : Int} (hs : 0 ≤ sp ∧ sp ≤ le) (hq : rdI bu sp = 12) : (∃ v sp', sgnT bu le sp 0 3 = (v, sp', 0) ∧ sp < sp' ∧ sp' ≤ le ∧ SGN bu sp 3 v sp' ∧ rdI bu sp' = 16) ∨ (∃ e, (sgnT bu le sp 0 3).2 = (e, 1) ∧ Err bu le e) := by
  refine sgn_good (q := 12) (qa := 13) (qb := 16) hs (by omega) hq (by omega) (by omega) (by omega) (by omega) rfl (fun c a b => ?_) (fun c a b => ?_) (fun c a b => ?_) (fun c a => ?_)
  · show aft12 c = 16
    unfold aft12
    rw [if_neg (show ¬ c = 45 by omega), if_pos (show 48 ≤ c ∧ c ≤ 51 by omega)]
  · show aft12 c = -1
    unfold aft12
    rw [if_neg a, if_neg (show ¬ (48 ≤ c ∧ c ≤ 51) by omega)]
  · show aft13 c = 16
    unfold aft13
    rw [if_pos (show 49 ≤ c ∧ c ≤ 51 by omega)]
  · show aft13 c = -1
    unfold aft13
    rw [if_neg (show ¬ (49 ≤ c ∧ c ≤ 51) by omega)]
theorem tk_com {bu : Int → Int} {le sp q : Int} (hs : 0 ≤ sp ∧ sp ≤ le) (hq : rdI bu sp = q) (hq2 : q = 6 ∨ q = 11) : (tk bu le sp 0 44 44 = (bu sp, sp + 1, 0) ∧ sp < le ∧ bu sp = 44 ∧ rdI bu (sp + 1) = q + 1) ∨ (tk bu le sp 0 44 44 = (44, sp, 1) ∧ Err bu le sp) := by
  rcases hq2 with rfl | rfl
  · rcases tk_good (bu := bu) (le := le) (lo := 44) (hi := 44) hs hq (by omega) (by omega) (fun c hc => by
      show aft6 c = -1
      unfold aft6
      rw [if_neg (show ¬ c = 44 by omega)]) with ⟨t, l, b, r⟩ | q
    · refine Or.inl ⟨t, l, by omega, ?_⟩
      have r : rdI bu (sp + 1) = aft6 (bu sp) := r
      unfold aft6 at r
      rw [if_pos (show bu sp = 44 by omega)] at r
      exact r
    · exact Or.inr q
  · rcases tk_good (bu := bu) (le := le) (lo := 44) (hi := 44) hs hq (by omega) (by omega) (fun c hc => by
      show aft11 c = -1
      unfold aft11
      rw [if_neg (show ¬ c = 44 by omega)]) with ⟨t, l, b, r⟩ | q
    · refine Or.inl ⟨t, l, by omega, ?_⟩
      have r : rdI bu (sp + 1) = aft11 (bu sp) := r
      unfold aft11 at r
      rw [if_pos (show bu sp = 44 by omega)] at r
      exact r
    · exact Or.inr q
/-- the move at sp, told by its characters -/
abbrev MOV (bu : Int → Int) (sp sg o t r sp' : Int) : Prop := (bu sp = 106 ∧ sg = 106 ∧ (50 ≤ bu (sp + 1) ∧ bu (sp + 1) ≤ 53) ∧ (48 ≤ bu (sp + 2) ∧ bu (sp + 2) ≤ 57) ∧ o = 10 * (bu (sp + 1) - 48) + bu (sp + 2) - 48 ∧ (20 ≤ o ∧ o ≤ 50) ∧ sp' = sp + 3) ∨ (bu sp = 119 ∧ sg = 119 ∧ SGN bu (sp + 1) 5 o sp') ∨ (bu sp = 98 ∧ sg = 98 ∧ ∃ p1, SGN bu (sp + 1) 9 o p1 ∧ bu p1 = 44 ∧ (49 ≤ bu (p1 + 1) ∧ bu (p1 + 1) ≤ 55) ∧ (48 ≤ bu (p1 + 2) ∧ bu (p1 + 2) ≤ 57) ∧ t = 10 * (bu (p1 + 1) - 48) + bu (p1 + 2) - 48 ∧ (15 ≤ t ∧ t ≤ 70) ∧ bu (p1 + 3) = 44 ∧ SGN bu (p1 + 4) 3 r sp') ∨ (bu sp = 99 ∧ sg = 99 ∧ sp' = sp + 1)
theorem rdM_good {bu : Int → Int} {le sp sg on_ tw t3 : Int} (hs : 0 ≤ sp ∧ sp ≤ le) (hq : rdI bu sp = 0) : (∃ g o t r sp', rdM bu le sp sg on_ tw t3 = (g, o, t, r, sp', 0) ∧ sp < sp' ∧ sp' ≤ le ∧ rdI bu sp' = 16 ∧ MOV bu sp g o t r sp') ∨ (∃ g o t r e, rdM bu le sp sg on_ tw t3 = (g, o, t, r, e, 1) ∧ Err bu le e) := by
  have es := rdI_s (bu := bu) hs.1
  rw [hq] at es
  have es : rdI bu (sp + 1) = aft0 (bu sp) := es
  unfold aft0 at es
  unfold rdM
  by_cases c0 : sp < le
  · by_cases c1 : bu sp = 106
    · rw [if_pos ⟨c0, c1⟩]
      rw [if_neg (show ¬ bu sp = 98 by omega), if_neg (show ¬ bu sp = 99 by omega), if_pos c1] at es
      rcases num_20 (sp := sp + 1) (le := le) (by omega) es with ⟨e, q1, q2, q3, q4, q5⟩ | ⟨e, q1, q2⟩
      · rw [e]
        rw [show sp + 1 + 1 = sp + 2 by omega] at q3 q4 ⊢
        rw [show sp + 1 + 2 = sp + 3 by omega] at q1 q5 ⊢
        exact Or.inl ⟨_, _, _, _, _, rfl, by omega, q1, q5, Or.inl ⟨c1, c1, q2, q3, rfl, q4, rfl⟩⟩
      · rw [q1]
        exact Or.inr ⟨_, _, _, _, _, rfl, q2⟩
    · rw [if_neg (fun x => c1 x.2)]
      by_cases c2 : bu sp = 119
      · rw [if_pos ⟨c0, c2⟩]
        rw [if_neg (show ¬ bu sp = 98 by omega), if_neg (show ¬ bu sp = 99 by omega), if_neg c1, if_pos c2] at es
        rcases sgn_14 (sp := sp + 1) (le := le) (by omega) es with ⟨v, sp', e, q1, q2, q3, q4⟩ | ⟨e, q1, q2⟩
        · rw [e]
          exact Or.inl ⟨_, _, _, _, _, rfl, by omega, q2, q4, Or.inr (Or.inl ⟨c2, c2, q3⟩)⟩
        · rw [q1]
          exact Or.inr ⟨_, _, _, _, _, rfl, q2⟩
      · rw [if_neg (fun x => c2 x.2)]
        by_cases c3 : bu sp = 98
        · rw [if_pos ⟨c0, c3⟩]
          rw [if_pos c3] at es
          dsimp only
          rcases sgn_4 (sp := sp + 1) (le := le) (by omega) es with ⟨v, p1, e, q1, q2, q3, q4⟩ | ⟨e, q1, q2⟩
          · rw [e]
            dsimp only
            rcases tk_com (sp := p1) (le := le) (by omega) q4 (Or.inl rfl) with ⟨t1, l1, b1, r1⟩ | ⟨t1, er⟩
            · rw [t1]
              dsimp only
              rcases num_15 (sp := p1 + 1) (le := le) (by omega) r1 with ⟨e2, w1, w2, w3, w4, w5⟩ | ⟨e2, w1, w2⟩
              · rw [e2]
                dsimp only
                rw [show p1 + 1 + 1 = p1 + 2 by omega] at w3 w4 ⊢
                rw [show p1 + 1 + 2 = p1 + 3 by omega] at w1 w5 ⊢
                rcases tk_com (sp := p1 + 3) (le := le) (by omega) w5 (Or.inr rfl) with ⟨t2, l2, b2, r2⟩ | ⟨t2, er⟩
                · rw [t2]
                  dsimp only
                  rw [show p1 + 3 + 1 = p1 + 4 by omega] at r2 ⊢
                  rcases sgn_12 (sp := p1 + 4) (le := le) (by omega) r2 with ⟨v3, p3, e3, u1, u2, u3, u4⟩ | ⟨e3, u1, u2⟩
                  · rw [e3]
                    exact Or.inl ⟨_, _, _, _, _, rfl, by omega, u2, u4, Or.inr (Or.inr (Or.inl ⟨c3, c3, p1, q3, b1, w2, w3, rfl, w4, b2, u3⟩))⟩
                  · rw [u1]
                    exact Or.inr ⟨_, _, _, _, _, rfl, u2⟩
                · rw [t2]
                  dsimp only
                  rw [sgn_bad]
                  exact Or.inr ⟨_, _, _, _, _, rfl, er⟩
              · rw [w1]
                dsimp only
                rw [tk_bad]
                dsimp only
                rw [sgn_bad]
                exact Or.inr ⟨_, _, _, _, _, rfl, w2⟩
            · rw [t1]
              dsimp only
              rw [num_bad]
              dsimp only
              rw [tk_bad]
              dsimp only
              rw [sgn_bad]
              exact Or.inr ⟨_, _, _, _, _, rfl, er⟩
          · rw [q1]
            dsimp only
            rw [tk_bad]
            dsimp only
            rw [num_bad]
            dsimp only
            rw [tk_bad]
            dsimp only
            rw [sgn_bad]
            exact Or.inr ⟨_, _, _, _, _, rfl, q2⟩
        · rw [if_neg (fun x => c3 x.2)]
          by_cases c4 : bu sp = 99
          · rw [if_pos ⟨c0, c4⟩]
            rw [if_neg c3, if_pos c4] at es
            exact Or.inl ⟨_, _, _, _, _, rfl, by omega, by omega, es, Or.inr (Or.inr (Or.inr ⟨c4, c4, rfl⟩))⟩
          · rw [if_neg (fun x => c4 x.2)]
            rw [if_neg c3, if_neg c4, if_neg c1, if_neg c2] at es
            exact Or.inr ⟨_, _, _, _, _, rfl, hs, by omega, fun _ => es, fun e => by omega⟩
  · rw [if_neg (fun x => c0 x.1), if_neg (fun x => c0 x.1), if_neg (fun x => c0 x.1), if_neg (fun x => c0 x.1)]
    exact Or.inr ⟨_, _, _, _, _, rfl, hs, by omega, fun e => absurd e c0, fun _ => by omega⟩
