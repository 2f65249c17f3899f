/-! what a trial answers, against the play itself -/
noncomputable def scV (s : Int → Int) (n : Nat) : Int := if sc s n = 0 then -1 else if 0 < sc s n then 0 else 1
theorem would_x {N n : Nat} {B z a w b : Int} {s : Int → Int} {S : SV} (hN : 1500 < N) (h : INV B n s) (hB : B + 1000 ≤ 1000000) (hS : shows s n z S) (hc : CanPlay s n) (hA : -9 ≤ a ∧ a ≤ 9) (hw : 15 ≤ w ∧ w ≤ 70) (hbb : -3 ≤ b ∧ b ≤ 3) : ∃ (s2 : Int → Int) (z2 : Int) (S2 : SV), f_X3_playBowl N S (i32 a) (i32 w) (i32 b) = some (i32 (n : Int), S2) ∧ INV (B + 2) (n + 1) s2 ∧ shows s2 (n + 1) z2 S2 ∧ playF s s2 ∧ s2 0 = 1 ∧ playX s s2 n z2 a w b ∧ (∀ (T : SV) (xv : XV), ∃ T2, f_X5_wouldStrike N xv S T (i32 a) (i32 w) (i32 b) = some (Sum.inr (i32 z2), (xv, S, T2))) ∧ (∀ (T : SV) (xv : XV), ∃ T2, f_X5_wouldCount N xv S T (i32 a) (i32 w) (i32 b) = some (Sum.inr (i32 (if scV s2 (n + 1) = sdS s n then pts s2 (n + 1) else -pts s2 (n + 1))), (xv, S, T2))) := by
  obtain ⟨s2, z2, -, S2, -, r1, -, r3, r4, -, r5, r6, -, r7⟩ := play_two (N := N) (a := a) (w := w) (b := b) (by omega) h (by omega) hS hS hc hA hw hbb
  have i1 := isPlay_ok (N := N) (a := a) (w := w) (b := b) (by omega) (by omega) (by omega)
  rw [b2i_p (by omega)] at i1
  have c1 := canPlay_x (N := N) (by omega) h hS
  rw [b2i_p hc] at c1
  have p1 := paired_x (N := N) (by omega) r3 r4
  have p2 := scoring_x (N := N) (by omega) r3 r4
  have pb := pts_b r3
  -- a copy goes the same way
  have cp : ∀ T : SV, ∃ T1 T2 : SV, f_X3_copyFrom N T S = some (T1, S) ∧ f_X3_playBowl N T1 (i32 a) (i32 w) (i32 b) = some (i32 (n : Int), T2) ∧ G_strikes (S_green T2) = i32 z2 ∧ f_X0_pairedPoints N (S_green T2) (S_touchersTwice T2) = some (i32 (pts s2 (n + 1))) ∧ f_X0_scoringSide N (S_green T2) = some (i32 (scV s2 (n + 1))) := fun T => by
    obtain ⟨T1, e1, e2⟩ := copy_x (N := N) T (by omega) h hS
    obtain ⟨s3, z3, y3, S3, T3, t1, t2, t3, t4, t5, -, -, t8, -⟩ := play_two (N := N) (a := a) (w := w) (b := b) (by omega) h (by omega) hS e2 hc hA hw hbb
    have eS : S3 = S2 := congrArg Prod.snd (Option.some.inj (t1.symm.trans r1))
    subst eS
    have q1 := paired_x (N := N) (by omega) t3 t4
    have q2 := scoring_x (N := N) (by omega) t3 t4
    have u1 := paired_x (N := N) (by omega) t3 t5
    have u2 := scoring_x (N := N) (by omega) t3 t5
    have g1 : G_strikes (S_green S3) = i32 z3 := by
      obtain ⟨p, sd, ai, we, bi, to, orr, po, la, eb, rfl, -, -⟩ := t4
      simp only [S_green_k, S_score_k, S_bowlsEach_k, S_blowing_k, S_jackGoesBack_k, S_touchersTwice_k, S_set_green_k, S_set_score_k, S_set_bowlsEach_k, S_set_blowing_k, S_set_jackGoesBack_k, S_set_touchersTwice_k, G_places_k, G_sides_k, G_aims_k, G_weights_k, G_biases_k, G_touched_k, G_order_k, G_bowlCount_k, G_strikes_k, G_set_places_k, G_set_sides_k, G_set_aims_k, G_set_weights_k, G_set_biases_k, G_set_touched_k, G_set_order_k, G_set_bowlCount_k, G_set_strikes_k]
    have g2 : G_strikes (S_green S3) = i32 z2 := by
      obtain ⟨p, sd, ai, we, bi, to, orr, po, la, eb, rfl, -, -⟩ := r4
      simp only [S_green_k, S_score_k, S_bowlsEach_k, S_blowing_k, S_jackGoesBack_k, S_touchersTwice_k, S_set_green_k, S_set_score_k, S_set_bowlsEach_k, S_set_blowing_k, S_set_jackGoesBack_k, S_set_touchersTwice_k, G_places_k, G_sides_k, G_aims_k, G_weights_k, G_biases_k, G_touched_k, G_order_k, G_bowlCount_k, G_strikes_k, G_set_places_k, G_set_sides_k, G_set_aims_k, G_set_weights_k, G_set_biases_k, G_set_touched_k, G_set_order_k, G_set_bowlCount_k, G_set_strikes_k]
    have g3 : G_strikes (S_green T3) = i32 y3 := by
      obtain ⟨p, sd, ai, we, bi, to, orr, po, la, eb, rfl, -, -⟩ := t5
      simp only [S_green_k, S_score_k, S_bowlsEach_k, S_blowing_k, S_jackGoesBack_k, S_touchersTwice_k, S_set_green_k, S_set_score_k, S_set_bowlsEach_k, S_set_blowing_k, S_set_jackGoesBack_k, S_set_touchersTwice_k, G_places_k, G_sides_k, G_aims_k, G_weights_k, G_biases_k, G_touched_k, G_order_k, G_bowlCount_k, G_strikes_k, G_set_places_k, G_set_sides_k, G_set_aims_k, G_set_weights_k, G_set_biases_k, G_set_touched_k, G_set_order_k, G_set_bowlCount_k, G_set_strikes_k]
    exact ⟨T1, T3, e1, t2, g3.trans (t8.symm.trans (g1.symm.trans g2)), u1.trans (q1.symm.trans p1), u2.trans (q2.symm.trans p2)⟩
  have sn := sideNextT (N := N) h hS
  have sd01 : sdS s n = 0 ∨ sdS s n = 1 := by
    show (s 61 + (n : Int)) % 2 = 0 ∨ (s 61 + (n : Int)) % 2 = 1
    omega
  have sv : -1 ≤ scV s2 (n + 1) ∧ scV s2 (n + 1) ≤ 1 := by
    unfold scV
    by_cases q : sc s2 (n + 1) = 0
    · rw [if_pos q]; omega
    · rw [if_neg q]
      by_cases q2 : 0 < sc s2 (n + 1)
      · rw [if_pos q2]; omega
      · rw [if_neg q2]; omega
  refine ⟨s2, z2, S2, r1, r3, r4, r5, r6, r7, fun T xv => ?_, fun T xv => ?_⟩
  · obtain ⟨T1, T2, e1, e2, e3, -, -⟩ := cp T
    refine ⟨T2, ?_⟩
    unfold f_X5_wouldStrike
    refine bdS i1 (ifN (by decide) (bdS c1 (ifN (by decide) (bdS e1 (bdS e2 ?_)))))
    show some (Sum.inr (G_strikes (S_green T2)), (xv, S, T2)) = _
    rw [e3]
  · obtain ⟨T1, T2, e1, e2, -, e4, e5⟩ := cp T
    refine ⟨T2, ?_⟩
    have ct : f_X5_countIfPlayed N xv S T (i32 a) (i32 w) (i32 b) = some (i32 (if scV s2 (n + 1) = sdS s n then pts s2 (n + 1) else -pts s2 (n + 1)), (xv, S, T2)) := by
      unfold f_X5_countIfPlayed
      refine bdS sn (bdS e1 (bdS e2 (bdS e4 (bdS e5 (jnS ?_)))))
      by_cases q : scV s2 (n + 1) = sdS s n
      · rw [if_pos q]
        exact ifS (by rw [q]) rfl
      · rw [if_neg q]
        refine ifN (by rw [i32_eq (by omega) (by omega) (by omega) (by omega)]; exact q) ?_
        show some (-(i32 (pts s2 (n + 1))), (xv, S, T2)) = _
        rw [i32_neg]
    unfold f_X5_wouldCount
    exact bdS i1 (ifN (by decide) (bdS c1 (ifN (by decide) (bdS ct rfl))))
