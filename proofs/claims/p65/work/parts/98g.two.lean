/-! rows alike as ints; steps of two objects that show one row -/
theorem RZ_ext' {s t : Int → Int} (h : ∀ k : Int, 0 ≤ k → i32 (s k) = i32 (t k)) : RZ s = RZ t := funext fun k => h k (by omega)
theorem row_eq {B B' y : Int} {n n' : Nat} {s t : Int → Int} {T : SV} (hs : INV B n s) (ht : INV B' n' t) (e : RZ s = RZ t) (hT : shows t n' y T) : n' = n ∧ shows s n y T ∧ ∀ j, isC j ∨ (60 ≤ j ∧ j < 65) ∨ j = 0 → s j = t j := by
  have E : ∀ j : Int, 0 ≤ j → i32 (s j) = i32 (t j) := fun j hj => by
    have q := congrFun e j.toNat
    unfold RZ at q
    rwa [Int.toNat_of_nonneg hj] at q
  have EQ : ∀ j : Int, 0 ≤ j → -2147483648 ≤ s j → s j < 2147483648 → -2147483648 ≤ t j → t j < 2147483648 → s j = t j := fun j hj a b c d => by
    have q := E j hj
    rw [i32_eq a b c d] at q
    exact q
  obtain ⟨a3, an, a0, a60, a61, a62, a63, a64, a67, a70, a71, aC, aB⟩ := hs
  obtain ⟨b3, bn, b0, b60, b61, b62, b63, b64, b67, b70, b71, bC, bB⟩ := ht
  have e3 := EQ 3 (by omega) (by omega) (by omega) (by omega) (by omega)
  have en : n' = n := by omega
  subst en
  have s01 : s 0 = 0 ∨ s 0 = 1 := by
    rcases a0 with a0 | a0
    · exact Or.inl a0.1
    · exact Or.inr a0.1.1
  have t01 : t 0 = 0 ∨ t 0 = 1 := by
    rcases b0 with a0 | a0
    · exact Or.inl a0.1
    · exact Or.inr a0.1.1
  have e0 := EQ 0 (by omega) (by omega) (by omega) (by omega) (by omega)
  have e60 := EQ 60 (by omega) (by omega) (by omega) (by omega) (by omega)
  have e61 := EQ 61 (by omega) (by omega) (by omega) (by omega) (by omega)
  have e62 := EQ 62 (by omega) (by omega) (by omega) (by omega) (by omega)
  have e63 := EQ 63 (by omega) (by omega) (by omega) (by omega) (by omega)
  have e64 := EQ 64 (by omega) (by omega) (by omega) (by omega) (by omega)
  have e67 := EQ 67 (by omega) (by omega) (by omega) (by omega) (by omega)
  have e70 := EQ 70 (by omega) (by omega) (by omega) (by omega) (by omega)
  have eC : ∀ j, isC j → s j = t j := fun j hj => by
    have q1 := aC j hj
    have q2 := bC j hj
    exact EQ j (by omega) (by omega) (by omega) (by omega) (by omega)
  have e71 : ∀ k : Int, 0 ≤ k → k < 12 → s (71 + k) = t (71 + k) := fun k h0 h1 => by
    have q1 := a71 k h0 h1
    have q2 := b71 k h0 h1
    exact EQ _ (by omega) (by omega) (by omega) (by omega) (by omega)
  have ePl : ∀ k, 0 ≤ k → k < 9 → Pl s k = Pl t k := fun k h0 h1 => by
    rcases a0 with a0 | a0
    · by_cases k8 : k = 8
      · rw [k8, Pl_none (by omega), Pl_none (by omega)]
      · rw [Pl_more k8 (by omega), Pl_more k8 (by omega)]
    · rcases b0 with b0 | b0
      · omega
      obtain ⟨⟨c0, c3, c1, c2, cb, -⟩, -⟩ := a0
      obtain ⟨⟨d0, d3, d1, d2, db, -⟩, -⟩ := b0
      by_cases k8 : k = 8
      · rw [k8, Pl_jack c0, Pl_jack d0, EQ 1 (by omega) (by omega) (by omega) (by omega) (by omega), EQ 2 (by omega) (by omega) (by omega) (by omega) (by omega)]
      · by_cases kn : k < n'
        · have q1 := cb k h0 kn
          have q2 := db k h0 kn
          have g0 := EQ (4 + 7 * k + 0) (by omega) (by omega) (by omega) (by omega) (by omega)
          have g1 := EQ (4 + 7 * k + 1) (by omega) (by omega) (by omega) (by omega) (by omega)
          have g2 := EQ (4 + 7 * k + 2) (by omega) (by omega) (by omega) (by omega) (by omega)
          by_cases k2 : s (4 + 7 * k + 0) = 2
          · rw [Pl_dead k8 k2, Pl_dead k8 (by omega)]
          · rw [Pl_live h0 (by omega) k8 k2, Pl_live h0 (by omega) k8 (by omega), g1, g2]
        · rw [Pl_more k8 (by omega), Pl_more k8 (by omega)]
  have eT : ∀ k : Int, 0 ≤ k → k < n' → s (4 + 7 * k + 3) = t (4 + 7 * k + 3) := fun k h0 h1 => by
    rcases a0 with a0 | a0
    · omega
    rcases b0 with b0 | b0
    · omega
    have q1 := a0.1.2.2.2.2.1 k h0 h1
    have q2 := b0.1.2.2.2.2.1 k h0 h1
    exact EQ _ (by omega) (by omega) (by omega) (by omega) (by omega)
  refine ⟨rfl, ?_, fun j hj => ?_⟩
  · obtain ⟨p, sd, ai, we, bi, to, orr, po, la, eb, rfl, rG, rV⟩ := hT
    have R : ∀ (f : Int → Int) (w : Int), 0 ≤ w → (∀ k : Int, 0 ≤ k → k < n' → f k = t (4 + 7 * k + w)) → RZ f = RZ (fun k => if 0 ≤ k ∧ k < n' then s (4 + 7 * k + w) else f k) := fun f w hw hf => by
      refine RZ_ext' fun k h0 => ?_
      by_cases c : 0 ≤ k ∧ k < n'
      · rw [if_pos c, hf k c.1 c.2, E _ (by omega)]
      · rw [if_neg c]
    rw [R ai 4 (by omega) (fun k a b => (rG.2.1 k a b).2.1), R we 5 (by omega) (fun k a b => (rG.2.1 k a b).2.2.1), R bi 6 (by omega) (fun k a b => (rG.2.1 k a b).2.2.2)]
    refine shows_mk ⟨fun k h0 h1 => by rw [ePl k h0 h1]; exact rG.1 k h0 h1, fun k h0 h1 => ⟨by rw [e61]; exact (rG.2.1 k h0 h1).1, if_pos ⟨h0, h1⟩, if_pos ⟨h0, h1⟩, if_pos ⟨h0, h1⟩⟩, fun k h0 h1 => ?_⟩ ⟨by rw [eC 65 (by omega)]; exact rV.1, by rw [eC 66 (by omega)]; exact rV.2.1, fun k h0 h1 => by rw [e71 k h0 (by omega)]; exact rV.2.2.1 k h0 (by omega), fun k h0 h1 => by rw [eC _ (by omega)]; exact rV.2.2.2 k h0 h1⟩ ⟨e67.symm, (eC 68 (by omega)).symm, (eC 69 (by omega)).symm, e70.symm, (eC 100 (by omega)).symm, (eC 101 (by omega)).symm, (eC 102 (by omega)).symm, e61.symm, e60.symm, e62.symm, e63.symm, e64.symm⟩
    by_cases c : k < n'
    · rw [if_pos c, eT k h0 c]
      have q := rG.2.2 k h0 h1
      rw [if_pos c] at q
      exact q
    · rw [if_neg c]
      have q := rG.2.2 k h0 h1
      rw [if_neg c] at q
      exact q
  · rcases hj with hj | hj | rfl
    · exact eC j hj
    · rcases (show j = 60 ∨ j = 61 ∨ j = 62 ∨ j = 63 ∨ j = 64 by omega) with rfl | rfl | rfl | rfl | rfl
      · exact e60
      · exact e61
      · exact e62
      · exact e63
      · exact e64
    · exact e0
theorem play_two {N n : Nat} {B z y : Int} {s : Int → Int} {S T : SV} {a w b : Int} (hN : 900 < N) (h : INV B n s) (hB : B + 2 ≤ 1000000) (hS : shows s n z S) (hT : shows s n y T) (hc : CanPlay s n) (hA : -9 ≤ a ∧ a ≤ 9) (hw : 15 ≤ w ∧ w ≤ 70) (hbb : -3 ≤ b ∧ b ≤ 3) : ∃ (s' : Int → Int) (z' y' : Int) (S' T' : SV), f_X3_playBowl N S (i32 a) (i32 w) (i32 b) = some (i32 (n : Int), S') ∧ f_X3_playBowl N T (i32 a) (i32 w) (i32 b) = some (i32 (n : Int), T') ∧ INV (B + 2) (n + 1) s' ∧ shows s' (n + 1) z' S' ∧ shows s' (n + 1) y' T' ∧ playF s s' ∧ s' 0 = 1 ∧ i32 z' = i32 y' ∧ playX s s' n z' a w b := by
  obtain ⟨s1, z1, S1, a1, a2, a3, a4, a5, a6, a7⟩ := plays_joint (N := N) (a := a) (w := w) (bb := b) (th := 0) (s := s) (as_ := fun _ => 0) (ah := fun _ => 0) (sv := fun _ => 0) (sm := 0) (sl := fun _ => 0) (kp := 0) (bu := fun _ => 0) (le := 0) (st := 0) (od := fun _ => 0) (om := 0) (sp := 0) (wr_ := 0) (sg := 0) (on_ := 0) (tw := 0) (t3 := 0) (pl := 0) (fi := 0) (be := 0) (ha := 0) hN h hB hS hc hA hw hbb
  obtain ⟨s2, z2, S2, b1, b2, b3, b4, b5, b6⟩ := plays_joint (N := N) (a := a) (w := w) (bb := b) (th := 0) (s := s) (as_ := fun _ => 0) (ah := fun _ => 0) (sv := fun _ => 0) (sm := 0) (sl := fun _ => 0) (kp := 0) (bu := fun _ => 0) (le := 0) (st := 0) (od := fun _ => 0) (om := 0) (sp := 0) (wr_ := 0) (sg := 0) (on_ := 0) (tw := 0) (t3 := 0) (pl := 0) (fi := 0) (be := 0) (ha := 0) hN h hB hT hc hA hw hbb
  have e := Option.some.inj (a2.symm.trans b2)
  have e1 := congrArg (fun q => M_s q.2) e
  have e2 := congrArg (fun q => M_strikes q.2) e
  simp only [M_thrown_k, M_s_k, M_aside_k, M_ahead_k, M_saved_k, M_savedMany_k, M_slots_k, M_kept_k, M_buffer_k, M_length_k, M_strikes_k, M_order_k, M_orderMany_k, M_spot_k, M_isWrong_k, M_sign_k, M_one_k, M_two_k, M_three_k, M_played_k, M_isFine_k, M_bestPoints_k, M_hash_k, M_set_thrown_k, M_set_s_k, M_set_aside_k, M_set_ahead_k, M_set_saved_k, M_set_savedMany_k, M_set_slots_k, M_set_kept_k, M_set_buffer_k, M_set_length_k, M_set_strikes_k, M_set_order_k, M_set_orderMany_k, M_set_spot_k, M_set_isWrong_k, M_set_sign_k, M_set_one_k, M_set_two_k, M_set_three_k, M_set_played_k, M_set_isFine_k, M_set_bestPoints_k, M_set_hash_k] at e1 e2
  obtain ⟨-, c1, -⟩ := row_eq a3 b3 e1 b4
  exact ⟨s1, z1, z2, S1, S2, a1, b1, a3, a4, c1, a5, a6, e2, a7⟩
theorem count_two {N n : Nat} {B z y : Int} {s : Int → Int} {S T : SV} (hN : 100 < N) (h : INV B n s) (hB : B + 8 ≤ 1000000) (hS : shows s n z S) (hT : shows s n y T) : ∃ (s' : Int → Int) (S' T' : SV), f_X3_countEnd N S = some (i32 (pts s n), S') ∧ f_X3_countEnd N T = some (i32 (pts s n), T') ∧ INV (B + 8) 0 s' ∧ shows s' 0 z S' ∧ shows s' 0 y T' ∧ RZ s' = RZ (cntZ s (sc s n) (b2i (Burnt s n)) (fstS s (sc s n))) := by
  obtain ⟨s1, od1, om1, S1, a1, a2, a3, a4⟩ := counts_joint (N := N) (th := 0) (s := s) (as_ := fun _ => 0) (ah := fun _ => 0) (sv := fun _ => 0) (sm := 0) (sl := fun _ => 0) (kp := 0) (bu := fun _ => 0) (le := 0) (st := 0) (od := fun _ => 0) (om := 0) (sp := 0) (wr_ := 0) (sg := 0) (on_ := 0) (tw := 0) (t3 := 0) (pl := 0) (fi := 0) (be := 0) (ha := 0) hN h hB hS
  obtain ⟨s2, od2, om2, S2, b1, b2, b3, b4⟩ := counts_joint (N := N) (th := 0) (s := s) (as_ := fun _ => 0) (ah := fun _ => 0) (sv := fun _ => 0) (sm := 0) (sl := fun _ => 0) (kp := 0) (bu := fun _ => 0) (le := 0) (st := 0) (od := fun _ => 0) (om := 0) (sp := 0) (wr_ := 0) (sg := 0) (on_ := 0) (tw := 0) (t3 := 0) (pl := 0) (fi := 0) (be := 0) (ha := 0) hN h hB hT
  have m := counts_m (N := N) (th := 0) (s := s) (as_ := fun _ => 0) (ah := fun _ => 0) (sv := fun _ => 0) (sm := 0) (sl := fun _ => 0) (kp := 0) (bu := fun _ => 0) (le := 0) (st := 0) (od := fun _ => 0) (om := 0) (sp := 0) (wr_ := 0) (sg := 0) (on_ := 0) (tw := 0) (t3 := 0) (pl := 0) (fi := 0) (be := 0) (ha := 0) hN h (by omega)
  have e := Option.some.inj (a2.symm.trans b2)
  have e1 := congrArg (fun q => M_s q.2) e
  have f := Option.some.inj (a2.symm.trans m)
  have f1 := congrArg (fun q => M_s q.2) f
  simp only [M_thrown_k, M_s_k, M_aside_k, M_ahead_k, M_saved_k, M_savedMany_k, M_slots_k, M_kept_k, M_buffer_k, M_length_k, M_strikes_k, M_order_k, M_orderMany_k, M_spot_k, M_isWrong_k, M_sign_k, M_one_k, M_two_k, M_three_k, M_played_k, M_isFine_k, M_bestPoints_k, M_hash_k, M_set_thrown_k, M_set_s_k, M_set_aside_k, M_set_ahead_k, M_set_saved_k, M_set_savedMany_k, M_set_slots_k, M_set_kept_k, M_set_buffer_k, M_set_length_k, M_set_strikes_k, M_set_order_k, M_set_orderMany_k, M_set_spot_k, M_set_isWrong_k, M_set_sign_k, M_set_one_k, M_set_two_k, M_set_three_k, M_set_played_k, M_set_isFine_k, M_set_bestPoints_k, M_set_hash_k] at e1 f1
  obtain ⟨-, c1, -⟩ := row_eq a3 b3 e1 b4
  exact ⟨s1, S1, S2, a1, b1, a3, a4, c1, f1⟩
theorem puts_two {N n : Nat} {B z y : Int} {s : Int → Int} {S T : SV} (hN : 100 < N) (h : INV B n s) (hB : B + 1 ≤ 1000000) (hS : shows s n z S) (hT : shows s n y T) : ∃ (s' : Int → Int) (S' T' : SV), f_X3_rescueJack N S = some S' ∧ f_X3_rescueJack N T = some T' ∧ INV (B + 1) n s' ∧ shows s' n z S' ∧ shows s' n y T' ∧ putF s s' ∧ putX s s' := by
  obtain ⟨s1, S1, a1, a2, a3, a4, a5, a6⟩ := puts_joint (N := N) (th := 0) (s := s) (as_ := fun _ => 0) (ah := fun _ => 0) (sv := fun _ => 0) (sm := 0) (sl := fun _ => 0) (kp := 0) (bu := fun _ => 0) (le := 0) (st := 0) (od := fun _ => 0) (om := 0) (sp := 0) (wr_ := 0) (sg := 0) (on_ := 0) (tw := 0) (t3 := 0) (pl := 0) (fi := 0) (be := 0) (ha := 0) hN h hB hS
  obtain ⟨s2, S2, b1, b2, b3, b4, b5⟩ := puts_joint (N := N) (th := 0) (s := s) (as_ := fun _ => 0) (ah := fun _ => 0) (sv := fun _ => 0) (sm := 0) (sl := fun _ => 0) (kp := 0) (bu := fun _ => 0) (le := 0) (st := 0) (od := fun _ => 0) (om := 0) (sp := 0) (wr_ := 0) (sg := 0) (on_ := 0) (tw := 0) (t3 := 0) (pl := 0) (fi := 0) (be := 0) (ha := 0) hN h hB hT
  have e := Option.some.inj (a2.symm.trans b2)
  have e1 := congrArg (fun q => M_s q) e
  simp only [M_thrown_k, M_s_k, M_aside_k, M_ahead_k, M_saved_k, M_savedMany_k, M_slots_k, M_kept_k, M_buffer_k, M_length_k, M_strikes_k, M_order_k, M_orderMany_k, M_spot_k, M_isWrong_k, M_sign_k, M_one_k, M_two_k, M_three_k, M_played_k, M_isFine_k, M_bestPoints_k, M_hash_k, M_set_thrown_k, M_set_s_k, M_set_aside_k, M_set_ahead_k, M_set_saved_k, M_set_savedMany_k, M_set_slots_k, M_set_kept_k, M_set_buffer_k, M_set_length_k, M_set_strikes_k, M_set_order_k, M_set_orderMany_k, M_set_spot_k, M_set_isWrong_k, M_set_sign_k, M_set_one_k, M_set_two_k, M_set_three_k, M_set_played_k, M_set_isFine_k, M_set_bestPoints_k, M_set_hash_k] at e1
  obtain ⟨-, c1, -⟩ := row_eq a3 b3 e1 b4
  exact ⟨s1, S1, S2, a1, b1, a3, a4, c1, a5, a6⟩
