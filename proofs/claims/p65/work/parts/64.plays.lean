/-! a bowl is played: the class and the reference end alike -/
theorem x0_addBowl {N n : Nat} {p : Int → Int} {sd : Int → Int} {ai : Int → Int} {we : Int → Int} {bi : Int → Int} {to : Int → Int} {od : Int → Int} {st : Int} {sid a w bb : Int} (hn : n < 8) : f_X0_addBowl N (GK (RZ p) (RZ sd) (RZ ai) (RZ we) (RZ bi) (RZ to) (RZ od) (i32 ((n : Int))) (i32 st)) (i32 sid) (i32 a) (i32 w) (i32 bb) = some (i32 (n : Int), (GK (RZ (up p n (-1))) (RZ (up sd n sid)) (RZ (up ai n a)) (RZ (up we n w)) (RZ (up bi n bb)) (RZ (up to n 0)) (RZ od) (i32 ((n : Int) + 1)) (i32 0))) := by
  unfold f_X0_addBowl
  simp (maxSteps := 4000000) (disch := omega) only [jn, Option.bind_some, l32_0, l32_1, l32_2, l32_3, l32_4, l32_5, l32_6, l32_7, l32_8, l32_9, l32_10, l32_11, l32_12, l32_13, l32_14, l32_15, l32_16, l32_17, l32_18, l32_19, l32_20, l32_21, l32_22, l32_23, l32_24, l32_25, l32_26, l32_27, l32_28, l32_29, l32_30, l32_31, l32_32, l32_33, l32_34, l32_35, l32_36, l32_37, l32_38, l32_39, l32_40, l32_41, l32_42, l32_43, l32_44, l32_45, l32_46, l32_47, l32_48, l32_49, l32_50, l32_51, l32_52, l32_53, l32_54, l32_55, l32_56, l32_57, l32_58, l32_59, l32_60, l32_61, l32_62, l32_63, l32_64, l32_65, l32_66, l32_67, l32_68, l32_69, l32_70, l32_71, l32_83, l32_91, l32_98, l32_99, l32_100, l32_101, l32_102, l32_103, l32_106, l32_119, l32_126, l32_206, l32_515, l32_618, l32_850, l32_1000, l32_1022, l32_1023, l32_1050, l32_1239, l32_1260, i32_add, i32_sub, i32_mul, i32_neg, ↓reduceIte, ltT, ltF, leT, leF, eqT, eqF, gd_ix, i32_nat, RZ_at, upd_RZ, i32_ofNat, G_places_k, G_sides_k, G_aims_k, G_weights_k, G_biases_k, G_touched_k, G_order_k, G_bowlCount_k, G_strikes_k, G_set_places_k, G_set_sides_k, G_set_aims_k, G_set_weights_k, G_set_biases_k, G_set_touched_k, G_set_order_k, G_set_bowlCount_k, G_set_strikes_k, put_in]
/-- the row as a bowl begins its way -/
def begS (s : Int → Int) (n a w bb : Int) : Int → Int := up (up (up (up (up (up (up (up (up s 3 (n + 1)) 101 (s 101 + 1)) (4 + 7 * n + 0) 2) (4 + 7 * n + 1) 0) (4 + 7 * n + 2) 0) (4 + 7 * n + 3) 0) (4 + 7 * n + 4) a) (4 + 7 * n + 5) w) (4 + 7 * n + 6) bb
theorem begS_ne {s : Int → Int} {n a w bb j : Int} (h3 : j ≠ 3) (h101 : j ≠ 101) (h : ∀ q, 0 ≤ q → q < 7 → j ≠ 4 + 7 * n + q) : begS s n a w bb j = s j := by
  unfold begS
  rw [up_ne (h 6 (by omega) (by omega)), up_ne (h 5 (by omega) (by omega)), up_ne (h 4 (by omega) (by omega)), up_ne (h 3 (by omega) (by omega)), up_ne (h 2 (by omega) (by omega)), up_ne (h 1 (by omega) (by omega)), up_ne (h 0 (by omega) (by omega)), up_ne h101, up_ne h3]
theorem begS_3 {s : Int → Int} {n a w bb : Int} (hn : 0 ≤ n) : begS s n a w bb 3 = n + 1 := by
  unfold begS
  rw [up_ne (by omega), up_ne (by omega), up_ne (by omega), up_ne (by omega), up_ne (by omega), up_ne (by omega), up_ne (by omega), up_ne (by omega), up_self]
theorem begS_101 {s : Int → Int} {n a w bb : Int} (hn : n < 8) : begS s n a w bb 101 = s 101 + 1 := by
  unfold begS
  rw [up_ne (by omega), up_ne (by omega), up_ne (by omega), up_ne (by omega), up_ne (by omega), up_ne (by omega), up_ne (by omega), up_self]
theorem begS_b {s : Int → Int} {n a w bb : Int} : begS s n a w bb (4 + 7 * n + 0) = 2 ∧ begS s n a w bb (4 + 7 * n + 1) = 0 ∧ begS s n a w bb (4 + 7 * n + 2) = 0 ∧ begS s n a w bb (4 + 7 * n + 3) = 0 ∧ begS s n a w bb (4 + 7 * n + 4) = a ∧ begS s n a w bb (4 + 7 * n + 5) = w ∧ begS s n a w bb (4 + 7 * n + 6) = bb := by
  unfold begS
  refine ⟨?_, ?_, ?_, ?_, ?_, ?_, up_self _ _ _⟩
  · rw [up_ne (by omega), up_ne (by omega), up_ne (by omega), up_ne (by omega), up_ne (by omega), up_ne (by omega), up_self]
  · rw [up_ne (by omega), up_ne (by omega), up_ne (by omega), up_ne (by omega), up_ne (by omega), up_self]
  · rw [up_ne (by omega), up_ne (by omega), up_ne (by omega), up_ne (by omega), up_self]
  · rw [up_ne (by omega), up_ne (by omega), up_ne (by omega), up_self]
  · rw [up_ne (by omega), up_ne (by omega), up_self]
  · rw [up_ne (by omega), up_self]
theorem plays_st {N n : Nat} {th : Int} {s : Int → Int} {as_ : Int → Int} {ah : Int → Int} {sv : Int → Int} {sm : Int} {sl : Int → Int} {kp : Int} {bu : Int → Int} {le : Int} {st : Int} {od : Int → Int} {om : Int} {sp : Int} {wr_ : Int} {sg : Int} {on_ : Int} {tw : Int} {t3 : Int} {pl : Int} {fi : Int} {be : Int} {ha : Int64} {a w bb : Int} (h3 : s 3 = n) (hn : n < 8) : f_X6_plays N (MK (i32 th) (RZ s) (RZ as_) (RZ ah) (RZ sv) (i32 sm) (RZ sl) (i32 kp) (RZ bu) (i32 le) (i32 st) (RZ od) (i32 om) (i32 sp) (i32 wr_) (i32 sg) (i32 on_) (i32 tw) (i32 t3) (i32 pl) (i32 fi) (i32 be) ha) (i32 a) (i32 w) (i32 bb) = (f_X6_goes N (MK (i32 th) (RZ (begS s n a w bb)) (RZ as_) (RZ ah) (RZ sv) (i32 sm) (RZ sl) (i32 kp) (RZ bu) (i32 le) (i32 0) (RZ od) (i32 om) (i32 sp) (i32 wr_) (i32 sg) (i32 on_) (i32 tw) (i32 t3) (i32 pl) (i32 fi) (i32 be) ha) (i32 (n : Int))).bind (fun o20 => (f_X6_puts N o20).bind (fun o22 => (f_X6_of N o22 (i32 (n : Int)) (i32 0)).bind (fun o24 => some (o24, o22)))) := by
  unfold f_X6_plays begS
  have e : ∀ z, up s 3 z 101 = s 101 := fun z => up_ne (by omega)
  simp (maxSteps := 4000000) (disch := omega) only [jn, Option.bind_some, l32_0, l32_1, l32_2, l32_3, l32_4, l32_5, l32_6, l32_7, l32_8, l32_9, l32_10, l32_11, l32_12, l32_13, l32_14, l32_15, l32_16, l32_17, l32_18, l32_19, l32_20, l32_21, l32_22, l32_23, l32_24, l32_25, l32_26, l32_27, l32_28, l32_29, l32_30, l32_31, l32_32, l32_33, l32_34, l32_35, l32_36, l32_37, l32_38, l32_39, l32_40, l32_41, l32_42, l32_43, l32_44, l32_45, l32_46, l32_47, l32_48, l32_49, l32_50, l32_51, l32_52, l32_53, l32_54, l32_55, l32_56, l32_57, l32_58, l32_59, l32_60, l32_61, l32_62, l32_63, l32_64, l32_65, l32_66, l32_67, l32_68, l32_69, l32_70, l32_71, l32_83, l32_91, l32_98, l32_99, l32_100, l32_101, l32_102, l32_103, l32_106, l32_119, l32_126, l32_206, l32_515, l32_618, l32_850, l32_1000, l32_1022, l32_1023, l32_1050, l32_1239, l32_1260, i32_add, i32_sub, i32_mul, i32_neg, ↓reduceIte, ltT, ltF, leT, leF, eqT, eqF, gd_ix, i32_nat, RZ_at, upd_RZ, i32_ofNat, M_thrown_k, M_s_k, M_aside_k, M_ahead_k, M_saved_k, M_savedMany_k, M_slots_k, M_kept_k, M_buffer_k, M_length_k, M_strikes_k, M_order_k, M_orderMany_k, M_spot_k, M_isWrong_k, M_sign_k, M_one_k, M_two_k, M_three_k, M_played_k, M_isFine_k, M_bestPoints_k, M_hash_k, M_set_thrown_k, M_set_s_k, M_set_aside_k, M_set_ahead_k, M_set_saved_k, M_set_savedMany_k, M_set_slots_k, M_set_kept_k, M_set_buffer_k, M_set_length_k, M_set_strikes_k, M_set_order_k, M_set_orderMany_k, M_set_spot_k, M_set_isWrong_k, M_set_sign_k, M_set_one_k, M_set_two_k, M_set_three_k, M_set_played_k, M_set_isFine_k, M_set_bestPoints_k, M_set_hash_k, sets_ok, h3, e]
abbrev playF (s s' : Int → Int) : Prop := ∀ j, 60 ≤ j → j ≠ 100 → j ≠ 101 → j ≠ 102 → s' j = s j
/-- what a play keeps besides -/
def playX (s s' : Int → Int) (n : Nat) (z' a w bb : Int) : Prop := ((s 1 ≤ s' 1 ∧ s' 2 = s 2) ∨ (40 ≤ s' 1 ∧ s' 1 ≤ 59 ∧ s' 2 = 10)) ∧ s 100 ≤ s' 100 ∧ s' 101 = s 101 + 1 ∧ s' 102 = s 102 + s' (4 + 7 * n + 3) ∧ (∀ k : Int, 0 ≤ k → k < n → (s (4 + 7 * k + 0) ≠ 2 → s (4 + 7 * k + 3) = 1 → s' (4 + 7 * k + 0) ≠ 2) ∧ ∀ u, 3 ≤ u → u < 7 → s' (4 + 7 * k + u) = s (4 + 7 * k + u)) ∧ (s' (4 + 7 * n + 4) = a ∧ s' (4 + 7 * n + 5) = w ∧ s' (4 + 7 * n + 6) = bb) ∧ (0 ≤ z' ∧ z' ≤ 8) ∧ (s' (4 + 7 * n + 3) = 1 → 0 < z' ∧ (20 ≤ s 1 → s' (4 + 7 * n + 0) ≠ 2)) ∧ (z' = 0 → (s' (4 + 7 * n + 0) = 0 ∧ s' (4 + 7 * n + 1) = w ∧ s' (4 + 7 * n + 2) = colAt (a + s 62) bb w ∧ ∀ j : Int, 1 ≤ j → j ≤ w → (0 ≤ clm j (a + s 62) bb ∧ clm j (a + s 62) bb < 21) ∧ j < 60) ∨ (s' (4 + 7 * n + 0) = 2 ∧ ∃ j : Int, 1 ≤ j ∧ j ≤ w ∧ ¬ ((0 ≤ clm j (a + s 62) bb ∧ clm j (a + s 62) bb < 21) ∧ j < 60)))
theorem plays_joint {N n : Nat} {B z a w bb : Int} {th : Int} {s : Int → Int} {as_ : Int → Int} {ah : Int → Int} {sv : Int → Int} {sm : Int} {sl : Int → Int} {kp : Int} {bu : Int → Int} {le : Int} {st : Int} {od : Int → Int} {om : Int} {sp : Int} {wr_ : Int} {sg : Int} {on_ : Int} {tw : Int} {t3 : Int} {pl : Int} {fi : Int} {be : Int} {ha : Int64} {S : SV} (hN : 900 < N) (h : INV B n s) (hB : B + 2 ≤ 1000000) (hS : shows s n z S) (hc : CanPlay s n) (hA : -9 ≤ a ∧ a ≤ 9) (hw : 15 ≤ w ∧ w ≤ 70) (hbb : -3 ≤ bb ∧ bb ≤ 3) : ∃ (s' : Int → Int) (z' : Int) (S' : SV), f_X3_playBowl N S (i32 a) (i32 w) (i32 bb) = some (i32 (n : Int), S') ∧ f_X6_plays N (MK (i32 th) (RZ s) (RZ as_) (RZ ah) (RZ sv) (i32 sm) (RZ sl) (i32 kp) (RZ bu) (i32 le) (i32 st) (RZ od) (i32 om) (i32 sp) (i32 wr_) (i32 sg) (i32 on_) (i32 tw) (i32 t3) (i32 pl) (i32 fi) (i32 be) ha) (i32 a) (i32 w) (i32 bb) = some (i32 (s' (4 + 7 * n + 0)), (MK (i32 th) (RZ s') (RZ as_) (RZ ah) (RZ sv) (i32 sm) (RZ sl) (i32 kp) (RZ bu) (i32 le) (i32 z') (RZ od) (i32 om) (i32 sp) (i32 wr_) (i32 sg) (i32 on_) (i32 tw) (i32 t3) (i32 pl) (i32 fi) (i32 be) ha)) ∧ INV (B + 2) (n + 1) s' ∧ shows s' (n + 1) z' S' ∧ playF s s' ∧ s' 0 = 1 ∧ playX s s' n z' a w bb := by
  obtain ⟨p, sd, ai, we, bi, to, orr, po, la, eb_, rfl, rG, rV⟩ := hS
  obtain ⟨f1, f2, f3, f4, f5, f6⟩ := rel_facts h rG
  have h3 := h.1
  have h60 := h.2.2.2.1
  have h61 := h.2.2.2.2.1
  have h62 := h.2.2.2.2.2.1
  have hn : n < 8 := by
    have := hc.2.1
    omega
  have hg : GEO s n := by
    have := hc.1
    rcases h.2.2.1 with q | q
    · omega
    · exact q.1
  obtain ⟨t0, t1, t2, t3_, t4, t5, t6⟩ := begS_b (s := s) (n := n) (a := a) (w := w) (bb := bb)
  have ne : ∀ j, j ≠ 3 → j ≠ 101 → (∀ q, 0 ≤ q → q < 7 → j ≠ 4 + 7 * (n : Int) + q) → begS s n a w bb j = s j := fun j x y q => begS_ne x y q
  obtain ⟨G1, P1, Pn⟩ := geo_gen (s' := begS s n a w bb) (n' := n + 1) (t := n) (r := 0) (c := 0) (x := 2) (tv := 0) hg (by omega) (by omega) (Or.inr ⟨rfl, rfl⟩) (fun j a b c d => ne j c (by omega) d) (by rw [begS_3 (by omega)]; rfl) t0 t1 t2 t3_ (by omega) (by omega) (by omega) (Or.inr (Or.inr rfl)) (fun e => by omega)
  have w62 : begS s n a w bb 62 = s 62 := ne 62 (by omega) (by omega) (fun q a b => by omega)
  obtain ⟨p', to', s', st', c1, c2, G2, P2, T2, tn, F2, F102, SX⟩ := send_joint (N := N) (n := n + 1) hN (by omega) (th := th) (s := begS s n a w bb) (as_ := as_) (ah := ah) (sv := sv) (sm := sm) (sl := sl) (kp := kp) (bu := bu) (le := le) (st := 0) (od := od) (om := om) (sp := sp) (wr_ := wr_) (sg := sg) (on_ := on_) (tw := tw) (t3 := t3) (pl := pl) (fi := fi) (be := be) (ha := ha) (p := up p n (-1)) (sd := up sd n ((s 61 + n) % 2)) (ai := up ai n a) (we := up we n w) (bi := up bi n bb) (to := up to n 0) (orr := orr) (nn := (n : Int) + 1) (b := n) (a := a) (w := w) (bb := bb) (by omega) (by omega) G1 t0 t3_ (fun k x y => by
      by_cases kn : k = n
      · rw [kn, up_self, t3_]
      · rw [up_ne kn, rG.2.2 k x (by omega), if_pos (by omega), ne _ (by omega) (by omega) (fun q a b => by omega)]) (fun k x y => by
      by_cases kn : k = n
      · rw [kn, up_self]; omega
      · rw [up_ne kn]; exact f3 k x y) (fun k x y kn => by rw [up_ne kn, P1 k kn]; exact rG.1 k x y) (up_self _ _ _) (up_self _ _ _) (up_self _ _ _) (up_self _ _ _) t4 t5 t6 hA hw hbb (by rw [w62]; exact h62)
  rw [w62] at c1 SX
  have F : ∀ j, 60 ≤ j → j ≠ 101 → j ≠ 102 → s' j = s j := fun j x y w => by
    rw [F2 j (by omega) (by omega) w (fun k a b => by omega) (by omega) (by omega), ne j (by omega) y (fun q a b => by omega)]
  have F101 : s' 101 = s 101 + 1 := by
    rw [F2 101 (by omega) (by omega) (by omega) (fun k a b => by omega) (by omega) (by omega), begS_101 (by omega)]
  have F102' : s' 102 = s 102 + to' n := by rw [F102, ne 102 (by omega) (by omega) (fun q a b => by omega)]
  have tn01 : to' n = 0 ∨ to' n = 1 := by
    rw [tn]
    exact (G2.2.2.2.2.1 n (by omega) (by omega)).2.2.2
  have hC := h.2.2.2.2.2.2.2.2.2.2.2.1
  have I1 : INV (B + 1) (n + 1) s' := inv_of h (fun j a b => F j a (by omega) (by omega)) (fun j hj => by
    have q := hC j hj
    by_cases j1 : j = 101
    · rw [j1] at q ⊢; rw [F101]; omega
    · by_cases j2 : j = 102
      · rw [j2] at q ⊢; rw [F102']; omega
      · rw [F j (by omega) j1 j2]; omega) G2.2.1 (by omega) (Or.inr ⟨G2, by
    have := hc.2.1
    omega⟩) (by omega)
  have S1 : shows s' (n + 1) st' (SK (GK (RZ p') (RZ (up sd n ((s 61 + n) % 2))) (RZ (up ai n a)) (RZ (up we n w)) (RZ (up bi n bb)) (RZ to') (RZ orr) (i32 (((n + 1 : Nat) : Int))) (i32 st')) (VK (RZ po) (RZ la) (RZ eb_) (i32 (s 67)) (i32 (s 68)) (i32 (s 69)) (i32 (s 70)) (i32 (s 100)) (i32 (s 101 + 1)) (i32 (s 102 + to' n)) (i32 (s 61))) (i32 (s 60)) (i32 (s 62)) (i32 (s 63)) (i32 (s 64))) := by
    refine shows_mk ⟨P2, fun k x y => ?_, fun k x y => ?_⟩ ⟨?_, ?_, fun k x y => ?_, fun k x y => ?_⟩ ⟨(F _ (by omega) (by omega) (by omega)).symm, (F _ (by omega) (by omega) (by omega)).symm, (F _ (by omega) (by omega) (by omega)).symm, (F _ (by omega) (by omega) (by omega)).symm, (F _ (by omega) (by omega) (by omega)).symm, F101.symm, F102'.symm, (F _ (by omega) (by omega) (by omega)).symm, (F _ (by omega) (by omega) (by omega)).symm, (F _ (by omega) (by omega) (by omega)).symm, (F _ (by omega) (by omega) (by omega)).symm, (F _ (by omega) (by omega) (by omega)).symm⟩
    · rw [F 61 (by omega) (by omega) (by omega), F2 (4 + 7 * k + 4) (by omega) (by omega) (by omega) (fun k a b => by omega) (by omega) (by omega), F2 (4 + 7 * k + 5) (by omega) (by omega) (by omega) (fun k a b => by omega) (by omega) (by omega), F2 (4 + 7 * k + 6) (by omega) (by omega) (by omega) (fun k a b => by omega) (by omega) (by omega)]
      by_cases kn : k = n
      · subst kn
        rw [up_self, up_self, up_self, up_self, t4, t5, t6]
        exact ⟨rfl, rfl, rfl, rfl⟩
      · rw [up_ne kn, up_ne kn, up_ne kn, up_ne kn, ne (4 + 7 * k + 4) (by omega) (by omega) (fun q a b => by omega), ne (4 + 7 * k + 5) (by omega) (by omega) (fun q a b => by omega), ne (4 + 7 * k + 6) (by omega) (by omega) (fun q a b => by omega)]
        exact rG.2.1 k x (by omega)
    · by_cases kn : k = n
      · subst kn
        rw [tn, if_pos (by omega)]
      · rw [T2 k kn, up_ne kn, rG.2.2 k x y]
        by_cases k2 : k < n
        · rw [if_pos k2, if_pos (by omega), F2 _ (by omega) (by omega) (by omega) (fun k a b => by omega) (by omega) (by omega), ne _ (by omega) (by omega) (fun q a b => by omega)]
        · rw [if_neg k2, if_neg (by omega)]
    · rw [F _ (by omega) (by omega) (by omega)]; exact rV.1
    · rw [F _ (by omega) (by omega) (by omega)]; exact rV.2.1
    · rw [F 70 (by omega) (by omega) (by omega)] at y
      have := h.2.2.2.2.2.2.2.2.2.1
      rw [F _ (by omega) (by omega) (by omega)]; exact rV.2.2.1 k x y
    · rw [F _ (by omega) (by omega) (by omega)]; exact rV.2.2.2 k x y
  obtain ⟨s2, S2, d1, d2, I2, S2s, F3, PX⟩ := puts_joint (N := N) (n := n + 1) (B := B + 1) (z := st') (th := th) (s := s') (as_ := as_) (ah := ah) (sv := sv) (sm := sm) (sl := sl) (kp := kp) (bu := bu) (le := le) (st := st') (od := od) (om := om) (sp := sp) (wr_ := wr_) (sg := sg) (on_ := on_) (tw := tw) (t3 := t3) (pl := pl) (fi := fi) (be := be) (ha := ha) (by omega) I1 (by omega) S1
  refine ⟨s2, st', S2, ?_, ?_, by rw [show B + 2 = B + 1 + 1 by omega]; exact I2, S2s, fun j a b c d => by rw [F3 j (by omega) (by omega) b, F j a c d], ?_, ?_⟩
  · unfold f_X3_playBowl f_X3_nextSide
    have e1 : s 61 + (n : Int) - (s 61 + (n : Int)) / 2 * 2 = (s 61 + n) % 2 := by omega
    have e2 := at_in (N := N) (n := 8) (s := to') (a := (n : Int)) (by omega) (by omega) (by omega)
    rw [ncS] at d1
    simp (maxSteps := 4000000) (disch := omega) only [jn, Option.bind_some, l32_0, l32_1, l32_2, l32_3, l32_4, l32_5, l32_6, l32_7, l32_8, l32_9, l32_10, l32_11, l32_12, l32_13, l32_14, l32_15, l32_16, l32_17, l32_18, l32_19, l32_20, l32_21, l32_22, l32_23, l32_24, l32_25, l32_26, l32_27, l32_28, l32_29, l32_30, l32_31, l32_32, l32_33, l32_34, l32_35, l32_36, l32_37, l32_38, l32_39, l32_40, l32_41, l32_42, l32_43, l32_44, l32_45, l32_46, l32_47, l32_48, l32_49, l32_50, l32_51, l32_52, l32_53, l32_54, l32_55, l32_56, l32_57, l32_58, l32_59, l32_60, l32_61, l32_62, l32_63, l32_64, l32_65, l32_66, l32_67, l32_68, l32_69, l32_70, l32_71, l32_83, l32_91, l32_98, l32_99, l32_100, l32_101, l32_102, l32_103, l32_106, l32_119, l32_126, l32_206, l32_515, l32_618, l32_850, l32_1000, l32_1022, l32_1023, l32_1050, l32_1239, l32_1260, i32_add, i32_sub, i32_mul, i32_neg, ↓reduceIte, ltT, ltF, leT, leF, eqT, eqF, gd_ix, i32_nat, RZ_at, upd_RZ, i32_ofNat, S_green_k, S_score_k, S_bowlsEach_k, S_blowing_k, S_jackGoesBack_k, S_touchersTwice_k, S_set_green_k, S_set_score_k, S_set_bowlsEach_k, S_set_blowing_k, S_set_jackGoesBack_k, S_set_touchersTwice_k, G_places_k, G_sides_k, G_aims_k, G_weights_k, G_biases_k, G_touched_k, G_order_k, G_bowlCount_k, G_strikes_k, G_set_places_k, G_set_sides_k, G_set_aims_k, G_set_weights_k, G_set_biases_k, G_set_touched_k, G_set_order_k, G_set_bowlCount_k, G_set_strikes_k, V_points_k, V_latest_k, V_endsByPoints_k, V_pointsNeeded_k, V_endCount_k, V_burntCount_k, V_latestCount_k, V_backCount_k, V_bowlCount_k, V_toucherCount_k, V_firstSide_k, V_set_points_k, V_set_latest_k, V_set_endsByPoints_k, V_set_pointsNeeded_k, V_set_endCount_k, V_set_burntCount_k, V_set_latestCount_k, V_set_backCount_k, V_set_bowlCount_k, V_set_toucherCount_k, V_set_firstSide_k, i32_div, e1, x0_addBowl, c1, e2, d1]
  · rw [plays_st h3 hn, c2, Option.bind_some, d2, Option.bind_some, of_ok (by omega) (by omega), Option.bind_some]
  · rw [F3 0 (by omega) (by omega) (by omega)]
    exact G2.1
  · obtain ⟨y1, y2, y3, y4, y5⟩ := SX
    obtain ⟨x1, x2⟩ := PX
    rw [ne 1 (by omega) (by omega) (fun q a b => by omega)] at y1 y4
    have e2 : s' 2 = s 2 := by rw [F2 2 (by omega) (by omega) (by omega) (fun k a b => by omega) (by omega) (by omega), ne 2 (by omega) (by omega) (fun q a b => by omega)]
    have b0 : s2 (4 + 7 * (n : Int) + 0) = s' (4 + 7 * (n : Int) + 0) := F3 _ (by omega) (by omega) (by omega)
    have b1 : s2 (4 + 7 * (n : Int) + 1) = s' (4 + 7 * (n : Int) + 1) := F3 _ (by omega) (by omega) (by omega)
    have b2 : s2 (4 + 7 * (n : Int) + 2) = s' (4 + 7 * (n : Int) + 2) := F3 _ (by omega) (by omega) (by omega)
    have b3 : s2 (4 + 7 * (n : Int) + 3) = s' (4 + 7 * (n : Int) + 3) := F3 _ (by omega) (by omega) (by omega)
    refine ⟨by omega, by rw [← F 100 (by omega) (by omega) (by omega)]; exact x2, by rw [F3 101 (by omega) (by omega) (by omega), F101], by rw [F3 102 (by omega) (by omega) (by omega), F102', b3, tn], fun k k0 kn => ⟨fun k2 k3 => ?_, fun u u0 u7 => ?_⟩, ⟨?_, ?_, ?_⟩, by omega, ?_, ?_⟩
    · rw [F3 _ (by omega) (by omega) (by omega)]
      exact y2 k k0 (by omega) (by omega) (by rw [ne _ (by omega) (by omega) (fun q a b => by omega)]; exact k2) (by rw [ne _ (by omega) (by omega) (fun q a b => by omega)]; exact k3)
    · rw [F3 _ (by omega) (by omega) (by omega), F2 _ (by omega) (by omega) (by omega) (fun k a b => by omega) (by omega) (by omega), ne _ (by omega) (by omega) (fun q a b => by omega)]
    · rw [F3 _ (by omega) (by omega) (by omega), F2 _ (by omega) (by omega) (by omega) (fun k a b => by omega) (by omega) (by omega)]; exact t4
    · rw [F3 _ (by omega) (by omega) (by omega), F2 _ (by omega) (by omega) (by omega) (fun k a b => by omega) (by omega) (by omega)]; exact t5
    · rw [F3 _ (by omega) (by omega) (by omega), F2 _ (by omega) (by omega) (by omega) (fun k a b => by omega) (by omega) (by omega)]; exact t6
    · rw [b3, b0]; exact y4
    · rw [b0, b1, b2]; exact y5
