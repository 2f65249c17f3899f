/-! what would be: both -/
/-- the points that would be: of the side that plays next above 0; one number for both -/
theorem sideNextT {N n : Nat} {B z : Int} {s : Int → Int} {S : SV} (h : INV B n s) (hS : shows s n z S) : f_X3_nextSide N S = some (i32 (sdS s n)) := by
  obtain ⟨p, sd, ai, we, bi, to, orr, po, la, eb, rfl, rG, rV⟩ := hS
  have h61 := h.2.2.2.2.1
  have hn := h.2.1
  have e : s 61 + (n : Int) - (s 61 + (n : Int)) / 2 * 2 = sdS s n := by
    show _ = (s 61 + (n : Int)) % 2
    omega
  unfold f_X3_nextSide
  simp (maxSteps := 4000000) (disch := omega) only [jn, Option.bind_some, l32_0, l32_1, l32_2, l32_3, l32_4, l32_5, l32_6, l32_7, l32_8, l32_9, l32_10, l32_11, l32_12, l32_13, l32_14, l32_15, l32_16, l32_17, l32_18, l32_19, l32_20, l32_21, l32_22, l32_23, l32_24, l32_25, l32_26, l32_27, l32_28, l32_29, l32_30, l32_31, l32_32, l32_33, l32_34, l32_35, l32_36, l32_37, l32_38, l32_39, l32_40, l32_41, l32_42, l32_43, l32_44, l32_45, l32_46, l32_47, l32_48, l32_49, l32_50, l32_51, l32_52, l32_53, l32_54, l32_55, l32_56, l32_57, l32_58, l32_59, l32_60, l32_61, l32_62, l32_63, l32_64, l32_65, l32_66, l32_67, l32_68, l32_69, l32_70, l32_71, l32_83, l32_91, l32_98, l32_99, l32_100, l32_101, l32_102, l32_103, l32_106, l32_119, l32_126, l32_206, l32_515, l32_618, l32_850, l32_1000, l32_1022, l32_1023, l32_1050, l32_1239, l32_1260, i32_add, i32_sub, i32_mul, i32_neg, ↓reduceIte, ltT, ltF, leT, leF, eqT, eqF, gd_ix, i32_nat, RZ_at, upd_RZ, i32_ofNat, S_green_k, S_score_k, S_bowlsEach_k, S_blowing_k, S_jackGoesBack_k, S_touchersTwice_k, S_set_green_k, S_set_score_k, S_set_bowlsEach_k, S_set_blowing_k, S_set_jackGoesBack_k, S_set_touchersTwice_k, V_points_k, V_latest_k, V_endsByPoints_k, V_pointsNeeded_k, V_endCount_k, V_burntCount_k, V_latestCount_k, V_backCount_k, V_bowlCount_k, V_toucherCount_k, V_firstSide_k, V_set_points_k, V_set_latest_k, V_set_endsByPoints_k, V_set_pointsNeeded_k, V_set_endCount_k, V_set_burntCount_k, V_set_latestCount_k, V_set_backCount_k, V_set_bowlCount_k, V_set_toucherCount_k, V_set_firstSide_k, G_places_k, G_sides_k, G_aims_k, G_weights_k, G_biases_k, G_touched_k, G_order_k, G_bowlCount_k, G_strikes_k, G_set_places_k, G_set_sides_k, G_set_aims_k, G_set_weights_k, G_set_biases_k, G_set_touched_k, G_set_order_k, G_set_bowlCount_k, G_set_strikes_k, i32_div, e]
/-- both try alike; what they leave is as it was, but for what is scratch -/
theorem tries_joint {N n : Nat} {B z a w b : Int} {th : Int} {s : Int → Int} {as_ : Int → Int} {ah : Int → Int} {sv : Int → Int} {sm : Int} {sl : Int → Int} {kp : Int} {bu : Int → Int} {le : Int} {st : Int} {od : Int → Int} {om : Int} {sp : Int} {wr_ : Int} {sg : Int} {on_ : Int} {tw : Int} {t3 : Int} {pl : Int} {fi : Int} {be : Int} {ha : Int64} {S T : SV} {xv : XV} (hN : 1500 < N) (h : INV B n s) (hB : B + 1000 ≤ 1000000) (hS : shows s n z S) (hc : CanPlay s n) (hA : -9 ≤ a ∧ a ≤ 9) (hw : 15 ≤ w ∧ w ≤ 70) (hbb : -3 ≤ b ∧ b ≤ 3) : ∃ (r zz om' : Int) (s' as' od' : Int → Int) (T' T2 : SV), (-8 ≤ r ∧ r ≤ 8) ∧ f_X5_countIfPlayed N xv S T (i32 a) (i32 w) (i32 b) = some (i32 r, (xv, S, T')) ∧ f_X6_tries N (MK (i32 th) (RZ s) (RZ as_) (RZ ah) (RZ sv) (i32 sm) (RZ sl) (i32 kp) (RZ bu) (i32 le) (i32 st) (RZ od) (i32 om) (i32 sp) (i32 wr_) (i32 sg) (i32 on_) (i32 tw) (i32 t3) (i32 pl) (i32 fi) (i32 be) ha) (i32 a) (i32 w) (i32 b) = some (i32 r, (MK (i32 th) (RZ s') (RZ as') (RZ ah) (RZ sv) (i32 sm) (RZ sl) (i32 kp) (RZ bu) (i32 le) (i32 zz) (RZ od') (i32 om') (i32 sp) (i32 wr_) (i32 sg) (i32 on_) (i32 tw) (i32 t3) (i32 pl) (i32 fi) (i32 be) ha)) ∧ INV B n s' ∧ shows s' n z S ∧ (∀ j, 0 ≤ j → j < 103 → s' j = s j) ∧ f_X3_copyFrom N T S = some (T2, S) ∧ (∃ bw T3, f_X3_playBowl N T2 (i32 a) (i32 w) (i32 b) = some (i32 bw, T3) ∧ G_strikes (S_green T3) = i32 zz ∧ T' = T3) := by
  obtain ⟨T2, c1, c2⟩ := copy_x (N := N) T (by omega) h hS
  have e1 : ∀ j, 0 ≤ j → j < 103 → wr 0 103 s as_ j = s j := fun j x y => wr_in x y
  obtain ⟨s', z', S', p1, p2, I1, S1, F1, s01, PX1⟩ := plays_joint (N := N) (n := n) (B := B) (z := z) (a := a) (w := w) (bb := b) (th := th) (s := s) (as_ := wr 0 103 s as_) (ah := ah) (sv := sv) (sm := sm) (sl := sl) (kp := kp) (bu := bu) (le := le) (st := st) (od := od) (om := om) (sp := sp) (wr_ := wr_) (sg := sg) (on_ := on_) (tw := tw) (t3 := t3) (pl := pl) (fi := fi) (be := be) (ha := ha) (S := T2) (by omega) h (by omega) c2 hc hA hw hbb
  have sc1 := score_m (N := N) (th := th) (s := s') (as_ := wr 0 103 s as_) (ah := ah) (sv := sv) (sm := sm) (sl := sl) (kp := kp) (bu := bu) (le := le) (st := z') (od := od) (om := om) (sp := sp) (wr_ := wr_) (sg := sg) (on_ := on_) (tw := tw) (t3 := t3) (pl := pl) (fi := fi) (be := be) (ha := ha) (by omega) I1
  have sx := scoring_x (N := N) (by omega) I1 S1
  have px := paired_x (N := N) (by omega) I1 S1
  obtain ⟨q1, q2⟩ := pabs I1
  have pb := putsBack_m (N := N) (th := th) (s := s') (as_ := wr 0 103 s as_) (ah := ah) (sv := sv) (sm := sm) (sl := sl) (kp := kp) (bu := bu) (le := le) (st := z') (od := (ordM s' od (n + 1)).2) (om := ((ordM s' od (n + 1)).1 : Nat)) (sp := sp) (wr_ := wr_) (sg := sg) (on_ := on_) (tw := tw) (t3 := t3) (pl := pl) (fi := fi) (be := be) (ha := ha) (by omega)
  have pa := putAside_m (N := N) (th := th) (s := s) (as_ := as_) (ah := ah) (sv := sv) (sm := sm) (sl := sl) (kp := kp) (bu := bu) (le := le) (st := st) (od := od) (om := om) (sp := sp) (wr_ := wr_) (sg := sg) (on_ := on_) (tw := tw) (t3 := t3) (pl := pl) (fi := fi) (be := be) (ha := ha) (by omega)
  have h61 := h.2.2.2.2.1
  have hn := h.2.1
  have h3 := h.1
  have sn := sideNow_m (N := N) (th := th) (s := s) (as_ := wr 0 103 s as_) (ah := ah) (sv := sv) (sm := sm) (sl := sl) (kp := kp) (bu := bu) (le := le) (st := st) (od := od) (om := om) (sp := sp) (wr_ := wr_) (sg := sg) (on_ := on_) (tw := tw) (t3 := t3) (pl := pl) (fi := fi) (be := be) (ha := ha) (k := (n : Int)) h61 (by omega) (by omega)
  have sx0 := sideNextT (N := N) h hS
  have sd01 : sdS s n = 0 ∨ sdS s n = 1 := by
    show (s 61 + (n : Int)) % 2 = 0 ∨ (s 61 + (n : Int)) % 2 = 1
    omega
  rw [show (s 61 + (n : Int)) % 2 = sdS s n from rfl] at sn
  have eb : ∀ j, 0 ≤ j → j < 103 → wr 0 103 (wr 0 103 s as_) s' j = s j := fun j x y => by rw [wr_in x y, wr_in x y]
  have ab := sc_abs s' (n + 1)
  generalize sdS s n = sdn at sn sx0 sd01
  generalize sc s' (n + 1) = p at *
  generalize pts s' (n + 1) = t at *
  refine ⟨if sdn = 0 then p else -p, z', ((ordM s' od (n + 1)).1 : Nat), wr 0 103 (wr 0 103 s as_) s', wr 0 103 s as_, (ordM s' od (n + 1)).2, S', T2, ?_, ?_, ?_, inv_ext h eb, shows_ext h eb hS, eb, c1, ⟨n, S', p1, ?_, rfl⟩⟩
  · by_cases c : sdn = 0
    · rw [if_pos c]; exact q2
    · rw [if_neg c]; omega
  · unfold f_X5_countIfPlayed
    by_cases c0 : p = 0
    · rw [if_pos c0] at sx
      have t0 : t = 0 := by rw [← q1, if_pos (by omega)]; exact c0
      have ev : (if sdn = 0 then p else -p) = 0 := by
        by_cases c : sdn = 0
        · rw [if_pos c]; exact c0
        · rw [if_neg c]; omega
      rw [ev]
      rw [t0] at px
      rcases sd01 with d | d
      · rw [d] at sx0
        simp (maxSteps := 4000000) (disch := omega) only [jn, Option.bind_some, l32_0, l32_1, l32_2, l32_3, l32_4, l32_5, l32_6, l32_7, l32_8, l32_9, l32_10, l32_11, l32_12, l32_13, l32_14, l32_15, l32_16, l32_17, l32_18, l32_19, l32_20, l32_21, l32_22, l32_23, l32_24, l32_25, l32_26, l32_27, l32_28, l32_29, l32_30, l32_31, l32_32, l32_33, l32_34, l32_35, l32_36, l32_37, l32_38, l32_39, l32_40, l32_41, l32_42, l32_43, l32_44, l32_45, l32_46, l32_47, l32_48, l32_49, l32_50, l32_51, l32_52, l32_53, l32_54, l32_55, l32_56, l32_57, l32_58, l32_59, l32_60, l32_61, l32_62, l32_63, l32_64, l32_65, l32_66, l32_67, l32_68, l32_69, l32_70, l32_71, l32_83, l32_91, l32_98, l32_99, l32_100, l32_101, l32_102, l32_103, l32_106, l32_119, l32_126, l32_206, l32_515, l32_618, l32_850, l32_1000, l32_1022, l32_1023, l32_1050, l32_1239, l32_1260, i32_add, i32_sub, i32_mul, i32_neg, ↓reduceIte, ltT, ltF, leT, leF, eqT, eqF, gd_ix, i32_nat, RZ_at, upd_RZ, i32_ofNat, sx0, c1, p1, px, sx, Int.neg_zero]
      · rw [d] at sx0
        simp (maxSteps := 4000000) (disch := omega) only [jn, Option.bind_some, l32_0, l32_1, l32_2, l32_3, l32_4, l32_5, l32_6, l32_7, l32_8, l32_9, l32_10, l32_11, l32_12, l32_13, l32_14, l32_15, l32_16, l32_17, l32_18, l32_19, l32_20, l32_21, l32_22, l32_23, l32_24, l32_25, l32_26, l32_27, l32_28, l32_29, l32_30, l32_31, l32_32, l32_33, l32_34, l32_35, l32_36, l32_37, l32_38, l32_39, l32_40, l32_41, l32_42, l32_43, l32_44, l32_45, l32_46, l32_47, l32_48, l32_49, l32_50, l32_51, l32_52, l32_53, l32_54, l32_55, l32_56, l32_57, l32_58, l32_59, l32_60, l32_61, l32_62, l32_63, l32_64, l32_65, l32_66, l32_67, l32_68, l32_69, l32_70, l32_71, l32_83, l32_91, l32_98, l32_99, l32_100, l32_101, l32_102, l32_103, l32_106, l32_119, l32_126, l32_206, l32_515, l32_618, l32_850, l32_1000, l32_1022, l32_1023, l32_1050, l32_1239, l32_1260, i32_add, i32_sub, i32_mul, i32_neg, ↓reduceIte, ltT, ltF, leT, leF, eqT, eqF, gd_ix, i32_nat, RZ_at, upd_RZ, i32_ofNat, sx0, c1, p1, px, sx, Int.neg_zero]
    · rw [if_neg c0] at sx
      by_cases c1' : 0 < p
      · rw [if_pos c1'] at sx
        have tp : t = p := by rw [← q1, if_pos (by omega)]
        rw [tp] at px
        rcases sd01 with d | d
        · rw [d] at sx0 ⊢
          rw [if_pos rfl]
          simp (maxSteps := 4000000) (disch := omega) only [jn, Option.bind_some, l32_0, l32_1, l32_2, l32_3, l32_4, l32_5, l32_6, l32_7, l32_8, l32_9, l32_10, l32_11, l32_12, l32_13, l32_14, l32_15, l32_16, l32_17, l32_18, l32_19, l32_20, l32_21, l32_22, l32_23, l32_24, l32_25, l32_26, l32_27, l32_28, l32_29, l32_30, l32_31, l32_32, l32_33, l32_34, l32_35, l32_36, l32_37, l32_38, l32_39, l32_40, l32_41, l32_42, l32_43, l32_44, l32_45, l32_46, l32_47, l32_48, l32_49, l32_50, l32_51, l32_52, l32_53, l32_54, l32_55, l32_56, l32_57, l32_58, l32_59, l32_60, l32_61, l32_62, l32_63, l32_64, l32_65, l32_66, l32_67, l32_68, l32_69, l32_70, l32_71, l32_83, l32_91, l32_98, l32_99, l32_100, l32_101, l32_102, l32_103, l32_106, l32_119, l32_126, l32_206, l32_515, l32_618, l32_850, l32_1000, l32_1022, l32_1023, l32_1050, l32_1239, l32_1260, i32_add, i32_sub, i32_mul, i32_neg, ↓reduceIte, ltT, ltF, leT, leF, eqT, eqF, gd_ix, i32_nat, RZ_at, upd_RZ, i32_ofNat, sx0, c1, p1, px, sx]
        · rw [d] at sx0 ⊢
          rw [if_neg (show ¬ (1 : Int) = 0 by omega)]
          simp (maxSteps := 4000000) (disch := omega) only [jn, Option.bind_some, l32_0, l32_1, l32_2, l32_3, l32_4, l32_5, l32_6, l32_7, l32_8, l32_9, l32_10, l32_11, l32_12, l32_13, l32_14, l32_15, l32_16, l32_17, l32_18, l32_19, l32_20, l32_21, l32_22, l32_23, l32_24, l32_25, l32_26, l32_27, l32_28, l32_29, l32_30, l32_31, l32_32, l32_33, l32_34, l32_35, l32_36, l32_37, l32_38, l32_39, l32_40, l32_41, l32_42, l32_43, l32_44, l32_45, l32_46, l32_47, l32_48, l32_49, l32_50, l32_51, l32_52, l32_53, l32_54, l32_55, l32_56, l32_57, l32_58, l32_59, l32_60, l32_61, l32_62, l32_63, l32_64, l32_65, l32_66, l32_67, l32_68, l32_69, l32_70, l32_71, l32_83, l32_91, l32_98, l32_99, l32_100, l32_101, l32_102, l32_103, l32_106, l32_119, l32_126, l32_206, l32_515, l32_618, l32_850, l32_1000, l32_1022, l32_1023, l32_1050, l32_1239, l32_1260, i32_add, i32_sub, i32_mul, i32_neg, ↓reduceIte, ltT, ltF, leT, leF, eqT, eqF, gd_ix, i32_nat, RZ_at, upd_RZ, i32_ofNat, sx0, c1, p1, px, sx]
      · rw [if_neg c1'] at sx
        have tp : t = -p := by rw [← q1, if_neg (by omega)]
        rw [tp] at px
        rcases sd01 with d | d
        · rw [d] at sx0 ⊢
          rw [if_pos rfl]
          simp (maxSteps := 4000000) (disch := omega) only [jn, Option.bind_some, l32_0, l32_1, l32_2, l32_3, l32_4, l32_5, l32_6, l32_7, l32_8, l32_9, l32_10, l32_11, l32_12, l32_13, l32_14, l32_15, l32_16, l32_17, l32_18, l32_19, l32_20, l32_21, l32_22, l32_23, l32_24, l32_25, l32_26, l32_27, l32_28, l32_29, l32_30, l32_31, l32_32, l32_33, l32_34, l32_35, l32_36, l32_37, l32_38, l32_39, l32_40, l32_41, l32_42, l32_43, l32_44, l32_45, l32_46, l32_47, l32_48, l32_49, l32_50, l32_51, l32_52, l32_53, l32_54, l32_55, l32_56, l32_57, l32_58, l32_59, l32_60, l32_61, l32_62, l32_63, l32_64, l32_65, l32_66, l32_67, l32_68, l32_69, l32_70, l32_71, l32_83, l32_91, l32_98, l32_99, l32_100, l32_101, l32_102, l32_103, l32_106, l32_119, l32_126, l32_206, l32_515, l32_618, l32_850, l32_1000, l32_1022, l32_1023, l32_1050, l32_1239, l32_1260, i32_add, i32_sub, i32_mul, i32_neg, ↓reduceIte, ltT, ltF, leT, leF, eqT, eqF, gd_ix, i32_nat, RZ_at, upd_RZ, i32_ofNat, sx0, c1, p1, px, sx, Int.neg_neg]
        · rw [d] at sx0 ⊢
          rw [if_neg (show ¬ (1 : Int) = 0 by omega)]
          simp (maxSteps := 4000000) (disch := omega) only [jn, Option.bind_some, l32_0, l32_1, l32_2, l32_3, l32_4, l32_5, l32_6, l32_7, l32_8, l32_9, l32_10, l32_11, l32_12, l32_13, l32_14, l32_15, l32_16, l32_17, l32_18, l32_19, l32_20, l32_21, l32_22, l32_23, l32_24, l32_25, l32_26, l32_27, l32_28, l32_29, l32_30, l32_31, l32_32, l32_33, l32_34, l32_35, l32_36, l32_37, l32_38, l32_39, l32_40, l32_41, l32_42, l32_43, l32_44, l32_45, l32_46, l32_47, l32_48, l32_49, l32_50, l32_51, l32_52, l32_53, l32_54, l32_55, l32_56, l32_57, l32_58, l32_59, l32_60, l32_61, l32_62, l32_63, l32_64, l32_65, l32_66, l32_67, l32_68, l32_69, l32_70, l32_71, l32_83, l32_91, l32_98, l32_99, l32_100, l32_101, l32_102, l32_103, l32_106, l32_119, l32_126, l32_206, l32_515, l32_618, l32_850, l32_1000, l32_1022, l32_1023, l32_1050, l32_1239, l32_1260, i32_add, i32_sub, i32_mul, i32_neg, ↓reduceIte, ltT, ltF, leT, leF, eqT, eqF, gd_ix, i32_nat, RZ_at, upd_RZ, i32_ofNat, sx0, c1, p1, px, sx, Int.neg_neg]
  · unfold f_X6_tries
    rcases sd01 with d | d
    · rw [d] at sn ⊢
      rw [if_pos rfl]
      simp (maxSteps := 4000000) (disch := omega) only [jn, Option.bind_some, l32_0, l32_1, l32_2, l32_3, l32_4, l32_5, l32_6, l32_7, l32_8, l32_9, l32_10, l32_11, l32_12, l32_13, l32_14, l32_15, l32_16, l32_17, l32_18, l32_19, l32_20, l32_21, l32_22, l32_23, l32_24, l32_25, l32_26, l32_27, l32_28, l32_29, l32_30, l32_31, l32_32, l32_33, l32_34, l32_35, l32_36, l32_37, l32_38, l32_39, l32_40, l32_41, l32_42, l32_43, l32_44, l32_45, l32_46, l32_47, l32_48, l32_49, l32_50, l32_51, l32_52, l32_53, l32_54, l32_55, l32_56, l32_57, l32_58, l32_59, l32_60, l32_61, l32_62, l32_63, l32_64, l32_65, l32_66, l32_67, l32_68, l32_69, l32_70, l32_71, l32_83, l32_91, l32_98, l32_99, l32_100, l32_101, l32_102, l32_103, l32_106, l32_119, l32_126, l32_206, l32_515, l32_618, l32_850, l32_1000, l32_1022, l32_1023, l32_1050, l32_1239, l32_1260, i32_add, i32_sub, i32_mul, i32_neg, ↓reduceIte, ltT, ltF, leT, leF, eqT, eqF, gd_ix, i32_nat, RZ_at, upd_RZ, i32_ofNat, M_thrown_k, M_s_k, M_aside_k, M_ahead_k, M_saved_k, M_savedMany_k, M_slots_k, M_kept_k, M_buffer_k, M_length_k, M_strikes_k, M_order_k, M_orderMany_k, M_spot_k, M_isWrong_k, M_sign_k, M_one_k, M_two_k, M_three_k, M_played_k, M_isFine_k, M_bestPoints_k, M_hash_k, M_set_thrown_k, M_set_s_k, M_set_aside_k, M_set_ahead_k, M_set_saved_k, M_set_savedMany_k, M_set_slots_k, M_set_kept_k, M_set_buffer_k, M_set_length_k, M_set_strikes_k, M_set_order_k, M_set_orderMany_k, M_set_spot_k, M_set_isWrong_k, M_set_sign_k, M_set_one_k, M_set_two_k, M_set_three_k, M_set_played_k, M_set_isFine_k, M_set_bestPoints_k, M_set_hash_k, pa, h3, sn, p2, sc1, pb]
    · rw [d] at sn ⊢
      rw [if_neg (show ¬ (1 : Int) = 0 by omega)]
      simp (maxSteps := 4000000) (disch := omega) only [jn, Option.bind_some, l32_0, l32_1, l32_2, l32_3, l32_4, l32_5, l32_6, l32_7, l32_8, l32_9, l32_10, l32_11, l32_12, l32_13, l32_14, l32_15, l32_16, l32_17, l32_18, l32_19, l32_20, l32_21, l32_22, l32_23, l32_24, l32_25, l32_26, l32_27, l32_28, l32_29, l32_30, l32_31, l32_32, l32_33, l32_34, l32_35, l32_36, l32_37, l32_38, l32_39, l32_40, l32_41, l32_42, l32_43, l32_44, l32_45, l32_46, l32_47, l32_48, l32_49, l32_50, l32_51, l32_52, l32_53, l32_54, l32_55, l32_56, l32_57, l32_58, l32_59, l32_60, l32_61, l32_62, l32_63, l32_64, l32_65, l32_66, l32_67, l32_68, l32_69, l32_70, l32_71, l32_83, l32_91, l32_98, l32_99, l32_100, l32_101, l32_102, l32_103, l32_106, l32_119, l32_126, l32_206, l32_515, l32_618, l32_850, l32_1000, l32_1022, l32_1023, l32_1050, l32_1239, l32_1260, i32_add, i32_sub, i32_mul, i32_neg, ↓reduceIte, ltT, ltF, leT, leF, eqT, eqF, gd_ix, i32_nat, RZ_at, upd_RZ, i32_ofNat, M_thrown_k, M_s_k, M_aside_k, M_ahead_k, M_saved_k, M_savedMany_k, M_slots_k, M_kept_k, M_buffer_k, M_length_k, M_strikes_k, M_order_k, M_orderMany_k, M_spot_k, M_isWrong_k, M_sign_k, M_one_k, M_two_k, M_three_k, M_played_k, M_isFine_k, M_bestPoints_k, M_hash_k, M_set_thrown_k, M_set_s_k, M_set_aside_k, M_set_ahead_k, M_set_saved_k, M_set_savedMany_k, M_set_slots_k, M_set_kept_k, M_set_buffer_k, M_set_length_k, M_set_strikes_k, M_set_order_k, M_set_orderMany_k, M_set_spot_k, M_set_isWrong_k, M_set_sign_k, M_set_one_k, M_set_two_k, M_set_three_k, M_set_played_k, M_set_isFine_k, M_set_bestPoints_k, M_set_hash_k, pa, h3, sn, p2, sc1, pb]
  · obtain ⟨p_, sd, ai, we, bi, to, orr, po, la, eb_, rfl, -, -⟩ := S1
    simp only [S_green_k, S_score_k, S_bowlsEach_k, S_blowing_k, S_jackGoesBack_k, S_touchersTwice_k, S_set_green_k, S_set_score_k, S_set_bowlsEach_k, S_set_blowing_k, S_set_jackGoesBack_k, S_set_touchersTwice_k, G_places_k, G_sides_k, G_aims_k, G_weights_k, G_biases_k, G_touched_k, G_order_k, G_bowlCount_k, G_strikes_k, G_set_places_k, G_set_sides_k, G_set_aims_k, G_set_weights_k, G_set_biases_k, G_set_touched_k, G_set_order_k, G_set_bowlCount_k, G_set_strikes_k]

