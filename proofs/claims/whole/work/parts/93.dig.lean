/-! the digest: both -/
theorem jn_if {τ ρ : Type} {f : τ → ρ} {c : Prop} [Decidable c] {a b : τ} : jn f (fun j => if c then j a else j b) = f (if c then a else b) := by
  show (if c then f a else f b) = f (if c then a else b)
  by_cases h : c
  · rw [if_pos h, if_pos h]
  · rw [if_neg h, if_neg h]
theorem jn_k {τ ρ : Type} {f : τ → ρ} {a : τ} : jn f (fun j => j a) = f a := rfl
theorem l64_0 : (i32 0).toInt64 = (0 : Int64) := by decide
theorem l64_1 : (i32 1).toInt64 = (1 : Int64) := by decide
theorem l64_2 : (i32 2).toInt64 = (2 : Int64) := by decide
theorem l64_s {a : Int} (h1 : -1000000 ≤ a) (h2 : a < 1000000) : (i32 a).toInt64 + 1 = (i32 (a + 1)).toInt64 := by
  apply Int64.toInt_inj.mp
  rw [Int64.toInt_add, Int32.toInt_toInt64, Int32.toInt_toInt64, i32_toInt (by omega) (by omega), i32_toInt (by omega) (by omega)]
  show (a + 1).bmod 18446744073709551616 = a + 1
  rw [Int.bmod_def]
  omega
def mx (h : Int64) (a : Int) : Int64 := 31 * h + (i32 a).toInt64
def hfs (f : Int → Int) (h : Int64) : Nat → Int64
  | 0 => h
  | k + 1 => mx (hfs f h k) (f k)
noncomputable def hA (s : Int → Int) (n : Nat) (h : Int64) : Int64 := mx (mx (mx (mx (mx (mx h (s 0)) (Pl s 8 + 1)) (b2i (Burnt s n))) n) (s 60)) (b2i (CanPlay s n) * ((s 61 + n) % 2 + 1))
noncomputable def hb1 (s : Int → Int) (h : Int64) (k : Int) : Int64 := mx (mx (mx (mx (mx (mx (mx (mx h (sdS s k)) (s (4 + 7 * k + 0))) (Pl s k + 1)) (s (4 + 7 * k + 3))) (b2i (aM s k) * (dm s k + 1))) (s (4 + 7 * k + 4))) (s (4 + 7 * k + 5))) (s (4 + 7 * k + 6))
noncomputable def hB (s : Int → Int) (h : Int64) : Nat → Int64
  | 0 => h
  | k + 1 => hb1 s (hB s h k) k
noncomputable def sdW (s : Int → Int) (n : Nat) : Int := if sc s n = 0 then 0 else if 0 < sc s n then 1 else 2
noncomputable def hC1 (s : Int → Int) (n : Nat) (h : Int64) : Int64 := mx (mx (mx h (sdW s n)) (pts s n)) (pts s n)
noncomputable def hC2 (s : Int → Int) (n : Nat) (h : Int64) : Int64 := mx (mx (mx (mx h (sumZ (fun b => b2i (aM s b ∧ sdS s b = 0)) n)) (sumZ (fun b => b2i (aM s b ∧ sdS s b = 1)) n)) (gapS s n + 1)) (widS s n)
noncomputable def hC3 (s : Int → Int) (h : Int64) : Int64 := mx (mx h (crv (3 + s 62) (-1) (40 : Nat))) (crv (3 + s 62) (-1) (40 : Nat))
noncomputable def hM (s : Int → Int) (h : Int64) : Int64 := mx (mx (mx (mx (mx (mx (mx h (s 65)) (s 66)) (s 67)) (b2i (Over s))) (s 68)) (s 69)) (s 70)
def hT (s : Int → Int) (m : Int) (h : Int64) : Int64 := mx (mx (mx (mx (mx h m) (s 100)) (s 101)) (s 102)) (s 61)
def hU (s : Int → Int) (sm : Int) (r : Int64) (s0 s1 le : Int) (h : Int64) : Int64 := mx (mx (mx (31 * mx (mx (mx (mx h (s 62)) (s 63)) (s 64)) sm + r) s0) s1) le
section DGX
variable {N n : Nat} {B z : Int} {s : Int → Int} {S : SV} {xv : XV} {h0 : Int64}
theorem mixAll_x {n1 m : Nat} {f : Int → Int} (hN : 100 < N) (hm : m ≤ n1) (h1 : n1 ≤ 60) : f_X5_mixAll N n1 (RZ f) h0 (i32 m) = some (hfs f h0 m) := by
  unfold f_X5_mixAll
  refine lp_for0 (fun j => (hfs f h0 j, i32 j)) m N ?_ (by omega) (fun j hj k => ?_) (fun k => ?_)
  · simp only [nc0, l32_0, hfs]
  · have a := at_in (N := N) (n := n1) (s := f) (a := (j : Int)) (by omega) (by omega) (by omega)
    unfold f_X5_mix
    simp (maxSteps := 4000000) (disch := omega) only [jn_if, jn_k, Option.bind_some, l32_0, l32_1, l32_2, l32_3, l32_4, l32_5, l32_6, l32_7, l32_8, l32_9, l32_10, l32_11, l32_12, l32_13, l32_14, l32_15, l32_16, l32_17, l32_18, l32_19, l32_20, l32_21, l32_22, l32_23, l32_24, l32_25, l32_26, l32_27, l32_28, l32_29, l32_30, l32_31, l32_32, l32_33, l32_34, l32_35, l32_36, l32_37, l32_38, l32_39, l32_40, l32_41, l32_42, l32_43, l32_44, l32_45, l32_46, l32_47, l32_48, l32_49, l32_50, l32_51, l32_52, l32_53, l32_54, l32_55, l32_56, l32_57, l32_58, l32_59, l32_60, l32_61, l32_62, l32_63, l32_64, l32_65, l32_66, l32_67, l32_68, l32_69, l32_70, l32_71, l32_83, l32_91, l32_98, l32_99, l32_100, l32_101, l32_102, l32_103, l32_106, l32_119, l32_126, l32_206, l32_515, l32_618, l32_850, l32_1000, l32_1022, l32_1023, l32_1050, l32_1239, l32_1260, i32_add, i32_sub, i32_mul, i32_neg, ↓reduceIte, ltT, ltF, leT, leF, eqT, eqF, gd_ix, i32_nat, RZ_at, upd_RZ, i32_ofNat, a, ncS, hfs, mx]
  · simp (maxSteps := 4000000) (disch := omega) only [jn_if, jn_k, Option.bind_some, l32_0, l32_1, l32_2, l32_3, l32_4, l32_5, l32_6, l32_7, l32_8, l32_9, l32_10, l32_11, l32_12, l32_13, l32_14, l32_15, l32_16, l32_17, l32_18, l32_19, l32_20, l32_21, l32_22, l32_23, l32_24, l32_25, l32_26, l32_27, l32_28, l32_29, l32_30, l32_31, l32_32, l32_33, l32_34, l32_35, l32_36, l32_37, l32_38, l32_39, l32_40, l32_41, l32_42, l32_43, l32_44, l32_45, l32_46, l32_47, l32_48, l32_49, l32_50, l32_51, l32_52, l32_53, l32_54, l32_55, l32_56, l32_57, l32_58, l32_59, l32_60, l32_61, l32_62, l32_63, l32_64, l32_65, l32_66, l32_67, l32_68, l32_69, l32_70, l32_71, l32_83, l32_91, l32_98, l32_99, l32_100, l32_101, l32_102, l32_103, l32_106, l32_119, l32_126, l32_206, l32_515, l32_618, l32_850, l32_1000, l32_1022, l32_1023, l32_1050, l32_1239, l32_1260, i32_add, i32_sub, i32_mul, i32_neg, ↓reduceIte, ltT, ltF, leT, leF, eqT, eqF, gd_ix, i32_nat, RZ_at, upd_RZ, i32_ofNat]
theorem mixEnd_x (hN : 1500 < N) (h : INV B n s) (hS : shows s n z S) : f_X5_mixEnd N xv S h0 = some (hA s n h0) := by
  have hn := h.2.1
  have e1 := hasJack_x (N := N) h hS
  have e2 := canPlay_x (N := N) (by omega) h hS
  have h61 := h.2.2.2.2.1
  have h0_ := (inv_b31 h).1
  have s0 : b2i (s 0 = 1) = s 0 := by
    rcases h0_ with q | q
    · rw [q, b2i_n (by omega)]
    · rw [b2i_p q, q]
  rw [s0] at e1
  obtain ⟨p, sd, ai, we, bi, to, orr, po, la, eb, rfl, rG, rV⟩ := hS
  obtain ⟨f1, f2, f3, f4, f5, f6⟩ := rel_facts h rG
  have e3 := x0_isJackLost (N := N) (p := p) (sd := sd) (ai := ai) (we := we) (bi := bi) (to := to) (od := orr) (n := n) (st := z) (by omega) f1 f3
  rw [b2i_congr f5] at e3
  clear f5
  have e5 := x0_placeOf (N := N) (p := p) (sd := sd) (ai := ai) (we := we) (bi := bi) (to := to) (od := orr) (n := n) (st := z) (k := 8) (by omega) (by omega)
  rw [rG.1 8 (by omega) (by omega)] at e5
  have e6 : s 61 + (n : Int) - (s 61 + (n : Int)) / 2 * 2 = (s 61 + n) % 2 := by omega
  unfold f_X5_mixEnd f_X5_mix hA mx
  simp only [S_green_k, S_score_k, S_bowlsEach_k, S_blowing_k, S_jackGoesBack_k, S_touchersTwice_k, S_set_green_k, S_set_score_k, S_set_bowlsEach_k, S_set_blowing_k, S_set_jackGoesBack_k, S_set_touchersTwice_k] at e1
  rcases b2i_01 (Burnt s n) with q1 | q1
  · rw [q1] at e3 ⊢
    rcases b2i_01 (CanPlay s n) with q2 | q2
    · rw [q2] at e2 ⊢
      rcases h0_ with q | q
      · rw [q] at e1 ⊢
        simp (maxSteps := 4000000) (disch := omega) only [jn, Option.bind_some, l32_0, l32_1, l32_2, l32_3, l32_4, l32_5, l32_6, l32_7, l32_8, l32_9, l32_10, l32_11, l32_12, l32_13, l32_14, l32_15, l32_16, l32_17, l32_18, l32_19, l32_20, l32_21, l32_22, l32_23, l32_24, l32_25, l32_26, l32_27, l32_28, l32_29, l32_30, l32_31, l32_32, l32_33, l32_34, l32_35, l32_36, l32_37, l32_38, l32_39, l32_40, l32_41, l32_42, l32_43, l32_44, l32_45, l32_46, l32_47, l32_48, l32_49, l32_50, l32_51, l32_52, l32_53, l32_54, l32_55, l32_56, l32_57, l32_58, l32_59, l32_60, l32_61, l32_62, l32_63, l32_64, l32_65, l32_66, l32_67, l32_68, l32_69, l32_70, l32_71, l32_83, l32_91, l32_98, l32_99, l32_100, l32_101, l32_102, l32_103, l32_106, l32_119, l32_126, l32_206, l32_515, l32_618, l32_850, l32_1000, l32_1022, l32_1023, l32_1050, l32_1239, l32_1260, i32_add, i32_sub, i32_mul, i32_neg, ↓reduceIte, ltT, ltF, leT, leF, eqT, eqF, gd_ix, i32_nat, RZ_at, upd_RZ, i32_ofNat, G_places_k, G_sides_k, G_aims_k, G_weights_k, G_biases_k, G_touched_k, G_order_k, G_bowlCount_k, G_strikes_k, G_set_places_k, G_set_sides_k, G_set_aims_k, G_set_weights_k, G_set_biases_k, G_set_touched_k, G_set_order_k, G_set_bowlCount_k, G_set_strikes_k, S_green_k, S_score_k, S_bowlsEach_k, S_blowing_k, S_jackGoesBack_k, S_touchersTwice_k, S_set_green_k, S_set_score_k, S_set_bowlsEach_k, S_set_blowing_k, S_set_jackGoesBack_k, S_set_touchersTwice_k, e1, e2, e3, e5, l64_0, l64_1, Int.zero_mul]
      · rw [q] at e1 ⊢
        simp (maxSteps := 4000000) (disch := omega) only [jn, Option.bind_some, l32_0, l32_1, l32_2, l32_3, l32_4, l32_5, l32_6, l32_7, l32_8, l32_9, l32_10, l32_11, l32_12, l32_13, l32_14, l32_15, l32_16, l32_17, l32_18, l32_19, l32_20, l32_21, l32_22, l32_23, l32_24, l32_25, l32_26, l32_27, l32_28, l32_29, l32_30, l32_31, l32_32, l32_33, l32_34, l32_35, l32_36, l32_37, l32_38, l32_39, l32_40, l32_41, l32_42, l32_43, l32_44, l32_45, l32_46, l32_47, l32_48, l32_49, l32_50, l32_51, l32_52, l32_53, l32_54, l32_55, l32_56, l32_57, l32_58, l32_59, l32_60, l32_61, l32_62, l32_63, l32_64, l32_65, l32_66, l32_67, l32_68, l32_69, l32_70, l32_71, l32_83, l32_91, l32_98, l32_99, l32_100, l32_101, l32_102, l32_103, l32_106, l32_119, l32_126, l32_206, l32_515, l32_618, l32_850, l32_1000, l32_1022, l32_1023, l32_1050, l32_1239, l32_1260, i32_add, i32_sub, i32_mul, i32_neg, ↓reduceIte, ltT, ltF, leT, leF, eqT, eqF, gd_ix, i32_nat, RZ_at, upd_RZ, i32_ofNat, G_places_k, G_sides_k, G_aims_k, G_weights_k, G_biases_k, G_touched_k, G_order_k, G_bowlCount_k, G_strikes_k, G_set_places_k, G_set_sides_k, G_set_aims_k, G_set_weights_k, G_set_biases_k, G_set_touched_k, G_set_order_k, G_set_bowlCount_k, G_set_strikes_k, S_green_k, S_score_k, S_bowlsEach_k, S_blowing_k, S_jackGoesBack_k, S_touchersTwice_k, S_set_green_k, S_set_score_k, S_set_bowlsEach_k, S_set_blowing_k, S_set_jackGoesBack_k, S_set_touchersTwice_k, e1, e2, e3, e5, l64_0, l64_1, Int.zero_mul]
    · rw [q2] at e2 ⊢
      unfold f_X3_nextSide
      rcases h0_ with q | q
      · rw [q] at e1 ⊢
        simp (maxSteps := 4000000) (disch := omega) only [jn, Option.bind_some, l32_0, l32_1, l32_2, l32_3, l32_4, l32_5, l32_6, l32_7, l32_8, l32_9, l32_10, l32_11, l32_12, l32_13, l32_14, l32_15, l32_16, l32_17, l32_18, l32_19, l32_20, l32_21, l32_22, l32_23, l32_24, l32_25, l32_26, l32_27, l32_28, l32_29, l32_30, l32_31, l32_32, l32_33, l32_34, l32_35, l32_36, l32_37, l32_38, l32_39, l32_40, l32_41, l32_42, l32_43, l32_44, l32_45, l32_46, l32_47, l32_48, l32_49, l32_50, l32_51, l32_52, l32_53, l32_54, l32_55, l32_56, l32_57, l32_58, l32_59, l32_60, l32_61, l32_62, l32_63, l32_64, l32_65, l32_66, l32_67, l32_68, l32_69, l32_70, l32_71, l32_83, l32_91, l32_98, l32_99, l32_100, l32_101, l32_102, l32_103, l32_106, l32_119, l32_126, l32_206, l32_515, l32_618, l32_850, l32_1000, l32_1022, l32_1023, l32_1050, l32_1239, l32_1260, i32_add, i32_sub, i32_mul, i32_neg, ↓reduceIte, ltT, ltF, leT, leF, eqT, eqF, gd_ix, i32_nat, RZ_at, upd_RZ, i32_ofNat, G_places_k, G_sides_k, G_aims_k, G_weights_k, G_biases_k, G_touched_k, G_order_k, G_bowlCount_k, G_strikes_k, G_set_places_k, G_set_sides_k, G_set_aims_k, G_set_weights_k, G_set_biases_k, G_set_touched_k, G_set_order_k, G_set_bowlCount_k, G_set_strikes_k, S_green_k, S_score_k, S_bowlsEach_k, S_blowing_k, S_jackGoesBack_k, S_touchersTwice_k, S_set_green_k, S_set_score_k, S_set_bowlsEach_k, S_set_blowing_k, S_set_jackGoesBack_k, S_set_touchersTwice_k, V_points_k, V_latest_k, V_endsByPoints_k, V_pointsNeeded_k, V_endCount_k, V_burntCount_k, V_latestCount_k, V_backCount_k, V_bowlCount_k, V_toucherCount_k, V_firstSide_k, V_set_points_k, V_set_latest_k, V_set_endsByPoints_k, V_set_pointsNeeded_k, V_set_endCount_k, V_set_burntCount_k, V_set_latestCount_k, V_set_backCount_k, V_set_bowlCount_k, V_set_toucherCount_k, V_set_firstSide_k, e1, e2, e3, e5, l64_0, l64_1, Int.one_mul, i32_div, e6]
      · rw [q] at e1 ⊢
        simp (maxSteps := 4000000) (disch := omega) only [jn, Option.bind_some, l32_0, l32_1, l32_2, l32_3, l32_4, l32_5, l32_6, l32_7, l32_8, l32_9, l32_10, l32_11, l32_12, l32_13, l32_14, l32_15, l32_16, l32_17, l32_18, l32_19, l32_20, l32_21, l32_22, l32_23, l32_24, l32_25, l32_26, l32_27, l32_28, l32_29, l32_30, l32_31, l32_32, l32_33, l32_34, l32_35, l32_36, l32_37, l32_38, l32_39, l32_40, l32_41, l32_42, l32_43, l32_44, l32_45, l32_46, l32_47, l32_48, l32_49, l32_50, l32_51, l32_52, l32_53, l32_54, l32_55, l32_56, l32_57, l32_58, l32_59, l32_60, l32_61, l32_62, l32_63, l32_64, l32_65, l32_66, l32_67, l32_68, l32_69, l32_70, l32_71, l32_83, l32_91, l32_98, l32_99, l32_100, l32_101, l32_102, l32_103, l32_106, l32_119, l32_126, l32_206, l32_515, l32_618, l32_850, l32_1000, l32_1022, l32_1023, l32_1050, l32_1239, l32_1260, i32_add, i32_sub, i32_mul, i32_neg, ↓reduceIte, ltT, ltF, leT, leF, eqT, eqF, gd_ix, i32_nat, RZ_at, upd_RZ, i32_ofNat, G_places_k, G_sides_k, G_aims_k, G_weights_k, G_biases_k, G_touched_k, G_order_k, G_bowlCount_k, G_strikes_k, G_set_places_k, G_set_sides_k, G_set_aims_k, G_set_weights_k, G_set_biases_k, G_set_touched_k, G_set_order_k, G_set_bowlCount_k, G_set_strikes_k, S_green_k, S_score_k, S_bowlsEach_k, S_blowing_k, S_jackGoesBack_k, S_touchersTwice_k, S_set_green_k, S_set_score_k, S_set_bowlsEach_k, S_set_blowing_k, S_set_jackGoesBack_k, S_set_touchersTwice_k, V_points_k, V_latest_k, V_endsByPoints_k, V_pointsNeeded_k, V_endCount_k, V_burntCount_k, V_latestCount_k, V_backCount_k, V_bowlCount_k, V_toucherCount_k, V_firstSide_k, V_set_points_k, V_set_latest_k, V_set_endsByPoints_k, V_set_pointsNeeded_k, V_set_endCount_k, V_set_burntCount_k, V_set_latestCount_k, V_set_backCount_k, V_set_bowlCount_k, V_set_toucherCount_k, V_set_firstSide_k, e1, e2, e3, e5, l64_0, l64_1, Int.one_mul, i32_div, e6]
  · rw [q1] at e3 ⊢
    rcases b2i_01 (CanPlay s n) with q2 | q2
    · rw [q2] at e2 ⊢
      rcases h0_ with q | q
      · rw [q] at e1 ⊢
        simp (maxSteps := 4000000) (disch := omega) only [jn, Option.bind_some, l32_0, l32_1, l32_2, l32_3, l32_4, l32_5, l32_6, l32_7, l32_8, l32_9, l32_10, l32_11, l32_12, l32_13, l32_14, l32_15, l32_16, l32_17, l32_18, l32_19, l32_20, l32_21, l32_22, l32_23, l32_24, l32_25, l32_26, l32_27, l32_28, l32_29, l32_30, l32_31, l32_32, l32_33, l32_34, l32_35, l32_36, l32_37, l32_38, l32_39, l32_40, l32_41, l32_42, l32_43, l32_44, l32_45, l32_46, l32_47, l32_48, l32_49, l32_50, l32_51, l32_52, l32_53, l32_54, l32_55, l32_56, l32_57, l32_58, l32_59, l32_60, l32_61, l32_62, l32_63, l32_64, l32_65, l32_66, l32_67, l32_68, l32_69, l32_70, l32_71, l32_83, l32_91, l32_98, l32_99, l32_100, l32_101, l32_102, l32_103, l32_106, l32_119, l32_126, l32_206, l32_515, l32_618, l32_850, l32_1000, l32_1022, l32_1023, l32_1050, l32_1239, l32_1260, i32_add, i32_sub, i32_mul, i32_neg, ↓reduceIte, ltT, ltF, leT, leF, eqT, eqF, gd_ix, i32_nat, RZ_at, upd_RZ, i32_ofNat, G_places_k, G_sides_k, G_aims_k, G_weights_k, G_biases_k, G_touched_k, G_order_k, G_bowlCount_k, G_strikes_k, G_set_places_k, G_set_sides_k, G_set_aims_k, G_set_weights_k, G_set_biases_k, G_set_touched_k, G_set_order_k, G_set_bowlCount_k, G_set_strikes_k, S_green_k, S_score_k, S_bowlsEach_k, S_blowing_k, S_jackGoesBack_k, S_touchersTwice_k, S_set_green_k, S_set_score_k, S_set_bowlsEach_k, S_set_blowing_k, S_set_jackGoesBack_k, S_set_touchersTwice_k, e1, e2, e3, e5, l64_0, l64_1, Int.zero_mul]
      · rw [q] at e1 ⊢
        simp (maxSteps := 4000000) (disch := omega) only [jn, Option.bind_some, l32_0, l32_1, l32_2, l32_3, l32_4, l32_5, l32_6, l32_7, l32_8, l32_9, l32_10, l32_11, l32_12, l32_13, l32_14, l32_15, l32_16, l32_17, l32_18, l32_19, l32_20, l32_21, l32_22, l32_23, l32_24, l32_25, l32_26, l32_27, l32_28, l32_29, l32_30, l32_31, l32_32, l32_33, l32_34, l32_35, l32_36, l32_37, l32_38, l32_39, l32_40, l32_41, l32_42, l32_43, l32_44, l32_45, l32_46, l32_47, l32_48, l32_49, l32_50, l32_51, l32_52, l32_53, l32_54, l32_55, l32_56, l32_57, l32_58, l32_59, l32_60, l32_61, l32_62, l32_63, l32_64, l32_65, l32_66, l32_67, l32_68, l32_69, l32_70, l32_71, l32_83, l32_91, l32_98, l32_99, l32_100, l32_101, l32_102, l32_103, l32_106, l32_119, l32_126, l32_206, l32_515, l32_618, l32_850, l32_1000, l32_1022, l32_1023, l32_1050, l32_1239, l32_1260, i32_add, i32_sub, i32_mul, i32_neg, ↓reduceIte, ltT, ltF, leT, leF, eqT, eqF, gd_ix, i32_nat, RZ_at, upd_RZ, i32_ofNat, G_places_k, G_sides_k, G_aims_k, G_weights_k, G_biases_k, G_touched_k, G_order_k, G_bowlCount_k, G_strikes_k, G_set_places_k, G_set_sides_k, G_set_aims_k, G_set_weights_k, G_set_biases_k, G_set_touched_k, G_set_order_k, G_set_bowlCount_k, G_set_strikes_k, S_green_k, S_score_k, S_bowlsEach_k, S_blowing_k, S_jackGoesBack_k, S_touchersTwice_k, S_set_green_k, S_set_score_k, S_set_bowlsEach_k, S_set_blowing_k, S_set_jackGoesBack_k, S_set_touchersTwice_k, e1, e2, e3, e5, l64_0, l64_1, Int.zero_mul]
    · rw [q2] at e2 ⊢
      unfold f_X3_nextSide
      rcases h0_ with q | q
      · rw [q] at e1 ⊢
        simp (maxSteps := 4000000) (disch := omega) only [jn, Option.bind_some, l32_0, l32_1, l32_2, l32_3, l32_4, l32_5, l32_6, l32_7, l32_8, l32_9, l32_10, l32_11, l32_12, l32_13, l32_14, l32_15, l32_16, l32_17, l32_18, l32_19, l32_20, l32_21, l32_22, l32_23, l32_24, l32_25, l32_26, l32_27, l32_28, l32_29, l32_30, l32_31, l32_32, l32_33, l32_34, l32_35, l32_36, l32_37, l32_38, l32_39, l32_40, l32_41, l32_42, l32_43, l32_44, l32_45, l32_46, l32_47, l32_48, l32_49, l32_50, l32_51, l32_52, l32_53, l32_54, l32_55, l32_56, l32_57, l32_58, l32_59, l32_60, l32_61, l32_62, l32_63, l32_64, l32_65, l32_66, l32_67, l32_68, l32_69, l32_70, l32_71, l32_83, l32_91, l32_98, l32_99, l32_100, l32_101, l32_102, l32_103, l32_106, l32_119, l32_126, l32_206, l32_515, l32_618, l32_850, l32_1000, l32_1022, l32_1023, l32_1050, l32_1239, l32_1260, i32_add, i32_sub, i32_mul, i32_neg, ↓reduceIte, ltT, ltF, leT, leF, eqT, eqF, gd_ix, i32_nat, RZ_at, upd_RZ, i32_ofNat, G_places_k, G_sides_k, G_aims_k, G_weights_k, G_biases_k, G_touched_k, G_order_k, G_bowlCount_k, G_strikes_k, G_set_places_k, G_set_sides_k, G_set_aims_k, G_set_weights_k, G_set_biases_k, G_set_touched_k, G_set_order_k, G_set_bowlCount_k, G_set_strikes_k, S_green_k, S_score_k, S_bowlsEach_k, S_blowing_k, S_jackGoesBack_k, S_touchersTwice_k, S_set_green_k, S_set_score_k, S_set_bowlsEach_k, S_set_blowing_k, S_set_jackGoesBack_k, S_set_touchersTwice_k, V_points_k, V_latest_k, V_endsByPoints_k, V_pointsNeeded_k, V_endCount_k, V_burntCount_k, V_latestCount_k, V_backCount_k, V_bowlCount_k, V_toucherCount_k, V_firstSide_k, V_set_points_k, V_set_latest_k, V_set_endsByPoints_k, V_set_pointsNeeded_k, V_set_endCount_k, V_set_burntCount_k, V_set_latestCount_k, V_set_backCount_k, V_set_bowlCount_k, V_set_toucherCount_k, V_set_firstSide_k, e1, e2, e3, e5, l64_0, l64_1, Int.one_mul, i32_div, e6]
      · rw [q] at e1 ⊢
        simp (maxSteps := 4000000) (disch := omega) only [jn, Option.bind_some, l32_0, l32_1, l32_2, l32_3, l32_4, l32_5, l32_6, l32_7, l32_8, l32_9, l32_10, l32_11, l32_12, l32_13, l32_14, l32_15, l32_16, l32_17, l32_18, l32_19, l32_20, l32_21, l32_22, l32_23, l32_24, l32_25, l32_26, l32_27, l32_28, l32_29, l32_30, l32_31, l32_32, l32_33, l32_34, l32_35, l32_36, l32_37, l32_38, l32_39, l32_40, l32_41, l32_42, l32_43, l32_44, l32_45, l32_46, l32_47, l32_48, l32_49, l32_50, l32_51, l32_52, l32_53, l32_54, l32_55, l32_56, l32_57, l32_58, l32_59, l32_60, l32_61, l32_62, l32_63, l32_64, l32_65, l32_66, l32_67, l32_68, l32_69, l32_70, l32_71, l32_83, l32_91, l32_98, l32_99, l32_100, l32_101, l32_102, l32_103, l32_106, l32_119, l32_126, l32_206, l32_515, l32_618, l32_850, l32_1000, l32_1022, l32_1023, l32_1050, l32_1239, l32_1260, i32_add, i32_sub, i32_mul, i32_neg, ↓reduceIte, ltT, ltF, leT, leF, eqT, eqF, gd_ix, i32_nat, RZ_at, upd_RZ, i32_ofNat, G_places_k, G_sides_k, G_aims_k, G_weights_k, G_biases_k, G_touched_k, G_order_k, G_bowlCount_k, G_strikes_k, G_set_places_k, G_set_sides_k, G_set_aims_k, G_set_weights_k, G_set_biases_k, G_set_touched_k, G_set_order_k, G_set_bowlCount_k, G_set_strikes_k, S_green_k, S_score_k, S_bowlsEach_k, S_blowing_k, S_jackGoesBack_k, S_touchersTwice_k, S_set_green_k, S_set_score_k, S_set_bowlsEach_k, S_set_blowing_k, S_set_jackGoesBack_k, S_set_touchersTwice_k, V_points_k, V_latest_k, V_endsByPoints_k, V_pointsNeeded_k, V_endCount_k, V_burntCount_k, V_latestCount_k, V_backCount_k, V_bowlCount_k, V_toucherCount_k, V_firstSide_k, V_set_points_k, V_set_latest_k, V_set_endsByPoints_k, V_set_pointsNeeded_k, V_set_endCount_k, V_set_burntCount_k, V_set_latestCount_k, V_set_backCount_k, V_set_bowlCount_k, V_set_toucherCount_k, V_set_firstSide_k, e1, e2, e3, e5, l64_0, l64_1, Int.one_mul, i32_div, e6]
theorem mixBowls_x (hN : 1500 < N) (h : INV B n s) (hS : shows s n z S) : f_X5_mixBowls N xv S h0 = some (hB s h0 n) := by
  have hn := h.2.1
  obtain ⟨p, sd, ai, we, bi, to, orr, po, la, eb, rfl, rG, rV⟩ := hS
  obtain ⟨f1, f2, f3, f4, f5, f6⟩ := rel_facts h rG
  clear f5
  unfold f_X5_mixBowls
  refine lp_for0 (fun j => (hB s h0 j, i32 j)) n N ?_ (by omega) (fun j hj k => ?_) (fun k => ?_)
  · simp only [nc0, l32_0, hB]
  · have j0 : (0 : Int) ≤ j := by omega
    have jn_ : (j : Int) < n := by omega
    obtain ⟨g1, g2, g3, g4⟩ := rG.2.1 j j0 jn_
    have g5 := rG.2.2 j j0 (by omega)
    rw [if_pos jn_] at g5
    have g6 := rG.1 j j0 (by omega)
    obtain ⟨-, -, -, efa⟩ := bowl_pl h j0 jn_
    have al := rel_aM h rG j j0 jn_
    have i1 := x0_isAlive (N := N) (p := p) (sd := sd) (ai := ai) (we := we) (bi := bi) (to := to) (od := orr) (n := n) (st := z) (k := j) j0 (by omega) f1
    rw [b2i_congr al.1] at i1
    have a1 := at_in (N := N) (n := 8) (s := sd) (a := (j : Int)) (by omega) (by omega) (by omega)
    have a2 := at_in (N := N) (n := 8) (s := ai) (a := (j : Int)) (by omega) (by omega) (by omega)
    have a3 := at_in (N := N) (n := 8) (s := we) (a := (j : Int)) (by omega) (by omega) (by omega)
    have a4 := at_in (N := N) (n := 8) (s := bi) (a := (j : Int)) (by omega) (by omega) (by omega)
    have a5 := at_in (N := N) (n := 8) (s := to) (a := (j : Int)) (by omega) (by omega) (by omega)
    rw [g1] at a1
    rw [g2] at a2
    rw [g3] at a3
    rw [g4] at a4
    rw [g5] at a5
    have i2 := x0_fateOf (N := N) (p := p) (sd := sd) (ai := ai) (we := we) (bi := bi) (to := to) (od := orr) (n := n) (st := z) (k := j) j0 (by omega) f1
    rw [g6, efa] at i2
    have i3 := x0_placeOf (N := N) (p := p) (sd := sd) (ai := ai) (we := we) (bi := bi) (to := to) (od := orr) (n := n) (st := z) (k := j) j0 (by omega)
    rw [g6] at i3
    unfold f_X5_mix
    rw [hB]
    unfold hb1 mx
    by_cases c : aM s j
    · have g8 := f4 j j0 jn_ (al.1.mpr c)
      have r1 := f1 j j0 (by omega)
      have r8 := f1 8 (by omega) (by omega)
      have i4 := x0_distance (N := N) (p := p) (sd := sd) (ai := ai) (we := we) (bi := bi) (to := to) (od := orr) (n := n) (st := z) (k := j) j0 (by omega) (by have := al.1.mpr c; omega) (by omega) (by omega) (by omega)
      rw [al.2.1 (al.1.mpr c)] at i4
      rw [b2i_p c] at i1 ⊢
      simp (maxSteps := 4000000) (disch := omega) only [jn, Option.bind_some, l32_0, l32_1, l32_2, l32_3, l32_4, l32_5, l32_6, l32_7, l32_8, l32_9, l32_10, l32_11, l32_12, l32_13, l32_14, l32_15, l32_16, l32_17, l32_18, l32_19, l32_20, l32_21, l32_22, l32_23, l32_24, l32_25, l32_26, l32_27, l32_28, l32_29, l32_30, l32_31, l32_32, l32_33, l32_34, l32_35, l32_36, l32_37, l32_38, l32_39, l32_40, l32_41, l32_42, l32_43, l32_44, l32_45, l32_46, l32_47, l32_48, l32_49, l32_50, l32_51, l32_52, l32_53, l32_54, l32_55, l32_56, l32_57, l32_58, l32_59, l32_60, l32_61, l32_62, l32_63, l32_64, l32_65, l32_66, l32_67, l32_68, l32_69, l32_70, l32_71, l32_83, l32_91, l32_98, l32_99, l32_100, l32_101, l32_102, l32_103, l32_106, l32_119, l32_126, l32_206, l32_515, l32_618, l32_850, l32_1000, l32_1022, l32_1023, l32_1050, l32_1239, l32_1260, i32_add, i32_sub, i32_mul, i32_neg, ↓reduceIte, ltT, ltF, leT, leF, eqT, eqF, gd_ix, i32_nat, RZ_at, upd_RZ, i32_ofNat, G_places_k, G_sides_k, G_aims_k, G_weights_k, G_biases_k, G_touched_k, G_order_k, G_bowlCount_k, G_strikes_k, G_set_places_k, G_set_sides_k, G_set_aims_k, G_set_weights_k, G_set_biases_k, G_set_touched_k, G_set_order_k, G_set_bowlCount_k, G_set_strikes_k, S_green_k, S_score_k, S_bowlsEach_k, S_blowing_k, S_jackGoesBack_k, S_touchersTwice_k, S_set_green_k, S_set_score_k, S_set_bowlsEach_k, S_set_blowing_k, S_set_jackGoesBack_k, S_set_touchersTwice_k, a1, a2, a3, a4, a5, i1, i2, i3, i4, Int.one_mul, ncS]
    · rw [b2i_n c] at i1 ⊢
      simp (maxSteps := 4000000) (disch := omega) only [jn, Option.bind_some, l32_0, l32_1, l32_2, l32_3, l32_4, l32_5, l32_6, l32_7, l32_8, l32_9, l32_10, l32_11, l32_12, l32_13, l32_14, l32_15, l32_16, l32_17, l32_18, l32_19, l32_20, l32_21, l32_22, l32_23, l32_24, l32_25, l32_26, l32_27, l32_28, l32_29, l32_30, l32_31, l32_32, l32_33, l32_34, l32_35, l32_36, l32_37, l32_38, l32_39, l32_40, l32_41, l32_42, l32_43, l32_44, l32_45, l32_46, l32_47, l32_48, l32_49, l32_50, l32_51, l32_52, l32_53, l32_54, l32_55, l32_56, l32_57, l32_58, l32_59, l32_60, l32_61, l32_62, l32_63, l32_64, l32_65, l32_66, l32_67, l32_68, l32_69, l32_70, l32_71, l32_83, l32_91, l32_98, l32_99, l32_100, l32_101, l32_102, l32_103, l32_106, l32_119, l32_126, l32_206, l32_515, l32_618, l32_850, l32_1000, l32_1022, l32_1023, l32_1050, l32_1239, l32_1260, i32_add, i32_sub, i32_mul, i32_neg, ↓reduceIte, ltT, ltF, leT, leF, eqT, eqF, gd_ix, i32_nat, RZ_at, upd_RZ, i32_ofNat, G_places_k, G_sides_k, G_aims_k, G_weights_k, G_biases_k, G_touched_k, G_order_k, G_bowlCount_k, G_strikes_k, G_set_places_k, G_set_sides_k, G_set_aims_k, G_set_weights_k, G_set_biases_k, G_set_touched_k, G_set_order_k, G_set_bowlCount_k, G_set_strikes_k, S_green_k, S_score_k, S_bowlsEach_k, S_blowing_k, S_jackGoesBack_k, S_touchersTwice_k, S_set_green_k, S_set_score_k, S_set_bowlsEach_k, S_set_blowing_k, S_set_jackGoesBack_k, S_set_touchersTwice_k, a1, a2, a3, a4, a5, i1, i2, i3, Int.zero_mul, ncS, l64_0]
  · simp (maxSteps := 4000000) (disch := omega) only [jn, Option.bind_some, l32_0, l32_1, l32_2, l32_3, l32_4, l32_5, l32_6, l32_7, l32_8, l32_9, l32_10, l32_11, l32_12, l32_13, l32_14, l32_15, l32_16, l32_17, l32_18, l32_19, l32_20, l32_21, l32_22, l32_23, l32_24, l32_25, l32_26, l32_27, l32_28, l32_29, l32_30, l32_31, l32_32, l32_33, l32_34, l32_35, l32_36, l32_37, l32_38, l32_39, l32_40, l32_41, l32_42, l32_43, l32_44, l32_45, l32_46, l32_47, l32_48, l32_49, l32_50, l32_51, l32_52, l32_53, l32_54, l32_55, l32_56, l32_57, l32_58, l32_59, l32_60, l32_61, l32_62, l32_63, l32_64, l32_65, l32_66, l32_67, l32_68, l32_69, l32_70, l32_71, l32_83, l32_91, l32_98, l32_99, l32_100, l32_101, l32_102, l32_103, l32_106, l32_119, l32_126, l32_206, l32_515, l32_618, l32_850, l32_1000, l32_1022, l32_1023, l32_1050, l32_1239, l32_1260, i32_add, i32_sub, i32_mul, i32_neg, ↓reduceIte, ltT, ltF, leT, leF, eqT, eqF, gd_ix, i32_nat, RZ_at, upd_RZ, i32_ofNat, G_places_k, G_sides_k, G_aims_k, G_weights_k, G_biases_k, G_touched_k, G_order_k, G_bowlCount_k, G_strikes_k, G_set_places_k, G_set_sides_k, G_set_aims_k, G_set_weights_k, G_set_biases_k, G_set_touched_k, G_set_order_k, G_set_bowlCount_k, G_set_strikes_k, S_green_k, S_score_k, S_bowlsEach_k, S_blowing_k, S_jackGoesBack_k, S_touchersTwice_k, S_set_green_k, S_set_score_k, S_set_bowlsEach_k, S_set_blowing_k, S_set_jackGoesBack_k, S_set_touchersTwice_k]
def stMc (N : Nat) (xv : XV) (nv : SV) (o13 : Int32 × GV) : Int64 × Int32 → (Int64 × Int32 → Option (Int64 × (XV × SV))) → Option (Int64 × (XV × SV)) := (fun (s68 : Int64 × Int32) (k68 : (Int64 × Int32) → Option (Int64 × (XV × SV))) => (if o13.1 ≤ s68.2 then (f_X0_aliveCount N o13.2 (0 : Int32)).bind (fun o16 => (f_X5_mix N s68.1 ((o16).toInt64)).bind (fun o18 => (f_X0_aliveCount N o13.2 (1 : Int32)).bind (fun o20 => (f_X5_mix N o18 ((o20).toInt64)).bind (fun o22 => (f_X0_gapOfSides N o13.2).bind (fun o24 => (f_X5_mix N o22 ((o24 + (1 : Int32)).toInt64)).bind (fun o26 => (f_X0_farthestApart N o13.2).bind (fun o28 => (f_X5_mix N o26 ((o28).toInt64)).bind (fun o30 => (f_X5_placeBySteps N ((3 : Int32) + (S_blowing nv)) (-1 : Int32) (40 : Int32)).bind (fun o32 => (f_X5_mix N o30 ((o32).toInt64)).bind (fun o34 => (f_X5_placeByFormula N ((3 : Int32) + (S_blowing nv)) (-1 : Int32) (40 : Int32)).bind (fun o36 => (f_X5_mix N o34 ((o36).toInt64)).bind (fun o38 => some (o38, (xv, (S_set_green nv o13.2))))))))))))))) else (f_X5_at N 8 (G_order o13.2) s68.2).bind (fun o40 => (f_X5_mix N s68.1 ((o40).toInt64)).bind (fun o42 => k68 (o42, (s68.2 + (1 : Int32)))))))
theorem mixCount_st (N : Nat) (xv : XV) (nv : SV) (p1 : Int64) : f_X5_mixCounting N xv nv p1 = (f_X0_scoringSide N (S_green nv)).bind (fun o1 => (f_X5_mix N p1 ((o1 + (1 : Int32)).toInt64)).bind (fun o3 => (f_X0_orderedPoints N (S_green nv) (S_touchersTwice nv)).bind (fun o5 => (f_X5_mix N o3 ((o5.1).toInt64)).bind (fun o7 => (f_X0_pairedPoints N o5.2 (S_touchersTwice nv)).bind (fun o9 => (f_X5_mix N o7 ((o9).toInt64)).bind (fun o11 => (f_X0_sortByDistance N o5.2).bind (fun o13 => lpN (stMc N xv nv o13) N (o11, (0 : Int32))))))))) := rfl
theorem mixCount_x (od : Int → Int) (hN : 1500 < N) (h : INV B n s) (hS : shows s n z S) : ∃ S', f_X5_mixCounting N xv S h0 = some (hC3 s (hC2 s n (hfs (ordM s od n).2 (hC1 s n h0) (ordM s od n).1)), (xv, S')) ∧ shows s n z S' := by
  have hn := h.2.1
  have h62 := h.2.2.2.2.2.1
  have e1 := scoring_x (N := N) (by omega) h hS
  obtain ⟨G, e2, hS2⟩ := ordered_x (N := N) (by omega) h hS
  have e3 := paired_x (N := N) (by omega) h hS2
  have e4 := gap_x (N := N) (by omega) h hS2
  have e5 := wid_x (N := N) (by omega) h hS2
  have e6 := steps_x (N := N) (dr := 3 + s 62) (b := -1) (q := 40) (by omega) (by omega) (by omega) (by omega)
  have e7 := formula_x (N := N) (dr := 3 + s 62) (b := -1) (q := 40) (by omega) (by omega) (by omega) (by omega)
  have c40 : ((40 : Nat) : Int) = 40 := rfl
  rw [c40] at e6 e7
  have w1 : (if sc s n = 0 then -1 else if 0 < sc s n then 0 else 1 : Int) + 1 = sdW s n := by
    unfold sdW
    by_cases c : sc s n = 0
    · rw [if_pos c, if_pos c]; rfl
    · by_cases c2 : 0 < sc s n
      · rw [if_neg c, if_neg c, if_pos c2, if_pos c2]; rfl
      · rw [if_neg c, if_neg c, if_neg c2, if_neg c2]; rfl
  rw [mixCount_st]
  obtain ⟨p, sd, ai, we, bi, to, orr, po, la, eb, hE, rG, rV⟩ := hS2
  obtain ⟨f1, f2, f3, f4, f5, f6⟩ := rel_facts h rG
  clear f5
  have es := x0_sort (N := N) (n := n) (p := p) (sd := sd) (ai := ai) (we := we) (bi := bi) (to := to) (od := orr) (st := z) (by omega) hn f1 f4
  obtain ⟨k1, k2⟩ := srtF_congr (od := orr) (od' := od) (fun k x y => ⟨(rel_aM h rG k x y).1, (rel_aM h rG k x y).2.1⟩)
  have O := srtF_spec (aM s) (dm s) od n
  rw [show srtF (aM s) (dm s) od n = ordM s od n from rfl] at O k1 k2
  rw [k1] at es k2
  generalize (srtF (fun b => p b ≠ -1) (fun b => dst (p b) (p 8)) orr n).2 = o at es k2
  generalize (ordM s od n).2 = om2 at *
  generalize (ordM s od n).1 = m at *
  have mn : m ≤ n := O.1
  have hG : S_green (S_set_green S G) = G := rfl
  have hG2 : S_touchersTwice (S_set_green S G) = S_touchersTwice S := rfl
  rw [hG] at e4 e5
  rw [hG, hG2] at e3
  have hGe : G = (GK (RZ p) (RZ sd) (RZ ai) (RZ we) (RZ bi) (RZ to) (RZ orr) (i32 ((n : Int))) (i32 z)) := by
    have := congrArg S_green hE
    rw [hG] at this
    simp only [S_green_k, S_score_k, S_bowlsEach_k, S_blowing_k, S_jackGoesBack_k, S_touchersTwice_k, S_set_green_k, S_set_score_k, S_set_bowlsEach_k, S_set_blowing_k, S_set_jackGoesBack_k, S_set_touchersTwice_k] at this
    exact this
  have hbl : S_blowing S = i32 (s 62) := by
    have : S_blowing (S_set_green S G) = S_blowing S := rfl
    rw [← this, hE]
    simp only [S_green_k, S_score_k, S_bowlsEach_k, S_blowing_k, S_jackGoesBack_k, S_touchersTwice_k, S_set_green_k, S_set_score_k, S_set_bowlsEach_k, S_set_blowing_k, S_set_jackGoesBack_k, S_set_touchersTwice_k]
  have hSo : shows s n z (S_set_green S (GK (RZ p) (RZ sd) (RZ ai) (RZ we) (RZ bi) (RZ to) (RZ o) (i32 ((n : Int))) (i32 z))) := by
    have : S_set_green S (GK (RZ p) (RZ sd) (RZ ai) (RZ we) (RZ bi) (RZ to) (RZ o) (i32 ((n : Int))) (i32 z)) = S_set_green (S_set_green S G) (GK (RZ p) (RZ sd) (RZ ai) (RZ we) (RZ bi) (RZ to) (RZ o) (i32 ((n : Int))) (i32 z)) := rfl
    rw [this, hE]
    simp only [S_green_k, S_score_k, S_bowlsEach_k, S_blowing_k, S_jackGoesBack_k, S_touchersTwice_k, S_set_green_k, S_set_score_k, S_set_bowlsEach_k, S_set_blowing_k, S_set_jackGoesBack_k, S_set_touchersTwice_k]
    exact ⟨p, sd, ai, we, bi, to, o, po, la, eb, rfl, rG, rV⟩
  have e4 := gap_x (N := N) (by omega) h hSo
  have e5 := wid_x (N := N) (by omega) h hSo
  have hGo : S_green (S_set_green S (GK (RZ p) (RZ sd) (RZ ai) (RZ we) (RZ bi) (RZ to) (RZ o) (i32 ((n : Int))) (i32 z))) = (GK (RZ p) (RZ sd) (RZ ai) (RZ we) (RZ bi) (RZ to) (RZ o) (i32 ((n : Int))) (i32 z)) := rfl
  rw [hGo] at e4 e5
  have ac : ∀ i, i = 0 ∨ i = 1 → f_X0_aliveCount N (GK (RZ p) (RZ sd) (RZ ai) (RZ we) (RZ bi) (RZ to) (RZ o) (i32 ((n : Int))) (i32 z)) (i32 i) = some (i32 (sumZ (fun b => b2i (aM s b ∧ sdS s b = i)) n)) := fun i hi => by
    rw [x0_aliveCount (N := N) (n := n) (by omega) hn hi f1 f2]
    refine congrArg (fun x => some (i32 x)) (sumZ_congr fun q x y => ?_)
    obtain ⟨r1, r2, r3⟩ := rel_aM h rG q x y
    show b2i (p q ≠ -1 ∧ sd q = i) = b2i (aM s q ∧ sdS s q = i)
    rw [r3]
    exact b2i_congr (and_congr r1 Iff.rfl)
  have ac0 := ac 0 (Or.inl rfl)
  have ac1 := ac 1 (Or.inr rfl)
  refine ⟨_, ?_, hSo⟩
  have lp : lpN (stMc N xv S (i32 (m : Int), (GK (RZ p) (RZ sd) (RZ ai) (RZ we) (RZ bi) (RZ to) (RZ o) (i32 ((n : Int))) (i32 z)))) N (hC1 s n h0, i32 0) = some (hC3 s (hC2 s n (hfs om2 (hC1 s n h0) m)), (xv, S_set_green S (GK (RZ p) (RZ sd) (RZ ai) (RZ we) (RZ bi) (RZ to) (RZ o) (i32 ((n : Int))) (i32 z)))) := by
    refine lp_for0 (fun j => (hfs om2 (hC1 s n h0) j, i32 j)) m N ?_ (by omega) (fun j hj k => ?_) (fun k => ?_)
    · simp only [nc0, hfs]
    · have a := at_in (N := N) (n := 8) (s := o) (a := (j : Int)) (by omega) (by omega) (by omega)
      rw [k2 j (by omega) (by omega)] at a
      unfold stMc f_X5_mix
      simp (maxSteps := 4000000) (disch := omega) only [jn, Option.bind_some, l32_0, l32_1, l32_2, l32_3, l32_4, l32_5, l32_6, l32_7, l32_8, l32_9, l32_10, l32_11, l32_12, l32_13, l32_14, l32_15, l32_16, l32_17, l32_18, l32_19, l32_20, l32_21, l32_22, l32_23, l32_24, l32_25, l32_26, l32_27, l32_28, l32_29, l32_30, l32_31, l32_32, l32_33, l32_34, l32_35, l32_36, l32_37, l32_38, l32_39, l32_40, l32_41, l32_42, l32_43, l32_44, l32_45, l32_46, l32_47, l32_48, l32_49, l32_50, l32_51, l32_52, l32_53, l32_54, l32_55, l32_56, l32_57, l32_58, l32_59, l32_60, l32_61, l32_62, l32_63, l32_64, l32_65, l32_66, l32_67, l32_68, l32_69, l32_70, l32_71, l32_83, l32_91, l32_98, l32_99, l32_100, l32_101, l32_102, l32_103, l32_106, l32_119, l32_126, l32_206, l32_515, l32_618, l32_850, l32_1000, l32_1022, l32_1023, l32_1050, l32_1239, l32_1260, i32_add, i32_sub, i32_mul, i32_neg, ↓reduceIte, ltT, ltF, leT, leF, eqT, eqF, gd_ix, i32_nat, RZ_at, upd_RZ, i32_ofNat, G_places_k, G_sides_k, G_aims_k, G_weights_k, G_biases_k, G_touched_k, G_order_k, G_bowlCount_k, G_strikes_k, G_set_places_k, G_set_sides_k, G_set_aims_k, G_set_weights_k, G_set_biases_k, G_set_touched_k, G_set_order_k, G_set_bowlCount_k, G_set_strikes_k, a, ncS, hfs, mx]
    · unfold stMc f_X5_mix hC3 hC2 mx
      simp (maxSteps := 4000000) (disch := omega) only [jn, Option.bind_some, l32_0, l32_1, l32_2, l32_3, l32_4, l32_5, l32_6, l32_7, l32_8, l32_9, l32_10, l32_11, l32_12, l32_13, l32_14, l32_15, l32_16, l32_17, l32_18, l32_19, l32_20, l32_21, l32_22, l32_23, l32_24, l32_25, l32_26, l32_27, l32_28, l32_29, l32_30, l32_31, l32_32, l32_33, l32_34, l32_35, l32_36, l32_37, l32_38, l32_39, l32_40, l32_41, l32_42, l32_43, l32_44, l32_45, l32_46, l32_47, l32_48, l32_49, l32_50, l32_51, l32_52, l32_53, l32_54, l32_55, l32_56, l32_57, l32_58, l32_59, l32_60, l32_61, l32_62, l32_63, l32_64, l32_65, l32_66, l32_67, l32_68, l32_69, l32_70, l32_71, l32_83, l32_91, l32_98, l32_99, l32_100, l32_101, l32_102, l32_103, l32_106, l32_119, l32_126, l32_206, l32_515, l32_618, l32_850, l32_1000, l32_1022, l32_1023, l32_1050, l32_1239, l32_1260, i32_add, i32_sub, i32_mul, i32_neg, ↓reduceIte, ltT, ltF, leT, leF, eqT, eqF, gd_ix, i32_nat, RZ_at, upd_RZ, i32_ofNat, G_places_k, G_sides_k, G_aims_k, G_weights_k, G_biases_k, G_touched_k, G_order_k, G_bowlCount_k, G_strikes_k, G_set_places_k, G_set_sides_k, G_set_aims_k, G_set_weights_k, G_set_biases_k, G_set_touched_k, G_set_order_k, G_set_bowlCount_k, G_set_strikes_k, ac0, ac1, e4, e5, hbl, e6, e7, c40]
  rw [← lp, e1]
  rw [← hGe] at es
  unfold f_X5_mix
  unfold hC1 mx
  simp (maxSteps := 4000000) (disch := omega) only [jn, Option.bind_some, l32_0, l32_1, l32_2, l32_3, l32_4, l32_5, l32_6, l32_7, l32_8, l32_9, l32_10, l32_11, l32_12, l32_13, l32_14, l32_15, l32_16, l32_17, l32_18, l32_19, l32_20, l32_21, l32_22, l32_23, l32_24, l32_25, l32_26, l32_27, l32_28, l32_29, l32_30, l32_31, l32_32, l32_33, l32_34, l32_35, l32_36, l32_37, l32_38, l32_39, l32_40, l32_41, l32_42, l32_43, l32_44, l32_45, l32_46, l32_47, l32_48, l32_49, l32_50, l32_51, l32_52, l32_53, l32_54, l32_55, l32_56, l32_57, l32_58, l32_59, l32_60, l32_61, l32_62, l32_63, l32_64, l32_65, l32_66, l32_67, l32_68, l32_69, l32_70, l32_71, l32_83, l32_91, l32_98, l32_99, l32_100, l32_101, l32_102, l32_103, l32_106, l32_119, l32_126, l32_206, l32_515, l32_618, l32_850, l32_1000, l32_1022, l32_1023, l32_1050, l32_1239, l32_1260, i32_add, i32_sub, i32_mul, i32_neg, ↓reduceIte, ltT, ltF, leT, leF, eqT, eqF, gd_ix, i32_nat, RZ_at, upd_RZ, i32_ofNat, w1, e2, e3, es]
theorem mixMatch_x (hN : 1500 < N) (h : INV B n s) (hS : shows s n z S) {m : Nat} (hm : f_X1_latestWins N (S_score S) = some (i32 (m : Int))) : f_X5_mixMatch N xv S h0 = some (hT s m (hfs (fun k => s (83 + k)) (hfs (fun k => s (71 + k)) (hM s h0) (s 70).toNat) 17)) := by
  have e1 := isWon_x (N := N) h hS
  have h70 := h.2.2.2.2.2.2.2.2.2.1
  obtain ⟨p, sd, ai, we, bi, to, orr, po, la, eb, rfl, rG, v0_, v1_, v2_, v3_⟩ := hS
  simp only [S_green_k, S_score_k, S_bowlsEach_k, S_blowing_k, S_jackGoesBack_k, S_touchersTwice_k, S_set_green_k, S_set_score_k, S_set_bowlsEach_k, S_set_blowing_k, S_set_jackGoesBack_k, S_set_touchersTwice_k] at e1 hm
  have m2 := mixAll_x (N := N) (h0 := h0) (n1 := 2) (m := 2) (f := po) (by omega) (by omega) (by omega)
  have ex2 : hfs po h0 2 = mx (mx h0 (s 65)) (s 66) := by
    simp only [hfs]
    rw [show ((0 : Nat) : Int) = 0 from rfl, show ((1 : Nat) : Int) = 1 from rfl, v0_, v1_]
  rw [ex2, show ((2 : Nat) : Int) = 2 from rfl] at m2
  have hf : ∀ (f g : Int → Int) (x : Int64) (q : Nat), (∀ k : Int, 0 ≤ k → k < (q : Int) → f k = g k) → hfs f x q = hfs g x q := fun f g x q => by
    induction q with
    | zero => intro _; rfl
    | succ q ih =>
      intro e
      rw [hfs, hfs, ih (fun k a b => e k a (by rw [ncS]; omega)), e q (by omega) (by rw [ncS]; omega)]
  obtain ⟨q, hq⟩ : ∃ q : Nat, s 70 = q := ⟨(s 70).toNat, by omega⟩
  have tq : (s 70).toNat = q := by omega
  rw [tq]
  have m12 := fun x => mixAll_x (N := N) (h0 := x) (n1 := 12) (m := q) (f := la) (by omega) (by omega) (by omega)
  have m17 := fun x => mixAll_x (N := N) (h0 := x) (n1 := 17) (m := 17) (f := eb) (by omega) (by omega) (by omega)
  simp only [hf la (fun k => s (71 + k)) _ q (fun k a b => v2_ k a (by omega))] at m12
  simp only [hf eb (fun k => s (83 + k)) _ 17 (fun k a b => v3_ k a (by omega)), show ((17 : Nat) : Int) = 17 from rfl] at m17
  simp only [← hq] at m12
  unfold f_X5_mixMatch f_X5_mix hT hM
  rcases b2i_01 (Over s) with o | o
  · rw [o] at e1 ⊢
    simp (maxSteps := 4000000) (disch := omega) only [jn, Option.bind_some, l32_0, l32_1, l32_2, l32_3, l32_4, l32_5, l32_6, l32_7, l32_8, l32_9, l32_10, l32_11, l32_12, l32_13, l32_14, l32_15, l32_16, l32_17, l32_18, l32_19, l32_20, l32_21, l32_22, l32_23, l32_24, l32_25, l32_26, l32_27, l32_28, l32_29, l32_30, l32_31, l32_32, l32_33, l32_34, l32_35, l32_36, l32_37, l32_38, l32_39, l32_40, l32_41, l32_42, l32_43, l32_44, l32_45, l32_46, l32_47, l32_48, l32_49, l32_50, l32_51, l32_52, l32_53, l32_54, l32_55, l32_56, l32_57, l32_58, l32_59, l32_60, l32_61, l32_62, l32_63, l32_64, l32_65, l32_66, l32_67, l32_68, l32_69, l32_70, l32_71, l32_83, l32_91, l32_98, l32_99, l32_100, l32_101, l32_102, l32_103, l32_106, l32_119, l32_126, l32_206, l32_515, l32_618, l32_850, l32_1000, l32_1022, l32_1023, l32_1050, l32_1239, l32_1260, i32_add, i32_sub, i32_mul, i32_neg, ↓reduceIte, ltT, ltF, leT, leF, eqT, eqF, gd_ix, i32_nat, RZ_at, upd_RZ, i32_ofNat, S_green_k, S_score_k, S_bowlsEach_k, S_blowing_k, S_jackGoesBack_k, S_touchersTwice_k, S_set_green_k, S_set_score_k, S_set_bowlsEach_k, S_set_blowing_k, S_set_jackGoesBack_k, S_set_touchersTwice_k, V_points_k, V_latest_k, V_endsByPoints_k, V_pointsNeeded_k, V_endCount_k, V_burntCount_k, V_latestCount_k, V_backCount_k, V_bowlCount_k, V_toucherCount_k, V_firstSide_k, V_set_points_k, V_set_latest_k, V_set_endsByPoints_k, V_set_pointsNeeded_k, V_set_endCount_k, V_set_burntCount_k, V_set_latestCount_k, V_set_backCount_k, V_set_bowlCount_k, V_set_toucherCount_k, V_set_firstSide_k, m2, m12, m17, e1, hm, mx, l64_0, l64_1]
  · rw [o] at e1 ⊢
    simp (maxSteps := 4000000) (disch := omega) only [jn, Option.bind_some, l32_0, l32_1, l32_2, l32_3, l32_4, l32_5, l32_6, l32_7, l32_8, l32_9, l32_10, l32_11, l32_12, l32_13, l32_14, l32_15, l32_16, l32_17, l32_18, l32_19, l32_20, l32_21, l32_22, l32_23, l32_24, l32_25, l32_26, l32_27, l32_28, l32_29, l32_30, l32_31, l32_32, l32_33, l32_34, l32_35, l32_36, l32_37, l32_38, l32_39, l32_40, l32_41, l32_42, l32_43, l32_44, l32_45, l32_46, l32_47, l32_48, l32_49, l32_50, l32_51, l32_52, l32_53, l32_54, l32_55, l32_56, l32_57, l32_58, l32_59, l32_60, l32_61, l32_62, l32_63, l32_64, l32_65, l32_66, l32_67, l32_68, l32_69, l32_70, l32_71, l32_83, l32_91, l32_98, l32_99, l32_100, l32_101, l32_102, l32_103, l32_106, l32_119, l32_126, l32_206, l32_515, l32_618, l32_850, l32_1000, l32_1022, l32_1023, l32_1050, l32_1239, l32_1260, i32_add, i32_sub, i32_mul, i32_neg, ↓reduceIte, ltT, ltF, leT, leF, eqT, eqF, gd_ix, i32_nat, RZ_at, upd_RZ, i32_ofNat, S_green_k, S_score_k, S_bowlsEach_k, S_blowing_k, S_jackGoesBack_k, S_touchersTwice_k, S_set_green_k, S_set_score_k, S_set_bowlsEach_k, S_set_blowing_k, S_set_jackGoesBack_k, S_set_touchersTwice_k, V_points_k, V_latest_k, V_endsByPoints_k, V_pointsNeeded_k, V_endCount_k, V_burntCount_k, V_latestCount_k, V_backCount_k, V_bowlCount_k, V_toucherCount_k, V_firstSide_k, V_set_points_k, V_set_latest_k, V_set_endsByPoints_k, V_set_pointsNeeded_k, V_set_endCount_k, V_set_burntCount_k, V_set_latestCount_k, V_set_backCount_k, V_set_bowlCount_k, V_set_toucherCount_k, V_set_firstSide_k, m2, m12, m17, e1, hm, mx, l64_0, l64_1]
end DGX
