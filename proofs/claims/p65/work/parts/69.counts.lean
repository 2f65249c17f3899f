/-! an end is counted, things are taken away, the jack is rolled -/
theorem RZ_ext {s t : Int → Int} (h : ∀ j, 0 ≤ j → s j = t j) : RZ s = RZ t := funext fun k => by
  unfold RZ
  rw [h k (by omega)]
/-- the row without an end -/
def clr (s : Int → Int) : Int → Int := fun j => if 0 ≤ j ∧ j < 60 then 0 else s j
theorem clr_lo {s : Int → Int} {j : Int} (h0 : 0 ≤ j) (h : j < 60) : clr s j = 0 := if_pos ⟨h0, h⟩
theorem clr_hi {s : Int → Int} {j : Int} (h : 60 ≤ j) : clr s j = s j := if_neg (by omega)
def stTk (N : Nat) : Int32 × MV → (Int32 × MV → Option MV) → Option MV := (fun (s30 : Int32 × MV) (k30 : (Int32 × MV) → Option (MV)) => (if (60 : Int32) ≤ s30.1 then some s30.2 else gd (ixok s30.1 103) (k30 ((s30.1 + (1 : Int32)), (M_set_s s30.2 (upd (M_s s30.2) s30.1.toNatClampNeg (0 : Int32)))))))
theorem takesAway_m {N : Nat} {th : Int} {s : Int → Int} {as_ : Int → Int} {ah : Int → Int} {sv : Int → Int} {sm : Int} {sl : Int → Int} {kp : Int} {bu : Int → Int} {le : Int} {st : Int} {od : Int → Int} {om : Int} {sp : Int} {wr_ : Int} {sg : Int} {on_ : Int} {tw : Int} {t3 : Int} {pl : Int} {fi : Int} {be : Int} {ha : Int64} (hN : 100 < N) : f_X6_takesAway N (MK (i32 th) (RZ s) (RZ as_) (RZ ah) (RZ sv) (i32 sm) (RZ sl) (i32 kp) (RZ bu) (i32 le) (i32 st) (RZ od) (i32 om) (i32 sp) (i32 wr_) (i32 sg) (i32 on_) (i32 tw) (i32 t3) (i32 pl) (i32 fi) (i32 be) ha) = some (MK (i32 th) (RZ (clr s)) (RZ as_) (RZ ah) (RZ sv) (i32 sm) (RZ sl) (i32 kp) (RZ bu) (i32 le) (i32 st) (RZ od) (i32 om) (i32 sp) (i32 wr_) (i32 sg) (i32 on_) (i32 tw) (i32 t3) (i32 pl) (i32 fi) (i32 be) ha) := by
  have st_ : f_X6_takesAway N (MK (i32 th) (RZ s) (RZ as_) (RZ ah) (RZ sv) (i32 sm) (RZ sl) (i32 kp) (RZ bu) (i32 le) (i32 st) (RZ od) (i32 om) (i32 sp) (i32 wr_) (i32 sg) (i32 on_) (i32 tw) (i32 t3) (i32 pl) (i32 fi) (i32 be) ha) = lpN (stTk N) N ((4 : Int32), (M_set_s (MK (i32 th) (RZ s) (RZ as_) (RZ ah) (RZ sv) (i32 sm) (RZ sl) (i32 kp) (RZ bu) (i32 le) (i32 st) (RZ od) (i32 om) (i32 sp) (i32 wr_) (i32 sg) (i32 on_) (i32 tw) (i32 t3) (i32 pl) (i32 fi) (i32 be) ha) (upd (upd (upd (upd (M_s (MK (i32 th) (RZ s) (RZ as_) (RZ ah) (RZ sv) (i32 sm) (RZ sl) (i32 kp) (RZ bu) (i32 le) (i32 st) (RZ od) (i32 om) (i32 sp) (i32 wr_) (i32 sg) (i32 on_) (i32 tw) (i32 t3) (i32 pl) (i32 fi) (i32 be) ha)) (0 : Int32).toNatClampNeg (0 : Int32)) (1 : Int32).toNatClampNeg (0 : Int32)) (2 : Int32).toNatClampNeg (0 : Int32)) (3 : Int32).toNatClampNeg (0 : Int32)))) := rfl
  rw [st_]
  refine lp_for0 (fun j => (i32 (4 + (j : Int)), (MK (i32 th) (RZ (wr 4 (4 + (j : Int)) (fun _ => 0) (up (up (up (up s 0 0) 1 0) 2 0) 3 0))) (RZ as_) (RZ ah) (RZ sv) (i32 sm) (RZ sl) (i32 kp) (RZ bu) (i32 le) (i32 st) (RZ od) (i32 om) (i32 sp) (i32 wr_) (i32 sg) (i32 on_) (i32 tw) (i32 t3) (i32 pl) (i32 fi) (i32 be) ha))) 56 N ?_ (by omega) (fun j hj k => ?_) (fun k => ?_)
  · simp (maxSteps := 4000000) (disch := omega) only [jn, Option.bind_some, l32_0, l32_1, l32_2, l32_3, l32_4, l32_5, l32_6, l32_7, l32_8, l32_9, l32_10, l32_11, l32_12, l32_13, l32_14, l32_15, l32_16, l32_17, l32_18, l32_19, l32_20, l32_21, l32_22, l32_23, l32_24, l32_25, l32_26, l32_27, l32_28, l32_29, l32_30, l32_31, l32_32, l32_33, l32_34, l32_35, l32_36, l32_37, l32_38, l32_39, l32_40, l32_41, l32_42, l32_43, l32_44, l32_45, l32_46, l32_47, l32_48, l32_49, l32_50, l32_51, l32_52, l32_53, l32_54, l32_55, l32_56, l32_57, l32_58, l32_59, l32_60, l32_61, l32_62, l32_63, l32_64, l32_65, l32_66, l32_67, l32_68, l32_69, l32_70, l32_71, l32_83, l32_91, l32_98, l32_99, l32_100, l32_101, l32_102, l32_103, l32_106, l32_119, l32_126, l32_206, l32_515, l32_618, l32_850, l32_1000, l32_1022, l32_1023, l32_1050, l32_1239, l32_1260, i32_add, i32_sub, i32_mul, i32_neg, ↓reduceIte, ltT, ltF, leT, leF, eqT, eqF, gd_ix, i32_nat, RZ_at, upd_RZ, i32_ofNat, M_thrown_k, M_s_k, M_aside_k, M_ahead_k, M_saved_k, M_savedMany_k, M_slots_k, M_kept_k, M_buffer_k, M_length_k, M_strikes_k, M_order_k, M_orderMany_k, M_spot_k, M_isWrong_k, M_sign_k, M_one_k, M_two_k, M_three_k, M_played_k, M_isFine_k, M_bestPoints_k, M_hash_k, M_set_thrown_k, M_set_s_k, M_set_aside_k, M_set_ahead_k, M_set_saved_k, M_set_savedMany_k, M_set_slots_k, M_set_kept_k, M_set_buffer_k, M_set_length_k, M_set_strikes_k, M_set_order_k, M_set_orderMany_k, M_set_spot_k, M_set_isWrong_k, M_set_sign_k, M_set_one_k, M_set_two_k, M_set_three_k, M_set_played_k, M_set_isFine_k, M_set_bestPoints_k, M_set_hash_k, nc0, Int.add_zero, wr_nil]
  · have e := wr_succ (a := 4) (b := 4 + (j : Int)) (fun _ => 0) (up (up (up (up s 0 0) 1 0) 2 0) 3 0) (by omega)
    unfold stTk
    show _ = k (i32 (4 + ((j + 1 : Nat) : Int)), (MK (i32 th) (RZ (wr 4 (4 + ((j + 1 : Nat) : Int)) (fun _ => 0) (up (up (up (up s 0 0) 1 0) 2 0) 3 0))) (RZ as_) (RZ ah) (RZ sv) (i32 sm) (RZ sl) (i32 kp) (RZ bu) (i32 le) (i32 st) (RZ od) (i32 om) (i32 sp) (i32 wr_) (i32 sg) (i32 on_) (i32 tw) (i32 t3) (i32 pl) (i32 fi) (i32 be) ha))
    rw [ncS, ← Int.add_assoc]
    simp (maxSteps := 4000000) (disch := omega) only [jn, Option.bind_some, l32_0, l32_1, l32_2, l32_3, l32_4, l32_5, l32_6, l32_7, l32_8, l32_9, l32_10, l32_11, l32_12, l32_13, l32_14, l32_15, l32_16, l32_17, l32_18, l32_19, l32_20, l32_21, l32_22, l32_23, l32_24, l32_25, l32_26, l32_27, l32_28, l32_29, l32_30, l32_31, l32_32, l32_33, l32_34, l32_35, l32_36, l32_37, l32_38, l32_39, l32_40, l32_41, l32_42, l32_43, l32_44, l32_45, l32_46, l32_47, l32_48, l32_49, l32_50, l32_51, l32_52, l32_53, l32_54, l32_55, l32_56, l32_57, l32_58, l32_59, l32_60, l32_61, l32_62, l32_63, l32_64, l32_65, l32_66, l32_67, l32_68, l32_69, l32_70, l32_71, l32_83, l32_91, l32_98, l32_99, l32_100, l32_101, l32_102, l32_103, l32_106, l32_119, l32_126, l32_206, l32_515, l32_618, l32_850, l32_1000, l32_1022, l32_1023, l32_1050, l32_1239, l32_1260, i32_add, i32_sub, i32_mul, i32_neg, ↓reduceIte, ltT, ltF, leT, leF, eqT, eqF, gd_ix, i32_nat, RZ_at, upd_RZ, i32_ofNat, M_thrown_k, M_s_k, M_aside_k, M_ahead_k, M_saved_k, M_savedMany_k, M_slots_k, M_kept_k, M_buffer_k, M_length_k, M_strikes_k, M_order_k, M_orderMany_k, M_spot_k, M_isWrong_k, M_sign_k, M_one_k, M_two_k, M_three_k, M_played_k, M_isFine_k, M_bestPoints_k, M_hash_k, M_set_thrown_k, M_set_s_k, M_set_aside_k, M_set_ahead_k, M_set_saved_k, M_set_savedMany_k, M_set_slots_k, M_set_kept_k, M_set_buffer_k, M_set_length_k, M_set_strikes_k, M_set_order_k, M_set_orderMany_k, M_set_spot_k, M_set_isWrong_k, M_set_sign_k, M_set_one_k, M_set_two_k, M_set_three_k, M_set_played_k, M_set_isFine_k, M_set_bestPoints_k, M_set_hash_k, e]
  · unfold stTk
    have e : RZ (wr 4 (4 + ((56 : Nat) : Int)) (fun _ => 0) (up (up (up (up s 0 0) 1 0) 2 0) 3 0)) = RZ (clr s) := RZ_ext fun j hj => by
      unfold wr clr up
      by_cases h : 4 ≤ j ∧ j < 60
      · rw [if_pos (show 4 ≤ j ∧ j < 4 + ((56 : Nat) : Int) by omega), if_pos (show 0 ≤ j ∧ j < 60 by omega)]
      · rw [if_neg (show ¬ (4 ≤ j ∧ j < 4 + ((56 : Nat) : Int)) by omega)]
        by_cases h3 : j = 3
        · rw [if_pos h3, if_pos (show 0 ≤ j ∧ j < 60 by omega)]
        · rw [if_neg h3]
          by_cases h2 : j = 2
          · rw [if_pos h2, if_pos (show 0 ≤ j ∧ j < 60 by omega)]
          · rw [if_neg h2]
            by_cases h1 : j = 1
            · rw [if_pos h1, if_pos (show 0 ≤ j ∧ j < 60 by omega)]
            · rw [if_neg h1]
              by_cases h0 : j = 0
              · rw [if_pos h0, if_pos (show 0 ≤ j ∧ j < 60 by omega)]
              · rw [if_neg h0, if_neg (show ¬ (0 ≤ j ∧ j < 60) by omega)]
    have e2 : (60 : Int) ≤ 4 + ((56 : Nat) : Int) := by omega
    simp (maxSteps := 4000000) (disch := omega) only [jn, Option.bind_some, l32_0, l32_1, l32_2, l32_3, l32_4, l32_5, l32_6, l32_7, l32_8, l32_9, l32_10, l32_11, l32_12, l32_13, l32_14, l32_15, l32_16, l32_17, l32_18, l32_19, l32_20, l32_21, l32_22, l32_23, l32_24, l32_25, l32_26, l32_27, l32_28, l32_29, l32_30, l32_31, l32_32, l32_33, l32_34, l32_35, l32_36, l32_37, l32_38, l32_39, l32_40, l32_41, l32_42, l32_43, l32_44, l32_45, l32_46, l32_47, l32_48, l32_49, l32_50, l32_51, l32_52, l32_53, l32_54, l32_55, l32_56, l32_57, l32_58, l32_59, l32_60, l32_61, l32_62, l32_63, l32_64, l32_65, l32_66, l32_67, l32_68, l32_69, l32_70, l32_71, l32_83, l32_91, l32_98, l32_99, l32_100, l32_101, l32_102, l32_103, l32_106, l32_119, l32_126, l32_206, l32_515, l32_618, l32_850, l32_1000, l32_1022, l32_1023, l32_1050, l32_1239, l32_1260, i32_add, i32_sub, i32_mul, i32_neg, ↓reduceIte, ltT, ltF, leT, leF, eqT, eqF, gd_ix, i32_nat, RZ_at, upd_RZ, i32_ofNat, M_thrown_k, M_s_k, M_aside_k, M_ahead_k, M_saved_k, M_savedMany_k, M_slots_k, M_kept_k, M_buffer_k, M_length_k, M_strikes_k, M_order_k, M_orderMany_k, M_spot_k, M_isWrong_k, M_sign_k, M_one_k, M_two_k, M_three_k, M_played_k, M_isFine_k, M_bestPoints_k, M_hash_k, M_set_thrown_k, M_set_s_k, M_set_aside_k, M_set_ahead_k, M_set_saved_k, M_set_savedMany_k, M_set_slots_k, M_set_kept_k, M_set_buffer_k, M_set_length_k, M_set_strikes_k, M_set_order_k, M_set_orderMany_k, M_set_spot_k, M_set_isWrong_k, M_set_sign_k, M_set_one_k, M_set_two_k, M_set_three_k, M_set_played_k, M_set_isFine_k, M_set_bestPoints_k, M_set_hash_k, e]
/-- a new end's row -/
theorem inv_clr {B : Int} {n : Nat} {s : Int → Int} (h : INV B n s) : INV B 0 (clr s) := inv_of h (fun j a _ => clr_hi a) (fun j hj => by
  rw [clr_hi (by omega)]
  exact h.2.2.2.2.2.2.2.2.2.2.2.1 j hj) (clr_lo (by omega) (by omega)) (by omega) (Or.inl ⟨clr_lo (by omega) (by omega), rfl⟩) h.2.2.2.2.2.2.2.2.2.2.2.2
theorem Pl_clr (s : Int → Int) (k : Int) : Pl (clr s) k = -1 := by
  have h0 : clr s 0 = 0 := clr_lo (by omega) (by omega)
  have h3 : clr s 3 = 0 := clr_lo (by omega) (by omega)
  unfold Pl
  rw [h0, h3]
  by_cases k8 : k = 8
  · rw [if_pos k8, if_neg (by omega)]
  · rw [if_neg k8, if_neg (by omega)]
theorem x0_takeAway {N : Nat} {p : Int → Int} {sd : Int → Int} {ai : Int → Int} {we : Int → Int} {bi : Int → Int} {to : Int → Int} {od : Int → Int} {n : Int} {st : Int} (hN : 9 < N) : f_X0_takeAway N (GK (RZ p) (RZ sd) (RZ ai) (RZ we) (RZ bi) (RZ to) (RZ od) (i32 n) (i32 st)) = some (GK (RZ (wr 0 9 (fun _ => -1) p)) (RZ sd) (RZ ai) (RZ we) (RZ bi) (RZ (wr 0 8 (fun _ => 0) to)) (RZ od) (i32 0) (i32 st)) := by
  unfold f_X0_takeAway
  have e1 := fill_ok (N := N) (n := 9) (s := p) (z := -1) (by omega) hN
  have e2 := fill_ok (N := N) (n := 8) (s := to) (z := 0) (by omega) (by omega)
  rw [show ((9 : Nat) : Int) = 9 from rfl] at e1
  rw [show ((8 : Nat) : Int) = 8 from rfl] at e2
  simp (maxSteps := 4000000) (disch := omega) only [jn, Option.bind_some, l32_0, l32_1, l32_2, l32_3, l32_4, l32_5, l32_6, l32_7, l32_8, l32_9, l32_10, l32_11, l32_12, l32_13, l32_14, l32_15, l32_16, l32_17, l32_18, l32_19, l32_20, l32_21, l32_22, l32_23, l32_24, l32_25, l32_26, l32_27, l32_28, l32_29, l32_30, l32_31, l32_32, l32_33, l32_34, l32_35, l32_36, l32_37, l32_38, l32_39, l32_40, l32_41, l32_42, l32_43, l32_44, l32_45, l32_46, l32_47, l32_48, l32_49, l32_50, l32_51, l32_52, l32_53, l32_54, l32_55, l32_56, l32_57, l32_58, l32_59, l32_60, l32_61, l32_62, l32_63, l32_64, l32_65, l32_66, l32_67, l32_68, l32_69, l32_70, l32_71, l32_83, l32_91, l32_98, l32_99, l32_100, l32_101, l32_102, l32_103, l32_106, l32_119, l32_126, l32_206, l32_515, l32_618, l32_850, l32_1000, l32_1022, l32_1023, l32_1050, l32_1239, l32_1260, i32_add, i32_sub, i32_mul, i32_neg, ↓reduceIte, ltT, ltF, leT, leF, eqT, eqF, gd_ix, i32_nat, RZ_at, upd_RZ, i32_ofNat, G_places_k, G_sides_k, G_aims_k, G_weights_k, G_biases_k, G_touched_k, G_order_k, G_bowlCount_k, G_strikes_k, G_set_places_k, G_set_sides_k, G_set_aims_k, G_set_weights_k, G_set_biases_k, G_set_touched_k, G_set_order_k, G_set_bowlCount_k, G_set_strikes_k, e1, e2]
theorem relG_clr (s p sd ai we bi to : Int → Int) : relG (clr s) (wr 0 9 (fun _ => -1) p) sd ai we bi (wr 0 8 (fun _ => 0) to) 0 := by
  refine ⟨fun k a b => ?_, fun k a b => by omega, fun k a b => ?_⟩
  · rw [wr_in a b, Pl_clr]
  · rw [wr_in a b, if_neg (by omega)]
/-- the row as the jack is rolled -/
def rollS (s : Int → Int) (r : Int) : Int → Int := up (up (up s 0 1) 1 r) 2 10
theorem rolls_m {N : Nat} {th : Int} {s : Int → Int} {as_ : Int → Int} {ah : Int → Int} {sv : Int → Int} {sm : Int} {sl : Int → Int} {kp : Int} {bu : Int → Int} {le : Int} {st : Int} {od : Int → Int} {om : Int} {sp : Int} {wr_ : Int} {sg : Int} {on_ : Int} {tw : Int} {t3 : Int} {pl : Int} {fi : Int} {be : Int} {ha : Int64} {r : Int} : f_X6_rolls N (MK (i32 th) (RZ s) (RZ as_) (RZ ah) (RZ sv) (i32 sm) (RZ sl) (i32 kp) (RZ bu) (i32 le) (i32 st) (RZ od) (i32 om) (i32 sp) (i32 wr_) (i32 sg) (i32 on_) (i32 tw) (i32 t3) (i32 pl) (i32 fi) (i32 be) ha) (i32 r) = some (i32 (s 61), (MK (i32 th) (RZ (rollS s r)) (RZ as_) (RZ ah) (RZ sv) (i32 sm) (RZ sl) (i32 kp) (RZ bu) (i32 le) (i32 st) (RZ od) (i32 om) (i32 sp) (i32 wr_) (i32 sg) (i32 on_) (i32 tw) (i32 t3) (i32 pl) (i32 fi) (i32 be) ha)) := by
  unfold f_X6_rolls rollS
  have e : up (up (up s 0 1) 1 r) 2 10 61 = s 61 := by rw [up_ne (by omega), up_ne (by omega), up_ne (by omega)]
  simp (maxSteps := 4000000) (disch := omega) only [jn, Option.bind_some, l32_0, l32_1, l32_2, l32_3, l32_4, l32_5, l32_6, l32_7, l32_8, l32_9, l32_10, l32_11, l32_12, l32_13, l32_14, l32_15, l32_16, l32_17, l32_18, l32_19, l32_20, l32_21, l32_22, l32_23, l32_24, l32_25, l32_26, l32_27, l32_28, l32_29, l32_30, l32_31, l32_32, l32_33, l32_34, l32_35, l32_36, l32_37, l32_38, l32_39, l32_40, l32_41, l32_42, l32_43, l32_44, l32_45, l32_46, l32_47, l32_48, l32_49, l32_50, l32_51, l32_52, l32_53, l32_54, l32_55, l32_56, l32_57, l32_58, l32_59, l32_60, l32_61, l32_62, l32_63, l32_64, l32_65, l32_66, l32_67, l32_68, l32_69, l32_70, l32_71, l32_83, l32_91, l32_98, l32_99, l32_100, l32_101, l32_102, l32_103, l32_106, l32_119, l32_126, l32_206, l32_515, l32_618, l32_850, l32_1000, l32_1022, l32_1023, l32_1050, l32_1239, l32_1260, i32_add, i32_sub, i32_mul, i32_neg, ↓reduceIte, ltT, ltF, leT, leF, eqT, eqF, gd_ix, i32_nat, RZ_at, upd_RZ, i32_ofNat, M_thrown_k, M_s_k, M_aside_k, M_ahead_k, M_saved_k, M_savedMany_k, M_slots_k, M_kept_k, M_buffer_k, M_length_k, M_strikes_k, M_order_k, M_orderMany_k, M_spot_k, M_isWrong_k, M_sign_k, M_one_k, M_two_k, M_three_k, M_played_k, M_isFine_k, M_bestPoints_k, M_hash_k, M_set_thrown_k, M_set_s_k, M_set_aside_k, M_set_ahead_k, M_set_saved_k, M_set_savedMany_k, M_set_slots_k, M_set_kept_k, M_set_buffer_k, M_set_length_k, M_set_strikes_k, M_set_order_k, M_set_orderMany_k, M_set_spot_k, M_set_isWrong_k, M_set_sign_k, M_set_one_k, M_set_two_k, M_set_three_k, M_set_played_k, M_set_isFine_k, M_set_bestPoints_k, M_set_hash_k, e]
theorem rollS_ne {s : Int → Int} {r j : Int} (h0 : j ≠ 0) (h1 : j ≠ 1) (h2 : j ≠ 2) : rollS s r j = s j := by
  unfold rollS
  rw [up_ne h2, up_ne h1, up_ne h0]
theorem rollS_0 (s : Int → Int) (r : Int) : rollS s r 0 = 1 ∧ rollS s r 1 = r ∧ rollS s r 2 = 10 := by
  unfold rollS
  refine ⟨by rw [up_ne (by omega), up_ne (by omega), up_self], by rw [up_ne (by omega), up_self], up_self _ _ _⟩
theorem inv_roll {B r : Int} {n : Nat} {s : Int → Int} (h : INV B n s) (h0 : s 0 = 0) (hr : 0 ≤ r ∧ r ≤ 59) : INV B 0 (rollS s r) ∧ n = 0 := by
  have n0 : n = 0 := by
    rcases h.2.2.1 with q | q
    · exact q.2
    · have := q.1.1
      omega
  have h3 := h.1
  obtain ⟨r0, r1, r2⟩ := rollS_0 s r
  have g : GEO (rollS s r) 0 := by
    refine ⟨r0, by rw [rollS_ne (by omega) (by omega) (by omega), h3, n0], by omega, by omega, fun k a b => by omega, ?_⟩
    intro a c i j _ hi hj
    have e3 : rollS s r 3 = 0 := by rw [rollS_ne (by omega) (by omega) (by omega), h3, n0]; rfl
    rcases hi with hi | hi
    · rcases hj with hj | hj
      · omega
      · omega
    · omega
  have h60 := h.2.2.2.1
  exact ⟨inv_of h (fun j a _ => rollS_ne (by omega) (by omega) (by omega)) (fun j hj => by
    rw [rollS_ne (by omega) (by omega) (by omega)]
    exact h.2.2.2.2.2.2.2.2.2.2.2.1 j hj) g.2.1 (by omega) (Or.inr ⟨g, by omega⟩) h.2.2.2.2.2.2.2.2.2.2.2.2, n0⟩
theorem roll_joint {N n : Nat} {B z r : Int} {th : Int} {s : Int → Int} {as_ : Int → Int} {ah : Int → Int} {sv : Int → Int} {sm : Int} {sl : Int → Int} {kp : Int} {bu : Int → Int} {le : Int} {st : Int} {od : Int → Int} {om : Int} {sp : Int} {wr_ : Int} {sg : Int} {on_ : Int} {tw : Int} {t3 : Int} {pl : Int} {fi : Int} {be : Int} {ha : Int64} {S : SV} (hN : 100 < N) (h : INV B n s) (hS : shows s n z S) (hc : CanRoll s) (hr : 20 ≤ r ∧ r ≤ 50) : ∃ S', f_X3_rollJack N S (i32 r) = some S' ∧ f_X6_rolls N (MK (i32 th) (RZ s) (RZ as_) (RZ ah) (RZ sv) (i32 sm) (RZ sl) (i32 kp) (RZ bu) (i32 le) (i32 st) (RZ od) (i32 om) (i32 sp) (i32 wr_) (i32 sg) (i32 on_) (i32 tw) (i32 t3) (i32 pl) (i32 fi) (i32 be) ha) (i32 r) = some (i32 (s 61), (MK (i32 th) (RZ (rollS s r)) (RZ as_) (RZ ah) (RZ sv) (i32 sm) (RZ sl) (i32 kp) (RZ bu) (i32 le) (i32 st) (RZ od) (i32 om) (i32 sp) (i32 wr_) (i32 sg) (i32 on_) (i32 tw) (i32 t3) (i32 pl) (i32 fi) (i32 be) ha)) ∧ INV B 0 (rollS s r) ∧ shows (rollS s r) 0 z S' ∧ f_X3_nextSide N S' = some (i32 (s 61)) := by
  obtain ⟨p, sd, ai, we, bi, to, orr, po, la, eb_, rfl, rG, rV⟩ := hS
  obtain ⟨I, n0⟩ := inv_roll (r := r) h hc.2 (by omega)
  obtain ⟨r0, r1, r2⟩ := rollS_0 s r
  have ne : ∀ j, 3 ≤ j → rollS s r j = s j := fun j a => rollS_ne (by omega) (by omega) (by omega)
  have e9 : up (wr 0 9 (fun _ => -1) p) 8 (r * 21 + 10) 8 = r * 21 + 10 := up_self _ _ _
  refine ⟨(SK (GK (RZ (up (wr 0 9 (fun _ => -1) p) 8 (r * 21 + 10))) (RZ sd) (RZ ai) (RZ we) (RZ bi) (RZ (wr 0 8 (fun _ => 0) to)) (RZ orr) (i32 (((0 : Nat) : Int))) (i32 z)) (VK (RZ po) (RZ la) (RZ eb_) (i32 (s 67)) (i32 (s 68)) (i32 (s 69)) (i32 (s 70)) (i32 (s 100)) (i32 (s 101)) (i32 (s 102)) (i32 (s 61))) (i32 (s 60)) (i32 (s 62)) (i32 (s 63)) (i32 (s 64))), ?_, rolls_m, I, ?_, ?_⟩
  · unfold f_X3_rollJack
    simp (maxSteps := 4000000) (disch := omega) only [jn, Option.bind_some, l32_0, l32_1, l32_2, l32_3, l32_4, l32_5, l32_6, l32_7, l32_8, l32_9, l32_10, l32_11, l32_12, l32_13, l32_14, l32_15, l32_16, l32_17, l32_18, l32_19, l32_20, l32_21, l32_22, l32_23, l32_24, l32_25, l32_26, l32_27, l32_28, l32_29, l32_30, l32_31, l32_32, l32_33, l32_34, l32_35, l32_36, l32_37, l32_38, l32_39, l32_40, l32_41, l32_42, l32_43, l32_44, l32_45, l32_46, l32_47, l32_48, l32_49, l32_50, l32_51, l32_52, l32_53, l32_54, l32_55, l32_56, l32_57, l32_58, l32_59, l32_60, l32_61, l32_62, l32_63, l32_64, l32_65, l32_66, l32_67, l32_68, l32_69, l32_70, l32_71, l32_83, l32_91, l32_98, l32_99, l32_100, l32_101, l32_102, l32_103, l32_106, l32_119, l32_126, l32_206, l32_515, l32_618, l32_850, l32_1000, l32_1022, l32_1023, l32_1050, l32_1239, l32_1260, i32_add, i32_sub, i32_mul, i32_neg, ↓reduceIte, ltT, ltF, leT, leF, eqT, eqF, gd_ix, i32_nat, RZ_at, upd_RZ, i32_ofNat, G_places_k, G_sides_k, G_aims_k, G_weights_k, G_biases_k, G_touched_k, G_order_k, G_bowlCount_k, G_strikes_k, G_set_places_k, G_set_sides_k, G_set_aims_k, G_set_weights_k, G_set_biases_k, G_set_touched_k, G_set_order_k, G_set_bowlCount_k, G_set_strikes_k, S_green_k, S_score_k, S_bowlsEach_k, S_blowing_k, S_jackGoesBack_k, S_touchersTwice_k, S_set_green_k, S_set_score_k, S_set_bowlsEach_k, S_set_blowing_k, S_set_jackGoesBack_k, S_set_touchersTwice_k, x0_takeAway, put_in, nc0]
  · refine shows_mk ⟨fun k a b => ?_, fun k a b => by omega, fun k a b => ?_⟩ ⟨?_, ?_, fun k a b => ?_, fun k a b => ?_⟩ ⟨(ne _ (by omega)).symm, (ne _ (by omega)).symm, (ne _ (by omega)).symm, (ne _ (by omega)).symm, (ne _ (by omega)).symm, (ne _ (by omega)).symm, (ne _ (by omega)).symm, (ne _ (by omega)).symm, (ne _ (by omega)).symm, (ne _ (by omega)).symm, (ne _ (by omega)).symm, (ne _ (by omega)).symm⟩
    · by_cases k8 : k = 8
      · rw [k8, up_self, Pl_jack r0, r1, r2]; omega
      · rw [up_ne k8, wr_in a b]
        by_cases k0 : k < 0
        · omega
        · rw [Pl_more k8 (by rw [ne 3 (by omega), h.1, n0]; omega)]
    · rw [wr_in a b, if_neg (by omega)]
    · rw [ne _ (by omega)]; exact rV.1
    · rw [ne _ (by omega)]; exact rV.2.1
    · rw [ne 70 (by omega)] at b
      rw [ne _ (by omega)]; exact rV.2.2.1 k a b
    · rw [ne _ (by omega)]; exact rV.2.2.2 k a b
  · have h61 := h.2.2.2.2.1
    unfold f_X3_nextSide
    have e : s 61 + ((0 : Nat) : Int) - (s 61 + ((0 : Nat) : Int)) / 2 * 2 = s 61 := by omega
    simp (maxSteps := 4000000) (disch := omega) only [jn, Option.bind_some, l32_0, l32_1, l32_2, l32_3, l32_4, l32_5, l32_6, l32_7, l32_8, l32_9, l32_10, l32_11, l32_12, l32_13, l32_14, l32_15, l32_16, l32_17, l32_18, l32_19, l32_20, l32_21, l32_22, l32_23, l32_24, l32_25, l32_26, l32_27, l32_28, l32_29, l32_30, l32_31, l32_32, l32_33, l32_34, l32_35, l32_36, l32_37, l32_38, l32_39, l32_40, l32_41, l32_42, l32_43, l32_44, l32_45, l32_46, l32_47, l32_48, l32_49, l32_50, l32_51, l32_52, l32_53, l32_54, l32_55, l32_56, l32_57, l32_58, l32_59, l32_60, l32_61, l32_62, l32_63, l32_64, l32_65, l32_66, l32_67, l32_68, l32_69, l32_70, l32_71, l32_83, l32_91, l32_98, l32_99, l32_100, l32_101, l32_102, l32_103, l32_106, l32_119, l32_126, l32_206, l32_515, l32_618, l32_850, l32_1000, l32_1022, l32_1023, l32_1050, l32_1239, l32_1260, i32_add, i32_sub, i32_mul, i32_neg, ↓reduceIte, ltT, ltF, leT, leF, eqT, eqF, gd_ix, i32_nat, RZ_at, upd_RZ, i32_ofNat, G_places_k, G_sides_k, G_aims_k, G_weights_k, G_biases_k, G_touched_k, G_order_k, G_bowlCount_k, G_strikes_k, G_set_places_k, G_set_sides_k, G_set_aims_k, G_set_weights_k, G_set_biases_k, G_set_touched_k, G_set_order_k, G_set_bowlCount_k, G_set_strikes_k, S_green_k, S_score_k, S_bowlsEach_k, S_blowing_k, S_jackGoesBack_k, S_touchersTwice_k, S_set_green_k, S_set_score_k, S_set_bowlsEach_k, S_set_blowing_k, S_set_jackGoesBack_k, S_set_touchersTwice_k, V_points_k, V_latest_k, V_endsByPoints_k, V_pointsNeeded_k, V_endCount_k, V_burntCount_k, V_latestCount_k, V_backCount_k, V_bowlCount_k, V_toucherCount_k, V_firstSide_k, V_set_points_k, V_set_latest_k, V_set_endsByPoints_k, V_set_pointsNeeded_k, V_set_endCount_k, V_set_burntCount_k, V_set_latestCount_k, V_set_backCount_k, V_set_bowlCount_k, V_set_toucherCount_k, V_set_firstSide_k, i32_div, e]

