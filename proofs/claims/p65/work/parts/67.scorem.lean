/-! the points of the reference, and of the class -/
theorem sideNow_m {N : Nat} {th : Int} {s : Int → Int} {as_ : Int → Int} {ah : Int → Int} {sv : Int → Int} {sm : Int} {sl : Int → Int} {kp : Int} {bu : Int → Int} {le : Int} {st : Int} {od : Int → Int} {om : Int} {sp : Int} {wr_ : Int} {sg : Int} {on_ : Int} {tw : Int} {t3 : Int} {pl : Int} {fi : Int} {be : Int} {ha : Int64} {k : Int} (h61 : s 61 = 0 ∨ s 61 = 1) (h1 : 0 ≤ k) (h2 : k ≤ 1000) : f_X6_sideNow N (MK (i32 th) (RZ s) (RZ as_) (RZ ah) (RZ sv) (i32 sm) (RZ sl) (i32 kp) (RZ bu) (i32 le) (i32 st) (RZ od) (i32 om) (i32 sp) (i32 wr_) (i32 sg) (i32 on_) (i32 tw) (i32 t3) (i32 pl) (i32 fi) (i32 be) ha) (i32 k) = some (i32 ((s 61 + k) % 2)) := by
  unfold f_X6_sideNow
  have e : s 61 + k - (s 61 + k) / 2 * 2 = (s 61 + k) % 2 := by omega
  simp (maxSteps := 4000000) (disch := omega) only [jn, Option.bind_some, l32_0, l32_1, l32_2, l32_3, l32_4, l32_5, l32_6, l32_7, l32_8, l32_9, l32_10, l32_11, l32_12, l32_13, l32_14, l32_15, l32_16, l32_17, l32_18, l32_19, l32_20, l32_21, l32_22, l32_23, l32_24, l32_25, l32_26, l32_27, l32_28, l32_29, l32_30, l32_31, l32_32, l32_33, l32_34, l32_35, l32_36, l32_37, l32_38, l32_39, l32_40, l32_41, l32_42, l32_43, l32_44, l32_45, l32_46, l32_47, l32_48, l32_49, l32_50, l32_51, l32_52, l32_53, l32_54, l32_55, l32_56, l32_57, l32_58, l32_59, l32_60, l32_61, l32_62, l32_63, l32_64, l32_65, l32_66, l32_67, l32_68, l32_69, l32_70, l32_71, l32_83, l32_91, l32_98, l32_99, l32_100, l32_101, l32_102, l32_103, l32_106, l32_119, l32_126, l32_206, l32_515, l32_618, l32_850, l32_1000, l32_1022, l32_1023, l32_1050, l32_1239, l32_1260, i32_add, i32_sub, i32_mul, i32_neg, ↓reduceIte, ltT, ltF, leT, leF, eqT, eqF, gd_ix, i32_nat, RZ_at, upd_RZ, i32_ofNat, M_thrown_k, M_s_k, M_aside_k, M_ahead_k, M_saved_k, M_savedMany_k, M_slots_k, M_kept_k, M_buffer_k, M_length_k, M_strikes_k, M_order_k, M_orderMany_k, M_spot_k, M_isWrong_k, M_sign_k, M_one_k, M_two_k, M_three_k, M_played_k, M_isFine_k, M_bestPoints_k, M_hash_k, M_set_thrown_k, M_set_s_k, M_set_aside_k, M_set_ahead_k, M_set_saved_k, M_set_savedMany_k, M_set_slots_k, M_set_kept_k, M_set_buffer_k, M_set_length_k, M_set_strikes_k, M_set_order_k, M_set_orderMany_k, M_set_spot_k, M_set_isWrong_k, M_set_sign_k, M_set_one_k, M_set_two_k, M_set_three_k, M_set_played_k, M_set_isFine_k, M_set_bestPoints_k, M_set_hash_k, i32_div, e]
theorem abs_m {N : Nat} {z : Int} (h1 : -2147483648 ≤ z) (h2 : z < 2147483648) : f_X6_abs N (i32 z) = some (i32 (if 0 ≤ z then z else -z)) := by
  unfold f_X6_abs
  by_cases c : 0 ≤ z
  · rw [if_pos c]; simp (maxSteps := 4000000) (disch := omega) only [jn, Option.bind_some, l32_0, l32_1, l32_2, l32_3, l32_4, l32_5, l32_6, l32_7, l32_8, l32_9, l32_10, l32_11, l32_12, l32_13, l32_14, l32_15, l32_16, l32_17, l32_18, l32_19, l32_20, l32_21, l32_22, l32_23, l32_24, l32_25, l32_26, l32_27, l32_28, l32_29, l32_30, l32_31, l32_32, l32_33, l32_34, l32_35, l32_36, l32_37, l32_38, l32_39, l32_40, l32_41, l32_42, l32_43, l32_44, l32_45, l32_46, l32_47, l32_48, l32_49, l32_50, l32_51, l32_52, l32_53, l32_54, l32_55, l32_56, l32_57, l32_58, l32_59, l32_60, l32_61, l32_62, l32_63, l32_64, l32_65, l32_66, l32_67, l32_68, l32_69, l32_70, l32_71, l32_83, l32_91, l32_98, l32_99, l32_100, l32_101, l32_102, l32_103, l32_106, l32_119, l32_126, l32_206, l32_515, l32_618, l32_850, l32_1000, l32_1022, l32_1023, l32_1050, l32_1239, l32_1260, i32_add, i32_sub, i32_mul, i32_neg, ↓reduceIte, ltT, ltF, leT, leF, eqT, eqF, gd_ix, i32_nat, RZ_at, upd_RZ, i32_ofNat]
  · rw [if_neg c]; simp (maxSteps := 4000000) (disch := omega) only [jn, Option.bind_some, l32_0, l32_1, l32_2, l32_3, l32_4, l32_5, l32_6, l32_7, l32_8, l32_9, l32_10, l32_11, l32_12, l32_13, l32_14, l32_15, l32_16, l32_17, l32_18, l32_19, l32_20, l32_21, l32_22, l32_23, l32_24, l32_25, l32_26, l32_27, l32_28, l32_29, l32_30, l32_31, l32_32, l32_33, l32_34, l32_35, l32_36, l32_37, l32_38, l32_39, l32_40, l32_41, l32_42, l32_43, l32_44, l32_45, l32_46, l32_47, l32_48, l32_49, l32_50, l32_51, l32_52, l32_53, l32_54, l32_55, l32_56, l32_57, l32_58, l32_59, l32_60, l32_61, l32_62, l32_63, l32_64, l32_65, l32_66, l32_67, l32_68, l32_69, l32_70, l32_71, l32_83, l32_91, l32_98, l32_99, l32_100, l32_101, l32_102, l32_103, l32_106, l32_119, l32_126, l32_206, l32_515, l32_618, l32_850, l32_1000, l32_1022, l32_1023, l32_1050, l32_1239, l32_1260, i32_add, i32_sub, i32_mul, i32_neg, ↓reduceIte, ltT, ltF, leT, leF, eqT, eqF, gd_ix, i32_nat, RZ_at, upd_RZ, i32_ofNat]
def st1 (N : Nat) (o1 : MV) (o11 : Int32) : Int32 × Int32 → (Int32 × Int32 → Option (Int32 × MV)) → Option (Int32 × MV) := (fun (s47 : Int32 × Int32) (k47 : (Int32 × Int32) → Option (Int32 × MV)) => (if (M_orderMany o1) ≤ s47.2 then lpN (fun (s100 : Int32 × Int32) (k100 : (Int32 × Int32) → Option (Int32 × MV)) => (if (M_orderMany o1) ≤ s100.2 then jn (fun (s200 : Int32) => some (s200, o1)) (fun (j200 : (Int32) → Option (Int32 × MV)) => (if o11 = 0 then j200 s100.1 else j200 (-s100.1))) else gd (ixok s100.2 8) ((f_X6_sideNow N o1 ((M_order o1) s100.2.toNatClampNeg)).bind (fun o17 => jn (fun (s148 : Int32) => jn (fun (s182 : Int32) => k100 ((s100.1 + s182), (s100.2 + (1 : Int32)))) (fun (j182 : (Int32) → Option (Int32 × MV)) => (if s148 = 0 then j182 (0 : Int32) else gd (ixok s100.2 8) ((f_X6_of N o1 ((M_order o1) s100.2.toNatClampNeg) (3 : Int32)).bind (fun o22 => j182 ((1 : Int32) + (((M_s o1) (64 : Int32).toNatClampNeg) * o22))))))) (fun (j148 : (Int32) → Option (Int32 × MV)) => jn (fun (s147 : Unit) => j148 (0 : Int32)) (fun (j147 : (Unit) → Option (Int32 × MV)) => (if o17 = o11 then jn (fun (s143 : Unit) => j148 (1 : Int32)) (fun (j143 : (Unit) → Option (Int32 × MV)) => (if s47.1 < 0 then j143 () else gd (ixok s100.2 8) ((f_X6_distance N o1 ((M_order o1) s100.2.toNatClampNeg)).bind (fun o27 => (if s47.1 ≤ o27 then j147 () else j143 ()))))) else j147 ()))))))) N ((0 : Int32), (0 : Int32)) else jn (fun (s90 : Int32) => k47 (s90, (s47.2 + (1 : Int32)))) (fun (j90 : (Int32) → Option (Int32 × MV)) => jn (fun (s89 : Unit) => j90 s47.1) (fun (j89 : (Unit) → Option (Int32 × MV)) => (if 0 ≤ s47.1 then j89 () else gd (ixok s47.2 8) ((f_X6_sideNow N o1 ((M_order o1) s47.2.toNatClampNeg)).bind (fun o32 => (if o32 = o11 then j89 () else gd (ixok s47.2 8) ((f_X6_distance N o1 ((M_order o1) s47.2.toNatClampNeg)).bind (fun o36 => j90 o36))))))))))
def st2 (N : Nat) (o1 : MV) (o11 : Int32) (s47 : Int32 × Int32) : Int32 × Int32 → (Int32 × Int32 → Option (Int32 × MV)) → Option (Int32 × MV) := (fun (s100 : Int32 × Int32) (k100 : (Int32 × Int32) → Option (Int32 × MV)) => (if (M_orderMany o1) ≤ s100.2 then jn (fun (s200 : Int32) => some (s200, o1)) (fun (j200 : (Int32) → Option (Int32 × MV)) => (if o11 = 0 then j200 s100.1 else j200 (-s100.1))) else gd (ixok s100.2 8) ((f_X6_sideNow N o1 ((M_order o1) s100.2.toNatClampNeg)).bind (fun o17 => jn (fun (s148 : Int32) => jn (fun (s182 : Int32) => k100 ((s100.1 + s182), (s100.2 + (1 : Int32)))) (fun (j182 : (Int32) → Option (Int32 × MV)) => (if s148 = 0 then j182 (0 : Int32) else gd (ixok s100.2 8) ((f_X6_of N o1 ((M_order o1) s100.2.toNatClampNeg) (3 : Int32)).bind (fun o22 => j182 ((1 : Int32) + (((M_s o1) (64 : Int32).toNatClampNeg) * o22))))))) (fun (j148 : (Int32) → Option (Int32 × MV)) => jn (fun (s147 : Unit) => j148 (0 : Int32)) (fun (j147 : (Unit) → Option (Int32 × MV)) => (if o17 = o11 then jn (fun (s143 : Unit) => j148 (1 : Int32)) (fun (j143 : (Unit) → Option (Int32 × MV)) => (if s47.1 < 0 then j143 () else gd (ixok s100.2 8) ((f_X6_distance N o1 ((M_order o1) s100.2.toNatClampNeg)).bind (fun o27 => (if s47.1 ≤ o27 then j147 () else j143 ()))))) else j147 ())))))))
theorem score_st (N : Nat) (v : MV) : f_X6_score N v = (f_X6_laysOrder N v).bind (fun o1 => jn (fun (s27 : Unit) => some ((0 : Int32), o1)) (fun (j27 : (Unit) → Option (Int32 × MV)) => (if ((M_s o1) (0 : Int32).toNatClampNeg) = 0 then j27 () else (f_X6_isBurntNow N o1).bind (fun o5 => (if o5 = 0 then (if (M_orderMany o1) = 0 then j27 () else (f_X6_sideNow N o1 ((M_order o1) (0 : Int32).toNatClampNeg)).bind (fun o11 => lpN (st1 N o1 o11) N ((-1 : Int32), (0 : Int32)))) else j27 ()))))) := rfl
theorem st1_st (N : Nat) (o1 : MV) (o11 : Int32) (s47 : Int32 × Int32) (k47 : Int32 × Int32 → Option (Int32 × MV)) : st1 N o1 o11 s47 k47 = (if (M_orderMany o1) ≤ s47.2 then lpN (st2 N o1 o11 s47) N ((0 : Int32), (0 : Int32)) else jn (fun (s90 : Int32) => k47 (s90, (s47.2 + (1 : Int32)))) (fun (j90 : (Int32) → Option (Int32 × MV)) => jn (fun (s89 : Unit) => j90 s47.1) (fun (j89 : (Unit) → Option (Int32 × MV)) => (if 0 ≤ s47.1 then j89 () else gd (ixok s47.2 8) ((f_X6_sideNow N o1 ((M_order o1) s47.2.toNatClampNeg)).bind (fun o32 => (if o32 = o11 then j89 () else gd (ixok s47.2 8) ((f_X6_distance N o1 ((M_order o1) s47.2.toNatClampNeg)).bind (fun o36 => j90 o36))))))))) := rfl
/-- what a bowl counts, if the side and the nearest of the other one are such -/
noncomputable abbrev trm (s od : Int → Int) (side oth i : Int) : Int := b2i (sdS s (od i) = side ∧ (oth < 0 ∨ dm s (od i) < oth)) * (1 + s 64 * s (4 + 7 * od i + 3))
theorem trm_b {B : Int} {n : Nat} {s od : Int → Int} (h : INV B n s) {side oth i : Int} (h0 : 0 ≤ od i) (hn : od i < n) : 0 ≤ trm s od side oth i ∧ trm s od side oth i ≤ 2 := by
  have h64 := h.2.2.2.2.2.2.2.1
  have ht := inv_tou h
  have t : 1 ≤ 1 + s 64 * s (4 + 7 * od i + 3) ∧ 1 + s 64 * s (4 + 7 * od i + 3) ≤ 2 := by
    rcases h64 with e | e <;> rcases ht _ h0 hn with e2 | e2 <;> rw [e, e2] <;> omega
  by_cases q : sdS s (od i) = side ∧ (oth < 0 ∨ dm s (od i) < oth)
  · show 0 ≤ b2i _ * _ ∧ b2i _ * _ ≤ 2
    rw [b2i_p q]; omega
  · show 0 ≤ b2i _ * _ ∧ b2i _ * _ ≤ 2
    rw [b2i_n q]; omega
theorem score_m {N n : Nat} {B : Int} {th : Int} {s : Int → Int} {as_ : Int → Int} {ah : Int → Int} {sv : Int → Int} {sm : Int} {sl : Int → Int} {kp : Int} {bu : Int → Int} {le : Int} {st : Int} {od : Int → Int} {om : Int} {sp : Int} {wr_ : Int} {sg : Int} {on_ : Int} {tw : Int} {t3 : Int} {pl : Int} {fi : Int} {be : Int} {ha : Int64} (hN : 9 < N) (h : INV B n s) : f_X6_score N (MK (i32 th) (RZ s) (RZ as_) (RZ ah) (RZ sv) (i32 sm) (RZ sl) (i32 kp) (RZ bu) (i32 le) (i32 st) (RZ od) (i32 om) (i32 sp) (i32 wr_) (i32 sg) (i32 on_) (i32 tw) (i32 t3) (i32 pl) (i32 fi) (i32 be) ha) = some (i32 (sc s n), (MK (i32 th) (RZ s) (RZ as_) (RZ ah) (RZ sv) (i32 sm) (RZ sl) (i32 kp) (RZ bu) (i32 le) (i32 st) (RZ ((ordM s od n).2)) (i32 (((ordM s od n).1 : Nat))) (i32 sp) (i32 wr_) (i32 sg) (i32 on_) (i32 tw) (i32 t3) (i32 pl) (i32 fi) (i32 be) ha)) := by
  have O := srtF_spec (aM s) (dm s) od n
  have hn := h.2.1
  have h3 := h.1
  have hb := (inv_b31 h).1
  have h61 := h.2.2.2.2.1
  rw [score_st, lays_m hN h]
  generalize eo : (ordM s od n).2 = o
  generalize em : (ordM s od n).1 = m
  rw [show (srtF (aM s) (dm s) od n) = ordM s od n from rfl, eo, em] at O
  have eb := burnt_m (N := N) (n := n) (B := B) (th := th) (s := s) (as_ := as_) (ah := ah) (sv := sv) (sm := sm) (sl := sl) (kp := kp) (bu := bu) (le := le) (st := st) (od := o) (om := (m : Int)) (sp := sp) (wr_ := wr_) (sg := sg) (on_ := on_) (tw := tw) (t3 := t3) (pl := pl) (fi := fi) (be := be) (ha := ha) (by omega) h
  have mn : m ≤ n := O.1
  by_cases c1 : s 0 = 1
  · by_cases c2 : Burnt s n
    · have z : sc s n = 0 := by
        have := sc_abs s n
        rw [pts_n (fun q => q.2 c2)] at this
        omega
      rw [b2i_p c2] at eb
      rw [z]
      simp (maxSteps := 4000000) (disch := omega) only [jn, Option.bind_some, l32_0, l32_1, l32_2, l32_3, l32_4, l32_5, l32_6, l32_7, l32_8, l32_9, l32_10, l32_11, l32_12, l32_13, l32_14, l32_15, l32_16, l32_17, l32_18, l32_19, l32_20, l32_21, l32_22, l32_23, l32_24, l32_25, l32_26, l32_27, l32_28, l32_29, l32_30, l32_31, l32_32, l32_33, l32_34, l32_35, l32_36, l32_37, l32_38, l32_39, l32_40, l32_41, l32_42, l32_43, l32_44, l32_45, l32_46, l32_47, l32_48, l32_49, l32_50, l32_51, l32_52, l32_53, l32_54, l32_55, l32_56, l32_57, l32_58, l32_59, l32_60, l32_61, l32_62, l32_63, l32_64, l32_65, l32_66, l32_67, l32_68, l32_69, l32_70, l32_71, l32_83, l32_91, l32_98, l32_99, l32_100, l32_101, l32_102, l32_103, l32_106, l32_119, l32_126, l32_206, l32_515, l32_618, l32_850, l32_1000, l32_1022, l32_1023, l32_1050, l32_1239, l32_1260, i32_add, i32_sub, i32_mul, i32_neg, ↓reduceIte, ltT, ltF, leT, leF, eqT, eqF, gd_ix, i32_nat, RZ_at, upd_RZ, i32_ofNat, M_thrown_k, M_s_k, M_aside_k, M_ahead_k, M_saved_k, M_savedMany_k, M_slots_k, M_kept_k, M_buffer_k, M_length_k, M_strikes_k, M_order_k, M_orderMany_k, M_spot_k, M_isWrong_k, M_sign_k, M_one_k, M_two_k, M_three_k, M_played_k, M_isFine_k, M_bestPoints_k, M_hash_k, M_set_thrown_k, M_set_s_k, M_set_aside_k, M_set_ahead_k, M_set_saved_k, M_set_savedMany_k, M_set_slots_k, M_set_kept_k, M_set_buffer_k, M_set_length_k, M_set_strikes_k, M_set_order_k, M_set_orderMany_k, M_set_spot_k, M_set_isWrong_k, M_set_sign_k, M_set_one_k, M_set_two_k, M_set_three_k, M_set_played_k, M_set_isFine_k, M_set_bestPoints_k, M_set_hash_k, eb]
    · rw [b2i_n c2] at eb
      by_cases c3 : m = 0
      · have z : sc s n = 0 := by
          have := sc_abs s n
          rw [pts_none (fun b x y q => by
            obtain ⟨i, i0, im, -⟩ := O.2.2.2.2 b x y q.1
            omega)] at this
          omega
        rw [z]
        subst c3
        rw [nc0] at eb
        simp (maxSteps := 4000000) (disch := omega) only [jn, Option.bind_some, l32_0, l32_1, l32_2, l32_3, l32_4, l32_5, l32_6, l32_7, l32_8, l32_9, l32_10, l32_11, l32_12, l32_13, l32_14, l32_15, l32_16, l32_17, l32_18, l32_19, l32_20, l32_21, l32_22, l32_23, l32_24, l32_25, l32_26, l32_27, l32_28, l32_29, l32_30, l32_31, l32_32, l32_33, l32_34, l32_35, l32_36, l32_37, l32_38, l32_39, l32_40, l32_41, l32_42, l32_43, l32_44, l32_45, l32_46, l32_47, l32_48, l32_49, l32_50, l32_51, l32_52, l32_53, l32_54, l32_55, l32_56, l32_57, l32_58, l32_59, l32_60, l32_61, l32_62, l32_63, l32_64, l32_65, l32_66, l32_67, l32_68, l32_69, l32_70, l32_71, l32_83, l32_91, l32_98, l32_99, l32_100, l32_101, l32_102, l32_103, l32_106, l32_119, l32_126, l32_206, l32_515, l32_618, l32_850, l32_1000, l32_1022, l32_1023, l32_1050, l32_1239, l32_1260, i32_add, i32_sub, i32_mul, i32_neg, ↓reduceIte, ltT, ltF, leT, leF, eqT, eqF, gd_ix, i32_nat, RZ_at, upd_RZ, i32_ofNat, M_thrown_k, M_s_k, M_aside_k, M_ahead_k, M_saved_k, M_savedMany_k, M_slots_k, M_kept_k, M_buffer_k, M_length_k, M_strikes_k, M_order_k, M_orderMany_k, M_spot_k, M_isWrong_k, M_sign_k, M_one_k, M_two_k, M_three_k, M_played_k, M_isFine_k, M_bestPoints_k, M_hash_k, M_set_thrown_k, M_set_s_k, M_set_aside_k, M_set_ahead_k, M_set_saved_k, M_set_savedMany_k, M_set_slots_k, M_set_kept_k, M_set_buffer_k, M_set_length_k, M_set_strikes_k, M_set_order_k, M_set_orderMany_k, M_set_spot_k, M_set_isWrong_k, M_set_sign_k, M_set_one_k, M_set_two_k, M_set_three_k, M_set_played_k, M_set_isFine_k, M_set_bestPoints_k, M_set_hash_k, eb, nc0]
      · have O0 := O.2.2.2.1 0 (by omega) (by omega)
        have es := sideNow_m (N := N) (th := th) (s := s) (as_ := as_) (ah := ah) (sv := sv) (sm := sm) (sl := sl) (kp := kp) (bu := bu) (le := le) (st := st) (od := o) (om := (m : Int)) (sp := sp) (wr_ := wr_) (sg := sg) (on_ := on_) (tw := tw) (t3 := t3) (pl := pl) (fi := fi) (be := be) (ha := ha) (k := o 0) h61 (by omega) (by omega)
        simp (maxSteps := 4000000) (disch := omega) only [jn, Option.bind_some, l32_0, l32_1, l32_2, l32_3, l32_4, l32_5, l32_6, l32_7, l32_8, l32_9, l32_10, l32_11, l32_12, l32_13, l32_14, l32_15, l32_16, l32_17, l32_18, l32_19, l32_20, l32_21, l32_22, l32_23, l32_24, l32_25, l32_26, l32_27, l32_28, l32_29, l32_30, l32_31, l32_32, l32_33, l32_34, l32_35, l32_36, l32_37, l32_38, l32_39, l32_40, l32_41, l32_42, l32_43, l32_44, l32_45, l32_46, l32_47, l32_48, l32_49, l32_50, l32_51, l32_52, l32_53, l32_54, l32_55, l32_56, l32_57, l32_58, l32_59, l32_60, l32_61, l32_62, l32_63, l32_64, l32_65, l32_66, l32_67, l32_68, l32_69, l32_70, l32_71, l32_83, l32_91, l32_98, l32_99, l32_100, l32_101, l32_102, l32_103, l32_106, l32_119, l32_126, l32_206, l32_515, l32_618, l32_850, l32_1000, l32_1022, l32_1023, l32_1050, l32_1239, l32_1260, i32_add, i32_sub, i32_mul, i32_neg, ↓reduceIte, ltT, ltF, leT, leF, eqT, eqF, gd_ix, i32_nat, RZ_at, upd_RZ, i32_ofNat, M_thrown_k, M_s_k, M_aside_k, M_ahead_k, M_saved_k, M_savedMany_k, M_slots_k, M_kept_k, M_buffer_k, M_length_k, M_strikes_k, M_order_k, M_orderMany_k, M_spot_k, M_isWrong_k, M_sign_k, M_one_k, M_two_k, M_three_k, M_played_k, M_isFine_k, M_bestPoints_k, M_hash_k, M_set_thrown_k, M_set_s_k, M_set_aside_k, M_set_ahead_k, M_set_saved_k, M_set_savedMany_k, M_set_slots_k, M_set_kept_k, M_set_buffer_k, M_set_length_k, M_set_strikes_k, M_set_order_k, M_set_orderMany_k, M_set_spot_k, M_set_isWrong_k, M_set_sign_k, M_set_one_k, M_set_two_k, M_set_three_k, M_set_played_k, M_set_isFine_k, M_set_bestPoints_k, M_set_hash_k, eb, es]
        have hd : ∀ i, 0 ≤ i → i < (m : Int) → 0 ≤ dm s (o i) ∧ dm s (o i) ≤ 10000 := fun i x y => by
          have := O.2.2.2.1 i x y
          exact dm_b h this.1 this.2.1 this.2.2
        have sd01 : ∀ k, sdS s k = 0 ∨ sdS s k = 1 := fun k => by
          show (s 61 + k) % 2 = 0 ∨ (s 61 + k) % 2 = 1
          omega
        show lpN (st1 N _ (i32 (sdS s (o 0)))) N _ = _
        have eside := sc_ord h ⟨c1, c2⟩ O (by omega)
        have epts := pts_ord h ⟨c1, c2⟩ O (by omega)
        have s0 := sd01 (o 0)
        generalize sdS s (o 0) = side at eside epts s0 ⊢
        have othb : ∀ j : Nat, j ≤ m → -1 ≤ othF (sdS s) (dm s) o side j ∧ othF (sdS s) (dm s) o side j ≤ 10000 := fun j hj => by
          rcases othF_spec (sd := sdS s) (d := dm s) (od := o) (side := side) (m := j) (fun i x y => (hd i x (by omega)).1) with ⟨e, -⟩ | ⟨i, x, y, -, e, -⟩
          · rw [e]; omega
          · have := hd i x (by omega)
            rw [e]; omega
        refine lp_for0 (fun j => (i32 (othF (sdS s) (dm s) o side j), i32 j)) m N rfl (by omega) (fun j hj k => ?_) (fun k => ?_)
        · have oj := O.2.2.2.1 j (by omega) (by omega)
          have bj := othb j (by omega)
          have dj := hd j (by omega) (by omega)
          have sj := sd01 (o j)
          have esj := sideNow_m (N := N) (th := th) (s := s) (as_ := as_) (ah := ah) (sv := sv) (sm := sm) (sl := sl) (kp := kp) (bu := bu) (le := le) (st := st) (od := o) (om := (m : Int)) (sp := sp) (wr_ := wr_) (sg := sg) (on_ := on_) (tw := tw) (t3 := t3) (pl := pl) (fi := fi) (be := be) (ha := ha) (k := o j) h61 (by omega) (by omega)
          rw [show (s 61 + o j) % 2 = sdS s (o j) from rfl] at esj
          rw [st1_st]
          by_cases q1 : othF (sdS s) (dm s) o side j < 0
          · by_cases q2 : sdS s (o j) = side
            · rw [othF_n (i := j) (fun x => x.2 q2)]
              simp (maxSteps := 4000000) (disch := omega) only [jn, Option.bind_some, l32_0, l32_1, l32_2, l32_3, l32_4, l32_5, l32_6, l32_7, l32_8, l32_9, l32_10, l32_11, l32_12, l32_13, l32_14, l32_15, l32_16, l32_17, l32_18, l32_19, l32_20, l32_21, l32_22, l32_23, l32_24, l32_25, l32_26, l32_27, l32_28, l32_29, l32_30, l32_31, l32_32, l32_33, l32_34, l32_35, l32_36, l32_37, l32_38, l32_39, l32_40, l32_41, l32_42, l32_43, l32_44, l32_45, l32_46, l32_47, l32_48, l32_49, l32_50, l32_51, l32_52, l32_53, l32_54, l32_55, l32_56, l32_57, l32_58, l32_59, l32_60, l32_61, l32_62, l32_63, l32_64, l32_65, l32_66, l32_67, l32_68, l32_69, l32_70, l32_71, l32_83, l32_91, l32_98, l32_99, l32_100, l32_101, l32_102, l32_103, l32_106, l32_119, l32_126, l32_206, l32_515, l32_618, l32_850, l32_1000, l32_1022, l32_1023, l32_1050, l32_1239, l32_1260, i32_add, i32_sub, i32_mul, i32_neg, ↓reduceIte, ltT, ltF, leT, leF, eqT, eqF, gd_ix, i32_nat, RZ_at, upd_RZ, i32_ofNat, M_thrown_k, M_s_k, M_aside_k, M_ahead_k, M_saved_k, M_savedMany_k, M_slots_k, M_kept_k, M_buffer_k, M_length_k, M_strikes_k, M_order_k, M_orderMany_k, M_spot_k, M_isWrong_k, M_sign_k, M_one_k, M_two_k, M_three_k, M_played_k, M_isFine_k, M_bestPoints_k, M_hash_k, M_set_thrown_k, M_set_s_k, M_set_aside_k, M_set_ahead_k, M_set_saved_k, M_set_savedMany_k, M_set_slots_k, M_set_kept_k, M_set_buffer_k, M_set_length_k, M_set_strikes_k, M_set_order_k, M_set_orderMany_k, M_set_spot_k, M_set_isWrong_k, M_set_sign_k, M_set_one_k, M_set_two_k, M_set_three_k, M_set_played_k, M_set_isFine_k, M_set_bestPoints_k, M_set_hash_k, esj, q2, ncS]
            · rw [othF_p q1 q2]
              simp (maxSteps := 4000000) (disch := omega) only [jn, Option.bind_some, l32_0, l32_1, l32_2, l32_3, l32_4, l32_5, l32_6, l32_7, l32_8, l32_9, l32_10, l32_11, l32_12, l32_13, l32_14, l32_15, l32_16, l32_17, l32_18, l32_19, l32_20, l32_21, l32_22, l32_23, l32_24, l32_25, l32_26, l32_27, l32_28, l32_29, l32_30, l32_31, l32_32, l32_33, l32_34, l32_35, l32_36, l32_37, l32_38, l32_39, l32_40, l32_41, l32_42, l32_43, l32_44, l32_45, l32_46, l32_47, l32_48, l32_49, l32_50, l32_51, l32_52, l32_53, l32_54, l32_55, l32_56, l32_57, l32_58, l32_59, l32_60, l32_61, l32_62, l32_63, l32_64, l32_65, l32_66, l32_67, l32_68, l32_69, l32_70, l32_71, l32_83, l32_91, l32_98, l32_99, l32_100, l32_101, l32_102, l32_103, l32_106, l32_119, l32_126, l32_206, l32_515, l32_618, l32_850, l32_1000, l32_1022, l32_1023, l32_1050, l32_1239, l32_1260, i32_add, i32_sub, i32_mul, i32_neg, ↓reduceIte, ltT, ltF, leT, leF, eqT, eqF, gd_ix, i32_nat, RZ_at, upd_RZ, i32_ofNat, M_thrown_k, M_s_k, M_aside_k, M_ahead_k, M_saved_k, M_savedMany_k, M_slots_k, M_kept_k, M_buffer_k, M_length_k, M_strikes_k, M_order_k, M_orderMany_k, M_spot_k, M_isWrong_k, M_sign_k, M_one_k, M_two_k, M_three_k, M_played_k, M_isFine_k, M_bestPoints_k, M_hash_k, M_set_thrown_k, M_set_s_k, M_set_aside_k, M_set_ahead_k, M_set_saved_k, M_set_savedMany_k, M_set_slots_k, M_set_kept_k, M_set_buffer_k, M_set_length_k, M_set_strikes_k, M_set_order_k, M_set_orderMany_k, M_set_spot_k, M_set_isWrong_k, M_set_sign_k, M_set_one_k, M_set_two_k, M_set_three_k, M_set_played_k, M_set_isFine_k, M_set_bestPoints_k, M_set_hash_k, esj, distance_m, ncS]
          · rw [othF_n (i := j) (fun x => q1 x.1)]
            simp (maxSteps := 4000000) (disch := omega) only [jn, Option.bind_some, l32_0, l32_1, l32_2, l32_3, l32_4, l32_5, l32_6, l32_7, l32_8, l32_9, l32_10, l32_11, l32_12, l32_13, l32_14, l32_15, l32_16, l32_17, l32_18, l32_19, l32_20, l32_21, l32_22, l32_23, l32_24, l32_25, l32_26, l32_27, l32_28, l32_29, l32_30, l32_31, l32_32, l32_33, l32_34, l32_35, l32_36, l32_37, l32_38, l32_39, l32_40, l32_41, l32_42, l32_43, l32_44, l32_45, l32_46, l32_47, l32_48, l32_49, l32_50, l32_51, l32_52, l32_53, l32_54, l32_55, l32_56, l32_57, l32_58, l32_59, l32_60, l32_61, l32_62, l32_63, l32_64, l32_65, l32_66, l32_67, l32_68, l32_69, l32_70, l32_71, l32_83, l32_91, l32_98, l32_99, l32_100, l32_101, l32_102, l32_103, l32_106, l32_119, l32_126, l32_206, l32_515, l32_618, l32_850, l32_1000, l32_1022, l32_1023, l32_1050, l32_1239, l32_1260, i32_add, i32_sub, i32_mul, i32_neg, ↓reduceIte, ltT, ltF, leT, leF, eqT, eqF, gd_ix, i32_nat, RZ_at, upd_RZ, i32_ofNat, M_thrown_k, M_s_k, M_aside_k, M_ahead_k, M_saved_k, M_savedMany_k, M_slots_k, M_kept_k, M_buffer_k, M_length_k, M_strikes_k, M_order_k, M_orderMany_k, M_spot_k, M_isWrong_k, M_sign_k, M_one_k, M_two_k, M_three_k, M_played_k, M_isFine_k, M_bestPoints_k, M_hash_k, M_set_thrown_k, M_set_s_k, M_set_aside_k, M_set_ahead_k, M_set_saved_k, M_set_savedMany_k, M_set_slots_k, M_set_kept_k, M_set_buffer_k, M_set_length_k, M_set_strikes_k, M_set_order_k, M_set_orderMany_k, M_set_spot_k, M_set_isWrong_k, M_set_sign_k, M_set_one_k, M_set_two_k, M_set_three_k, M_set_played_k, M_set_isFine_k, M_set_bestPoints_k, M_set_hash_k, ncS]
        · rw [st1_st]
          simp (maxSteps := 4000000) (disch := omega) only [jn, Option.bind_some, l32_0, l32_1, l32_2, l32_3, l32_4, l32_5, l32_6, l32_7, l32_8, l32_9, l32_10, l32_11, l32_12, l32_13, l32_14, l32_15, l32_16, l32_17, l32_18, l32_19, l32_20, l32_21, l32_22, l32_23, l32_24, l32_25, l32_26, l32_27, l32_28, l32_29, l32_30, l32_31, l32_32, l32_33, l32_34, l32_35, l32_36, l32_37, l32_38, l32_39, l32_40, l32_41, l32_42, l32_43, l32_44, l32_45, l32_46, l32_47, l32_48, l32_49, l32_50, l32_51, l32_52, l32_53, l32_54, l32_55, l32_56, l32_57, l32_58, l32_59, l32_60, l32_61, l32_62, l32_63, l32_64, l32_65, l32_66, l32_67, l32_68, l32_69, l32_70, l32_71, l32_83, l32_91, l32_98, l32_99, l32_100, l32_101, l32_102, l32_103, l32_106, l32_119, l32_126, l32_206, l32_515, l32_618, l32_850, l32_1000, l32_1022, l32_1023, l32_1050, l32_1239, l32_1260, i32_add, i32_sub, i32_mul, i32_neg, ↓reduceIte, ltT, ltF, leT, leF, eqT, eqF, gd_ix, i32_nat, RZ_at, upd_RZ, i32_ofNat, M_thrown_k, M_s_k, M_aside_k, M_ahead_k, M_saved_k, M_savedMany_k, M_slots_k, M_kept_k, M_buffer_k, M_length_k, M_strikes_k, M_order_k, M_orderMany_k, M_spot_k, M_isWrong_k, M_sign_k, M_one_k, M_two_k, M_three_k, M_played_k, M_isFine_k, M_bestPoints_k, M_hash_k, M_set_thrown_k, M_set_s_k, M_set_aside_k, M_set_ahead_k, M_set_saved_k, M_set_savedMany_k, M_set_slots_k, M_set_kept_k, M_set_buffer_k, M_set_length_k, M_set_strikes_k, M_set_order_k, M_set_orderMany_k, M_set_spot_k, M_set_isWrong_k, M_set_sign_k, M_set_one_k, M_set_two_k, M_set_three_k, M_set_played_k, M_set_isFine_k, M_set_bestPoints_k, M_set_hash_k]
          have bo := othb m (Nat.le_refl _)
          generalize othF (sdS s) (dm s) o side m = oth at bo epts ⊢
          have fin : sc s n = if side = 0 then sumZ (trm s o side oth) m else -sumZ (trm s o side oth) m := by
            rw [eside, epts]
          refine lp_for0 (fun j => (i32 (sumZ (trm s o side oth) j), i32 j)) m N rfl (by omega) (fun j hj k => ?_) (fun k => ?_)
          · have oj := O.2.2.2.1 j (by omega) (by omega)
            have dj := hd j (by omega) (by omega)
            have sj := sd01 (o j)
            have esj := sideNow_m (N := N) (th := th) (s := s) (as_ := as_) (ah := ah) (sv := sv) (sm := sm) (sl := sl) (kp := kp) (bu := bu) (le := le) (st := st) (od := o) (om := (m : Int)) (sp := sp) (wr_ := wr_) (sg := sg) (on_ := on_) (tw := tw) (t3 := t3) (pl := pl) (fi := fi) (be := be) (ha := ha) (k := o j) h61 (by omega) (by omega)
            rw [show (s 61 + o j) % 2 = sdS s (o j) from rfl] at esj
            show _ = k (i32 (sumZ (trm s o side oth) j + b2i (sdS s (o j) = side ∧ (oth < 0 ∨ dm s (o j) < oth)) * (1 + s 64 * s (4 + 7 * o j + 3))), i32 ((j + 1 : Nat) : Int))
            unfold st2
            by_cases q1 : sdS s (o j) = side
            · by_cases q2 : oth < 0
              · rw [b2i_p ⟨q1, Or.inl q2⟩, Int.one_mul]
                simp (maxSteps := 4000000) (disch := omega) only [jn, Option.bind_some, l32_0, l32_1, l32_2, l32_3, l32_4, l32_5, l32_6, l32_7, l32_8, l32_9, l32_10, l32_11, l32_12, l32_13, l32_14, l32_15, l32_16, l32_17, l32_18, l32_19, l32_20, l32_21, l32_22, l32_23, l32_24, l32_25, l32_26, l32_27, l32_28, l32_29, l32_30, l32_31, l32_32, l32_33, l32_34, l32_35, l32_36, l32_37, l32_38, l32_39, l32_40, l32_41, l32_42, l32_43, l32_44, l32_45, l32_46, l32_47, l32_48, l32_49, l32_50, l32_51, l32_52, l32_53, l32_54, l32_55, l32_56, l32_57, l32_58, l32_59, l32_60, l32_61, l32_62, l32_63, l32_64, l32_65, l32_66, l32_67, l32_68, l32_69, l32_70, l32_71, l32_83, l32_91, l32_98, l32_99, l32_100, l32_101, l32_102, l32_103, l32_106, l32_119, l32_126, l32_206, l32_515, l32_618, l32_850, l32_1000, l32_1022, l32_1023, l32_1050, l32_1239, l32_1260, i32_add, i32_sub, i32_mul, i32_neg, ↓reduceIte, ltT, ltF, leT, leF, eqT, eqF, gd_ix, i32_nat, RZ_at, upd_RZ, i32_ofNat, M_thrown_k, M_s_k, M_aside_k, M_ahead_k, M_saved_k, M_savedMany_k, M_slots_k, M_kept_k, M_buffer_k, M_length_k, M_strikes_k, M_order_k, M_orderMany_k, M_spot_k, M_isWrong_k, M_sign_k, M_one_k, M_two_k, M_three_k, M_played_k, M_isFine_k, M_bestPoints_k, M_hash_k, M_set_thrown_k, M_set_s_k, M_set_aside_k, M_set_ahead_k, M_set_saved_k, M_set_savedMany_k, M_set_slots_k, M_set_kept_k, M_set_buffer_k, M_set_length_k, M_set_strikes_k, M_set_order_k, M_set_orderMany_k, M_set_spot_k, M_set_isWrong_k, M_set_sign_k, M_set_one_k, M_set_two_k, M_set_three_k, M_set_played_k, M_set_isFine_k, M_set_bestPoints_k, M_set_hash_k, esj, q1, of_ok, ncS]
              · by_cases q3 : dm s (o j) < oth
                · rw [b2i_p ⟨q1, Or.inr q3⟩, Int.one_mul]
                  simp (maxSteps := 4000000) (disch := omega) only [jn, Option.bind_some, l32_0, l32_1, l32_2, l32_3, l32_4, l32_5, l32_6, l32_7, l32_8, l32_9, l32_10, l32_11, l32_12, l32_13, l32_14, l32_15, l32_16, l32_17, l32_18, l32_19, l32_20, l32_21, l32_22, l32_23, l32_24, l32_25, l32_26, l32_27, l32_28, l32_29, l32_30, l32_31, l32_32, l32_33, l32_34, l32_35, l32_36, l32_37, l32_38, l32_39, l32_40, l32_41, l32_42, l32_43, l32_44, l32_45, l32_46, l32_47, l32_48, l32_49, l32_50, l32_51, l32_52, l32_53, l32_54, l32_55, l32_56, l32_57, l32_58, l32_59, l32_60, l32_61, l32_62, l32_63, l32_64, l32_65, l32_66, l32_67, l32_68, l32_69, l32_70, l32_71, l32_83, l32_91, l32_98, l32_99, l32_100, l32_101, l32_102, l32_103, l32_106, l32_119, l32_126, l32_206, l32_515, l32_618, l32_850, l32_1000, l32_1022, l32_1023, l32_1050, l32_1239, l32_1260, i32_add, i32_sub, i32_mul, i32_neg, ↓reduceIte, ltT, ltF, leT, leF, eqT, eqF, gd_ix, i32_nat, RZ_at, upd_RZ, i32_ofNat, M_thrown_k, M_s_k, M_aside_k, M_ahead_k, M_saved_k, M_savedMany_k, M_slots_k, M_kept_k, M_buffer_k, M_length_k, M_strikes_k, M_order_k, M_orderMany_k, M_spot_k, M_isWrong_k, M_sign_k, M_one_k, M_two_k, M_three_k, M_played_k, M_isFine_k, M_bestPoints_k, M_hash_k, M_set_thrown_k, M_set_s_k, M_set_aside_k, M_set_ahead_k, M_set_saved_k, M_set_savedMany_k, M_set_slots_k, M_set_kept_k, M_set_buffer_k, M_set_length_k, M_set_strikes_k, M_set_order_k, M_set_orderMany_k, M_set_spot_k, M_set_isWrong_k, M_set_sign_k, M_set_one_k, M_set_two_k, M_set_three_k, M_set_played_k, M_set_isFine_k, M_set_bestPoints_k, M_set_hash_k, esj, q1, of_ok, distance_m, ncS]
                · rw [b2i_n (fun x => x.2.elim q2 q3), Int.zero_mul]
                  simp (maxSteps := 4000000) (disch := omega) only [jn, Option.bind_some, l32_0, l32_1, l32_2, l32_3, l32_4, l32_5, l32_6, l32_7, l32_8, l32_9, l32_10, l32_11, l32_12, l32_13, l32_14, l32_15, l32_16, l32_17, l32_18, l32_19, l32_20, l32_21, l32_22, l32_23, l32_24, l32_25, l32_26, l32_27, l32_28, l32_29, l32_30, l32_31, l32_32, l32_33, l32_34, l32_35, l32_36, l32_37, l32_38, l32_39, l32_40, l32_41, l32_42, l32_43, l32_44, l32_45, l32_46, l32_47, l32_48, l32_49, l32_50, l32_51, l32_52, l32_53, l32_54, l32_55, l32_56, l32_57, l32_58, l32_59, l32_60, l32_61, l32_62, l32_63, l32_64, l32_65, l32_66, l32_67, l32_68, l32_69, l32_70, l32_71, l32_83, l32_91, l32_98, l32_99, l32_100, l32_101, l32_102, l32_103, l32_106, l32_119, l32_126, l32_206, l32_515, l32_618, l32_850, l32_1000, l32_1022, l32_1023, l32_1050, l32_1239, l32_1260, i32_add, i32_sub, i32_mul, i32_neg, ↓reduceIte, ltT, ltF, leT, leF, eqT, eqF, gd_ix, i32_nat, RZ_at, upd_RZ, i32_ofNat, M_thrown_k, M_s_k, M_aside_k, M_ahead_k, M_saved_k, M_savedMany_k, M_slots_k, M_kept_k, M_buffer_k, M_length_k, M_strikes_k, M_order_k, M_orderMany_k, M_spot_k, M_isWrong_k, M_sign_k, M_one_k, M_two_k, M_three_k, M_played_k, M_isFine_k, M_bestPoints_k, M_hash_k, M_set_thrown_k, M_set_s_k, M_set_aside_k, M_set_ahead_k, M_set_saved_k, M_set_savedMany_k, M_set_slots_k, M_set_kept_k, M_set_buffer_k, M_set_length_k, M_set_strikes_k, M_set_order_k, M_set_orderMany_k, M_set_spot_k, M_set_isWrong_k, M_set_sign_k, M_set_one_k, M_set_two_k, M_set_three_k, M_set_played_k, M_set_isFine_k, M_set_bestPoints_k, M_set_hash_k, esj, q1, of_ok, distance_m, ncS]
            · rw [b2i_n (fun x => q1 x.1), Int.zero_mul]
              simp (maxSteps := 4000000) (disch := omega) only [jn, Option.bind_some, l32_0, l32_1, l32_2, l32_3, l32_4, l32_5, l32_6, l32_7, l32_8, l32_9, l32_10, l32_11, l32_12, l32_13, l32_14, l32_15, l32_16, l32_17, l32_18, l32_19, l32_20, l32_21, l32_22, l32_23, l32_24, l32_25, l32_26, l32_27, l32_28, l32_29, l32_30, l32_31, l32_32, l32_33, l32_34, l32_35, l32_36, l32_37, l32_38, l32_39, l32_40, l32_41, l32_42, l32_43, l32_44, l32_45, l32_46, l32_47, l32_48, l32_49, l32_50, l32_51, l32_52, l32_53, l32_54, l32_55, l32_56, l32_57, l32_58, l32_59, l32_60, l32_61, l32_62, l32_63, l32_64, l32_65, l32_66, l32_67, l32_68, l32_69, l32_70, l32_71, l32_83, l32_91, l32_98, l32_99, l32_100, l32_101, l32_102, l32_103, l32_106, l32_119, l32_126, l32_206, l32_515, l32_618, l32_850, l32_1000, l32_1022, l32_1023, l32_1050, l32_1239, l32_1260, i32_add, i32_sub, i32_mul, i32_neg, ↓reduceIte, ltT, ltF, leT, leF, eqT, eqF, gd_ix, i32_nat, RZ_at, upd_RZ, i32_ofNat, M_thrown_k, M_s_k, M_aside_k, M_ahead_k, M_saved_k, M_savedMany_k, M_slots_k, M_kept_k, M_buffer_k, M_length_k, M_strikes_k, M_order_k, M_orderMany_k, M_spot_k, M_isWrong_k, M_sign_k, M_one_k, M_two_k, M_three_k, M_played_k, M_isFine_k, M_bestPoints_k, M_hash_k, M_set_thrown_k, M_set_s_k, M_set_aside_k, M_set_ahead_k, M_set_saved_k, M_set_savedMany_k, M_set_slots_k, M_set_kept_k, M_set_buffer_k, M_set_length_k, M_set_strikes_k, M_set_order_k, M_set_orderMany_k, M_set_spot_k, M_set_isWrong_k, M_set_sign_k, M_set_one_k, M_set_two_k, M_set_three_k, M_set_played_k, M_set_isFine_k, M_set_bestPoints_k, M_set_hash_k, esj, ncS]
          · have sb := sumZ_b (f := trm s o side oth) (c := 2) (by omega) (n := m) (fun k x y => by
              have := O.2.2.2.1 k x y
              exact trm_b h this.1 this.2.1)
            unfold st2
            by_cases z : side = 0
            · rw [if_pos z] at fin
              rw [fin]
              simp (maxSteps := 4000000) (disch := omega) only [jn, Option.bind_some, l32_0, l32_1, l32_2, l32_3, l32_4, l32_5, l32_6, l32_7, l32_8, l32_9, l32_10, l32_11, l32_12, l32_13, l32_14, l32_15, l32_16, l32_17, l32_18, l32_19, l32_20, l32_21, l32_22, l32_23, l32_24, l32_25, l32_26, l32_27, l32_28, l32_29, l32_30, l32_31, l32_32, l32_33, l32_34, l32_35, l32_36, l32_37, l32_38, l32_39, l32_40, l32_41, l32_42, l32_43, l32_44, l32_45, l32_46, l32_47, l32_48, l32_49, l32_50, l32_51, l32_52, l32_53, l32_54, l32_55, l32_56, l32_57, l32_58, l32_59, l32_60, l32_61, l32_62, l32_63, l32_64, l32_65, l32_66, l32_67, l32_68, l32_69, l32_70, l32_71, l32_83, l32_91, l32_98, l32_99, l32_100, l32_101, l32_102, l32_103, l32_106, l32_119, l32_126, l32_206, l32_515, l32_618, l32_850, l32_1000, l32_1022, l32_1023, l32_1050, l32_1239, l32_1260, i32_add, i32_sub, i32_mul, i32_neg, ↓reduceIte, ltT, ltF, leT, leF, eqT, eqF, gd_ix, i32_nat, RZ_at, upd_RZ, i32_ofNat, M_thrown_k, M_s_k, M_aside_k, M_ahead_k, M_saved_k, M_savedMany_k, M_slots_k, M_kept_k, M_buffer_k, M_length_k, M_strikes_k, M_order_k, M_orderMany_k, M_spot_k, M_isWrong_k, M_sign_k, M_one_k, M_two_k, M_three_k, M_played_k, M_isFine_k, M_bestPoints_k, M_hash_k, M_set_thrown_k, M_set_s_k, M_set_aside_k, M_set_ahead_k, M_set_saved_k, M_set_savedMany_k, M_set_slots_k, M_set_kept_k, M_set_buffer_k, M_set_length_k, M_set_strikes_k, M_set_order_k, M_set_orderMany_k, M_set_spot_k, M_set_isWrong_k, M_set_sign_k, M_set_one_k, M_set_two_k, M_set_three_k, M_set_played_k, M_set_isFine_k, M_set_bestPoints_k, M_set_hash_k]
            · rw [if_neg z] at fin
              rw [fin]
              simp (maxSteps := 4000000) (disch := omega) only [jn, Option.bind_some, l32_0, l32_1, l32_2, l32_3, l32_4, l32_5, l32_6, l32_7, l32_8, l32_9, l32_10, l32_11, l32_12, l32_13, l32_14, l32_15, l32_16, l32_17, l32_18, l32_19, l32_20, l32_21, l32_22, l32_23, l32_24, l32_25, l32_26, l32_27, l32_28, l32_29, l32_30, l32_31, l32_32, l32_33, l32_34, l32_35, l32_36, l32_37, l32_38, l32_39, l32_40, l32_41, l32_42, l32_43, l32_44, l32_45, l32_46, l32_47, l32_48, l32_49, l32_50, l32_51, l32_52, l32_53, l32_54, l32_55, l32_56, l32_57, l32_58, l32_59, l32_60, l32_61, l32_62, l32_63, l32_64, l32_65, l32_66, l32_67, l32_68, l32_69, l32_70, l32_71, l32_83, l32_91, l32_98, l32_99, l32_100, l32_101, l32_102, l32_103, l32_106, l32_119, l32_126, l32_206, l32_515, l32_618, l32_850, l32_1000, l32_1022, l32_1023, l32_1050, l32_1239, l32_1260, i32_add, i32_sub, i32_mul, i32_neg, ↓reduceIte, ltT, ltF, leT, leF, eqT, eqF, gd_ix, i32_nat, RZ_at, upd_RZ, i32_ofNat, M_thrown_k, M_s_k, M_aside_k, M_ahead_k, M_saved_k, M_savedMany_k, M_slots_k, M_kept_k, M_buffer_k, M_length_k, M_strikes_k, M_order_k, M_orderMany_k, M_spot_k, M_isWrong_k, M_sign_k, M_one_k, M_two_k, M_three_k, M_played_k, M_isFine_k, M_bestPoints_k, M_hash_k, M_set_thrown_k, M_set_s_k, M_set_aside_k, M_set_ahead_k, M_set_saved_k, M_set_savedMany_k, M_set_slots_k, M_set_kept_k, M_set_buffer_k, M_set_length_k, M_set_strikes_k, M_set_order_k, M_set_orderMany_k, M_set_spot_k, M_set_isWrong_k, M_set_sign_k, M_set_one_k, M_set_two_k, M_set_three_k, M_set_played_k, M_set_isFine_k, M_set_bestPoints_k, M_set_hash_k]
  · have z : sc s n = 0 := by
      have := sc_abs s n
      rw [pts_n (fun q => c1 q.1)] at this
      omega
    rw [z]
    simp (maxSteps := 4000000) (disch := omega) only [jn, Option.bind_some, l32_0, l32_1, l32_2, l32_3, l32_4, l32_5, l32_6, l32_7, l32_8, l32_9, l32_10, l32_11, l32_12, l32_13, l32_14, l32_15, l32_16, l32_17, l32_18, l32_19, l32_20, l32_21, l32_22, l32_23, l32_24, l32_25, l32_26, l32_27, l32_28, l32_29, l32_30, l32_31, l32_32, l32_33, l32_34, l32_35, l32_36, l32_37, l32_38, l32_39, l32_40, l32_41, l32_42, l32_43, l32_44, l32_45, l32_46, l32_47, l32_48, l32_49, l32_50, l32_51, l32_52, l32_53, l32_54, l32_55, l32_56, l32_57, l32_58, l32_59, l32_60, l32_61, l32_62, l32_63, l32_64, l32_65, l32_66, l32_67, l32_68, l32_69, l32_70, l32_71, l32_83, l32_91, l32_98, l32_99, l32_100, l32_101, l32_102, l32_103, l32_106, l32_119, l32_126, l32_206, l32_515, l32_618, l32_850, l32_1000, l32_1022, l32_1023, l32_1050, l32_1239, l32_1260, i32_add, i32_sub, i32_mul, i32_neg, ↓reduceIte, ltT, ltF, leT, leF, eqT, eqF, gd_ix, i32_nat, RZ_at, upd_RZ, i32_ofNat, M_thrown_k, M_s_k, M_aside_k, M_ahead_k, M_saved_k, M_savedMany_k, M_slots_k, M_kept_k, M_buffer_k, M_length_k, M_strikes_k, M_order_k, M_orderMany_k, M_spot_k, M_isWrong_k, M_sign_k, M_one_k, M_two_k, M_three_k, M_played_k, M_isFine_k, M_bestPoints_k, M_hash_k, M_set_thrown_k, M_set_s_k, M_set_aside_k, M_set_ahead_k, M_set_saved_k, M_set_savedMany_k, M_set_slots_k, M_set_kept_k, M_set_buffer_k, M_set_length_k, M_set_strikes_k, M_set_order_k, M_set_orderMany_k, M_set_spot_k, M_set_isWrong_k, M_set_sign_k, M_set_one_k, M_set_two_k, M_set_three_k, M_set_played_k, M_set_isFine_k, M_set_bestPoints_k, M_set_hash_k]
-- the class's
theorem rel_aM {B : Int} {s p sd ai we bi to : Int → Int} {n : Nat} (h : INV B n s) (r : relG s p sd ai we bi to n) : ∀ k : Int, 0 ≤ k → k < n → (p k ≠ -1 ↔ aM s k) ∧ (p k ≠ -1 → dst (p k) (p 8) = dm s k) ∧ sd k = sdS s k := fun k x y => by
  have hn := h.2.1
  have g : GEO s n := by
    rcases h.2.2.1 with q | q
    · omega
    · exact q.1
  have q := g.2.2.2.2.1 k x y
  have e : p k ≠ -1 ↔ aM s k := by
    rw [r.1 k x (by omega)]
    by_cases c : s (4 + 7 * k + 0) = 2
    · rw [Pl_dead (by omega) c]
      exact ⟨fun z => absurd rfl z, fun z => absurd c z⟩
    · rw [Pl_live x (by rw [g.2.1]; exact y) (by omega) c]
      exact ⟨fun _ => c, fun _ => by omega⟩
  exact ⟨e, fun z => by rw [r.1 k x (by omega), r.1 8 (by omega) (by omega), dm_dst g x y hn (e.mp z)], (r.2.1 k x y).1⟩
theorem near_x {B : Int} {s p sd ai we bi to : Int → Int} {n : Nat} (h : INV B n s) (r : relG s p sd ai we bi to n) {b : Int} (h0 : 0 ≤ b) (hn : b < n) : Near p sd n b ↔ NearM s n b := nearC_congr (c := fun b => p b ≠ -1) (d := fun b => dst (p b) (p 8)) (sd := sd) (rel_aM h r) h0 hn
theorem paired_x {N n : Nat} {B z : Int} {s : Int → Int} {S : SV} (hN : 9 < N) (h : INV B n s) (hS : shows s n z S) : f_X0_pairedPoints N (S_green S) (S_touchersTwice S) = some (i32 (pts s n)) := by
  obtain ⟨p, sd, ai, we, bi, to, od, po, la, eb, rfl, rG, -⟩ := hS
  obtain ⟨f1, f2, f3, f4, f5, f6⟩ := rel_facts h rG
  have h64 := h.2.2.2.2.2.2.2.1
  simp only [S_green_k, S_score_k, S_bowlsEach_k, S_blowing_k, S_jackGoesBack_k, S_touchersTwice_k, S_set_green_k, S_set_score_k, S_set_bowlsEach_k, S_set_blowing_k, S_set_jackGoesBack_k, S_set_touchersTwice_k]
  rw [x0_pairedPoints hN h.2.1 f1 f2 f3 f4 h64]
  congr 2
  have e : sumZ (fun b => b2i (Near p sd n b) * (1 + s 64 * to b)) n = sumZ (fun b => b2i (NearM s n b) * (1 + s 64 * s (4 + 7 * b + 3))) n := sumZ_congr fun k x y => by
    show b2i (Near p sd n k) * _ = _
    rw [b2i_congr (near_x h rG x y), rG.2.2 k x (by have := h.2.1; omega), if_pos y]
  rw [e]
  by_cases c : Lost p to
  · rw [b2i_p c, if_neg (by omega), pts_n (fun q => q.2 (f5.mp c))]
  · rw [b2i_n c, if_pos rfl]
    by_cases c0 : s 0 = 1
    · rw [pts_p ⟨c0, fun q => c (f5.mpr q)⟩]
    · rw [pts_n (fun q => c0 q.1)]
      have n0 : n = 0 := by
        rcases h.2.2.1 with q | q
        · exact q.2
        · exact absurd q.1.1 c0
      rw [n0]
      rfl
theorem scoring_x {N n : Nat} {B z : Int} {s : Int → Int} {S : SV} (hN : 9 < N) (h : INV B n s) (hS : shows s n z S) : f_X0_scoringSide N (S_green S) = some (i32 (if sc s n = 0 then -1 else if 0 < sc s n then 0 else 1)) := by
  obtain ⟨p, sd, ai, we, bi, to, od, po, la, eb, rfl, rG, -⟩ := hS
  obtain ⟨f1, f2, f3, f4, f5, f6⟩ := rel_facts h rG
  have hp := pts_b h
  have ab := sc_abs s n
  obtain ⟨a1, a2⟩ := x0_scoringSide (N := N) (n := n) (p := p) (sd := sd) (ai := ai) (we := we) (bi := bi) (to := to) (od := od) (st := z) hN h.2.1 f1 f2 f3 f4
  simp only [S_green_k, S_score_k, S_bowlsEach_k, S_blowing_k, S_jackGoesBack_k, S_touchersTwice_k, S_set_green_k, S_set_score_k, S_set_bowlsEach_k, S_set_blowing_k, S_set_jackGoesBack_k, S_set_touchersTwice_k]
  by_cases c : Lost p to
  · rw [a1 c]
    rw [pts_n (fun q => q.2 (f5.mp c))] at ab
    rw [if_pos (show sc s n = 0 from ab.elim id (fun e => e))]
  · obtain ⟨m, hm, e⟩ := a2 c
    rw [e]
    by_cases mn : m = n
    · rw [if_pos mn]
      have p0 := pts_none (s := s) (n := n) (fun b x y q => hm.2.1 b x (by omega) ((near_x h rG x y).mpr q))
      rw [p0] at ab
      rw [if_pos (show sc s n = 0 from ab.elim id (fun e => e))]
    · rw [if_neg mn]
      have ml : m < n := by
        have := hm.1
        omega
      have nm := (near_x h rG (b := m) (by omega) (by omega)).mp (hm.2.2 ml)
      have c0 : s 0 = 1 := by
        rcases h.2.2.1 with q | q
        · omega
        · exact q.1.1
      have pp := pts_pos h ⟨c0, fun q => c (f5.mpr q)⟩ (b := m) (by omega) (by omega) nm
      have sm : sd m = sdS s m := (rel_aM h rG m (by omega) (by omega)).2.2
      rw [sm]
      have h61 := h.2.2.2.2.1
      by_cases sd0 : sdS s m = 0
      · rw [sc_p (b := m) (by omega) (by omega) nm sd0, if_neg (by omega), if_pos pp, sd0]
      · have : sdS s m = 1 := by
          unfold sdS at sd0 ⊢
          omega
        rw [sc_n (b := m) (by omega) (by omega) nm sd0, if_neg (by omega), if_neg (by omega), this]

