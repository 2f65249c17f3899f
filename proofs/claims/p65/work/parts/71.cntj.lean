/-! an end is counted: both -/
abbrev cntV (s t : Int → Int) (p b f : Int) : Prop := t 60 = s 60 ∧ t 61 = f ∧ t 62 = s 62 ∧ t 63 = s 63 ∧ t 64 = s 64 ∧ t 65 = s 65 + (if p ≤ 0 then 0 else p) ∧ t 66 = s 66 - (if 0 ≤ p then 0 else p) ∧ t 67 = s 67 ∧ t 68 = s 68 + 1 ∧ t 69 = s 69 + b ∧ t 70 = (if s 70 = 12 then 12 else s 70 + 1) ∧ t 100 = s 100 ∧ t 101 = s 101 ∧ t 102 = s 102 ∧ (∀ k, 0 ≤ k → k < 17 → t (83 + k) = if k = 8 + p then s (83 + k) + 1 else s (83 + k)) ∧ (∀ k, 0 ≤ k → k < 12 → t (71 + k) = if s 70 = 12 then (if k = 11 then p else s (71 + k + 1)) else if k = s 70 then p else s (71 + k))
theorem cntZ_v {s : Int → Int} {p b f : Int} (hp : -8 ≤ p ∧ p ≤ 8) (h70 : 0 ≤ s 70 ∧ s 70 ≤ 12) : cntV s (cntZ s p b f) p b f := by
  have a70 : cntA s p b f 70 = s 70 := by
    unfold cntA
    simp (maxSteps := 4000000) (disch := omega) only [up_ne]
  have k83 : ∀ k, 0 ≤ k → k < 17 → cntA s p b f (83 + k) = if k = 8 + p then s (83 + k) + 1 else s (83 + k) := fun k x y => by
    unfold cntA
    by_cases c : k = 8 + p
    · rw [if_pos c, show 83 + k = 91 + p by omega, up_self]
    · rw [if_neg c]
      simp (maxSteps := 4000000) (disch := omega) only [up_ne]
  have k71 : ∀ k, 0 ≤ k → k < 12 → cntA s p b f (71 + k) = s (71 + k) := fun k x y => by
    unfold cntA
    simp (maxSteps := 4000000) (disch := omega) only [up_ne]
  by_cases c : s 70 = 12
  · have z : cntZ s p b f = clr (up (up (up (wr 71 82 (fun i => cntA s p b f (i + 1)) (cntA s p b f)) 70 11) 82 p) 70 12) := by
      unfold cntZ shK
      rw [if_pos (by rw [a70]; exact c), up_self]
      rfl
    unfold cntV
    rw [z, if_pos c]
    refine ⟨?_, ?_, ?_, ?_, ?_, ?_, ?_, ?_, ?_, ?_, ?_, ?_, ?_, ?_, fun k x y => ?_, fun k x y => ?_⟩
    case refine_15 =>
      simp (maxSteps := 4000000) (disch := omega) only [clr_hi, up_ne, wr_out]
      exact k83 k x y
    case refine_16 =>
      rw [if_pos c]
      by_cases k11 : k = 11
      · rw [if_pos k11, k11]
        simp (maxSteps := 4000000) (disch := omega) only [clr_hi, up_ne, up_self]
        rfl
      · rw [if_neg k11]
        simp (maxSteps := 4000000) (disch := omega) only [clr_hi, up_ne, wr_in]
        have := k71 (k + 1) (by omega) (by omega)
        rw [show 71 + (k + 1) = 71 + k + 1 by omega] at this
        exact this
    all_goals
      simp (maxSteps := 4000000) (disch := omega) only [clr_hi, up_ne, up_self, wr_out, cntA]
  · have z : cntZ s p b f = clr (up (up (cntA s p b f) (71 + s 70) p) 70 (s 70 + 1)) := by
      unfold cntZ shK
      rw [if_neg (by rw [a70]; exact c), a70]
    unfold cntV
    rw [z, if_neg c]
    refine ⟨?_, ?_, ?_, ?_, ?_, ?_, ?_, ?_, ?_, ?_, ?_, ?_, ?_, ?_, fun k x y => ?_, fun k x y => ?_⟩
    case refine_15 =>
      simp (maxSteps := 4000000) (disch := omega) only [clr_hi, up_ne]
      exact k83 k x y
    case refine_16 =>
      rw [if_neg c]
      by_cases k11 : k = s 70
      · rw [if_pos k11, k11]
        simp (maxSteps := 4000000) (disch := omega) only [clr_hi, up_ne, up_self]
      · rw [if_neg k11]
        simp (maxSteps := 4000000) (disch := omega) only [clr_hi, up_ne]
        exact k71 k x y
    all_goals
      simp (maxSteps := 4000000) (disch := omega) only [clr_hi, up_ne, up_self, cntA]
theorem x1_addPoints {N : Nat} {po : Int → Int} {la : Int → Int} {eb : Int → Int} {pn : Int} {ec : Int} {bc : Int} {lc : Int} {kc : Int} {wc : Int} {tc : Int} {fs : Int} {i m : Int} (hi : i = 0 ∨ i = 1) : f_X1_addPoints N (VK (RZ po) (RZ la) (RZ eb) (i32 pn) (i32 ec) (i32 bc) (i32 lc) (i32 kc) (i32 wc) (i32 tc) (i32 fs)) (i32 i) (i32 m) = some (VK (RZ (up po i (po i + m))) (RZ la) (RZ eb) (i32 pn) (i32 ec) (i32 bc) (i32 lc) (i32 kc) (i32 wc) (i32 tc) (i32 i)) := by
  unfold f_X1_addPoints
  simp (maxSteps := 4000000) (disch := omega) only [jn, Option.bind_some, l32_0, l32_1, l32_2, l32_3, l32_4, l32_5, l32_6, l32_7, l32_8, l32_9, l32_10, l32_11, l32_12, l32_13, l32_14, l32_15, l32_16, l32_17, l32_18, l32_19, l32_20, l32_21, l32_22, l32_23, l32_24, l32_25, l32_26, l32_27, l32_28, l32_29, l32_30, l32_31, l32_32, l32_33, l32_34, l32_35, l32_36, l32_37, l32_38, l32_39, l32_40, l32_41, l32_42, l32_43, l32_44, l32_45, l32_46, l32_47, l32_48, l32_49, l32_50, l32_51, l32_52, l32_53, l32_54, l32_55, l32_56, l32_57, l32_58, l32_59, l32_60, l32_61, l32_62, l32_63, l32_64, l32_65, l32_66, l32_67, l32_68, l32_69, l32_70, l32_71, l32_83, l32_91, l32_98, l32_99, l32_100, l32_101, l32_102, l32_103, l32_106, l32_119, l32_126, l32_206, l32_515, l32_618, l32_850, l32_1000, l32_1022, l32_1023, l32_1050, l32_1239, l32_1260, i32_add, i32_sub, i32_mul, i32_neg, ↓reduceIte, ltT, ltF, leT, leF, eqT, eqF, gd_ix, i32_nat, RZ_at, upd_RZ, i32_ofNat, V_points_k, V_latest_k, V_endsByPoints_k, V_pointsNeeded_k, V_endCount_k, V_burntCount_k, V_latestCount_k, V_backCount_k, V_bowlCount_k, V_toucherCount_k, V_firstSide_k, V_set_points_k, V_set_latest_k, V_set_endsByPoints_k, V_set_pointsNeeded_k, V_set_endCount_k, V_set_burntCount_k, V_set_latestCount_k, V_set_backCount_k, V_set_bowlCount_k, V_set_toucherCount_k, V_set_firstSide_k, at_in, put_in]
def stE (N : Nat) (j86 : VV → Option VV) : Int32 × VV → (Int32 × VV → Option VV) → Option VV := (fun (s45 : Int32 × VV) (k45 : (Int32 × VV) → Option (VV)) => (if (12 : Int32) ≤ s45.1 then j86 (V_set_latestCount s45.2 ((V_latestCount s45.2) - (1 : Int32))) else gd (ixok s45.1 12) ((f_X5_put N 12 (V_latest s45.2) (s45.1 - (1 : Int32)) ((V_latest s45.2) s45.1.toNatClampNeg)).bind (fun o10 => k45 ((s45.1 + (1 : Int32)), (V_set_latest s45.2 o10))))))
theorem addEnd_st (N : Nat) (v : VV) (p1 : Int32) : f_X1_addEnd N v p1 = (f_X5_at N 17 (V_endsByPoints v) (p1 + (8 : Int32))).bind (fun o1 => (f_X5_put N 17 (V_endsByPoints v) (p1 + (8 : Int32)) (o1 + (1 : Int32))).bind (fun o3 => jn (fun (s86 : VV) => (f_X5_put N 12 (V_latest s86) (V_latestCount s86) p1).bind (fun o5 => some (V_set_latestCount (V_set_latest s86 o5) ((V_latestCount s86) + (1 : Int32))))) (fun (j86 : (VV) → Option (VV)) => (if (V_latestCount v) < (12 : Int32) then j86 (V_set_endCount (V_set_endsByPoints v o3) ((V_endCount v) + (1 : Int32))) else lpN (stE N j86) N ((1 : Int32), (V_set_endCount (V_set_endsByPoints v o3) ((V_endCount v) + (1 : Int32)))))))) := rfl
theorem x1_addEnd {N : Nat} {po : Int → Int} {la : Int → Int} {eb : Int → Int} {pn : Int} {ec : Int} {bc : Int} {lc : Int} {kc : Int} {wc : Int} {tc : Int} {fs : Int} {p : Int} (hN : 100 < N) (hp : -8 ≤ p ∧ p ≤ 8) (hl : 0 ≤ lc ∧ lc ≤ 12) : f_X1_addEnd N (VK (RZ po) (RZ la) (RZ eb) (i32 pn) (i32 ec) (i32 bc) (i32 lc) (i32 kc) (i32 wc) (i32 tc) (i32 fs)) (i32 p) = some (VK (RZ po) (RZ ((if lc = 12 then up (wr 0 11 (fun i => la (i + 1)) la) 11 p else up la lc p))) (RZ (up eb (p + 8) (eb (p + 8) + 1))) (i32 pn) (i32 (ec + 1)) (i32 bc) (i32 ((if lc = 12 then 12 else lc + 1))) (i32 kc) (i32 wc) (i32 tc) (i32 fs)) := by
  rw [addEnd_st]
  by_cases c : lc = 12
  · rw [if_pos c, if_pos c]
    simp (maxSteps := 4000000) (disch := omega) only [jn, Option.bind_some, l32_0, l32_1, l32_2, l32_3, l32_4, l32_5, l32_6, l32_7, l32_8, l32_9, l32_10, l32_11, l32_12, l32_13, l32_14, l32_15, l32_16, l32_17, l32_18, l32_19, l32_20, l32_21, l32_22, l32_23, l32_24, l32_25, l32_26, l32_27, l32_28, l32_29, l32_30, l32_31, l32_32, l32_33, l32_34, l32_35, l32_36, l32_37, l32_38, l32_39, l32_40, l32_41, l32_42, l32_43, l32_44, l32_45, l32_46, l32_47, l32_48, l32_49, l32_50, l32_51, l32_52, l32_53, l32_54, l32_55, l32_56, l32_57, l32_58, l32_59, l32_60, l32_61, l32_62, l32_63, l32_64, l32_65, l32_66, l32_67, l32_68, l32_69, l32_70, l32_71, l32_83, l32_91, l32_98, l32_99, l32_100, l32_101, l32_102, l32_103, l32_106, l32_119, l32_126, l32_206, l32_515, l32_618, l32_850, l32_1000, l32_1022, l32_1023, l32_1050, l32_1239, l32_1260, i32_add, i32_sub, i32_mul, i32_neg, ↓reduceIte, ltT, ltF, leT, leF, eqT, eqF, gd_ix, i32_nat, RZ_at, upd_RZ, i32_ofNat, V_points_k, V_latest_k, V_endsByPoints_k, V_pointsNeeded_k, V_endCount_k, V_burntCount_k, V_latestCount_k, V_backCount_k, V_bowlCount_k, V_toucherCount_k, V_firstSide_k, V_set_points_k, V_set_latest_k, V_set_endsByPoints_k, V_set_pointsNeeded_k, V_set_endCount_k, V_set_burntCount_k, V_set_latestCount_k, V_set_backCount_k, V_set_bowlCount_k, V_set_toucherCount_k, V_set_firstSide_k, at_in, put_in, c]
    refine lp_for0 (fun j => (i32 (1 + (j : Int)), (VK (RZ po) (RZ (wr 0 j (fun i => la (i + 1)) la)) (RZ (up eb (p + 8) (eb (p + 8) + 1))) (i32 pn) (i32 (ec + 1)) (i32 bc) (i32 12) (i32 kc) (i32 wc) (i32 tc) (i32 fs)))) 11 N ?_ (by omega) (fun j hj k => ?_) (fun k => ?_)
    · simp only [nc0, Int.add_zero, wr_nil]
    · have e := wr_succ (a := 0) (b := (j : Int)) (fun i => la (i + 1)) la (by omega)
      have e2 : wr 0 (j : Int) (fun i => la (i + 1)) la (1 + (j : Int)) = la ((j : Int) + 1) := by rw [wr_out (by omega), Int.add_comm]
      have e3 : 1 + (j : Int) - 1 = j := by omega
      unfold stE
      show _ = k (i32 (1 + ((j + 1 : Nat) : Int)), (VK (RZ po) (RZ (wr 0 ((j + 1 : Nat) : Int) (fun i => la (i + 1)) la)) (RZ (up eb (p + 8) (eb (p + 8) + 1))) (i32 pn) (i32 (ec + 1)) (i32 bc) (i32 12) (i32 kc) (i32 wc) (i32 tc) (i32 fs)))
      rw [ncS, ← Int.add_assoc, ← e]
      simp (maxSteps := 4000000) (disch := omega) only [jn, Option.bind_some, l32_0, l32_1, l32_2, l32_3, l32_4, l32_5, l32_6, l32_7, l32_8, l32_9, l32_10, l32_11, l32_12, l32_13, l32_14, l32_15, l32_16, l32_17, l32_18, l32_19, l32_20, l32_21, l32_22, l32_23, l32_24, l32_25, l32_26, l32_27, l32_28, l32_29, l32_30, l32_31, l32_32, l32_33, l32_34, l32_35, l32_36, l32_37, l32_38, l32_39, l32_40, l32_41, l32_42, l32_43, l32_44, l32_45, l32_46, l32_47, l32_48, l32_49, l32_50, l32_51, l32_52, l32_53, l32_54, l32_55, l32_56, l32_57, l32_58, l32_59, l32_60, l32_61, l32_62, l32_63, l32_64, l32_65, l32_66, l32_67, l32_68, l32_69, l32_70, l32_71, l32_83, l32_91, l32_98, l32_99, l32_100, l32_101, l32_102, l32_103, l32_106, l32_119, l32_126, l32_206, l32_515, l32_618, l32_850, l32_1000, l32_1022, l32_1023, l32_1050, l32_1239, l32_1260, i32_add, i32_sub, i32_mul, i32_neg, ↓reduceIte, ltT, ltF, leT, leF, eqT, eqF, gd_ix, i32_nat, RZ_at, upd_RZ, i32_ofNat, V_points_k, V_latest_k, V_endsByPoints_k, V_pointsNeeded_k, V_endCount_k, V_burntCount_k, V_latestCount_k, V_backCount_k, V_bowlCount_k, V_toucherCount_k, V_firstSide_k, V_set_points_k, V_set_latest_k, V_set_endsByPoints_k, V_set_pointsNeeded_k, V_set_endCount_k, V_set_burntCount_k, V_set_latestCount_k, V_set_backCount_k, V_set_bowlCount_k, V_set_toucherCount_k, V_set_firstSide_k, put_in, e2, e3]
    · have e5 : (12 : Int) - 1 = 11 := rfl
      have e6 : ((11 : Nat) : Int) = 11 := rfl
      have e7 : (11 : Int) + 1 = 12 := rfl
      unfold stE
      simp (maxSteps := 4000000) (disch := omega) only [jn, Option.bind_some, l32_0, l32_1, l32_2, l32_3, l32_4, l32_5, l32_6, l32_7, l32_8, l32_9, l32_10, l32_11, l32_12, l32_13, l32_14, l32_15, l32_16, l32_17, l32_18, l32_19, l32_20, l32_21, l32_22, l32_23, l32_24, l32_25, l32_26, l32_27, l32_28, l32_29, l32_30, l32_31, l32_32, l32_33, l32_34, l32_35, l32_36, l32_37, l32_38, l32_39, l32_40, l32_41, l32_42, l32_43, l32_44, l32_45, l32_46, l32_47, l32_48, l32_49, l32_50, l32_51, l32_52, l32_53, l32_54, l32_55, l32_56, l32_57, l32_58, l32_59, l32_60, l32_61, l32_62, l32_63, l32_64, l32_65, l32_66, l32_67, l32_68, l32_69, l32_70, l32_71, l32_83, l32_91, l32_98, l32_99, l32_100, l32_101, l32_102, l32_103, l32_106, l32_119, l32_126, l32_206, l32_515, l32_618, l32_850, l32_1000, l32_1022, l32_1023, l32_1050, l32_1239, l32_1260, i32_add, i32_sub, i32_mul, i32_neg, ↓reduceIte, ltT, ltF, leT, leF, eqT, eqF, gd_ix, i32_nat, RZ_at, upd_RZ, i32_ofNat, V_points_k, V_latest_k, V_endsByPoints_k, V_pointsNeeded_k, V_endCount_k, V_burntCount_k, V_latestCount_k, V_backCount_k, V_bowlCount_k, V_toucherCount_k, V_firstSide_k, V_set_points_k, V_set_latest_k, V_set_endsByPoints_k, V_set_pointsNeeded_k, V_set_endCount_k, V_set_burntCount_k, V_set_latestCount_k, V_set_backCount_k, V_set_bowlCount_k, V_set_toucherCount_k, V_set_firstSide_k, put_in, e5, e6, e7]
  · rw [if_neg c, if_neg c]
    simp (maxSteps := 4000000) (disch := omega) only [jn, Option.bind_some, l32_0, l32_1, l32_2, l32_3, l32_4, l32_5, l32_6, l32_7, l32_8, l32_9, l32_10, l32_11, l32_12, l32_13, l32_14, l32_15, l32_16, l32_17, l32_18, l32_19, l32_20, l32_21, l32_22, l32_23, l32_24, l32_25, l32_26, l32_27, l32_28, l32_29, l32_30, l32_31, l32_32, l32_33, l32_34, l32_35, l32_36, l32_37, l32_38, l32_39, l32_40, l32_41, l32_42, l32_43, l32_44, l32_45, l32_46, l32_47, l32_48, l32_49, l32_50, l32_51, l32_52, l32_53, l32_54, l32_55, l32_56, l32_57, l32_58, l32_59, l32_60, l32_61, l32_62, l32_63, l32_64, l32_65, l32_66, l32_67, l32_68, l32_69, l32_70, l32_71, l32_83, l32_91, l32_98, l32_99, l32_100, l32_101, l32_102, l32_103, l32_106, l32_119, l32_126, l32_206, l32_515, l32_618, l32_850, l32_1000, l32_1022, l32_1023, l32_1050, l32_1239, l32_1260, i32_add, i32_sub, i32_mul, i32_neg, ↓reduceIte, ltT, ltF, leT, leF, eqT, eqF, gd_ix, i32_nat, RZ_at, upd_RZ, i32_ofNat, V_points_k, V_latest_k, V_endsByPoints_k, V_pointsNeeded_k, V_endCount_k, V_burntCount_k, V_latestCount_k, V_backCount_k, V_bowlCount_k, V_toucherCount_k, V_firstSide_k, V_set_points_k, V_set_latest_k, V_set_endsByPoints_k, V_set_pointsNeeded_k, V_set_endCount_k, V_set_burntCount_k, V_set_latestCount_k, V_set_backCount_k, V_set_bowlCount_k, V_set_toucherCount_k, V_set_firstSide_k, at_in, put_in]
theorem counts_joint {N n : Nat} {B z : Int} {th : Int} {s : Int → Int} {as_ : Int → Int} {ah : Int → Int} {sv : Int → Int} {sm : Int} {sl : Int → Int} {kp : Int} {bu : Int → Int} {le : Int} {st : Int} {od : Int → Int} {om : Int} {sp : Int} {wr_ : Int} {sg : Int} {on_ : Int} {tw : Int} {t3 : Int} {pl : Int} {fi : Int} {be : Int} {ha : Int64} {S : SV} (hN : 100 < N) (h : INV B n s) (hB : B + 8 ≤ 1000000) (hS : shows s n z S) : ∃ (s' od' : Int → Int) (om' : Int) (S' : SV), f_X3_countEnd N S = some (i32 (pts s n), S') ∧ f_X6_counts N (MK (i32 th) (RZ s) (RZ as_) (RZ ah) (RZ sv) (i32 sm) (RZ sl) (i32 kp) (RZ bu) (i32 le) (i32 st) (RZ od) (i32 om) (i32 sp) (i32 wr_) (i32 sg) (i32 on_) (i32 tw) (i32 t3) (i32 pl) (i32 fi) (i32 be) ha) = some (i32 (pts s n), (MK (i32 th) (RZ s') (RZ as_) (RZ ah) (RZ sv) (i32 sm) (RZ sl) (i32 kp) (RZ bu) (i32 le) (i32 st) (RZ od') (i32 om') (i32 sp) (i32 wr_) (i32 sg) (i32 on_) (i32 tw) (i32 t3) (i32 pl) (i32 fi) (i32 be) ha)) ∧ INV (B + 8) 0 s' ∧ shows s' 0 z S' := by
  have hp := pts_b h
  have ab := sc_abs s n
  have hsc : -8 ≤ sc s n ∧ sc s n ≤ 8 := by omega
  have h70 := h.2.2.2.2.2.2.2.2.2.1
  have hk := h.2.2.2.2.2.2.2.2.2.2.1
  have hC := h.2.2.2.2.2.2.2.2.2.2.2.1
  have h61 := h.2.2.2.2.1
  have h3 := h.1
  have h8 := h.2.1
  have b01 := b2i_01 (Burnt s n)
  have V := cntZ_v (s := s) (p := sc s n) (b := b2i (Burnt s n)) (f := fstS s (sc s n)) hsc h70
  have f01 : fstS s (sc s n) = 0 ∨ fstS s (sc s n) = 1 := by
    unfold fstS
    by_cases c : sc s n = 0
    · rw [if_pos c]; exact h61
    · rw [if_neg c]
      by_cases c2 : sc s n ≤ 0
      · rw [if_pos c2]; omega
      · rw [if_neg c2]; omega
  have lo : ∀ j, 0 ≤ j → j < 60 → cntZ s (sc s n) (b2i (Burnt s n)) (fstS s (sc s n)) j = 0 := fun j x y => clr_lo x y
  have e1 := scoring_x (N := N) (by omega) h hS
  have e2 := paired_x (N := N) (by omega) h hS
  have m := counts_m (N := N) (th := th) (s := s) (as_ := as_) (ah := ah) (sv := sv) (sm := sm) (sl := sl) (kp := kp) (bu := bu) (le := le) (st := st) (od := od) (om := om) (sp := sp) (wr_ := wr_) (sg := sg) (on_ := on_) (tw := tw) (t3 := t3) (pl := pl) (fi := fi) (be := be) (ha := ha) hN h (by omega)
  obtain ⟨p, sd, ai, we, bi, to, orr, po, la, eb, rfl, rG, rV⟩ := hS
  obtain ⟨f1, f2, f3, f4, f5, f6⟩ := rel_facts h rG
  have e3 := x0_isJackLost (N := N) (p := p) (sd := sd) (ai := ai) (we := we) (bi := bi) (to := to) (od := orr) (n := n) (st := z) (by omega) f1 f3
  rw [b2i_congr f5] at e3
  clear f5
  generalize cntZ s (sc s n) (b2i (Burnt s n)) (fstS s (sc s n)) = t at V lo m
  obtain ⟨v60, v61, v62, v63, v64, v65, v66, v67, v68, v69, v70, v100, v101, v102, vk, vq⟩ := V
  have eT := x0_takeAway (N := N) (p := p) (sd := sd) (ai := ai) (we := we) (bi := bi) (to := to) (od := orr) (n := n) (st := z) (by omega)
  have I : INV (B + 8) 0 t := by
    obtain ⟨-, -, -, q60, q61, q62, q63, q64, q67, q70, qk, -, qB⟩ := h
    have c65 := hC 65 (by omega)
    have c66 := hC 66 (by omega)
    refine ⟨lo 3 (by omega) (by omega), by omega, Or.inl ⟨lo 0 (by omega) (by omega), rfl⟩, by omega, by rw [v61]; exact f01, by omega, by omega, by omega, by omega, ?_, fun k x y => ?_, fun j hj => ?_, by omega⟩
    · rw [v70]
      by_cases c : s 70 = 12
      · rw [if_pos c]; omega
      · rw [if_neg c]; omega
    · rw [vq k x y]
      by_cases c : s 70 = 12
      · rw [if_pos c]
        by_cases c2 : k = 11
        · rw [if_pos c2]; exact hsc
        · rw [if_neg c2]
          have := qk (k + 1) (by omega) (by omega)
          rw [show 71 + (k + 1) = 71 + k + 1 by omega] at this
          exact this
      · rw [if_neg c]
        by_cases c2 : k = s 70
        · rw [if_pos c2]; exact hsc
        · rw [if_neg c2]; exact qk k x y
    · have := hC j hj
      rcases hj with rfl | rfl | rfl | rfl | hj
      · rw [v65]
        by_cases c : sc s n ≤ 0
        · rw [if_pos c]; omega
        · rw [if_neg c]; omega
      · rw [v66]
        by_cases c : 0 ≤ sc s n
        · rw [if_pos c]; omega
        · rw [if_neg c]; omega
      · rw [v68]; omega
      · rw [v69]; omega
      · by_cases j99 : j < 100
        · have q := vk (j - 83) (by omega) (by omega)
          rw [show 83 + (j - 83) = j by omega] at q
          rw [q]
          by_cases c : j - 83 = 8 + sc s n
          · rw [if_pos c]; omega
          · rw [if_neg c]; omega
        · have : j = 100 ∨ j = 101 ∨ j = 102 := by omega
          rcases this with rfl | rfl | rfl
          · rw [v100]; omega
          · rw [v101]; omega
          · rw [v102]; omega
  have rGt : relG t (wr 0 9 (fun _ => -1) p) sd ai we bi (wr 0 8 (fun _ => 0) to) 0 := by
    refine ⟨fun k a b => ?_, fun k a b => by omega, fun k a b => ?_⟩
    · rw [wr_in a b]
      by_cases k8 : k = 8
      · rw [k8, Pl_none (by rw [lo 0 (by omega) (by omega)]; omega)]
      · rw [Pl_more k8 (by rw [lo 3 (by omega) (by omega)]; exact a)]
    · rw [wr_in a b, if_neg (by omega)]
  have kinds : ∀ k, 0 ≤ k → k < t 70 → (if s 70 = 12 then up (wr 0 11 (fun i => la (i + 1)) la) 11 (sc s n) else up la (s 70) (sc s n)) k = t (71 + k) := fun k x y => by
    rw [v70] at y
    by_cases c : s 70 = 12
    · rw [if_pos c] at y
      rw [vq k x (by omega), if_pos c, if_pos c]
      by_cases c2 : k = 11
      · rw [if_pos c2, c2, up_self]
      · rw [if_neg c2, up_ne c2, wr_in x (by omega)]
        have := rV.2.2.1 (k + 1) (by omega) (by omega)
        rw [show 71 + (k + 1) = 71 + k + 1 by omega] at this
        exact this
    · rw [if_neg c] at y
      rw [vq k x (by omega), if_neg c, if_neg c]
      by_cases c2 : k = s 70
      · rw [if_pos c2, c2, up_self]
      · rw [if_neg c2, up_ne c2]
        exact rV.2.2.1 k x (by omega)
  have withs : ∀ k, 0 ≤ k → k < 17 → up eb (sc s n + 8) (eb (sc s n + 8) + 1) k = t (83 + k) := fun k x y => by
    rw [vk k x y]
    by_cases c : k = 8 + sc s n
    · rw [if_pos c, c, Int.add_comm 8, up_self, rV.2.2.2 _ (by omega) (by omega)]
    · rw [if_neg c, up_ne (by omega)]
      exact rV.2.2.2 k x y
  have pts0 : sc s n = 0 → pts s n = 0 := fun q => by omega
  refine ⟨t, _, _, (SK (GK (RZ (wr 0 9 (fun _ => -1) p)) (RZ sd) (RZ ai) (RZ we) (RZ bi) (RZ (wr 0 8 (fun _ => 0) to)) (RZ orr) (i32 (((0 : Nat) : Int))) (i32 z)) (VK (RZ ((if sc s n = 0 then po else if sc s n ≤ 0 then up po 1 (po 1 + pts s n) else up po 0 (po 0 + pts s n)))) (RZ ((if s 70 = 12 then up (wr 0 11 (fun i => la (i + 1)) la) 11 (sc s n) else up la (s 70) (sc s n)))) (RZ (up eb (sc s n + 8) (eb (sc s n + 8) + 1))) (i32 (s 67)) (i32 (s 68 + 1)) (i32 (s 69 + b2i (Burnt s n))) (i32 ((if s 70 = 12 then 12 else s 70 + 1))) (i32 (s 100)) (i32 (s 101)) (i32 (s 102)) (i32 (fstS s (sc s n)))) (i32 (s 60)) (i32 (s 62)) (i32 (s 63)) (i32 (s 64))), ?_, m, I, ?_⟩
  · simp only [S_green_k, S_score_k, S_bowlsEach_k, S_blowing_k, S_jackGoesBack_k, S_touchersTwice_k, S_set_green_k, S_set_score_k, S_set_bowlsEach_k, S_set_blowing_k, S_set_jackGoesBack_k, S_set_touchersTwice_k] at e1 e2
    have eA := fun po fs bc => x1_addEnd (N := N) (po := po) (la := la) (eb := eb) (pn := s 67) (ec := s 68) (bc := bc) (lc := s 70) (kc := s 100) (wc := s 101) (tc := s 102) (fs := fs) (p := sc s n) hN hsc h70
    have e0 : ((0 : Nat) : Int) = 0 := rfl
    unfold f_X3_countEnd fstS
    generalize b2i (Burnt s n) = b at b01 e3 ⊢
    by_cases c0 : sc s n = 0
    · have p0 := pts0 c0
      rw [if_pos c0] at e1
      rw [if_pos c0, if_pos c0]
      rw [c0] at eA ⊢
      rw [p0] at e2 ⊢
      rcases b01 with rfl | rfl
      · simp (maxSteps := 4000000) (disch := omega) only [jn, Option.bind_some, l32_0, l32_1, l32_2, l32_3, l32_4, l32_5, l32_6, l32_7, l32_8, l32_9, l32_10, l32_11, l32_12, l32_13, l32_14, l32_15, l32_16, l32_17, l32_18, l32_19, l32_20, l32_21, l32_22, l32_23, l32_24, l32_25, l32_26, l32_27, l32_28, l32_29, l32_30, l32_31, l32_32, l32_33, l32_34, l32_35, l32_36, l32_37, l32_38, l32_39, l32_40, l32_41, l32_42, l32_43, l32_44, l32_45, l32_46, l32_47, l32_48, l32_49, l32_50, l32_51, l32_52, l32_53, l32_54, l32_55, l32_56, l32_57, l32_58, l32_59, l32_60, l32_61, l32_62, l32_63, l32_64, l32_65, l32_66, l32_67, l32_68, l32_69, l32_70, l32_71, l32_83, l32_91, l32_98, l32_99, l32_100, l32_101, l32_102, l32_103, l32_106, l32_119, l32_126, l32_206, l32_515, l32_618, l32_850, l32_1000, l32_1022, l32_1023, l32_1050, l32_1239, l32_1260, i32_add, i32_sub, i32_mul, i32_neg, ↓reduceIte, ltT, ltF, leT, leF, eqT, eqF, gd_ix, i32_nat, RZ_at, upd_RZ, i32_ofNat, S_green_k, S_score_k, S_bowlsEach_k, S_blowing_k, S_jackGoesBack_k, S_touchersTwice_k, S_set_green_k, S_set_score_k, S_set_bowlsEach_k, S_set_blowing_k, S_set_jackGoesBack_k, S_set_touchersTwice_k, V_points_k, V_latest_k, V_endsByPoints_k, V_pointsNeeded_k, V_endCount_k, V_burntCount_k, V_latestCount_k, V_backCount_k, V_bowlCount_k, V_toucherCount_k, V_firstSide_k, V_set_points_k, V_set_latest_k, V_set_endsByPoints_k, V_set_pointsNeeded_k, V_set_endCount_k, V_set_burntCount_k, V_set_latestCount_k, V_set_backCount_k, V_set_bowlCount_k, V_set_toucherCount_k, V_set_firstSide_k, e1, e2, e3, eA, eT, e0, Int.add_zero]
      · simp (maxSteps := 4000000) (disch := omega) only [jn, Option.bind_some, l32_0, l32_1, l32_2, l32_3, l32_4, l32_5, l32_6, l32_7, l32_8, l32_9, l32_10, l32_11, l32_12, l32_13, l32_14, l32_15, l32_16, l32_17, l32_18, l32_19, l32_20, l32_21, l32_22, l32_23, l32_24, l32_25, l32_26, l32_27, l32_28, l32_29, l32_30, l32_31, l32_32, l32_33, l32_34, l32_35, l32_36, l32_37, l32_38, l32_39, l32_40, l32_41, l32_42, l32_43, l32_44, l32_45, l32_46, l32_47, l32_48, l32_49, l32_50, l32_51, l32_52, l32_53, l32_54, l32_55, l32_56, l32_57, l32_58, l32_59, l32_60, l32_61, l32_62, l32_63, l32_64, l32_65, l32_66, l32_67, l32_68, l32_69, l32_70, l32_71, l32_83, l32_91, l32_98, l32_99, l32_100, l32_101, l32_102, l32_103, l32_106, l32_119, l32_126, l32_206, l32_515, l32_618, l32_850, l32_1000, l32_1022, l32_1023, l32_1050, l32_1239, l32_1260, i32_add, i32_sub, i32_mul, i32_neg, ↓reduceIte, ltT, ltF, leT, leF, eqT, eqF, gd_ix, i32_nat, RZ_at, upd_RZ, i32_ofNat, S_green_k, S_score_k, S_bowlsEach_k, S_blowing_k, S_jackGoesBack_k, S_touchersTwice_k, S_set_green_k, S_set_score_k, S_set_bowlsEach_k, S_set_blowing_k, S_set_jackGoesBack_k, S_set_touchersTwice_k, V_points_k, V_latest_k, V_endsByPoints_k, V_pointsNeeded_k, V_endCount_k, V_burntCount_k, V_latestCount_k, V_backCount_k, V_bowlCount_k, V_toucherCount_k, V_firstSide_k, V_set_points_k, V_set_latest_k, V_set_endsByPoints_k, V_set_pointsNeeded_k, V_set_endCount_k, V_set_burntCount_k, V_set_latestCount_k, V_set_backCount_k, V_set_bowlCount_k, V_set_toucherCount_k, V_set_firstSide_k, e1, e2, e3, eA, eT, e0]
    · rw [if_neg c0] at e1
      rw [if_neg c0, if_neg c0]
      by_cases c1 : sc s n ≤ 0
      · rw [if_neg (show ¬ 0 < sc s n by omega)] at e1
        rw [if_pos c1, if_pos c1]
        have en : -pts s n = sc s n := by omega
        rcases b01 with rfl | rfl
        · simp (maxSteps := 4000000) (disch := omega) only [jn, Option.bind_some, l32_0, l32_1, l32_2, l32_3, l32_4, l32_5, l32_6, l32_7, l32_8, l32_9, l32_10, l32_11, l32_12, l32_13, l32_14, l32_15, l32_16, l32_17, l32_18, l32_19, l32_20, l32_21, l32_22, l32_23, l32_24, l32_25, l32_26, l32_27, l32_28, l32_29, l32_30, l32_31, l32_32, l32_33, l32_34, l32_35, l32_36, l32_37, l32_38, l32_39, l32_40, l32_41, l32_42, l32_43, l32_44, l32_45, l32_46, l32_47, l32_48, l32_49, l32_50, l32_51, l32_52, l32_53, l32_54, l32_55, l32_56, l32_57, l32_58, l32_59, l32_60, l32_61, l32_62, l32_63, l32_64, l32_65, l32_66, l32_67, l32_68, l32_69, l32_70, l32_71, l32_83, l32_91, l32_98, l32_99, l32_100, l32_101, l32_102, l32_103, l32_106, l32_119, l32_126, l32_206, l32_515, l32_618, l32_850, l32_1000, l32_1022, l32_1023, l32_1050, l32_1239, l32_1260, i32_add, i32_sub, i32_mul, i32_neg, ↓reduceIte, ltT, ltF, leT, leF, eqT, eqF, gd_ix, i32_nat, RZ_at, upd_RZ, i32_ofNat, S_green_k, S_score_k, S_bowlsEach_k, S_blowing_k, S_jackGoesBack_k, S_touchersTwice_k, S_set_green_k, S_set_score_k, S_set_bowlsEach_k, S_set_blowing_k, S_set_jackGoesBack_k, S_set_touchersTwice_k, V_points_k, V_latest_k, V_endsByPoints_k, V_pointsNeeded_k, V_endCount_k, V_burntCount_k, V_latestCount_k, V_backCount_k, V_bowlCount_k, V_toucherCount_k, V_firstSide_k, V_set_points_k, V_set_latest_k, V_set_endsByPoints_k, V_set_pointsNeeded_k, V_set_endCount_k, V_set_burntCount_k, V_set_latestCount_k, V_set_backCount_k, V_set_bowlCount_k, V_set_toucherCount_k, V_set_firstSide_k, e1, e2, e3, x1_addPoints, en, eA, eT, e0, Int.add_zero]
        · simp (maxSteps := 4000000) (disch := omega) only [jn, Option.bind_some, l32_0, l32_1, l32_2, l32_3, l32_4, l32_5, l32_6, l32_7, l32_8, l32_9, l32_10, l32_11, l32_12, l32_13, l32_14, l32_15, l32_16, l32_17, l32_18, l32_19, l32_20, l32_21, l32_22, l32_23, l32_24, l32_25, l32_26, l32_27, l32_28, l32_29, l32_30, l32_31, l32_32, l32_33, l32_34, l32_35, l32_36, l32_37, l32_38, l32_39, l32_40, l32_41, l32_42, l32_43, l32_44, l32_45, l32_46, l32_47, l32_48, l32_49, l32_50, l32_51, l32_52, l32_53, l32_54, l32_55, l32_56, l32_57, l32_58, l32_59, l32_60, l32_61, l32_62, l32_63, l32_64, l32_65, l32_66, l32_67, l32_68, l32_69, l32_70, l32_71, l32_83, l32_91, l32_98, l32_99, l32_100, l32_101, l32_102, l32_103, l32_106, l32_119, l32_126, l32_206, l32_515, l32_618, l32_850, l32_1000, l32_1022, l32_1023, l32_1050, l32_1239, l32_1260, i32_add, i32_sub, i32_mul, i32_neg, ↓reduceIte, ltT, ltF, leT, leF, eqT, eqF, gd_ix, i32_nat, RZ_at, upd_RZ, i32_ofNat, S_green_k, S_score_k, S_bowlsEach_k, S_blowing_k, S_jackGoesBack_k, S_touchersTwice_k, S_set_green_k, S_set_score_k, S_set_bowlsEach_k, S_set_blowing_k, S_set_jackGoesBack_k, S_set_touchersTwice_k, V_points_k, V_latest_k, V_endsByPoints_k, V_pointsNeeded_k, V_endCount_k, V_burntCount_k, V_latestCount_k, V_backCount_k, V_bowlCount_k, V_toucherCount_k, V_firstSide_k, V_set_points_k, V_set_latest_k, V_set_endsByPoints_k, V_set_pointsNeeded_k, V_set_endCount_k, V_set_burntCount_k, V_set_latestCount_k, V_set_backCount_k, V_set_bowlCount_k, V_set_toucherCount_k, V_set_firstSide_k, e1, e2, e3, x1_addPoints, en, eA, eT, e0]
      · rw [if_pos (show 0 < sc s n by omega)] at e1
        rw [if_neg c1, if_neg c1]
        have en : pts s n = sc s n := by omega
        rw [en] at e2 ⊢
        rcases b01 with rfl | rfl
        · simp (maxSteps := 4000000) (disch := omega) only [jn, Option.bind_some, l32_0, l32_1, l32_2, l32_3, l32_4, l32_5, l32_6, l32_7, l32_8, l32_9, l32_10, l32_11, l32_12, l32_13, l32_14, l32_15, l32_16, l32_17, l32_18, l32_19, l32_20, l32_21, l32_22, l32_23, l32_24, l32_25, l32_26, l32_27, l32_28, l32_29, l32_30, l32_31, l32_32, l32_33, l32_34, l32_35, l32_36, l32_37, l32_38, l32_39, l32_40, l32_41, l32_42, l32_43, l32_44, l32_45, l32_46, l32_47, l32_48, l32_49, l32_50, l32_51, l32_52, l32_53, l32_54, l32_55, l32_56, l32_57, l32_58, l32_59, l32_60, l32_61, l32_62, l32_63, l32_64, l32_65, l32_66, l32_67, l32_68, l32_69, l32_70, l32_71, l32_83, l32_91, l32_98, l32_99, l32_100, l32_101, l32_102, l32_103, l32_106, l32_119, l32_126, l32_206, l32_515, l32_618, l32_850, l32_1000, l32_1022, l32_1023, l32_1050, l32_1239, l32_1260, i32_add, i32_sub, i32_mul, i32_neg, ↓reduceIte, ltT, ltF, leT, leF, eqT, eqF, gd_ix, i32_nat, RZ_at, upd_RZ, i32_ofNat, S_green_k, S_score_k, S_bowlsEach_k, S_blowing_k, S_jackGoesBack_k, S_touchersTwice_k, S_set_green_k, S_set_score_k, S_set_bowlsEach_k, S_set_blowing_k, S_set_jackGoesBack_k, S_set_touchersTwice_k, V_points_k, V_latest_k, V_endsByPoints_k, V_pointsNeeded_k, V_endCount_k, V_burntCount_k, V_latestCount_k, V_backCount_k, V_bowlCount_k, V_toucherCount_k, V_firstSide_k, V_set_points_k, V_set_latest_k, V_set_endsByPoints_k, V_set_pointsNeeded_k, V_set_endCount_k, V_set_burntCount_k, V_set_latestCount_k, V_set_backCount_k, V_set_bowlCount_k, V_set_toucherCount_k, V_set_firstSide_k, e1, e2, e3, x1_addPoints, eA, eT, e0, Int.add_zero]
        · simp (maxSteps := 4000000) (disch := omega) only [jn, Option.bind_some, l32_0, l32_1, l32_2, l32_3, l32_4, l32_5, l32_6, l32_7, l32_8, l32_9, l32_10, l32_11, l32_12, l32_13, l32_14, l32_15, l32_16, l32_17, l32_18, l32_19, l32_20, l32_21, l32_22, l32_23, l32_24, l32_25, l32_26, l32_27, l32_28, l32_29, l32_30, l32_31, l32_32, l32_33, l32_34, l32_35, l32_36, l32_37, l32_38, l32_39, l32_40, l32_41, l32_42, l32_43, l32_44, l32_45, l32_46, l32_47, l32_48, l32_49, l32_50, l32_51, l32_52, l32_53, l32_54, l32_55, l32_56, l32_57, l32_58, l32_59, l32_60, l32_61, l32_62, l32_63, l32_64, l32_65, l32_66, l32_67, l32_68, l32_69, l32_70, l32_71, l32_83, l32_91, l32_98, l32_99, l32_100, l32_101, l32_102, l32_103, l32_106, l32_119, l32_126, l32_206, l32_515, l32_618, l32_850, l32_1000, l32_1022, l32_1023, l32_1050, l32_1239, l32_1260, i32_add, i32_sub, i32_mul, i32_neg, ↓reduceIte, ltT, ltF, leT, leF, eqT, eqF, gd_ix, i32_nat, RZ_at, upd_RZ, i32_ofNat, S_green_k, S_score_k, S_bowlsEach_k, S_blowing_k, S_jackGoesBack_k, S_touchersTwice_k, S_set_green_k, S_set_score_k, S_set_bowlsEach_k, S_set_blowing_k, S_set_jackGoesBack_k, S_set_touchersTwice_k, V_points_k, V_latest_k, V_endsByPoints_k, V_pointsNeeded_k, V_endCount_k, V_burntCount_k, V_latestCount_k, V_backCount_k, V_bowlCount_k, V_toucherCount_k, V_firstSide_k, V_set_points_k, V_set_latest_k, V_set_endsByPoints_k, V_set_pointsNeeded_k, V_set_endCount_k, V_set_burntCount_k, V_set_latestCount_k, V_set_backCount_k, V_set_bowlCount_k, V_set_toucherCount_k, V_set_firstSide_k, e1, e2, e3, x1_addPoints, eA, eT, e0]
  · refine shows_mk rGt ⟨?_, ?_, kinds, withs⟩ ⟨v67.symm, v68.symm, v69.symm, v70.symm, v100.symm, v101.symm, v102.symm, v61.symm, v60.symm, v62.symm, v63.symm, v64.symm⟩
    · rw [v65, ← rV.1]
      by_cases c0 : sc s n = 0
      · rw [if_pos c0, if_pos (show sc s n ≤ 0 by omega), Int.add_zero]
      · rw [if_neg c0]
        by_cases c1 : sc s n ≤ 0
        · rw [if_pos c1, if_pos c1, up_ne (by omega), Int.add_zero]
        · rw [if_neg c1, if_neg c1, up_self]; omega
    · rw [v66, ← rV.2.1]
      by_cases c0 : sc s n = 0
      · rw [if_pos c0, if_pos (show 0 ≤ sc s n by omega), Int.sub_zero]
      · rw [if_neg c0]
        by_cases c1 : sc s n ≤ 0
        · rw [if_pos c1, if_neg (show ¬ 0 ≤ sc s n by omega), up_self]; omega
        · rw [if_neg c1, if_pos (show 0 ≤ sc s n by omega), up_ne (by omega), Int.sub_zero]

