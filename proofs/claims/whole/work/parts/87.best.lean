/-! the best ways to play: both -/
def stH (N : Nat) (p1 p2 : Int32) : Int32 × Int32 × MV → (Int32 × Int32 × MV → Option (Int32 × MV)) → Option (Int32 × MV) := (fun (s6 : Int32 × Int32 × MV) (k6 : (Int32 × Int32 × MV) → Option (Int32 × MV)) => (if (70 : Int32) < s6.2.1 then some (s6.1, s6.2.2) else (f_X6_tries N s6.2.2 p1 s6.2.1 p2).bind (fun o2 => jn (fun (s42 : Int32) => jn (fun (s59 : Int32) => k6 (s42, (s6.2.1 + (1 : Int32)), (M_set_bestPoints o2.2 s59))) (fun (j59 : (Int32) → Option (Int32 × MV)) => (if s42 = s6.2.1 then j59 o2.1 else j59 (M_bestPoints o2.2)))) (fun (j42 : (Int32) → Option (Int32 × MV)) => jn (fun (s36 : Unit) => j42 s6.2.1) (fun (j36 : (Unit) → Option (Int32 × MV)) => (if s6.1 = 0 then j36 () else (if o2.1 ≤ (M_bestPoints o2.2) then j42 s6.1 else j36 ())))))))
theorem heaviest_st (N : Nat) (v : MV) (p1 p2 : Int32) : f_X6_heaviest N v p1 p2 = lpN (stH N p1 p2) N ((0 : Int32), (15 : Int32), v) := rfl
abbrev CT : Type := Int32 × Int32 × Int32 × XV × SV × SV
/-- a loop over weights: the reference's, and one of the class's, which keeps the best of a code and of points -/
theorem heavy_joint {ρ : Type} {stepC : CT → (CT → Option ρ) → Option ρ} {E : Int32 → Int32 → SV → Option ρ} {code : Int → Int} {N n : Nat} {B z a b best0 most0 : Int} {th : Int} {ah : Int → Int} {sv : Int → Int} {sm : Int} {sl : Int → Int} {kp : Int} {bu : Int → Int} {le : Int} {sp : Int} {wr_ : Int} {sg : Int} {on_ : Int} {tw : Int} {t3 : Int} {pl : Int} {fi : Int} {ha : Int64} {S : SV} {xv : XV} (hN : 1500 < N) (hB : B + 1000 ≤ 1000000) (hA : -9 ≤ a ∧ a ≤ 9) (hbb : -3 ≤ b ∧ b ≤ 3) (hm0 : -8 ≤ most0 ∧ most0 ≤ 8)
    (H1 : ∀ (best most w r : Int) (T T' : SV) (k : CT → Option ρ), 15 ≤ w → w ≤ 70 → -8 ≤ r → r ≤ 8 → -8 ≤ most → most ≤ 8 → f_X5_countIfPlayed N xv S T (i32 a) (i32 w) (i32 b) = some (i32 r, (xv, S, T')) → stepC (i32 best, i32 most, i32 w, xv, S, T) k = k (i32 (if r ≤ most then best else code w), i32 (if r ≤ most then most else r), i32 (w + 1), xv, S, T'))
    (H2 : ∀ (best most : Int) (T : SV) (k : CT → Option ρ), stepC (i32 best, i32 most, i32 71, xv, S, T) k = E (i32 best) (i32 most) T) :
    ∀ (d M1 M2 : Nat) (w found0 be0 : Int) (s as_ od : Int → Int) (st om : Int) (T : SV), d < M1 → d < M2 → w + d = 71 → 15 ≤ w → 0 ≤ found0 → found0 < w → (found0 ≠ 0 → -8 ≤ be0 ∧ be0 ≤ 8) → (found0 = 0 ∨ 15 ≤ found0) → (found0 = 0 → w ≤ 70) → INV B n s → shows s n z S → CanPlay s n →
    ∃ (found' be' st' om' : Int) (s' as' od' : Int → Int) (T' : SV), (15 ≤ found' ∧ found' ≤ 70) ∧ (-8 ≤ be' ∧ be' ≤ 8) ∧ lpN (stH N (i32 a) (i32 b)) M2 (i32 found0, i32 w, (MK (i32 th) (RZ s) (RZ as_) (RZ ah) (RZ sv) (i32 sm) (RZ sl) (i32 kp) (RZ bu) (i32 le) (i32 st) (RZ od) (i32 om) (i32 sp) (i32 wr_) (i32 sg) (i32 on_) (i32 tw) (i32 t3) (i32 pl) (i32 fi) (i32 be0) ha)) = some (i32 found', (MK (i32 th) (RZ s') (RZ as') (RZ ah) (RZ sv) (i32 sm) (RZ sl) (i32 kp) (RZ bu) (i32 le) (i32 st') (RZ od') (i32 om') (i32 sp) (i32 wr_) (i32 sg) (i32 on_) (i32 tw) (i32 t3) (i32 pl) (i32 fi) (i32 be') ha)) ∧ lpN stepC M1 (i32 (if found0 ≠ 0 ∧ most0 < be0 then code found0 else best0), i32 (if found0 ≠ 0 ∧ most0 < be0 then be0 else most0), i32 w, xv, S, T) = E (i32 (if most0 < be' then code found' else best0)) (i32 (if most0 < be' then be' else most0)) T' ∧ INV B n s' ∧ shows s' n z S ∧ (∀ j, 0 ≤ j → j < 103 → s' j = s j) ∧ (found0 ≠ 0 → be0 < be' ∨ (be' = be0 ∧ found' = found0)) ∧ (found0 = 0 → ∃ r1 v1, f_X6_tries N (MK (i32 th) (RZ s) (RZ as_) (RZ ah) (RZ sv) (i32 sm) (RZ sl) (i32 kp) (RZ bu) (i32 le) (i32 st) (RZ od) (i32 om) (i32 sp) (i32 wr_) (i32 sg) (i32 on_) (i32 tw) (i32 t3) (i32 pl) (i32 fi) (i32 be0) ha) (i32 a) (i32 w) (i32 b) = some (i32 r1, v1) ∧ (-8 ≤ r1 ∧ r1 ≤ 8) ∧ (r1 < be' ∨ (be' = r1 ∧ found' = w))) := by
  intro d
  induction d with
  | zero =>
    intro M1 M2 w found0 be0 s as_ od st om T h1 h2 h3 h4 h5 h6 h7 h9 h10 hI hS hc
    obtain ⟨M1, rfl⟩ : ∃ x, M1 = x + 1 := ⟨M1 - 1, by omega⟩
    obtain ⟨M2, rfl⟩ : ∃ x, M2 = x + 1 := ⟨M2 - 1, by omega⟩
    have w71 : w = 71 := by omega
    subst w71
    have f0 : found0 ≠ 0 := fun e => by
      have := h10 e
      omega
    refine ⟨found0, be0, st, om, s, as_, od, T, by omega, h7 f0, ?_, ?_, hI, hS, fun j _ _ => rfl, fun _ => Or.inr ⟨rfl, rfl⟩, fun e => absurd e f0⟩
    · rw [lpN_s1]
      unfold stH
      simp (maxSteps := 4000000) (disch := omega) only [jn, Option.bind_some, l32_0, l32_1, l32_2, l32_3, l32_4, l32_5, l32_6, l32_7, l32_8, l32_9, l32_10, l32_11, l32_12, l32_13, l32_14, l32_15, l32_16, l32_17, l32_18, l32_19, l32_20, l32_21, l32_22, l32_23, l32_24, l32_25, l32_26, l32_27, l32_28, l32_29, l32_30, l32_31, l32_32, l32_33, l32_34, l32_35, l32_36, l32_37, l32_38, l32_39, l32_40, l32_41, l32_42, l32_43, l32_44, l32_45, l32_46, l32_47, l32_48, l32_49, l32_50, l32_51, l32_52, l32_53, l32_54, l32_55, l32_56, l32_57, l32_58, l32_59, l32_60, l32_61, l32_62, l32_63, l32_64, l32_65, l32_66, l32_67, l32_68, l32_69, l32_70, l32_71, l32_83, l32_91, l32_98, l32_99, l32_100, l32_101, l32_102, l32_103, l32_106, l32_119, l32_126, l32_206, l32_515, l32_618, l32_850, l32_1000, l32_1022, l32_1023, l32_1050, l32_1239, l32_1260, i32_add, i32_sub, i32_mul, i32_neg, ↓reduceIte, ltT, ltF, leT, leF, eqT, eqF, gd_ix, i32_nat, RZ_at, upd_RZ, i32_ofNat, M_thrown_k, M_s_k, M_aside_k, M_ahead_k, M_saved_k, M_savedMany_k, M_slots_k, M_kept_k, M_buffer_k, M_length_k, M_strikes_k, M_order_k, M_orderMany_k, M_spot_k, M_isWrong_k, M_sign_k, M_one_k, M_two_k, M_three_k, M_played_k, M_isFine_k, M_bestPoints_k, M_hash_k, M_set_thrown_k, M_set_s_k, M_set_aside_k, M_set_ahead_k, M_set_saved_k, M_set_savedMany_k, M_set_slots_k, M_set_kept_k, M_set_buffer_k, M_set_length_k, M_set_strikes_k, M_set_order_k, M_set_orderMany_k, M_set_spot_k, M_set_isWrong_k, M_set_sign_k, M_set_one_k, M_set_two_k, M_set_three_k, M_set_played_k, M_set_isFine_k, M_set_bestPoints_k, M_set_hash_k]
    · rw [lpN_s1, H2]
      by_cases c : most0 < be0
      · rw [if_pos ⟨f0, c⟩, if_pos ⟨f0, c⟩, if_pos c, if_pos c]
      · rw [if_neg (fun x => c x.2), if_neg (fun x => c x.2), if_neg c, if_neg c]
  | succ d ih =>
    intro M1 M2 w found0 be0 s as_ od st om T h1 h2 h3 h4 h5 h6 h7 h9 h10 hI hS hc
    obtain ⟨M1, rfl⟩ : ∃ x, M1 = x + 1 := ⟨M1 - 1, by omega⟩
    obtain ⟨M2, rfl⟩ : ∃ x, M2 = x + 1 := ⟨M2 - 1, by omega⟩
    rw [ncS] at h3
    obtain ⟨r, zz, om', s', as', od', T', T2, rb, c1, c2, I', S', eq', -, -⟩ := tries_joint (N := N) (n := n) (B := B) (z := z) (a := a) (w := w) (b := b) (th := th) (s := s) (as_ := as_) (ah := ah) (sv := sv) (sm := sm) (sl := sl) (kp := kp) (bu := bu) (le := le) (st := st) (od := od) (om := om) (sp := sp) (wr_ := wr_) (sg := sg) (on_ := on_) (tw := tw) (t3 := t3) (pl := pl) (fi := fi) (be := be0) (ha := ha) (S := S) (T := T) (xv := xv) hN hI hB hS hc hA (by omega) hbb
    have hc' : CanPlay s' n := by
      obtain ⟨x1, x2, x3⟩ := hc
      refine ⟨by rw [eq' 0 (by omega) (by omega)]; exact x1, by rw [eq' 60 (by omega) (by omega)]; exact x2, fun y => x3 ?_⟩
      have hn := hI.2.1
      refine ⟨x1, by rw [← eq' 1 (by omega) (by omega)]; exact y.2.1, fun k k0 kn => ?_⟩
      rw [← eq' _ (by omega) (by omega)]
      exact y.2.2 k k0 kn
    -- what the reference keeps now
    have refs : ∀ K, stH N (i32 a) (i32 b) (i32 found0, i32 w, (MK (i32 th) (RZ s) (RZ as_) (RZ ah) (RZ sv) (i32 sm) (RZ sl) (i32 kp) (RZ bu) (i32 le) (i32 st) (RZ od) (i32 om) (i32 sp) (i32 wr_) (i32 sg) (i32 on_) (i32 tw) (i32 t3) (i32 pl) (i32 fi) (i32 be0) ha)) K = K (i32 (if found0 = 0 ∨ be0 < r then w else found0), i32 (w + 1), (MK (i32 th) (RZ s') (RZ as') (RZ ah) (RZ sv) (i32 sm) (RZ sl) (i32 kp) (RZ bu) (i32 le) (i32 zz) (RZ od') (i32 om') (i32 sp) (i32 wr_) (i32 sg) (i32 on_) (i32 tw) (i32 t3) (i32 pl) (i32 fi) (i32 ((if found0 = 0 ∨ be0 < r then r else be0))) ha)) := fun K => by
      unfold stH
      by_cases e0 : found0 = 0
      · rw [if_pos (Or.inl e0), if_pos (Or.inl e0)]
        simp (maxSteps := 4000000) (disch := omega) only [jn, Option.bind_some, l32_0, l32_1, l32_2, l32_3, l32_4, l32_5, l32_6, l32_7, l32_8, l32_9, l32_10, l32_11, l32_12, l32_13, l32_14, l32_15, l32_16, l32_17, l32_18, l32_19, l32_20, l32_21, l32_22, l32_23, l32_24, l32_25, l32_26, l32_27, l32_28, l32_29, l32_30, l32_31, l32_32, l32_33, l32_34, l32_35, l32_36, l32_37, l32_38, l32_39, l32_40, l32_41, l32_42, l32_43, l32_44, l32_45, l32_46, l32_47, l32_48, l32_49, l32_50, l32_51, l32_52, l32_53, l32_54, l32_55, l32_56, l32_57, l32_58, l32_59, l32_60, l32_61, l32_62, l32_63, l32_64, l32_65, l32_66, l32_67, l32_68, l32_69, l32_70, l32_71, l32_83, l32_91, l32_98, l32_99, l32_100, l32_101, l32_102, l32_103, l32_106, l32_119, l32_126, l32_206, l32_515, l32_618, l32_850, l32_1000, l32_1022, l32_1023, l32_1050, l32_1239, l32_1260, i32_add, i32_sub, i32_mul, i32_neg, ↓reduceIte, ltT, ltF, leT, leF, eqT, eqF, gd_ix, i32_nat, RZ_at, upd_RZ, i32_ofNat, M_thrown_k, M_s_k, M_aside_k, M_ahead_k, M_saved_k, M_savedMany_k, M_slots_k, M_kept_k, M_buffer_k, M_length_k, M_strikes_k, M_order_k, M_orderMany_k, M_spot_k, M_isWrong_k, M_sign_k, M_one_k, M_two_k, M_three_k, M_played_k, M_isFine_k, M_bestPoints_k, M_hash_k, M_set_thrown_k, M_set_s_k, M_set_aside_k, M_set_ahead_k, M_set_saved_k, M_set_savedMany_k, M_set_slots_k, M_set_kept_k, M_set_buffer_k, M_set_length_k, M_set_strikes_k, M_set_order_k, M_set_orderMany_k, M_set_spot_k, M_set_isWrong_k, M_set_sign_k, M_set_one_k, M_set_two_k, M_set_three_k, M_set_played_k, M_set_isFine_k, M_set_bestPoints_k, M_set_hash_k, c2, e0]
      · have hb0 := h7 e0
        by_cases e1 : be0 < r
        · rw [if_pos (Or.inr e1), if_pos (Or.inr e1)]
          simp (maxSteps := 4000000) (disch := omega) only [jn, Option.bind_some, l32_0, l32_1, l32_2, l32_3, l32_4, l32_5, l32_6, l32_7, l32_8, l32_9, l32_10, l32_11, l32_12, l32_13, l32_14, l32_15, l32_16, l32_17, l32_18, l32_19, l32_20, l32_21, l32_22, l32_23, l32_24, l32_25, l32_26, l32_27, l32_28, l32_29, l32_30, l32_31, l32_32, l32_33, l32_34, l32_35, l32_36, l32_37, l32_38, l32_39, l32_40, l32_41, l32_42, l32_43, l32_44, l32_45, l32_46, l32_47, l32_48, l32_49, l32_50, l32_51, l32_52, l32_53, l32_54, l32_55, l32_56, l32_57, l32_58, l32_59, l32_60, l32_61, l32_62, l32_63, l32_64, l32_65, l32_66, l32_67, l32_68, l32_69, l32_70, l32_71, l32_83, l32_91, l32_98, l32_99, l32_100, l32_101, l32_102, l32_103, l32_106, l32_119, l32_126, l32_206, l32_515, l32_618, l32_850, l32_1000, l32_1022, l32_1023, l32_1050, l32_1239, l32_1260, i32_add, i32_sub, i32_mul, i32_neg, ↓reduceIte, ltT, ltF, leT, leF, eqT, eqF, gd_ix, i32_nat, RZ_at, upd_RZ, i32_ofNat, M_thrown_k, M_s_k, M_aside_k, M_ahead_k, M_saved_k, M_savedMany_k, M_slots_k, M_kept_k, M_buffer_k, M_length_k, M_strikes_k, M_order_k, M_orderMany_k, M_spot_k, M_isWrong_k, M_sign_k, M_one_k, M_two_k, M_three_k, M_played_k, M_isFine_k, M_bestPoints_k, M_hash_k, M_set_thrown_k, M_set_s_k, M_set_aside_k, M_set_ahead_k, M_set_saved_k, M_set_savedMany_k, M_set_slots_k, M_set_kept_k, M_set_buffer_k, M_set_length_k, M_set_strikes_k, M_set_order_k, M_set_orderMany_k, M_set_spot_k, M_set_isWrong_k, M_set_sign_k, M_set_one_k, M_set_two_k, M_set_three_k, M_set_played_k, M_set_isFine_k, M_set_bestPoints_k, M_set_hash_k, c2]
        · have nq : ¬ (found0 = 0 ∨ be0 < r) := fun x => x.elim e0 e1
          rw [if_neg nq, if_neg nq]
          simp (maxSteps := 4000000) (disch := omega) only [jn, Option.bind_some, l32_0, l32_1, l32_2, l32_3, l32_4, l32_5, l32_6, l32_7, l32_8, l32_9, l32_10, l32_11, l32_12, l32_13, l32_14, l32_15, l32_16, l32_17, l32_18, l32_19, l32_20, l32_21, l32_22, l32_23, l32_24, l32_25, l32_26, l32_27, l32_28, l32_29, l32_30, l32_31, l32_32, l32_33, l32_34, l32_35, l32_36, l32_37, l32_38, l32_39, l32_40, l32_41, l32_42, l32_43, l32_44, l32_45, l32_46, l32_47, l32_48, l32_49, l32_50, l32_51, l32_52, l32_53, l32_54, l32_55, l32_56, l32_57, l32_58, l32_59, l32_60, l32_61, l32_62, l32_63, l32_64, l32_65, l32_66, l32_67, l32_68, l32_69, l32_70, l32_71, l32_83, l32_91, l32_98, l32_99, l32_100, l32_101, l32_102, l32_103, l32_106, l32_119, l32_126, l32_206, l32_515, l32_618, l32_850, l32_1000, l32_1022, l32_1023, l32_1050, l32_1239, l32_1260, i32_add, i32_sub, i32_mul, i32_neg, ↓reduceIte, ltT, ltF, leT, leF, eqT, eqF, gd_ix, i32_nat, RZ_at, upd_RZ, i32_ofNat, M_thrown_k, M_s_k, M_aside_k, M_ahead_k, M_saved_k, M_savedMany_k, M_slots_k, M_kept_k, M_buffer_k, M_length_k, M_strikes_k, M_order_k, M_orderMany_k, M_spot_k, M_isWrong_k, M_sign_k, M_one_k, M_two_k, M_three_k, M_played_k, M_isFine_k, M_bestPoints_k, M_hash_k, M_set_thrown_k, M_set_s_k, M_set_aside_k, M_set_ahead_k, M_set_saved_k, M_set_savedMany_k, M_set_slots_k, M_set_kept_k, M_set_buffer_k, M_set_length_k, M_set_strikes_k, M_set_order_k, M_set_orderMany_k, M_set_spot_k, M_set_isWrong_k, M_set_sign_k, M_set_one_k, M_set_two_k, M_set_three_k, M_set_played_k, M_set_isFine_k, M_set_bestPoints_k, M_set_hash_k, c2]
    generalize ef : (if found0 = 0 ∨ be0 < r then w else found0) = found1 at refs
    generalize eb : (if found0 = 0 ∨ be0 < r then r else be0) = be1 at refs
    have f1 : (found1 = w ∧ be1 = r ∧ (found0 = 0 ∨ be0 < r)) ∨ (found1 = found0 ∧ be1 = be0 ∧ found0 ≠ 0 ∧ ¬ be0 < r) := by
      by_cases q : found0 = 0 ∨ be0 < r
      · rw [if_pos q] at ef eb
        exact Or.inl ⟨ef.symm, eb.symm, q⟩
      · rw [if_neg q] at ef eb
        exact Or.inr ⟨ef.symm, eb.symm, fun x => q (Or.inl x), fun x => q (Or.inr x)⟩
    have cls : ∀ K, stepC (i32 (if found0 ≠ 0 ∧ most0 < be0 then code found0 else best0), i32 (if found0 ≠ 0 ∧ most0 < be0 then be0 else most0), i32 w, xv, S, T) K = K (i32 (if found1 ≠ 0 ∧ most0 < be1 then code found1 else best0), i32 (if found1 ≠ 0 ∧ most0 < be1 then be1 else most0), i32 (w + 1), xv, S, T') := fun K => by
      by_cases q : found0 ≠ 0 ∧ most0 < be0
      · rw [if_pos q, if_pos q, H1 _ _ w r T T' K h4 (by omega) rb.1 rb.2 (h7 q.1).1 (h7 q.1).2 c1]
        rcases f1 with ⟨rfl, rfl, e⟩ | ⟨rfl, rfl, e, e2⟩
        · have e3 : be0 < be1 := by
            rcases e with e | e
            · exact absurd e q.1
            · exact e
          rw [if_neg (show ¬ be1 ≤ be0 by omega), if_neg (show ¬ be1 ≤ be0 by omega), if_pos (show found1 ≠ 0 ∧ most0 < be1 from ⟨by omega, by omega⟩), if_pos (show found1 ≠ 0 ∧ most0 < be1 from ⟨by omega, by omega⟩)]
        · rw [if_pos (show r ≤ be1 by omega), if_pos (show r ≤ be1 by omega), if_pos (show found1 ≠ 0 ∧ most0 < be1 from q), if_pos (show found1 ≠ 0 ∧ most0 < be1 from q)]
      · rw [if_neg q, if_neg q, H1 _ _ w r T T' K h4 (by omega) rb.1 rb.2 hm0.1 hm0.2 c1]
        rcases f1 with ⟨rfl, rfl, e⟩ | ⟨rfl, rfl, e, e2⟩
        · by_cases e3 : be1 ≤ most0
          · rw [if_pos e3, if_pos e3, if_neg (show ¬ (found1 ≠ 0 ∧ most0 < be1) by omega), if_neg (show ¬ (found1 ≠ 0 ∧ most0 < be1) by omega)]
          · rw [if_neg e3, if_neg e3, if_pos (show found1 ≠ 0 ∧ most0 < be1 from ⟨by omega, by omega⟩), if_pos (show found1 ≠ 0 ∧ most0 < be1 from ⟨by omega, by omega⟩)]
        · have e3 : r ≤ most0 := by omega
          rw [if_pos e3, if_pos e3, if_neg q, if_neg q]
    obtain ⟨found', be', st', om2, s2, as2, od2, T3, g1, g2, g3, g4, g5, g6, g7, g8, -⟩ := ih M1 M2 (w + 1) found1 be1 s' as' od' zz om' T' (by omega) (by omega) (by omega) (by omega) (by omega) (by omega) (fun _ => by omega) (by omega) (by omega) I' S' hc'
    refine ⟨found', be', st', om2, s2, as2, od2, T3, g1, g2, ?_, ?_, g5, g6, fun j x y => by rw [g7 j x y, eq' j x y], fun e => ?_, fun e => ⟨r, _, c2, rb, ?_⟩⟩
    · rw [lpN_s1, refs]; exact g3
    · rw [lpN_s1, cls]; exact g4
    · have := g8 (by omega)
      omega
    · have := g8 (by omega)
      omega
