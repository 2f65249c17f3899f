/-! a move of the text is done: both -/
theorem inv_c {B : Int} {n : Nat} {s s' : Int → Int} (h : INV B n s) (e : ∀ j, j ≠ 60 → j ≠ 62 → j ≠ 63 → j ≠ 64 → s' j = s j) (h60 : 1 ≤ s' 60 ∧ s' 60 ≤ 4) (hn : (n : Int) ≤ 2 * s' 60) (h62 : -5 ≤ s' 62 ∧ s' 62 ≤ 5) (h63 : s' 63 = 0 ∨ s' 63 = 1) (h64 : s' 64 = 0 ∨ s' 64 = 1) : INV B n s' := by
  obtain ⟨q3, q8, q0, -, q61, -, -, -, q67, q70, qk, qC, qB⟩ := h
  refine ⟨by rw [e 3 (by omega) (by omega) (by omega) (by omega)]; exact q3, q8, ?_, h60, by rw [e 61 (by omega) (by omega) (by omega) (by omega)]; exact q61, h62, h63, h64, by rw [e 67 (by omega) (by omega) (by omega) (by omega)]; exact q67, by rw [e 70 (by omega) (by omega) (by omega) (by omega)]; exact q70, fun k a b => by rw [e _ (by omega) (by omega) (by omega) (by omega)]; exact qk k a b, fun j hj => by rw [e j (by omega) (by omega) (by omega) (by omega)]; exact qC j hj, qB⟩
  rw [e 0 (by omega) (by omega) (by omega) (by omega)]
  rcases q0 with q | ⟨q, -⟩
  · exact Or.inl q
  · exact Or.inr ⟨(geo_ext q q8 (fun j a b => e j (by omega) (by omega) (by omega) (by omega))).1, hn⟩
theorem shows_c {B z : Int} {n : Nat} {s s' : Int → Int} {S : SV} (h : INV B n s) (e : ∀ j, j ≠ 60 → j ≠ 62 → j ≠ 63 → j ≠ 64 → s' j = s j) (hS : shows s n z S) : ∃ g v, S = SK g v (i32 (s 60)) (i32 (s 62)) (i32 (s 63)) (i32 (s 64)) ∧ shows s' n z (SK g v (i32 (s' 60)) (i32 (s' 62)) (i32 (s' 63)) (i32 (s' 64))) := by
  obtain ⟨p, sd, ai, we, bi, to, od, po, la, eb, rfl, rG, rV⟩ := hS
  have hn := h.2.1
  have h70 := h.2.2.2.2.2.2.2.2.2.1
  have hPl : ∀ k, Pl s' k = Pl s k := fun k => by
    rcases h.2.2.1 with ⟨q, n0⟩ | ⟨q, r⟩
    · have h3 := h.1
      by_cases k8 : k = 8
      · rw [k8, Pl_none (by rw [e 0 (by omega) (by omega) (by omega) (by omega)]; omega), Pl_none (by omega)]
      · unfold Pl
        rw [if_neg k8, if_neg k8, e 3 (by omega) (by omega) (by omega) (by omega), if_neg (by omega), if_neg (by omega)]
    · exact (geo_ext q h.2.1 (fun j x y => e j (by omega) (by omega) (by omega) (by omega))).2 k
  refine ⟨_, _, rfl, ?_⟩
  refine shows_mk ⟨fun k a b => ?_, fun k a b => ?_, fun k a b => ?_⟩ ⟨?_, ?_, fun k a b => ?_, fun k a b => ?_⟩ ⟨(e _ (by omega) (by omega) (by omega) (by omega)).symm, (e _ (by omega) (by omega) (by omega) (by omega)).symm, (e _ (by omega) (by omega) (by omega) (by omega)).symm, (e _ (by omega) (by omega) (by omega) (by omega)).symm, (e _ (by omega) (by omega) (by omega) (by omega)).symm, (e _ (by omega) (by omega) (by omega) (by omega)).symm, (e _ (by omega) (by omega) (by omega) (by omega)).symm, (e _ (by omega) (by omega) (by omega) (by omega)).symm, rfl, rfl, rfl, rfl⟩
  · rw [hPl]; exact rG.1 k a b
  · rw [e _ (by omega) (by omega) (by omega) (by omega), e _ (by omega) (by omega) (by omega) (by omega), e _ (by omega) (by omega) (by omega) (by omega), e _ (by omega) (by omega) (by omega) (by omega)]; exact rG.2.1 k a b
  · have := rG.2.2 k a b
    by_cases kn : k < n
    · rw [if_pos kn] at this ⊢
      rw [e _ (by omega) (by omega) (by omega) (by omega)]; exact this
    · rw [if_neg kn] at this ⊢; exact this
  · rw [e _ (by omega) (by omega) (by omega) (by omega)]; exact rV.1
  · rw [e _ (by omega) (by omega) (by omega) (by omega)]; exact rV.2.1
  · rw [e 70 (by omega) (by omega) (by omega) (by omega)] at b
    rw [e _ (by omega) (by omega) (by omega) (by omega)]; exact rV.2.2.1 k a b
  · rw [e _ (by omega) (by omega) (by omega) (by omega)]; exact rV.2.2.2 k a b
theorem blows_m {N : Nat} {th : Int} {s : Int → Int} {as_ : Int → Int} {ah : Int → Int} {sv : Int → Int} {sm : Int} {sl : Int → Int} {kp : Int} {bu : Int → Int} {le : Int} {st : Int} {od : Int → Int} {om : Int} {sp : Int} {wr_ : Int} {sg : Int} {on_ : Int} {tw : Int} {t3 : Int} {pl : Int} {fi : Int} {be : Int} {ha : Int64} {w : Int} : f_X6_blows N (MK (i32 th) (RZ s) (RZ as_) (RZ ah) (RZ sv) (i32 sm) (RZ sl) (i32 kp) (RZ bu) (i32 le) (i32 st) (RZ od) (i32 om) (i32 sp) (i32 wr_) (i32 sg) (i32 on_) (i32 tw) (i32 t3) (i32 pl) (i32 fi) (i32 be) ha) (i32 w) = some (i32 (s 62), (MK (i32 th) (RZ (up s 62 w)) (RZ as_) (RZ ah) (RZ sv) (i32 sm) (RZ sl) (i32 kp) (RZ bu) (i32 le) (i32 st) (RZ od) (i32 om) (i32 sp) (i32 wr_) (i32 sg) (i32 on_) (i32 tw) (i32 t3) (i32 pl) (i32 fi) (i32 be) ha)) := by
  unfold f_X6_blows
  simp (maxSteps := 4000000) (disch := omega) only [jn, Option.bind_some, l32_0, l32_1, l32_2, l32_3, l32_4, l32_5, l32_6, l32_7, l32_8, l32_9, l32_10, l32_11, l32_12, l32_13, l32_14, l32_15, l32_16, l32_17, l32_18, l32_19, l32_20, l32_21, l32_22, l32_23, l32_24, l32_25, l32_26, l32_27, l32_28, l32_29, l32_30, l32_31, l32_32, l32_33, l32_34, l32_35, l32_36, l32_37, l32_38, l32_39, l32_40, l32_41, l32_42, l32_43, l32_44, l32_45, l32_46, l32_47, l32_48, l32_49, l32_50, l32_51, l32_52, l32_53, l32_54, l32_55, l32_56, l32_57, l32_58, l32_59, l32_60, l32_61, l32_62, l32_63, l32_64, l32_65, l32_66, l32_67, l32_68, l32_69, l32_70, l32_71, l32_83, l32_91, l32_98, l32_99, l32_100, l32_101, l32_102, l32_103, l32_106, l32_119, l32_126, l32_206, l32_515, l32_618, l32_850, l32_1000, l32_1022, l32_1023, l32_1050, l32_1239, l32_1260, i32_add, i32_sub, i32_mul, i32_neg, ↓reduceIte, ltT, ltF, leT, leF, eqT, eqF, gd_ix, i32_nat, RZ_at, upd_RZ, i32_ofNat, M_thrown_k, M_s_k, M_aside_k, M_ahead_k, M_saved_k, M_savedMany_k, M_slots_k, M_kept_k, M_buffer_k, M_length_k, M_strikes_k, M_order_k, M_orderMany_k, M_spot_k, M_isWrong_k, M_sign_k, M_one_k, M_two_k, M_three_k, M_played_k, M_isFine_k, M_bestPoints_k, M_hash_k, M_set_thrown_k, M_set_s_k, M_set_aside_k, M_set_ahead_k, M_set_saved_k, M_set_savedMany_k, M_set_slots_k, M_set_kept_k, M_set_buffer_k, M_set_length_k, M_set_strikes_k, M_set_order_k, M_set_orderMany_k, M_set_spot_k, M_set_isWrong_k, M_set_sign_k, M_set_one_k, M_set_two_k, M_set_three_k, M_set_played_k, M_set_isFine_k, M_set_bestPoints_k, M_set_hash_k]
-- numbers, as the class reads them
section NUM
variable {N : Nat} {bu cd : Int → Int} {le i : Int}
end NUM
