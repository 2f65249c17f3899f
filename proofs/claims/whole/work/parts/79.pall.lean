/-! all moves of the text: both -/
abbrev PT : Type := Int32 × Int32 × XV × SV × SV × SV × SV × SV × SV × SV × SV
abbrev PR : Type := (Nat ⊕ Int32) × (XV × SV × SV × SV × SV × SV × SV × SV × SV)
def stPA (N : Nat) : PT → (PT → Option PR) → Option PR := (fun (s35 : Int32 × Int32 × XV × SV × SV × SV × SV × SV × SV × SV × SV) (k35 : (Int32 × Int32 × XV × SV × SV × SV × SV × SV × SV × SV × SV) → Option ((Nat ⊕ Int32) × (XV × SV × SV × SV × SV × SV × SV × SV × SV))) => (if (T_length (X_text s35.2.2.1)) ≤ s35.2.1 then (f_X5_saveState N s35.2.2.1 s35.2.2.2.1 s35.2.2.2.2.2.1 s35.2.2.2.2.2.2.1 s35.2.2.2.2.2.2.2.1 s35.2.2.2.2.2.2.2.2.1 s35.2.2.2.2.2.2.2.2.2.1 s35.2.2.2.2.2.2.2.2.2.2).bind (fun o8 => (f_X3_copyFrom N o8.2.1 s35.2.2.2.2.1).bind (fun o10 => some ((Sum.inr s35.1), ((X_set_text o8.1 (T_set_length (X_text o8.1) (0 : Int32))), o10.1, o10.2, o8.2.2.1, o8.2.2.2.1, o8.2.2.2.2.1, o8.2.2.2.2.2.1, o8.2.2.2.2.2.2.1, o8.2.2.2.2.2.2.2)))) else (f_X4_codeAt N (X_text s35.2.2.1) s35.2.1).bind (fun o12 => (f_X5_canMove N s35.2.2.2.2.1 o12).bind (fun o14 => (if o14 = 0 then some (Sum.inl 1, (s35.2.2.1, s35.2.2.2.1, s35.2.2.2.2.1, s35.2.2.2.2.2.1, s35.2.2.2.2.2.2.1, s35.2.2.2.2.2.2.2.1, s35.2.2.2.2.2.2.2.2.1, s35.2.2.2.2.2.2.2.2.2.1, s35.2.2.2.2.2.2.2.2.2.2)) else (f_X5_playMove N s35.2.2.1 s35.2.2.2.2.1 s35.2.1).bind (fun o18 => (f_X4_codeAt N (X_text o18.1) s35.2.1).bind (fun o20 => jn (fun (s99 : Int32) => k35 (s99, (s35.2.1 + (1 : Int32)), o18.1, s35.2.2.2.1, o18.2, s35.2.2.2.2.2.1, s35.2.2.2.2.2.2.1, s35.2.2.2.2.2.2.2.1, s35.2.2.2.2.2.2.2.2.1, s35.2.2.2.2.2.2.2.2.2.1, s35.2.2.2.2.2.2.2.2.2.2)) (fun (j99 : (Int32) → Option ((Nat ⊕ Int32) × (XV × SV × SV × SV × SV × SV × SV × SV × SV))) => (if o20 = (98 : Int32) then j99 (s35.1 + (1 : Int32)) else j99 s35.1)))))))))
theorem playAll_st (N : Nat) (xv : XV) (nv tv v0 v1 v2 v3 v4 v5 : SV) : f_X5_playAll N xv nv tv v0 v1 v2 v3 v4 v5 = (f_X4_isWhole N (X_text xv)).bind (fun o1 => (if o1 = 0 then some (Sum.inl 0, (xv, nv, tv, v0, v1, v2, v3, v4, v5)) else (f_X3_copyFrom N tv nv).bind (fun o5 => lpN (stPA N) N ((0 : Int32), (0 : Int32), xv, o5.2, o5.1, v0, v1, v2, v3, v4, v5)))) := rfl
section PAS
variable {N : Nat} {bu cd : Int → Int} {le i bw : Int} {xv : XV} {nv T v0 v1 v2 v3 v4 v5 : SV} {k : PT → Option PR}
/-- a character that isn't a move's letter is passed over -/
theorem pa_skip (hT : TXT bu cd le) (hX : X_text xv = TK (RZ cd) (i32 le)) (h0 : 0 ≤ i) (h1 : i < le) (hc : bu i ≠ 98 ∧ bu i ≠ 99 ∧ bu i ≠ 106 ∧ bu i ≠ 119) : stPA N (i32 bw, i32 i, xv, nv, T, v0, v1, v2, v3, v4, v5) k = k (i32 bw, i32 (i + 1), xv, nv, T, v0, v1, v2, v3, v4, v5) := by
  have ec := code_in (N := N) hT h0 h1
  have hl := hT.1
  have q := hT.2 i h0 h1
  have e1 : f_X5_canMove N T (i32 (bu i)) = some (i32 1) := by
    unfold f_X5_canMove
    simp (maxSteps := 4000000) (disch := omega) only [jn, Option.bind_some, l32_0, l32_1, l32_2, l32_3, l32_4, l32_5, l32_6, l32_7, l32_8, l32_9, l32_10, l32_11, l32_12, l32_13, l32_14, l32_15, l32_16, l32_17, l32_18, l32_19, l32_20, l32_21, l32_22, l32_23, l32_24, l32_25, l32_26, l32_27, l32_28, l32_29, l32_30, l32_31, l32_32, l32_33, l32_34, l32_35, l32_36, l32_37, l32_38, l32_39, l32_40, l32_41, l32_42, l32_43, l32_44, l32_45, l32_46, l32_47, l32_48, l32_49, l32_50, l32_51, l32_52, l32_53, l32_54, l32_55, l32_56, l32_57, l32_58, l32_59, l32_60, l32_61, l32_62, l32_63, l32_64, l32_65, l32_66, l32_67, l32_68, l32_69, l32_70, l32_71, l32_83, l32_91, l32_98, l32_99, l32_100, l32_101, l32_102, l32_103, l32_106, l32_119, l32_126, l32_206, l32_515, l32_618, l32_850, l32_1000, l32_1022, l32_1023, l32_1050, l32_1239, l32_1260, i32_add, i32_sub, i32_mul, i32_neg, ↓reduceIte, ltT, ltF, leT, leF, eqT, eqF, gd_ix, i32_nat, RZ_at, upd_RZ, i32_ofNat]
  have e2 : f_X5_playMove N xv T (i32 i) = some (xv, T) := by
    unfold f_X5_playMove
    rw [hX]
    simp (maxSteps := 4000000) (disch := omega) only [jn, Option.bind_some, l32_0, l32_1, l32_2, l32_3, l32_4, l32_5, l32_6, l32_7, l32_8, l32_9, l32_10, l32_11, l32_12, l32_13, l32_14, l32_15, l32_16, l32_17, l32_18, l32_19, l32_20, l32_21, l32_22, l32_23, l32_24, l32_25, l32_26, l32_27, l32_28, l32_29, l32_30, l32_31, l32_32, l32_33, l32_34, l32_35, l32_36, l32_37, l32_38, l32_39, l32_40, l32_41, l32_42, l32_43, l32_44, l32_45, l32_46, l32_47, l32_48, l32_49, l32_50, l32_51, l32_52, l32_53, l32_54, l32_55, l32_56, l32_57, l32_58, l32_59, l32_60, l32_61, l32_62, l32_63, l32_64, l32_65, l32_66, l32_67, l32_68, l32_69, l32_70, l32_71, l32_83, l32_91, l32_98, l32_99, l32_100, l32_101, l32_102, l32_103, l32_106, l32_119, l32_126, l32_206, l32_515, l32_618, l32_850, l32_1000, l32_1022, l32_1023, l32_1050, l32_1239, l32_1260, i32_add, i32_sub, i32_mul, i32_neg, ↓reduceIte, ltT, ltF, leT, leF, eqT, eqF, gd_ix, i32_nat, RZ_at, upd_RZ, i32_ofNat, ec]
  unfold stPA
  simp (maxSteps := 4000000) (disch := omega) only [jn, Option.bind_some, l32_0, l32_1, l32_2, l32_3, l32_4, l32_5, l32_6, l32_7, l32_8, l32_9, l32_10, l32_11, l32_12, l32_13, l32_14, l32_15, l32_16, l32_17, l32_18, l32_19, l32_20, l32_21, l32_22, l32_23, l32_24, l32_25, l32_26, l32_27, l32_28, l32_29, l32_30, l32_31, l32_32, l32_33, l32_34, l32_35, l32_36, l32_37, l32_38, l32_39, l32_40, l32_41, l32_42, l32_43, l32_44, l32_45, l32_46, l32_47, l32_48, l32_49, l32_50, l32_51, l32_52, l32_53, l32_54, l32_55, l32_56, l32_57, l32_58, l32_59, l32_60, l32_61, l32_62, l32_63, l32_64, l32_65, l32_66, l32_67, l32_68, l32_69, l32_70, l32_71, l32_83, l32_91, l32_98, l32_99, l32_100, l32_101, l32_102, l32_103, l32_106, l32_119, l32_126, l32_206, l32_515, l32_618, l32_850, l32_1000, l32_1022, l32_1023, l32_1050, l32_1239, l32_1260, i32_add, i32_sub, i32_mul, i32_neg, ↓reduceIte, ltT, ltF, leT, leF, eqT, eqF, gd_ix, i32_nat, RZ_at, upd_RZ, i32_ofNat, T_codes_k, T_length_k, T_set_codes_k, T_set_length_k, hX, ec, e1, e2]
theorem pa_move {T' : SV} (hT : TXT bu cd le) (hX : X_text xv = TK (RZ cd) (i32 le)) (h0 : 0 ≤ i) (h1 : i < le) (e1 : f_X5_canMove N T (i32 (bu i)) = some (i32 1)) (e2 : f_X5_playMove N xv T (i32 i) = some (xv, T')) : stPA N (i32 bw, i32 i, xv, nv, T, v0, v1, v2, v3, v4, v5) k = k (i32 (bw + (if bu i = 98 then 1 else 0)), i32 (i + 1), xv, nv, T', v0, v1, v2, v3, v4, v5) := by
  have ec := code_in (N := N) hT h0 h1
  have hl := hT.1
  have q := hT.2 i h0 h1
  unfold stPA
  by_cases c : bu i = 98
  · rw [if_pos c]
    simp (maxSteps := 4000000) (disch := omega) only [jn, Option.bind_some, l32_0, l32_1, l32_2, l32_3, l32_4, l32_5, l32_6, l32_7, l32_8, l32_9, l32_10, l32_11, l32_12, l32_13, l32_14, l32_15, l32_16, l32_17, l32_18, l32_19, l32_20, l32_21, l32_22, l32_23, l32_24, l32_25, l32_26, l32_27, l32_28, l32_29, l32_30, l32_31, l32_32, l32_33, l32_34, l32_35, l32_36, l32_37, l32_38, l32_39, l32_40, l32_41, l32_42, l32_43, l32_44, l32_45, l32_46, l32_47, l32_48, l32_49, l32_50, l32_51, l32_52, l32_53, l32_54, l32_55, l32_56, l32_57, l32_58, l32_59, l32_60, l32_61, l32_62, l32_63, l32_64, l32_65, l32_66, l32_67, l32_68, l32_69, l32_70, l32_71, l32_83, l32_91, l32_98, l32_99, l32_100, l32_101, l32_102, l32_103, l32_106, l32_119, l32_126, l32_206, l32_515, l32_618, l32_850, l32_1000, l32_1022, l32_1023, l32_1050, l32_1239, l32_1260, i32_add, i32_sub, i32_mul, i32_neg, ↓reduceIte, ltT, ltF, leT, leF, eqT, eqF, gd_ix, i32_nat, RZ_at, upd_RZ, i32_ofNat, T_codes_k, T_length_k, T_set_codes_k, T_set_length_k, hX, ec, e1, e2, c]
    rw [c] at e1
    simp (maxSteps := 4000000) (disch := omega) only [jn, Option.bind_some, l32_0, l32_1, l32_2, l32_3, l32_4, l32_5, l32_6, l32_7, l32_8, l32_9, l32_10, l32_11, l32_12, l32_13, l32_14, l32_15, l32_16, l32_17, l32_18, l32_19, l32_20, l32_21, l32_22, l32_23, l32_24, l32_25, l32_26, l32_27, l32_28, l32_29, l32_30, l32_31, l32_32, l32_33, l32_34, l32_35, l32_36, l32_37, l32_38, l32_39, l32_40, l32_41, l32_42, l32_43, l32_44, l32_45, l32_46, l32_47, l32_48, l32_49, l32_50, l32_51, l32_52, l32_53, l32_54, l32_55, l32_56, l32_57, l32_58, l32_59, l32_60, l32_61, l32_62, l32_63, l32_64, l32_65, l32_66, l32_67, l32_68, l32_69, l32_70, l32_71, l32_83, l32_91, l32_98, l32_99, l32_100, l32_101, l32_102, l32_103, l32_106, l32_119, l32_126, l32_206, l32_515, l32_618, l32_850, l32_1000, l32_1022, l32_1023, l32_1050, l32_1239, l32_1260, i32_add, i32_sub, i32_mul, i32_neg, ↓reduceIte, ltT, ltF, leT, leF, eqT, eqF, gd_ix, i32_nat, RZ_at, upd_RZ, i32_ofNat, e1]
  · rw [if_neg c, Int.add_zero]
    simp (maxSteps := 4000000) (disch := omega) only [jn, Option.bind_some, l32_0, l32_1, l32_2, l32_3, l32_4, l32_5, l32_6, l32_7, l32_8, l32_9, l32_10, l32_11, l32_12, l32_13, l32_14, l32_15, l32_16, l32_17, l32_18, l32_19, l32_20, l32_21, l32_22, l32_23, l32_24, l32_25, l32_26, l32_27, l32_28, l32_29, l32_30, l32_31, l32_32, l32_33, l32_34, l32_35, l32_36, l32_37, l32_38, l32_39, l32_40, l32_41, l32_42, l32_43, l32_44, l32_45, l32_46, l32_47, l32_48, l32_49, l32_50, l32_51, l32_52, l32_53, l32_54, l32_55, l32_56, l32_57, l32_58, l32_59, l32_60, l32_61, l32_62, l32_63, l32_64, l32_65, l32_66, l32_67, l32_68, l32_69, l32_70, l32_71, l32_83, l32_91, l32_98, l32_99, l32_100, l32_101, l32_102, l32_103, l32_106, l32_119, l32_126, l32_206, l32_515, l32_618, l32_850, l32_1000, l32_1022, l32_1023, l32_1050, l32_1239, l32_1260, i32_add, i32_sub, i32_mul, i32_neg, ↓reduceIte, ltT, ltF, leT, leF, eqT, eqF, gd_ix, i32_nat, RZ_at, upd_RZ, i32_ofNat, T_codes_k, T_length_k, T_set_codes_k, T_set_length_k, hX, ec, e1, e2]
theorem pa_fail (hT : TXT bu cd le) (hX : X_text xv = TK (RZ cd) (i32 le)) (h0 : 0 ≤ i) (h1 : i < le) (e1 : f_X5_canMove N T (i32 (bu i)) = some (i32 0)) : stPA N (i32 bw, i32 i, xv, nv, T, v0, v1, v2, v3, v4, v5) k = some (Sum.inl 1, (xv, nv, T, v0, v1, v2, v3, v4, v5)) := by
  have ec := code_in (N := N) hT h0 h1
  have hl := hT.1
  have q := hT.2 i h0 h1
  unfold stPA
  simp (maxSteps := 4000000) (disch := omega) only [jn, Option.bind_some, l32_0, l32_1, l32_2, l32_3, l32_4, l32_5, l32_6, l32_7, l32_8, l32_9, l32_10, l32_11, l32_12, l32_13, l32_14, l32_15, l32_16, l32_17, l32_18, l32_19, l32_20, l32_21, l32_22, l32_23, l32_24, l32_25, l32_26, l32_27, l32_28, l32_29, l32_30, l32_31, l32_32, l32_33, l32_34, l32_35, l32_36, l32_37, l32_38, l32_39, l32_40, l32_41, l32_42, l32_43, l32_44, l32_45, l32_46, l32_47, l32_48, l32_49, l32_50, l32_51, l32_52, l32_53, l32_54, l32_55, l32_56, l32_57, l32_58, l32_59, l32_60, l32_61, l32_62, l32_63, l32_64, l32_65, l32_66, l32_67, l32_68, l32_69, l32_70, l32_71, l32_83, l32_91, l32_98, l32_99, l32_100, l32_101, l32_102, l32_103, l32_106, l32_119, l32_126, l32_206, l32_515, l32_618, l32_850, l32_1000, l32_1022, l32_1023, l32_1050, l32_1239, l32_1260, i32_add, i32_sub, i32_mul, i32_neg, ↓reduceIte, ltT, ltF, leT, leF, eqT, eqF, gd_ix, i32_nat, RZ_at, upd_RZ, i32_ofNat, T_codes_k, T_length_k, T_set_codes_k, T_set_length_k, hX, ec, e1]
theorem pa_skips (hT : TXT bu cd le) (hX : X_text xv = TK (RZ cd) (i32 le)) : ∀ (d M : Nat) (i : Int), 0 ≤ i → i + d ≤ le → (∀ j, i ≤ j → j < i + d → bu j ≠ 98 ∧ bu j ≠ 99 ∧ bu j ≠ 106 ∧ bu j ≠ 119) → lpN (stPA N) (M + d) (i32 bw, i32 i, xv, nv, T, v0, v1, v2, v3, v4, v5) = lpN (stPA N) M (i32 bw, i32 (i + d), xv, nv, T, v0, v1, v2, v3, v4, v5)
  | 0, M, i, _, _, _ => by
    rw [nc0, Int.add_zero, Nat.add_zero]
  | d + 1, M, i, h0, h1, h => by
    rw [ncS] at h1
    rw [← Nat.add_assoc, lpN_s1, pa_skip hT hX h0 (by omega) (h i (by omega) (by rw [ncS]; omega)), pa_skips hT hX d M (i + 1) (by omega) (by omega) (fun j a b => h j (by omega) (by rw [ncS]; omega)), ncS, show i + 1 + (d : Int) = i + ((d : Int) + 1) by omega]
end PAS
/-- behind a move's letter there is none till its end -/
theorem mov_rest {bu : Int → Int} {sp g o t r sp' : Int} (h : MOV bu sp g o t r sp') : sp < sp' ∧ ∀ j, sp + 1 ≤ j → j < sp' → bu j ≠ 98 ∧ bu j ≠ 99 ∧ bu j ≠ 106 ∧ bu j ≠ 119 := by
  have sg : ∀ {a m v b : Int}, m ≤ 9 → SGN bu a m v b → a < b ∧ b ≤ a + 2 ∧ bu a ≤ 57 ∧ (b = a + 2 → bu (a + 1) ≤ 57) := fun {a m v b} hm q => by
    rcases q with q | q
    · exact ⟨by omega, by omega, by omega, fun e => by omega⟩
    · exact ⟨by omega, by omega, by omega, fun _ => by omega⟩
  rcases h with ⟨-, -, d1, d2, -, -, rfl⟩ | ⟨-, -, hv⟩ | ⟨-, -, p1, hv, k1, d1, d2, -, -, k2, hv3⟩ | ⟨-, -, rfl⟩
  · refine ⟨by omega, fun j a b => ?_⟩
    have : j = sp + 1 ∨ j = sp + 2 := by omega
    rcases this with rfl | rfl <;> omega
  · obtain ⟨q1, q2, q3, q4⟩ := sg (by omega) hv
    refine ⟨by omega, fun j a b => ?_⟩
    have : j = sp + 1 ∨ (j = sp + 1 + 1 ∧ sp' = sp + 1 + 2) := by omega
    rcases this with rfl | ⟨rfl, e⟩
    · omega
    · have := q4 e
      omega
  · obtain ⟨q1, q2, q3, q4⟩ := sg (by omega) hv
    obtain ⟨u1, u2, u3, u4⟩ := sg (by omega) hv3
    refine ⟨by omega, fun j a b => ?_⟩
    have : j = sp + 1 ∨ (j = sp + 1 + 1 ∧ p1 = sp + 1 + 2) ∨ j = p1 ∨ j = p1 + 1 ∨ j = p1 + 2 ∨ j = p1 + 3 ∨ j = p1 + 4 ∨ (j = p1 + 4 + 1 ∧ sp' = p1 + 4 + 2) := by omega
    rcases this with rfl | ⟨rfl, e⟩ | rfl | rfl | rfl | rfl | rfl | ⟨rfl, e⟩
    · omega
    · have := q4 e
      omega
    · omega
    · omega
    · omega
    · omega
    · omega
    · have := u4 e
      omega
  · exact ⟨by omega, fun j a b => by omega⟩
section UST
variable {N : Nat} {th : Int} {s : Int → Int} {as_ : Int → Int} {ah : Int → Int} {sv : Int → Int} {sm : Int} {sl : Int → Int} {kp : Int} {bu : Int → Int} {le : Int} {st : Int} {od : Int → Int} {om : Int} {sp : Int} {wr_ : Int} {sg : Int} {on_ : Int} {tw : Int} {t3 : Int} {pl : Int} {fi : Int} {be : Int} {ha : Int64} {k : Int32 × MV → Option MV}
/-- what was read can't be done: the rest is read alone -/
theorem u_fail {g o t r e : Int} (hfi : fi = 1) (hr : f_X6_readMove N (MK (i32 th) (RZ s) (RZ as_) (RZ ah) (RZ sv) (i32 sm) (RZ sl) (i32 kp) (RZ bu) (i32 le) (i32 st) (RZ od) (i32 om) (i32 sp) (i32 wr_) (i32 sg) (i32 on_) (i32 tw) (i32 t3) (i32 pl) (i32 fi) (i32 be) ha) = some (MK (i32 th) (RZ s) (RZ as_) (RZ ah) (RZ sv) (i32 sm) (RZ sl) (i32 kp) (RZ bu) (i32 le) (i32 st) (RZ od) (i32 om) (i32 e) (i32 0) (i32 g) (i32 o) (i32 t) (i32 r) (i32 pl) (i32 fi) (i32 be) ha)) (hd : f_X6_does N (MK (i32 th) (RZ s) (RZ as_) (RZ ah) (RZ sv) (i32 sm) (RZ sl) (i32 kp) (RZ bu) (i32 le) (i32 st) (RZ od) (i32 om) (i32 e) (i32 0) (i32 g) (i32 o) (i32 t) (i32 r) (i32 pl) (i32 fi) (i32 be) ha) = some (i32 0, (MK (i32 th) (RZ s) (RZ as_) (RZ ah) (RZ sv) (i32 sm) (RZ sl) (i32 kp) (RZ bu) (i32 le) (i32 st) (RZ od) (i32 om) (i32 e) (i32 0) (i32 g) (i32 o) (i32 t) (i32 r) (i32 pl) (i32 fi) (i32 be) ha))) (hc : cod bu le) (hb : 0 ≤ e ∧ e ≤ le) (hx : e < le → bu e = 59) : stT N (i32 1) (i32 1, (MK (i32 th) (RZ s) (RZ as_) (RZ ah) (RZ sv) (i32 sm) (RZ sl) (i32 kp) (RZ bu) (i32 le) (i32 st) (RZ od) (i32 om) (i32 sp) (i32 wr_) (i32 sg) (i32 on_) (i32 tw) (i32 t3) (i32 pl) (i32 fi) (i32 be) ha)) k = if e < le then k (i32 1, (MK (i32 th) (RZ s) (RZ as_) (RZ ah) (RZ sv) (i32 sm) (RZ sl) (i32 kp) (RZ bu) (i32 le) (i32 st) (RZ od) (i32 om) (i32 (e + 1)) (i32 0) (i32 g) (i32 o) (i32 t) (i32 r) (i32 pl) (i32 0) (i32 be) ha)) else k (i32 0, (MK (i32 th) (RZ s) (RZ as_) (RZ ah) (RZ sv) (i32 sm) (RZ sl) (i32 kp) (RZ bu) (i32 le) (i32 st) (RZ od) (i32 om) (i32 e) (i32 0) (i32 g) (i32 o) (i32 t) (i32 r) (i32 pl) (i32 0) (i32 be) ha)) := by
  subst hfi
  have hl := hc.1
  unfold stT
  by_cases c : e < le
  · have q := (takes_m (N := N) (th := th) (s := s) (as_ := as_) (ah := ah) (sv := sv) (sm := sm) (sl := sl) (kp := kp) (bu := bu) (le := le) (st := st) (od := od) (om := om) (sp := e) (wr_ := 0) (sg := g) (on_ := o) (tw := t) (t3 := r) (pl := pl) (fi := 0) (be := be) (ha := ha) (lo := 59) (hi := 59) hc (by omega) (Or.inl rfl) (by omega) (by omega)).1
    have := hx c
    rw [tk_p c (by omega) (by omega)] at q
    rw [if_pos c]
    simp (maxSteps := 4000000) (disch := omega) only [jn, Option.bind_some, l32_0, l32_1, l32_2, l32_3, l32_4, l32_5, l32_6, l32_7, l32_8, l32_9, l32_10, l32_11, l32_12, l32_13, l32_14, l32_15, l32_16, l32_17, l32_18, l32_19, l32_20, l32_21, l32_22, l32_23, l32_24, l32_25, l32_26, l32_27, l32_28, l32_29, l32_30, l32_31, l32_32, l32_33, l32_34, l32_35, l32_36, l32_37, l32_38, l32_39, l32_40, l32_41, l32_42, l32_43, l32_44, l32_45, l32_46, l32_47, l32_48, l32_49, l32_50, l32_51, l32_52, l32_53, l32_54, l32_55, l32_56, l32_57, l32_58, l32_59, l32_60, l32_61, l32_62, l32_63, l32_64, l32_65, l32_66, l32_67, l32_68, l32_69, l32_70, l32_71, l32_83, l32_91, l32_98, l32_99, l32_100, l32_101, l32_102, l32_103, l32_106, l32_119, l32_126, l32_206, l32_515, l32_618, l32_850, l32_1000, l32_1022, l32_1023, l32_1050, l32_1239, l32_1260, i32_add, i32_sub, i32_mul, i32_neg, ↓reduceIte, ltT, ltF, leT, leF, eqT, eqF, gd_ix, i32_nat, RZ_at, upd_RZ, i32_ofNat, M_thrown_k, M_s_k, M_aside_k, M_ahead_k, M_saved_k, M_savedMany_k, M_slots_k, M_kept_k, M_buffer_k, M_length_k, M_strikes_k, M_order_k, M_orderMany_k, M_spot_k, M_isWrong_k, M_sign_k, M_one_k, M_two_k, M_three_k, M_played_k, M_isFine_k, M_bestPoints_k, M_hash_k, M_set_thrown_k, M_set_s_k, M_set_aside_k, M_set_ahead_k, M_set_saved_k, M_set_savedMany_k, M_set_slots_k, M_set_kept_k, M_set_buffer_k, M_set_length_k, M_set_strikes_k, M_set_order_k, M_set_orderMany_k, M_set_spot_k, M_set_isWrong_k, M_set_sign_k, M_set_one_k, M_set_two_k, M_set_three_k, M_set_played_k, M_set_isFine_k, M_set_bestPoints_k, M_set_hash_k, hr, hd, q]
  · rw [if_neg c]
    simp (maxSteps := 4000000) (disch := omega) only [jn, Option.bind_some, l32_0, l32_1, l32_2, l32_3, l32_4, l32_5, l32_6, l32_7, l32_8, l32_9, l32_10, l32_11, l32_12, l32_13, l32_14, l32_15, l32_16, l32_17, l32_18, l32_19, l32_20, l32_21, l32_22, l32_23, l32_24, l32_25, l32_26, l32_27, l32_28, l32_29, l32_30, l32_31, l32_32, l32_33, l32_34, l32_35, l32_36, l32_37, l32_38, l32_39, l32_40, l32_41, l32_42, l32_43, l32_44, l32_45, l32_46, l32_47, l32_48, l32_49, l32_50, l32_51, l32_52, l32_53, l32_54, l32_55, l32_56, l32_57, l32_58, l32_59, l32_60, l32_61, l32_62, l32_63, l32_64, l32_65, l32_66, l32_67, l32_68, l32_69, l32_70, l32_71, l32_83, l32_91, l32_98, l32_99, l32_100, l32_101, l32_102, l32_103, l32_106, l32_119, l32_126, l32_206, l32_515, l32_618, l32_850, l32_1000, l32_1022, l32_1023, l32_1050, l32_1239, l32_1260, i32_add, i32_sub, i32_mul, i32_neg, ↓reduceIte, ltT, ltF, leT, leF, eqT, eqF, gd_ix, i32_nat, RZ_at, upd_RZ, i32_ofNat, M_thrown_k, M_s_k, M_aside_k, M_ahead_k, M_saved_k, M_savedMany_k, M_slots_k, M_kept_k, M_buffer_k, M_length_k, M_strikes_k, M_order_k, M_orderMany_k, M_spot_k, M_isWrong_k, M_sign_k, M_one_k, M_two_k, M_three_k, M_played_k, M_isFine_k, M_bestPoints_k, M_hash_k, M_set_thrown_k, M_set_s_k, M_set_aside_k, M_set_ahead_k, M_set_saved_k, M_set_savedMany_k, M_set_slots_k, M_set_kept_k, M_set_buffer_k, M_set_length_k, M_set_strikes_k, M_set_order_k, M_set_orderMany_k, M_set_spot_k, M_set_isWrong_k, M_set_sign_k, M_set_one_k, M_set_two_k, M_set_three_k, M_set_played_k, M_set_isFine_k, M_set_bestPoints_k, M_set_hash_k, hr, hd]
/-- once one couldn't be done, no more is -/
theorem u_rest {g o t r e : Int} (hfi : fi = 0) (hr : f_X6_readMove N (MK (i32 th) (RZ s) (RZ as_) (RZ ah) (RZ sv) (i32 sm) (RZ sl) (i32 kp) (RZ bu) (i32 le) (i32 st) (RZ od) (i32 om) (i32 sp) (i32 wr_) (i32 sg) (i32 on_) (i32 tw) (i32 t3) (i32 pl) (i32 fi) (i32 be) ha) = some (MK (i32 th) (RZ s) (RZ as_) (RZ ah) (RZ sv) (i32 sm) (RZ sl) (i32 kp) (RZ bu) (i32 le) (i32 st) (RZ od) (i32 om) (i32 e) (i32 0) (i32 g) (i32 o) (i32 t) (i32 r) (i32 pl) (i32 fi) (i32 be) ha)) (hc : cod bu le) (hb : 0 ≤ e ∧ e ≤ le) (hx : e < le → bu e = 59) : stT N (i32 1) (i32 1, (MK (i32 th) (RZ s) (RZ as_) (RZ ah) (RZ sv) (i32 sm) (RZ sl) (i32 kp) (RZ bu) (i32 le) (i32 st) (RZ od) (i32 om) (i32 sp) (i32 wr_) (i32 sg) (i32 on_) (i32 tw) (i32 t3) (i32 pl) (i32 fi) (i32 be) ha)) k = if e < le then k (i32 1, (MK (i32 th) (RZ s) (RZ as_) (RZ ah) (RZ sv) (i32 sm) (RZ sl) (i32 kp) (RZ bu) (i32 le) (i32 st) (RZ od) (i32 om) (i32 (e + 1)) (i32 0) (i32 g) (i32 o) (i32 t) (i32 r) (i32 pl) (i32 0) (i32 be) ha)) else k (i32 0, (MK (i32 th) (RZ s) (RZ as_) (RZ ah) (RZ sv) (i32 sm) (RZ sl) (i32 kp) (RZ bu) (i32 le) (i32 st) (RZ od) (i32 om) (i32 e) (i32 0) (i32 g) (i32 o) (i32 t) (i32 r) (i32 pl) (i32 0) (i32 be) ha)) := by
  subst hfi
  have hl := hc.1
  unfold stT
  by_cases c : e < le
  · have q := (takes_m (N := N) (th := th) (s := s) (as_ := as_) (ah := ah) (sv := sv) (sm := sm) (sl := sl) (kp := kp) (bu := bu) (le := le) (st := st) (od := od) (om := om) (sp := e) (wr_ := 0) (sg := g) (on_ := o) (tw := t) (t3 := r) (pl := pl) (fi := 0) (be := be) (ha := ha) (lo := 59) (hi := 59) hc (by omega) (Or.inl rfl) (by omega) (by omega)).1
    have := hx c
    rw [tk_p c (by omega) (by omega)] at q
    rw [if_pos c]
    simp (maxSteps := 4000000) (disch := omega) only [jn, Option.bind_some, l32_0, l32_1, l32_2, l32_3, l32_4, l32_5, l32_6, l32_7, l32_8, l32_9, l32_10, l32_11, l32_12, l32_13, l32_14, l32_15, l32_16, l32_17, l32_18, l32_19, l32_20, l32_21, l32_22, l32_23, l32_24, l32_25, l32_26, l32_27, l32_28, l32_29, l32_30, l32_31, l32_32, l32_33, l32_34, l32_35, l32_36, l32_37, l32_38, l32_39, l32_40, l32_41, l32_42, l32_43, l32_44, l32_45, l32_46, l32_47, l32_48, l32_49, l32_50, l32_51, l32_52, l32_53, l32_54, l32_55, l32_56, l32_57, l32_58, l32_59, l32_60, l32_61, l32_62, l32_63, l32_64, l32_65, l32_66, l32_67, l32_68, l32_69, l32_70, l32_71, l32_83, l32_91, l32_98, l32_99, l32_100, l32_101, l32_102, l32_103, l32_106, l32_119, l32_126, l32_206, l32_515, l32_618, l32_850, l32_1000, l32_1022, l32_1023, l32_1050, l32_1239, l32_1260, i32_add, i32_sub, i32_mul, i32_neg, ↓reduceIte, ltT, ltF, leT, leF, eqT, eqF, gd_ix, i32_nat, RZ_at, upd_RZ, i32_ofNat, M_thrown_k, M_s_k, M_aside_k, M_ahead_k, M_saved_k, M_savedMany_k, M_slots_k, M_kept_k, M_buffer_k, M_length_k, M_strikes_k, M_order_k, M_orderMany_k, M_spot_k, M_isWrong_k, M_sign_k, M_one_k, M_two_k, M_three_k, M_played_k, M_isFine_k, M_bestPoints_k, M_hash_k, M_set_thrown_k, M_set_s_k, M_set_aside_k, M_set_ahead_k, M_set_saved_k, M_set_savedMany_k, M_set_slots_k, M_set_kept_k, M_set_buffer_k, M_set_length_k, M_set_strikes_k, M_set_order_k, M_set_orderMany_k, M_set_spot_k, M_set_isWrong_k, M_set_sign_k, M_set_one_k, M_set_two_k, M_set_three_k, M_set_played_k, M_set_isFine_k, M_set_bestPoints_k, M_set_hash_k, hr, q]
  · rw [if_neg c]
    simp (maxSteps := 4000000) (disch := omega) only [jn, Option.bind_some, l32_0, l32_1, l32_2, l32_3, l32_4, l32_5, l32_6, l32_7, l32_8, l32_9, l32_10, l32_11, l32_12, l32_13, l32_14, l32_15, l32_16, l32_17, l32_18, l32_19, l32_20, l32_21, l32_22, l32_23, l32_24, l32_25, l32_26, l32_27, l32_28, l32_29, l32_30, l32_31, l32_32, l32_33, l32_34, l32_35, l32_36, l32_37, l32_38, l32_39, l32_40, l32_41, l32_42, l32_43, l32_44, l32_45, l32_46, l32_47, l32_48, l32_49, l32_50, l32_51, l32_52, l32_53, l32_54, l32_55, l32_56, l32_57, l32_58, l32_59, l32_60, l32_61, l32_62, l32_63, l32_64, l32_65, l32_66, l32_67, l32_68, l32_69, l32_70, l32_71, l32_83, l32_91, l32_98, l32_99, l32_100, l32_101, l32_102, l32_103, l32_106, l32_119, l32_126, l32_206, l32_515, l32_618, l32_850, l32_1000, l32_1022, l32_1023, l32_1050, l32_1239, l32_1260, i32_add, i32_sub, i32_mul, i32_neg, ↓reduceIte, ltT, ltF, leT, leF, eqT, eqF, gd_ix, i32_nat, RZ_at, upd_RZ, i32_ofNat, M_thrown_k, M_s_k, M_aside_k, M_ahead_k, M_saved_k, M_savedMany_k, M_slots_k, M_kept_k, M_buffer_k, M_length_k, M_strikes_k, M_order_k, M_orderMany_k, M_spot_k, M_isWrong_k, M_sign_k, M_one_k, M_two_k, M_three_k, M_played_k, M_isFine_k, M_bestPoints_k, M_hash_k, M_set_thrown_k, M_set_s_k, M_set_aside_k, M_set_ahead_k, M_set_saved_k, M_set_savedMany_k, M_set_slots_k, M_set_kept_k, M_set_buffer_k, M_set_length_k, M_set_strikes_k, M_set_order_k, M_set_orderMany_k, M_set_spot_k, M_set_isWrong_k, M_set_sign_k, M_set_one_k, M_set_two_k, M_set_three_k, M_set_played_k, M_set_isFine_k, M_set_bestPoints_k, M_set_hash_k, hr]
theorem u_done {g o t r e om' st' pl' : Int} {s' od' : Int → Int} (hfi : fi = 1) (hr : f_X6_readMove N (MK (i32 th) (RZ s) (RZ as_) (RZ ah) (RZ sv) (i32 sm) (RZ sl) (i32 kp) (RZ bu) (i32 le) (i32 st) (RZ od) (i32 om) (i32 sp) (i32 wr_) (i32 sg) (i32 on_) (i32 tw) (i32 t3) (i32 pl) (i32 fi) (i32 be) ha) = some (MK (i32 th) (RZ s) (RZ as_) (RZ ah) (RZ sv) (i32 sm) (RZ sl) (i32 kp) (RZ bu) (i32 le) (i32 st) (RZ od) (i32 om) (i32 e) (i32 0) (i32 g) (i32 o) (i32 t) (i32 r) (i32 pl) (i32 fi) (i32 be) ha)) (hd : f_X6_does N (MK (i32 th) (RZ s) (RZ as_) (RZ ah) (RZ sv) (i32 sm) (RZ sl) (i32 kp) (RZ bu) (i32 le) (i32 st) (RZ od) (i32 om) (i32 e) (i32 0) (i32 g) (i32 o) (i32 t) (i32 r) (i32 pl) (i32 fi) (i32 be) ha) = some (i32 1, (MK (i32 th) (RZ s') (RZ as_) (RZ ah) (RZ sv) (i32 sm) (RZ sl) (i32 kp) (RZ bu) (i32 le) (i32 st') (RZ od') (i32 om') (i32 e) (i32 0) (i32 g) (i32 o) (i32 t) (i32 r) (i32 pl') (i32 fi) (i32 be) ha))) (hc : cod bu le) (hb : 0 ≤ e ∧ e ≤ le) (hx : e < le → bu e = 59) : stT N (i32 1) (i32 1, (MK (i32 th) (RZ s) (RZ as_) (RZ ah) (RZ sv) (i32 sm) (RZ sl) (i32 kp) (RZ bu) (i32 le) (i32 st) (RZ od) (i32 om) (i32 sp) (i32 wr_) (i32 sg) (i32 on_) (i32 tw) (i32 t3) (i32 pl) (i32 fi) (i32 be) ha)) k = if e < le then k (i32 1, (MK (i32 th) (RZ s') (RZ as_) (RZ ah) (RZ sv) (i32 sm) (RZ sl) (i32 kp) (RZ bu) (i32 le) (i32 st') (RZ od') (i32 om') (i32 (e + 1)) (i32 0) (i32 g) (i32 o) (i32 t) (i32 r) (i32 pl') (i32 1) (i32 be) ha)) else k (i32 0, (MK (i32 th) (RZ s') (RZ as_) (RZ ah) (RZ sv) (i32 sm) (RZ sl) (i32 kp) (RZ bu) (i32 le) (i32 st') (RZ od') (i32 om') (i32 e) (i32 0) (i32 g) (i32 o) (i32 t) (i32 r) (i32 pl') (i32 1) (i32 be) ha)) := by
  subst hfi
  have hl := hc.1
  unfold stT
  by_cases c : e < le
  · have q := (takes_m (N := N) (th := th) (s := s') (as_ := as_) (ah := ah) (sv := sv) (sm := sm) (sl := sl) (kp := kp) (bu := bu) (le := le) (st := st') (od := od') (om := om') (sp := e) (wr_ := 0) (sg := g) (on_ := o) (tw := t) (t3 := r) (pl := pl') (fi := 1) (be := be) (ha := ha) (lo := 59) (hi := 59) hc (by omega) (Or.inl rfl) (by omega) (by omega)).1
    have := hx c
    rw [tk_p c (by omega) (by omega)] at q
    rw [if_pos c]
    simp (maxSteps := 4000000) (disch := omega) only [jn, Option.bind_some, l32_0, l32_1, l32_2, l32_3, l32_4, l32_5, l32_6, l32_7, l32_8, l32_9, l32_10, l32_11, l32_12, l32_13, l32_14, l32_15, l32_16, l32_17, l32_18, l32_19, l32_20, l32_21, l32_22, l32_23, l32_24, l32_25, l32_26, l32_27, l32_28, l32_29, l32_30, l32_31, l32_32, l32_33, l32_34, l32_35, l32_36, l32_37, l32_38, l32_39, l32_40, l32_41, l32_42, l32_43, l32_44, l32_45, l32_46, l32_47, l32_48, l32_49, l32_50, l32_51, l32_52, l32_53, l32_54, l32_55, l32_56, l32_57, l32_58, l32_59, l32_60, l32_61, l32_62, l32_63, l32_64, l32_65, l32_66, l32_67, l32_68, l32_69, l32_70, l32_71, l32_83, l32_91, l32_98, l32_99, l32_100, l32_101, l32_102, l32_103, l32_106, l32_119, l32_126, l32_206, l32_515, l32_618, l32_850, l32_1000, l32_1022, l32_1023, l32_1050, l32_1239, l32_1260, i32_add, i32_sub, i32_mul, i32_neg, ↓reduceIte, ltT, ltF, leT, leF, eqT, eqF, gd_ix, i32_nat, RZ_at, upd_RZ, i32_ofNat, M_thrown_k, M_s_k, M_aside_k, M_ahead_k, M_saved_k, M_savedMany_k, M_slots_k, M_kept_k, M_buffer_k, M_length_k, M_strikes_k, M_order_k, M_orderMany_k, M_spot_k, M_isWrong_k, M_sign_k, M_one_k, M_two_k, M_three_k, M_played_k, M_isFine_k, M_bestPoints_k, M_hash_k, M_set_thrown_k, M_set_s_k, M_set_aside_k, M_set_ahead_k, M_set_saved_k, M_set_savedMany_k, M_set_slots_k, M_set_kept_k, M_set_buffer_k, M_set_length_k, M_set_strikes_k, M_set_order_k, M_set_orderMany_k, M_set_spot_k, M_set_isWrong_k, M_set_sign_k, M_set_one_k, M_set_two_k, M_set_three_k, M_set_played_k, M_set_isFine_k, M_set_bestPoints_k, M_set_hash_k, hr, hd, q]
  · rw [if_neg c]
    simp (maxSteps := 4000000) (disch := omega) only [jn, Option.bind_some, l32_0, l32_1, l32_2, l32_3, l32_4, l32_5, l32_6, l32_7, l32_8, l32_9, l32_10, l32_11, l32_12, l32_13, l32_14, l32_15, l32_16, l32_17, l32_18, l32_19, l32_20, l32_21, l32_22, l32_23, l32_24, l32_25, l32_26, l32_27, l32_28, l32_29, l32_30, l32_31, l32_32, l32_33, l32_34, l32_35, l32_36, l32_37, l32_38, l32_39, l32_40, l32_41, l32_42, l32_43, l32_44, l32_45, l32_46, l32_47, l32_48, l32_49, l32_50, l32_51, l32_52, l32_53, l32_54, l32_55, l32_56, l32_57, l32_58, l32_59, l32_60, l32_61, l32_62, l32_63, l32_64, l32_65, l32_66, l32_67, l32_68, l32_69, l32_70, l32_71, l32_83, l32_91, l32_98, l32_99, l32_100, l32_101, l32_102, l32_103, l32_106, l32_119, l32_126, l32_206, l32_515, l32_618, l32_850, l32_1000, l32_1022, l32_1023, l32_1050, l32_1239, l32_1260, i32_add, i32_sub, i32_mul, i32_neg, ↓reduceIte, ltT, ltF, leT, leF, eqT, eqF, gd_ix, i32_nat, RZ_at, upd_RZ, i32_ofNat, M_thrown_k, M_s_k, M_aside_k, M_ahead_k, M_saved_k, M_savedMany_k, M_slots_k, M_kept_k, M_buffer_k, M_length_k, M_strikes_k, M_order_k, M_orderMany_k, M_spot_k, M_isWrong_k, M_sign_k, M_one_k, M_two_k, M_three_k, M_played_k, M_isFine_k, M_bestPoints_k, M_hash_k, M_set_thrown_k, M_set_s_k, M_set_aside_k, M_set_ahead_k, M_set_saved_k, M_set_savedMany_k, M_set_slots_k, M_set_kept_k, M_set_buffer_k, M_set_length_k, M_set_strikes_k, M_set_order_k, M_set_orderMany_k, M_set_spot_k, M_set_isWrong_k, M_set_sign_k, M_set_one_k, M_set_two_k, M_set_three_k, M_set_played_k, M_set_isFine_k, M_set_bestPoints_k, M_set_hash_k, hr, hd]
end UST
/-- in a whole text a move ends where ";" stands or the text ends -/
theorem whole_next {bu : Int → Int} {le e : Int} (hw : rdI bu le = 16) (h0 : 0 ≤ e) (he : e ≤ le) (hq : rdI bu e = 16) : (e < le → bu e = 59 ∧ rdI bu (e + 1) = 0) := fun c => by
  have es := rdI_s (bu := bu) h0
  rw [hq] at es
  have es : rdI bu (e + 1) = aft16 (bu e) := es
  unfold aft16 at es
  by_cases c2 : bu e = 59
  · rw [if_pos c2] at es
    exact ⟨c2, es⟩
  · rw [if_neg c2] at es
    have := rdI_w es (j := le) (by omega) (by omega)
    omega
theorem whole_rd {bu : Int → Int} {le sp sg on_ tw t3 : Int} (hw : rdI bu le = 16) (hs : 0 ≤ sp ∧ sp ≤ le) (hq : rdI bu sp = 0) : ∃ g o t r sp', rdM bu le sp sg on_ tw t3 = (g, o, t, r, sp', 0) ∧ sp < sp' ∧ sp' ≤ le ∧ rdI bu sp' = 16 ∧ MOV bu sp g o t r sp' := by
  rcases rdM_good (sg := sg) (on_ := on_) (tw := tw) (t3 := t3) hs hq with h | ⟨g, o, t, r, e, -, e0, e1, e2, e3⟩
  · exact h
  · exfalso
    by_cases c : e = le
    · rw [← c] at hw
      exact e3 c hw
    · have := rdI_w (bu := bu) (j := le) (e2 (by omega)) (by omega) (by omega)
      omega
/-- the rest of a text, read alone -/
theorem rest_loop {N : Nat} {th : Int} {s : Int → Int} {as_ : Int → Int} {ah : Int → Int} {sv : Int → Int} {sm : Int} {sl : Int → Int} {kp : Int} {bu : Int → Int} {le : Int} {st : Int} {od : Int → Int} {om : Int} {pl : Int} {be : Int} {ha : Int64} (hc : cod bu le) (hw : rdI bu le = 16) : ∀ (d M : Nat) (sp sg on_ tw t3 : Int), d + 1 < M → 0 ≤ sp → sp ≤ le → le - sp ≤ d → rdI bu sp = 0 → ∃ sp' g o t r, lpN (stT N (i32 1)) M (i32 1, (MK (i32 th) (RZ s) (RZ as_) (RZ ah) (RZ sv) (i32 sm) (RZ sl) (i32 kp) (RZ bu) (i32 le) (i32 st) (RZ od) (i32 om) (i32 sp) (i32 0) (i32 sg) (i32 on_) (i32 tw) (i32 t3) (i32 pl) (i32 0) (i32 be) ha)) = some (MK (i32 th) (RZ s) (RZ as_) (RZ ah) (RZ sv) (i32 sm) (RZ sl) (i32 kp) (RZ bu) (i32 le) (i32 st) (RZ od) (i32 om) (i32 sp') (i32 0) (i32 g) (i32 o) (i32 t) (i32 r) (i32 pl) (i32 0) (i32 be) ha) := by
  intro d
  induction d with
  | zero =>
    intro M sp sg on_ tw t3 hM h0 h1 h2 hq
    obtain ⟨g, o, t, r, e, q1, q2, q3, q4, -⟩ := whole_rd (sg := sg) (on_ := on_) (tw := tw) (t3 := t3) hw ⟨h0, h1⟩ hq
    omega
  | succ d ih =>
    intro M sp sg on_ tw t3 hM h0 h1 h2 hq
    obtain ⟨M, rfl⟩ : ∃ x, M = x + 1 := ⟨M - 1, by omega⟩
    have hr := readMove_m (N := N) (th := th) (s := s) (as_ := as_) (ah := ah) (sv := sv) (sm := sm) (sl := sl) (kp := kp) (bu := bu) (le := le) (st := st) (od := od) (om := om) (sp := sp) (sg := sg) (on_ := on_) (tw := tw) (t3 := t3) (pl := pl) (fi := 0) (be := be) (ha := ha) hc ⟨h0, h1⟩
    obtain ⟨g, o, t, r, e, q1, q2, q3, q4, -⟩ := whole_rd (sg := sg) (on_ := on_) (tw := tw) (t3 := t3) hw ⟨h0, h1⟩ hq
    rw [q1] at hr
    dsimp only at hr
    have nx := whole_next hw (by omega) q3 q4
    rw [lpN_s1, u_rest rfl hr hc (by omega) (fun c => (nx c).1)]
    by_cases c : e < le
    · rw [if_pos c]
      exact ih M (e + 1) g o t r (by omega) (by omega) (by omega) (by omega) (nx c).2
    · rw [if_neg c]
      obtain ⟨M, rfl⟩ : ∃ x, M = x + 1 := ⟨M - 1, by omega⟩
      exact ⟨e, g, o, t, r, by rw [lpN_s1, t_end]⟩
