/-! the state of the law: what it holds; small rows for its cases -/
abbrev Gp (B z os : Int) (n : Nat) (s sv : Int → Int) (sm : Int) (sl : Int → Int) (kp : Int) (bu : Int → Int) (le : Int) (stk cd : Int → Int) (S w0 w1 v0 v1 v2 v3 v4 v5 : SV) : Prop := INV B n s ∧ shows s n z S ∧ SAV B sv sm os v0 v1 v2 v3 v4 v5 ∧ SLO B sl stk kp w0 w1 ∧ TXT bu cd le ∧ B + 1000 ≤ 1000000
theorem exL {R ρ : Type} {k : Nat} {h : Nat → ρ} {c : R → ρ} : exc (Sum.inl k) h c = h k := rfl
theorem exR {R ρ : Type} {r : R} {h : Nat → ρ} {c : R → ρ} : exc (Sum.inr r) h c = c r := rfl
theorem n01 : ((0 : Nat) = 1) = False := eq_false (by decide)
theorem n02 : ((0 : Nat) = 2) = False := eq_false (by decide)
theorem n10 : ((1 : Nat) = 0) = False := eq_false (by decide)
theorem n12 : ((1 : Nat) = 2) = False := eq_false (by decide)
theorem n20 : ((2 : Nat) = 0) = False := eq_false (by decide)
theorem n21 : ((2 : Nat) = 1) = False := eq_false (by decide)
theorem n00 : ((0 : Nat) = 0) = True := eq_true rfl
theorem n11 : ((1 : Nat) = 1) = True := eq_true rfl
theorem n22 : ((2 : Nat) = 2) = True := eq_true rfl
theorem thrown_m {N : Nat} {th : Int} {s : Int → Int} {as_ : Int → Int} {ah : Int → Int} {sv : Int → Int} {sm : Int} {sl : Int → Int} {kp : Int} {bu : Int → Int} {le : Int} {st : Int} {od : Int → Int} {om : Int} {sp : Int} {wr_ : Int} {sg : Int} {on_ : Int} {tw : Int} {t3 : Int} {pl : Int} {fi : Int} {be : Int} {ha : Int64} : f_X6_thrown N (MK (i32 th) (RZ s) (RZ as_) (RZ ah) (RZ sv) (i32 sm) (RZ sl) (i32 kp) (RZ bu) (i32 le) (i32 st) (RZ od) (i32 om) (i32 sp) (i32 wr_) (i32 sg) (i32 on_) (i32 tw) (i32 t3) (i32 pl) (i32 fi) (i32 be) ha) = some (i32 th) := by
  unfold f_X6_thrown
  simp only [M_thrown_k, M_s_k, M_aside_k, M_ahead_k, M_saved_k, M_savedMany_k, M_slots_k, M_kept_k, M_buffer_k, M_length_k, M_strikes_k, M_order_k, M_orderMany_k, M_spot_k, M_isWrong_k, M_sign_k, M_one_k, M_two_k, M_three_k, M_played_k, M_isFine_k, M_bestPoints_k, M_hash_k, M_set_thrown_k, M_set_s_k, M_set_aside_k, M_set_ahead_k, M_set_saved_k, M_set_savedMany_k, M_set_slots_k, M_set_kept_k, M_set_buffer_k, M_set_length_k, M_set_strikes_k, M_set_order_k, M_set_orderMany_k, M_set_spot_k, M_set_isWrong_k, M_set_sign_k, M_set_one_k, M_set_two_k, M_set_three_k, M_set_played_k, M_set_isFine_k, M_set_bestPoints_k, M_set_hash_k]
theorem arg32 (x : Int32) : ∃ a : Int, b31 a ∧ x = i32 a := ⟨x.toInt, ⟨Int32.le_toInt x, Int32.toInt_lt x⟩, (i32_of x).symm⟩
theorem holds_0 {N : Nat} {th : Int} {s : Int → Int} {as_ : Int → Int} {ah : Int → Int} {sv : Int → Int} {sm : Int} {sl : Int → Int} {kp : Int} {bu : Int → Int} {le : Int} {st : Int} {od : Int → Int} {om : Int} {sp : Int} {wr_ : Int} {sg : Int} {on_ : Int} {tw : Int} {t3 : Int} {pl : Int} {fi : Int} {be : Int} {ha : Int64} : f_X6_holds N (MK (i32 th) (RZ s) (RZ as_) (RZ ah) (RZ sv) (i32 sm) (RZ sl) (i32 kp) (RZ bu) (i32 le) (i32 st) (RZ od) (i32 om) (i32 sp) (i32 wr_) (i32 sg) (i32 on_) (i32 tw) (i32 t3) (i32 pl) (i32 fi) (i32 be) ha) (i32 0) = some (i32 1, (MK (i32 0) (RZ s) (RZ as_) (RZ ah) (RZ sv) (i32 sm) (RZ sl) (i32 kp) (RZ bu) (i32 le) (i32 st) (RZ od) (i32 om) (i32 sp) (i32 wr_) (i32 sg) (i32 on_) (i32 tw) (i32 t3) (i32 pl) (i32 fi) (i32 be) ha)) := by
  rw [holds_ok (by omega), b2i_p rfl]
theorem holds_1 {N : Nat} {th : Int} {s : Int → Int} {as_ : Int → Int} {ah : Int → Int} {sv : Int → Int} {sm : Int} {sl : Int → Int} {kp : Int} {bu : Int → Int} {le : Int} {st : Int} {od : Int → Int} {om : Int} {sp : Int} {wr_ : Int} {sg : Int} {on_ : Int} {tw : Int} {t3 : Int} {pl : Int} {fi : Int} {be : Int} {ha : Int64} : f_X6_holds N (MK (i32 th) (RZ s) (RZ as_) (RZ ah) (RZ sv) (i32 sm) (RZ sl) (i32 kp) (RZ bu) (i32 le) (i32 st) (RZ od) (i32 om) (i32 sp) (i32 wr_) (i32 sg) (i32 on_) (i32 tw) (i32 t3) (i32 pl) (i32 fi) (i32 be) ha) (i32 1) = some (i32 0, (MK (i32 1) (RZ s) (RZ as_) (RZ ah) (RZ sv) (i32 sm) (RZ sl) (i32 kp) (RZ bu) (i32 le) (i32 st) (RZ od) (i32 om) (i32 sp) (i32 wr_) (i32 sg) (i32 on_) (i32 tw) (i32 t3) (i32 pl) (i32 fi) (i32 be) ha)) := by
  rw [holds_ok (by omega), b2i_n (by omega)]
theorem holds_2 {N : Nat} {th : Int} {s : Int → Int} {as_ : Int → Int} {ah : Int → Int} {sv : Int → Int} {sm : Int} {sl : Int → Int} {kp : Int} {bu : Int → Int} {le : Int} {st : Int} {od : Int → Int} {om : Int} {sp : Int} {wr_ : Int} {sg : Int} {on_ : Int} {tw : Int} {t3 : Int} {pl : Int} {fi : Int} {be : Int} {ha : Int64} : f_X6_holds N (MK (i32 th) (RZ s) (RZ as_) (RZ ah) (RZ sv) (i32 sm) (RZ sl) (i32 kp) (RZ bu) (i32 le) (i32 st) (RZ od) (i32 om) (i32 sp) (i32 wr_) (i32 sg) (i32 on_) (i32 tw) (i32 t3) (i32 pl) (i32 fi) (i32 be) ha) (i32 2) = some (i32 0, (MK (i32 2) (RZ s) (RZ as_) (RZ ah) (RZ sv) (i32 sm) (RZ sl) (i32 kp) (RZ bu) (i32 le) (i32 st) (RZ od) (i32 om) (i32 sp) (i32 wr_) (i32 sg) (i32 on_) (i32 tw) (i32 t3) (i32 pl) (i32 fi) (i32 be) ha)) := by
  rw [holds_ok (by omega), b2i_n (by omega)]
theorem in_p {N : Nat} {a l h : Int} (h0 : l ≤ a) (h1 : a ≤ h) (hl : -2147483648 ≤ l) (hh : h < 2147483648) : f_X6_in N (i32 a) (i32 l) (i32 h) = some (i32 1) := by
  rw [in_ok (by omega) (by omega) (by omega), b2i_p ⟨h0, h1⟩]
theorem in_n {N : Nat} {a l h : Int} (hn : ¬ (l ≤ a ∧ a ≤ h)) (ha : b31 a) (hl : b31 l) (hh : b31 h) : f_X6_in N (i32 a) (i32 l) (i32 h) = some (i32 0) := by
  rw [in_ok ha hl hh, b2i_n hn]
/-- what lies at a place, of both: the end is there -/
theorem thing_all {N n : Nat} {p : Int → Int} {th : Int} {s : Int → Int} {as_ : Int → Int} {ah : Int → Int} {sv : Int → Int} {sm : Int} {sl : Int → Int} {kp : Int} {bu : Int → Int} {le : Int} {st : Int} {od : Int → Int} {om : Int} {sp : Int} {wr_ : Int} {sg : Int} {on_ : Int} {tw : Int} {t3 : Int} {pl : Int} {fi : Int} {be : Int} {ha : Int64} {r c : Int} (hN : 9 < N) (hn : n ≤ 8) (g : GEO s n) (hp : ∀ k, 0 ≤ k → k < 9 → p k = Pl s k) (hr : 0 ≤ r ∧ r < 60) (hc : 0 ≤ c ∧ c ≤ 20) : ∃ t : Int, (-1 ≤ t ∧ t < 9) ∧ f_X6_thingAt N (MK (i32 th) (RZ s) (RZ as_) (RZ ah) (RZ sv) (i32 sm) (RZ sl) (i32 kp) (RZ bu) (i32 le) (i32 st) (RZ od) (i32 om) (i32 sp) (i32 wr_) (i32 sg) (i32 on_) (i32 tw) (i32 t3) (i32 pl) (i32 fi) (i32 be) ha) (i32 r) (i32 c) = some (i32 t) ∧ thg p (r * 21 + c) = t := by
  obtain ⟨t, e1, e2⟩ := thingAt_m (N := N) (th := th) (as_ := as_) (ah := ah) (sv := sv) (sm := sm) (sl := sl) (kp := kp) (bu := bu) (le := le) (st := st) (od := od) (om := om) (sp := sp) (wr_ := wr_) (sg := sg) (on_ := on_) (tw := tw) (t3 := t3) (pl := pl) (fi := fi) (be := be) (ha := ha) (n := n) (r := r) (c := c) (by omega) hn g.2.1 (geo_okG g) (by omega) (by omega)
  have g3 := g.2.1
  have t9 : -1 ≤ t ∧ t < 9 := by
    rcases e2 with ⟨q, -⟩ | q
    · omega
    · rcases q with q | q <;> omega
  refine ⟨t, t9, e1, ?_⟩
  rcases thg_spec p (r * 21 + c) with ⟨e, q⟩ | ⟨a, b, q⟩
  · rcases e2 with ⟨e3, -⟩ | hl
    · rw [e, e3]
    · exfalso
      have t0 : 0 ≤ t := by
        rcases hl with q | q <;> omega
      have := (lies_pl g hn hr.1 hr.2 hc.1 hc.2 t0 t9.2).mp hl
      rw [← hp t t0 t9.2] at this
      exact q t t0 t9.2 (by omega)
  · generalize thg p (r * 21 + c) = u at a b q ⊢
    have hu : Lies s r c u := (lies_pl g hn hr.1 hr.2 hc.1 hc.2 a b).mpr (by rw [← hp u a b]; omega)
    rcases e2 with ⟨-, e3⟩ | hl
    · exact absurd hu (e3 u)
    · exact g.2.2.2.2.2 r c u t hr.2 hu hl
/-- without an end nothing lies anywhere -/
theorem thing_none {N n : Nat} {B : Int} {p : Int → Int} {th : Int} {s : Int → Int} {as_ : Int → Int} {ah : Int → Int} {sv : Int → Int} {sm : Int} {sl : Int → Int} {kp : Int} {bu : Int → Int} {le : Int} {st : Int} {od : Int → Int} {om : Int} {sp : Int} {wr_ : Int} {sg : Int} {on_ : Int} {tw : Int} {t3 : Int} {pl : Int} {fi : Int} {be : Int} {ha : Int64} {r c : Int} (hN : 9 < N) (h : INV B n s) (h0 : s 0 = 0) (hp : ∀ k, 0 ≤ k → k < 9 → p k = Pl s k) (hr : 0 ≤ r ∧ r < 60) (hc : 0 ≤ c ∧ c ≤ 20) : f_X6_thingAt N (MK (i32 th) (RZ s) (RZ as_) (RZ ah) (RZ sv) (i32 sm) (RZ sl) (i32 kp) (RZ bu) (i32 le) (i32 st) (RZ od) (i32 om) (i32 sp) (i32 wr_) (i32 sg) (i32 on_) (i32 tw) (i32 t3) (i32 pl) (i32 fi) (i32 be) ha) (i32 r) (i32 c) = some (i32 (-1)) ∧ thg p (r * 21 + c) = -1 := by
  have n0 : n = 0 := by
    rcases h.2.2.1 with ⟨-, q⟩ | ⟨q, -⟩
    · exact q
    · have := q.1
      omega
  have h3 := h.1
  rw [n0] at h3
  refine ⟨?_, ?_⟩
  · obtain ⟨M, rfl⟩ : ∃ x, N = x + 1 := ⟨N - 1, by omega⟩
    unfold f_X6_thingAt
    simp (maxSteps := 4000000) (disch := omega) only [jn, Option.bind_some, l32_0, l32_1, l32_2, l32_3, l32_4, l32_5, l32_6, l32_7, l32_8, l32_9, l32_10, l32_11, l32_12, l32_13, l32_14, l32_15, l32_16, l32_17, l32_18, l32_19, l32_20, l32_21, l32_22, l32_23, l32_24, l32_25, l32_26, l32_27, l32_28, l32_29, l32_30, l32_31, l32_32, l32_33, l32_34, l32_35, l32_36, l32_37, l32_38, l32_39, l32_40, l32_41, l32_42, l32_43, l32_44, l32_45, l32_46, l32_47, l32_48, l32_49, l32_50, l32_51, l32_52, l32_53, l32_54, l32_55, l32_56, l32_57, l32_58, l32_59, l32_60, l32_61, l32_62, l32_63, l32_64, l32_65, l32_66, l32_67, l32_68, l32_69, l32_70, l32_71, l32_83, l32_91, l32_98, l32_99, l32_100, l32_101, l32_102, l32_103, l32_106, l32_119, l32_126, l32_206, l32_515, l32_618, l32_850, l32_1000, l32_1022, l32_1023, l32_1050, l32_1239, l32_1260, i32_add, i32_sub, i32_mul, i32_neg, ↓reduceIte, ltT, ltF, leT, leF, eqT, eqF, gd_ix, i32_nat, RZ_at, upd_RZ, i32_ofNat, M_thrown_k, M_s_k, M_aside_k, M_ahead_k, M_saved_k, M_savedMany_k, M_slots_k, M_kept_k, M_buffer_k, M_length_k, M_strikes_k, M_order_k, M_orderMany_k, M_spot_k, M_isWrong_k, M_sign_k, M_one_k, M_two_k, M_three_k, M_played_k, M_isFine_k, M_bestPoints_k, M_hash_k, M_set_thrown_k, M_set_s_k, M_set_aside_k, M_set_ahead_k, M_set_saved_k, M_set_savedMany_k, M_set_slots_k, M_set_kept_k, M_set_buffer_k, M_set_length_k, M_set_strikes_k, M_set_order_k, M_set_orderMany_k, M_set_spot_k, M_set_isWrong_k, M_set_sign_k, M_set_one_k, M_set_two_k, M_set_three_k, M_set_played_k, M_set_isFine_k, M_set_bestPoints_k, M_set_hash_k]
    rw [lpN_s1]
    simp (maxSteps := 4000000) (disch := omega) only [jn, Option.bind_some, l32_0, l32_1, l32_2, l32_3, l32_4, l32_5, l32_6, l32_7, l32_8, l32_9, l32_10, l32_11, l32_12, l32_13, l32_14, l32_15, l32_16, l32_17, l32_18, l32_19, l32_20, l32_21, l32_22, l32_23, l32_24, l32_25, l32_26, l32_27, l32_28, l32_29, l32_30, l32_31, l32_32, l32_33, l32_34, l32_35, l32_36, l32_37, l32_38, l32_39, l32_40, l32_41, l32_42, l32_43, l32_44, l32_45, l32_46, l32_47, l32_48, l32_49, l32_50, l32_51, l32_52, l32_53, l32_54, l32_55, l32_56, l32_57, l32_58, l32_59, l32_60, l32_61, l32_62, l32_63, l32_64, l32_65, l32_66, l32_67, l32_68, l32_69, l32_70, l32_71, l32_83, l32_91, l32_98, l32_99, l32_100, l32_101, l32_102, l32_103, l32_106, l32_119, l32_126, l32_206, l32_515, l32_618, l32_850, l32_1000, l32_1022, l32_1023, l32_1050, l32_1239, l32_1260, i32_add, i32_sub, i32_mul, i32_neg, ↓reduceIte, ltT, ltF, leT, leF, eqT, eqF, gd_ix, i32_nat, RZ_at, upd_RZ, i32_ofNat, M_thrown_k, M_s_k, M_aside_k, M_ahead_k, M_saved_k, M_savedMany_k, M_slots_k, M_kept_k, M_buffer_k, M_length_k, M_strikes_k, M_order_k, M_orderMany_k, M_spot_k, M_isWrong_k, M_sign_k, M_one_k, M_two_k, M_three_k, M_played_k, M_isFine_k, M_bestPoints_k, M_hash_k, M_set_thrown_k, M_set_s_k, M_set_aside_k, M_set_ahead_k, M_set_saved_k, M_set_savedMany_k, M_set_slots_k, M_set_kept_k, M_set_buffer_k, M_set_length_k, M_set_strikes_k, M_set_order_k, M_set_orderMany_k, M_set_spot_k, M_set_isWrong_k, M_set_sign_k, M_set_one_k, M_set_two_k, M_set_three_k, M_set_played_k, M_set_isFine_k, M_set_bestPoints_k, M_set_hash_k, h3, nc0]
  · rcases thg_spec p (r * 21 + c) with ⟨e, -⟩ | ⟨a, b, q⟩
    · exact e
    · exfalso
      rw [hp _ a b] at q
      generalize thg p (r * 21 + c) = u at a b q
      by_cases u8 : u = 8
      · rw [u8, Pl_none (by omega)] at q; omega
      · rw [Pl_more u8 (by rw [h3]; exact a)] at q; omega

