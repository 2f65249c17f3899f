/-! the class's steps; what a step does to the row; both in step -/
theorem geo_jack {s s' : Int → Int} {n : Nat} {r : Int} (g : GEO s n) (hn : n ≤ 8) (e : ∀ j, j ≠ 1 → s' j = s j) (e1 : s' 1 = r) (hr : 0 ≤ r ∧ r ≤ 60) (fr : r < 60 → ∀ k, k ≠ 8 → ¬ Lies s r (s 2) k) : GEO s' n ∧ (∀ k, k ≠ 8 → Pl s' k = Pl s k) ∧ Pl s' 8 = 21 * r + s 2 := by
  obtain ⟨g0, g3, g1, g2, gb, gu⟩ := g
  have h0 := e 0 (by omega)
  have h2 := e 2 (by omega)
  have h3 := e 3 (by omega)
  have hk : ∀ k w : Int, 0 ≤ k → 0 ≤ w → s' (4 + 7 * k + w) = s (4 + 7 * k + w) := fun k w a b => e _ (by omega)
  have L : ∀ a c k, k ≠ 8 → (Lies s' a c k ↔ Lies s a c k) := fun a c k k8 => by
    constructor
    · rintro (⟨q, -⟩ | ⟨q0, q1, q2, q3, q4⟩)
      · exact absurd q k8
      · rw [hk k _ q0 (by omega)] at q2 q3 q4
        exact Or.inr ⟨q0, by omega, q2, q3, q4⟩
    · rintro (⟨q, -⟩ | ⟨q0, q1, q2⟩)
      · exact absurd q k8
      · refine Or.inr ⟨q0, by omega, ?_⟩
        rw [hk k _ q0 (by omega), hk k _ q0 (by omega), hk k _ q0 (by omega)]
        exact q2
  have L8 : ∀ a c, Lies s' a c 8 → a = r ∧ c = s 2 := fun a c q => by
    rcases q with ⟨-, -, q1, q2⟩ | ⟨-, q, -⟩
    · exact ⟨by omega, by omega⟩
    · omega
  refine ⟨⟨by omega, by omega, by omega, by omega, fun k a b => ?_, ?_⟩, fun k k8 => ?_, ?_⟩
  · have := gb k a b
    have q0 := hk k 0 a (by omega)
    have q1 := hk k 1 a (by omega)
    have q2 := hk k 2 a (by omega)
    have q3 := hk k 3 a (by omega)
    omega
  · intro a c i j ha hi hj
    by_cases i8 : i = 8
    · by_cases j8 : j = 8
      · omega
      · subst i8
        obtain ⟨rfl, rfl⟩ := L8 a c hi
        exact absurd ((L _ _ j j8).mp hj) (fr ha j j8)
    · by_cases j8 : j = 8
      · subst j8
        obtain ⟨rfl, rfl⟩ := L8 a c hj
        exact absurd ((L _ _ i i8).mp hi) (fr ha i i8)
      · exact gu a c i j ha ((L _ _ i i8).mp hi) ((L _ _ j j8).mp hj)
  · by_cases a : 0 ≤ k
    · have q0 := hk k 0 a (by omega)
      have q1 := hk k 1 a (by omega)
      have q2 := hk k 2 a (by omega)
      unfold Pl
      rw [if_neg k8, if_neg k8, q0, q1, q2, h3]
    · unfold Pl
      rw [if_neg k8, if_neg k8, if_neg (by omega), if_neg (by omega)]
  · rw [Pl_jack (by omega), e1, h2]
theorem geo_bowl {s s' : Int → Int} {n : Nat} {t r x : Int} (g : GEO s n) (hn : n ≤ 8) (ht0 : 0 ≤ t) (htn : t < n) (e : ∀ j, j ≠ 4 + 7 * t + 0 → j ≠ 4 + 7 * t + 1 → s' j = s j) (e1 : s' (4 + 7 * t + 1) = r) (e0 : s' (4 + 7 * t + 0) = x) (hr : 0 ≤ r ∧ r ≤ 60) (hx : (r < 60 ∧ x = 0) ∨ (r = 60 ∧ x = 1 ∧ s (4 + 7 * t + 3) = 1) ∨ x = 2) (fr : x = 0 → ∀ k, k ≠ t → ¬ Lies s r (s (4 + 7 * t + 2)) k) : GEO s' n ∧ (∀ k, k ≠ t → Pl s' k = Pl s k) ∧ Pl s' t = (if x = 2 then -1 else 21 * r + s (4 + 7 * t + 2)) := by
  obtain ⟨g0, g3, g1, g2, gb, gu⟩ := g
  have h0 := e 0 (by omega) (by omega)
  have h1 := e 1 (by omega) (by omega)
  have h2 := e 2 (by omega) (by omega)
  have h3 := e 3 (by omega) (by omega)
  have t2 := e (4 + 7 * t + 2) (by omega) (by omega)
  have t3 := e (4 + 7 * t + 3) (by omega) (by omega)
  have bt := gb t ht0 htn
  have hk : ∀ k w : Int, k ≠ t → 0 ≤ w → w < 7 → s' (4 + 7 * k + w) = s (4 + 7 * k + w) := fun k w a b c => e _ (by omega) (by omega)
  have L : ∀ a c k, k ≠ t → (Lies s' a c k ↔ Lies s a c k) := fun a c k kt => by
    constructor
    · rintro (⟨q, q1, q2, q3⟩ | ⟨q0, q1, q2, q3, q4⟩)
      · exact Or.inl ⟨q, by omega, by omega, by omega⟩
      · rw [hk k _ kt (by omega) (by omega)] at q2 q3 q4
        exact Or.inr ⟨q0, by omega, q2, q3, q4⟩
    · rintro (⟨q, q1, q2, q3⟩ | ⟨q0, q1, q2⟩)
      · exact Or.inl ⟨q, by omega, by omega, by omega⟩
      · refine Or.inr ⟨q0, by omega, ?_⟩
        rw [hk k _ kt (by omega) (by omega), hk k _ kt (by omega) (by omega), hk k _ kt (by omega) (by omega)]
        exact q2
  have Lt : ∀ a c, Lies s' a c t → x = 0 ∧ a = r ∧ c = s (4 + 7 * t + 2) := fun a c q => by
    rcases q with ⟨q, -⟩ | ⟨-, -, q2, q3, q4⟩
    · omega
    · omega
  refine ⟨⟨by omega, by omega, by omega, by omega, fun k a b => ?_, ?_⟩, fun k kt => ?_, ?_⟩
  · by_cases kt : k = t
    · subst kt
      omega
    · have := gb k a b
      have q0 := hk k 0 kt (by omega) (by omega)
      have q1 := hk k 1 kt (by omega) (by omega)
      have q2 := hk k 2 kt (by omega) (by omega)
      have q3 := hk k 3 kt (by omega) (by omega)
      omega
  · intro a c i j ha hi hj
    by_cases it : i = t
    · by_cases jt : j = t
      · omega
      · subst it
        obtain ⟨x0, rfl, rfl⟩ := Lt a c hi
        exact absurd ((L _ _ j jt).mp hj) (fr x0 j jt)
    · by_cases jt : j = t
      · subst jt
        obtain ⟨x0, rfl, rfl⟩ := Lt a c hj
        exact absurd ((L _ _ i it).mp hi) (fr x0 i it)
      · exact gu a c i j ha ((L _ _ i it).mp hi) ((L _ _ j jt).mp hj)
  · have q0 := hk k 0 kt (by omega) (by omega)
    have q1 := hk k 1 kt (by omega) (by omega)
    have q2 := hk k 2 kt (by omega) (by omega)
    unfold Pl
    rw [q0, q1, q2, h0, h1, h2, h3]
  · by_cases x2 : x = 2
    · rw [if_pos x2, Pl_dead (by omega) (by omega)]
    · rw [if_neg x2, Pl_live ht0 (by omega) (by omega) (by omega), e1, t2]
def stC (N : Nat) : Int32 × Int32 × GV → (Int32 × Int32 × GV → Option GV) → Option GV := (fun (s5 : Int32 × Int32 × GV) (k5 : (Int32 × Int32 × GV) → Option (GV)) => (if s5.2.1 ≤ 0 then some s5.2.2 else (f_X0_placeOf N s5.2.2 s5.1).bind (fun o2 => (if (o2 + (21 : Int32)) < (1260 : Int32) then (f_X0_thingAt N s5.2.2 (o2 + (21 : Int32))).bind (fun o5 => jn (fun (s110 : Int32 × Int32 × GV) => k5 (s110.1, s110.2.1, s110.2.2)) (fun (j110 : (Int32 × Int32 × GV) → Option (GV)) => (if o5 = (-1 : Int32) then (f_X5_put N 9 (G_places s5.2.2) s5.1 (o2 + (21 : Int32))).bind (fun o8 => j110 (s5.1, (s5.2.1 + (-1 : Int32)), (G_set_places s5.2.2 o8))) else j110 (o5, ((s5.2.1 + (-1 : Int32)) / (2 : Int32)), (G_set_strikes s5.2.2 ((G_strikes s5.2.2) + (1 : Int32))))))) else jn (fun (s60 : Int32) => (f_X5_put N 9 (G_places s5.2.2) s5.1 s60).bind (fun o10 => some (G_set_places s5.2.2 o10))) (fun (j60 : (Int32) → Option (GV)) => jn (fun (s54 : Unit) => j60 (o2 + (21 : Int32))) (fun (j54 : (Unit) → Option (GV)) => (if s5.1 = (8 : Int32) then j54 () else (f_X5_at N 8 (G_touched s5.2.2) s5.1).bind (fun o13 => (if o13 = (1 : Int32) then j54 () else j60 (-1 : Int32))))))))))
theorem pushOn_st (N : Nat) (g : GV) (a b : Int32) : f_X0_pushOn N g a b = lpN (stC N) N (a, b, g) := rfl
section CSTEP
variable {N : Nat} {p : Int → Int} {sd : Int → Int} {ai : Int → Int} {we : Int → Int} {bi : Int → Int} {to : Int → Int} {od : Int → Int} {n : Int} {st : Int} {t l : Int} {k : Int32 × Int32 × GV → Option GV}
theorem c_end (ht : t = 8 ∨ (0 ≤ t ∧ t < 8)) (hp : okP p) (hto : okT to) (hl : 0 < l) (hl2 : l < 1000) (hq : 1260 ≤ p t + 21) : stC N (i32 t, i32 l, (GK (RZ p) (RZ sd) (RZ ai) (RZ we) (RZ bi) (RZ to) (RZ od) (i32 n) (i32 st))) k = some (GK (RZ (up p t (if t = 8 ∨ to t = 1 then p t + 21 else -1))) (RZ sd) (RZ ai) (RZ we) (RZ bi) (RZ to) (RZ od) (i32 n) (i32 st)) := by
  unfold stC
  have h := hp t (by omega) (by omega)
  rcases ht with rfl | ⟨h0, h1⟩
  · rw [if_pos (Or.inl rfl)]
    simp (disch := omega) only [jn, Option.bind_some, l32_0, l32_1, l32_2, l32_3, l32_4, l32_5, l32_6, l32_7, l32_8, l32_9, l32_10, l32_11, l32_12, l32_13, l32_14, l32_15, l32_16, l32_17, l32_18, l32_19, l32_20, l32_21, l32_22, l32_23, l32_24, l32_25, l32_26, l32_27, l32_28, l32_29, l32_30, l32_31, l32_32, l32_33, l32_34, l32_35, l32_36, l32_37, l32_38, l32_39, l32_40, l32_41, l32_42, l32_43, l32_44, l32_45, l32_46, l32_47, l32_48, l32_49, l32_50, l32_51, l32_52, l32_53, l32_54, l32_55, l32_56, l32_57, l32_58, l32_59, l32_60, l32_61, l32_62, l32_63, l32_64, l32_65, l32_66, l32_67, l32_68, l32_69, l32_70, l32_71, l32_83, l32_91, l32_98, l32_99, l32_100, l32_101, l32_102, l32_103, l32_106, l32_119, l32_126, l32_206, l32_515, l32_618, l32_850, l32_1000, l32_1022, l32_1023, l32_1050, l32_1239, l32_1260, i32_add, i32_sub, i32_mul, i32_neg, itT, itF, ilt_p, ilt_n, ile_p, ile_n, ieq_p, ieq_n, gd_ix, i32_nat, RZ_at, upd_RZ, i32_ofNat, G_places_k, G_sides_k, G_aims_k, G_weights_k, G_biases_k, G_touched_k, G_order_k, G_bowlCount_k, G_strikes_k, G_set_places_k, G_set_sides_k, G_set_aims_k, G_set_weights_k, G_set_biases_k, G_set_touched_k, G_set_order_k, G_set_bowlCount_k, G_set_strikes_k, x0_placeOf, put_in]
  · have h2 := hto t h0 h1
    by_cases c : to t = 1
    · rw [if_pos (Or.inr c)]
      simp (disch := omega) only [jn, Option.bind_some, l32_0, l32_1, l32_2, l32_3, l32_4, l32_5, l32_6, l32_7, l32_8, l32_9, l32_10, l32_11, l32_12, l32_13, l32_14, l32_15, l32_16, l32_17, l32_18, l32_19, l32_20, l32_21, l32_22, l32_23, l32_24, l32_25, l32_26, l32_27, l32_28, l32_29, l32_30, l32_31, l32_32, l32_33, l32_34, l32_35, l32_36, l32_37, l32_38, l32_39, l32_40, l32_41, l32_42, l32_43, l32_44, l32_45, l32_46, l32_47, l32_48, l32_49, l32_50, l32_51, l32_52, l32_53, l32_54, l32_55, l32_56, l32_57, l32_58, l32_59, l32_60, l32_61, l32_62, l32_63, l32_64, l32_65, l32_66, l32_67, l32_68, l32_69, l32_70, l32_71, l32_83, l32_91, l32_98, l32_99, l32_100, l32_101, l32_102, l32_103, l32_106, l32_119, l32_126, l32_206, l32_515, l32_618, l32_850, l32_1000, l32_1022, l32_1023, l32_1050, l32_1239, l32_1260, i32_add, i32_sub, i32_mul, i32_neg, itT, itF, ilt_p, ilt_n, ile_p, ile_n, ieq_p, ieq_n, gd_ix, i32_nat, RZ_at, upd_RZ, i32_ofNat, G_places_k, G_sides_k, G_aims_k, G_weights_k, G_biases_k, G_touched_k, G_order_k, G_bowlCount_k, G_strikes_k, G_set_places_k, G_set_sides_k, G_set_aims_k, G_set_weights_k, G_set_biases_k, G_set_touched_k, G_set_order_k, G_set_bowlCount_k, G_set_strikes_k, x0_placeOf, put_in, at_in, c]
    · rw [if_neg (show ¬ (t = 8 ∨ to t = 1) by omega)]
      simp (disch := omega) only [jn, Option.bind_some, l32_0, l32_1, l32_2, l32_3, l32_4, l32_5, l32_6, l32_7, l32_8, l32_9, l32_10, l32_11, l32_12, l32_13, l32_14, l32_15, l32_16, l32_17, l32_18, l32_19, l32_20, l32_21, l32_22, l32_23, l32_24, l32_25, l32_26, l32_27, l32_28, l32_29, l32_30, l32_31, l32_32, l32_33, l32_34, l32_35, l32_36, l32_37, l32_38, l32_39, l32_40, l32_41, l32_42, l32_43, l32_44, l32_45, l32_46, l32_47, l32_48, l32_49, l32_50, l32_51, l32_52, l32_53, l32_54, l32_55, l32_56, l32_57, l32_58, l32_59, l32_60, l32_61, l32_62, l32_63, l32_64, l32_65, l32_66, l32_67, l32_68, l32_69, l32_70, l32_71, l32_83, l32_91, l32_98, l32_99, l32_100, l32_101, l32_102, l32_103, l32_106, l32_119, l32_126, l32_206, l32_515, l32_618, l32_850, l32_1000, l32_1022, l32_1023, l32_1050, l32_1239, l32_1260, i32_add, i32_sub, i32_mul, i32_neg, itT, itF, ilt_p, ilt_n, ile_p, ile_n, ieq_p, ieq_n, gd_ix, i32_nat, RZ_at, upd_RZ, i32_ofNat, G_places_k, G_sides_k, G_aims_k, G_weights_k, G_biases_k, G_touched_k, G_order_k, G_bowlCount_k, G_strikes_k, G_set_places_k, G_set_sides_k, G_set_aims_k, G_set_weights_k, G_set_biases_k, G_set_touched_k, G_set_order_k, G_set_bowlCount_k, G_set_strikes_k, x0_placeOf, put_in, at_in]
theorem c_hit (hN : 9 < N) (ht : 0 ≤ t ∧ t < 9) (hp : okP p) (hl : 0 < l) (hl2 : l < 1000) (hq : p t + 21 < 1260) {o : Int} (ho : thg p (p t + 21) = o) (ho1 : o ≠ -1) (ho2 : 0 ≤ o) (ho3 : o < 9) : stC N (i32 t, i32 l, (GK (RZ p) (RZ sd) (RZ ai) (RZ we) (RZ bi) (RZ to) (RZ od) (i32 n) (i32 st))) k = k (i32 o, i32 ((l + -1) / 2), (GK (RZ p) (RZ sd) (RZ ai) (RZ we) (RZ bi) (RZ to) (RZ od) (i32 n) (i32 (st + 1)))) := by
  unfold stC
  have h := hp t (by omega) (by omega)
  simp (disch := omega) only [jn, Option.bind_some, l32_0, l32_1, l32_2, l32_3, l32_4, l32_5, l32_6, l32_7, l32_8, l32_9, l32_10, l32_11, l32_12, l32_13, l32_14, l32_15, l32_16, l32_17, l32_18, l32_19, l32_20, l32_21, l32_22, l32_23, l32_24, l32_25, l32_26, l32_27, l32_28, l32_29, l32_30, l32_31, l32_32, l32_33, l32_34, l32_35, l32_36, l32_37, l32_38, l32_39, l32_40, l32_41, l32_42, l32_43, l32_44, l32_45, l32_46, l32_47, l32_48, l32_49, l32_50, l32_51, l32_52, l32_53, l32_54, l32_55, l32_56, l32_57, l32_58, l32_59, l32_60, l32_61, l32_62, l32_63, l32_64, l32_65, l32_66, l32_67, l32_68, l32_69, l32_70, l32_71, l32_83, l32_91, l32_98, l32_99, l32_100, l32_101, l32_102, l32_103, l32_106, l32_119, l32_126, l32_206, l32_515, l32_618, l32_850, l32_1000, l32_1022, l32_1023, l32_1050, l32_1239, l32_1260, i32_add, i32_sub, i32_mul, i32_neg, itT, itF, ilt_p, ilt_n, ile_p, ile_n, ieq_p, ieq_n, gd_ix, i32_nat, RZ_at, upd_RZ, i32_ofNat, G_places_k, G_sides_k, G_aims_k, G_weights_k, G_biases_k, G_touched_k, G_order_k, G_bowlCount_k, G_strikes_k, G_set_places_k, G_set_sides_k, G_set_aims_k, G_set_weights_k, G_set_biases_k, G_set_touched_k, G_set_order_k, G_set_bowlCount_k, G_set_strikes_k, x0_placeOf, x0_thingAt (N := N) (p := p) (q := p t + 21) hN hp (by omega) (by omega), ho, i32_div]
theorem c_move (hN : 9 < N) (ht : 0 ≤ t ∧ t < 9) (hp : okP p) (hl : 0 < l) (hl2 : l < 1000) (hq : p t + 21 < 1260) (ho : thg p (p t + 21) = -1) : stC N (i32 t, i32 l, (GK (RZ p) (RZ sd) (RZ ai) (RZ we) (RZ bi) (RZ to) (RZ od) (i32 n) (i32 st))) k = k (i32 t, i32 (l + -1), (GK (RZ (up p t (p t + 21))) (RZ sd) (RZ ai) (RZ we) (RZ bi) (RZ to) (RZ od) (i32 n) (i32 st))) := by
  unfold stC
  have h := hp t (by omega) (by omega)
  simp (disch := omega) only [jn, Option.bind_some, l32_0, l32_1, l32_2, l32_3, l32_4, l32_5, l32_6, l32_7, l32_8, l32_9, l32_10, l32_11, l32_12, l32_13, l32_14, l32_15, l32_16, l32_17, l32_18, l32_19, l32_20, l32_21, l32_22, l32_23, l32_24, l32_25, l32_26, l32_27, l32_28, l32_29, l32_30, l32_31, l32_32, l32_33, l32_34, l32_35, l32_36, l32_37, l32_38, l32_39, l32_40, l32_41, l32_42, l32_43, l32_44, l32_45, l32_46, l32_47, l32_48, l32_49, l32_50, l32_51, l32_52, l32_53, l32_54, l32_55, l32_56, l32_57, l32_58, l32_59, l32_60, l32_61, l32_62, l32_63, l32_64, l32_65, l32_66, l32_67, l32_68, l32_69, l32_70, l32_71, l32_83, l32_91, l32_98, l32_99, l32_100, l32_101, l32_102, l32_103, l32_106, l32_119, l32_126, l32_206, l32_515, l32_618, l32_850, l32_1000, l32_1022, l32_1023, l32_1050, l32_1239, l32_1260, i32_add, i32_sub, i32_mul, i32_neg, itT, itF, ilt_p, ilt_n, ile_p, ile_n, ieq_p, ieq_n, gd_ix, i32_nat, RZ_at, upd_RZ, i32_ofNat, G_places_k, G_sides_k, G_aims_k, G_weights_k, G_biases_k, G_touched_k, G_order_k, G_bowlCount_k, G_strikes_k, G_set_places_k, G_set_sides_k, G_set_aims_k, G_set_weights_k, G_set_biases_k, G_set_touched_k, G_set_order_k, G_set_bowlCount_k, G_set_strikes_k, x0_placeOf, x0_thingAt (N := N) (p := p) (q := p t + 21) hN hp (by omega) (by omega), ho, put_in]
theorem c_stop (hl : l ≤ 0) (hl2 : -1000 < l) : stC N (i32 t, i32 l, (GK (RZ p) (RZ sd) (RZ ai) (RZ we) (RZ bi) (RZ to) (RZ od) (i32 n) (i32 st))) k = some (GK (RZ p) (RZ sd) (RZ ai) (RZ we) (RZ bi) (RZ to) (RZ od) (i32 n) (i32 st)) := by
  unfold stC
  simp (disch := omega) only [jn, Option.bind_some, l32_0, l32_1, l32_2, l32_3, l32_4, l32_5, l32_6, l32_7, l32_8, l32_9, l32_10, l32_11, l32_12, l32_13, l32_14, l32_15, l32_16, l32_17, l32_18, l32_19, l32_20, l32_21, l32_22, l32_23, l32_24, l32_25, l32_26, l32_27, l32_28, l32_29, l32_30, l32_31, l32_32, l32_33, l32_34, l32_35, l32_36, l32_37, l32_38, l32_39, l32_40, l32_41, l32_42, l32_43, l32_44, l32_45, l32_46, l32_47, l32_48, l32_49, l32_50, l32_51, l32_52, l32_53, l32_54, l32_55, l32_56, l32_57, l32_58, l32_59, l32_60, l32_61, l32_62, l32_63, l32_64, l32_65, l32_66, l32_67, l32_68, l32_69, l32_70, l32_71, l32_83, l32_91, l32_98, l32_99, l32_100, l32_101, l32_102, l32_103, l32_106, l32_119, l32_126, l32_206, l32_515, l32_618, l32_850, l32_1000, l32_1022, l32_1023, l32_1050, l32_1239, l32_1260, i32_add, i32_sub, i32_mul, i32_neg, itT, itF, ilt_p, ilt_n, ile_p, ile_n, ieq_p, ieq_n, gd_ix, i32_nat, RZ_at, upd_RZ, i32_ofNat, G_places_k, G_sides_k, G_aims_k, G_weights_k, G_biases_k, G_touched_k, G_order_k, G_bowlCount_k, G_strikes_k, G_set_places_k, G_set_sides_k, G_set_aims_k, G_set_weights_k, G_set_biases_k, G_set_touched_k, G_set_order_k, G_set_bowlCount_k, G_set_strikes_k]
end CSTEP

