/-! the class's points by order -/
theorem at_tot {N n : Nat} {f : Nat → Int32} {x : Int32} (hn : n ≤ 1000) : ∃ v, f_X5_at N n f x = some v := by
  unfold f_X5_at
  by_cases c1 : x < 0
  · exact ⟨0, by simp only [jn, if_pos c1]⟩
  · by_cases c2 : Int32.ofNat n ≤ x
    · exact ⟨0, by simp only [jn, if_neg c1, if_pos c2]⟩
    · refine ⟨f x.toNatClampNeg, ?_⟩
      have h : ixok x n := by
        have e := i32_of x
        have r1 := Int32.le_toInt x
        have r2 := Int32.toInt_lt x
        rw [← e] at c1 c2 ⊢
        rw [l32_0, i32_lt (by omega) (by omega) (by omega) (by omega)] at c1
        rw [i32_ofNat, i32_le (by omega) (by omega) (by omega) (by omega)] at c2
        exact i32_ix (by omega) (by omega) (by omega)
      simp only [jn, if_neg c1, if_neg c2, gd_pos h]
theorem ordP_congr {c c' : Int → Prop} {d d' : Int → Int} {n m : Nat} {od : Int → Int} (h : ∀ k : Int, 0 ≤ k → k < n → (c k ↔ c' k) ∧ (c k → d k = d' k)) (O : OrdP c d n m od) : OrdP c' d' n m od := by
  obtain ⟨o1, o2, o3, o4, o5⟩ := O
  have e : ∀ i, 0 ≤ i → i < (m : Int) → d (od i) = d' (od i) := fun i x y => by
    have := o4 i x y
    exact (h _ this.1 this.2.1).2 this.2.2
  refine ⟨o1, fun φ => ?_, fun i j x y z => ?_, fun i x y => ?_, fun b x y z => o5 b x y ((h b x y).1.mpr z)⟩
  · rw [o2 φ]
    exact sumZ_congr fun k x y => by rw [b2i_congr (h k x y).1]
  · rw [← e i x (by omega), ← e j (by omega) z]
    exact o3 i j x y z
  · have := o4 i x y
    exact ⟨this.1, this.2.1, (h _ this.1 this.2.1).1.mp this.2.2⟩
def stQ1 (N : Nat) (s15 : Int32 × GV) (p1 o6 : Int32) : Int32 → (Int32 → Option (Int32 × GV)) → Option (Int32 × GV) := (fun (s35 : Int32) (k35 : (Int32) → Option (Int32 × GV)) => jn (fun (s67 : Unit) => lpN (fun (s73 : Int32 × Int32) (k73 : (Int32 × Int32) → Option (Int32 × GV)) => (if s35 ≤ s73.2 then some (s73.1, s15.2) else (f_X5_at N 8 (G_order s15.2) s73.2).bind (fun o9 => jn (fun (s131 : Int32) => k73 (s131, (s73.2 + (1 : Int32)))) (fun (j131 : (Int32) → Option (Int32 × GV)) => jn (fun (s119 : Unit) => (f_X0_worth N s15.2 o9 p1).bind (fun o11 => j131 (s73.1 + o11))) (fun (j119 : (Unit) → Option (Int32 × GV)) => (if s35 = s15.1 then j119 () else (f_X0_distance N s15.2 o9).bind (fun o14 => (f_X5_at N 8 (G_order s15.2) s35).bind (fun o16 => (f_X0_distance N s15.2 o16).bind (fun o18 => (if o18 ≤ o14 then j131 s73.1 else j119 ())))))))))) N ((0 : Int32), (0 : Int32))) (fun (j67 : (Unit) → Option (Int32 × GV)) => (if s15.1 ≤ s35 then j67 () else (f_X5_at N 8 (G_order s15.2) s35).bind (fun o22 => (f_X5_at N 8 (G_sides s15.2) o22).bind (fun o24 => (if o24 = o6 then k35 (s35 + (1 : Int32)) else j67 ()))))))
def stQ2 (N : Nat) (s15 : Int32 × GV) (p1 s35 : Int32) : Int32 × Int32 → (Int32 × Int32 → Option (Int32 × GV)) → Option (Int32 × GV) := (fun (s73 : Int32 × Int32) (k73 : (Int32 × Int32) → Option (Int32 × GV)) => (if s35 ≤ s73.2 then some (s73.1, s15.2) else (f_X5_at N 8 (G_order s15.2) s73.2).bind (fun o9 => jn (fun (s131 : Int32) => k73 (s131, (s73.2 + (1 : Int32)))) (fun (j131 : (Int32) → Option (Int32 × GV)) => jn (fun (s119 : Unit) => (f_X0_worth N s15.2 o9 p1).bind (fun o11 => j131 (s73.1 + o11))) (fun (j119 : (Unit) → Option (Int32 × GV)) => (if s35 = s15.1 then j119 () else (f_X0_distance N s15.2 o9).bind (fun o14 => (f_X5_at N 8 (G_order s15.2) s35).bind (fun o16 => (f_X0_distance N s15.2 o16).bind (fun o18 => (if o18 ≤ o14 then j131 s73.1 else j119 ()))))))))))
theorem ordered_st (N : Nat) (g : GV) (p1 : Int32) : f_X0_orderedPoints N g p1 = (f_X0_isJackLost N g).bind (fun o1 => jn (fun (s15 : Int32 × GV) => (f_X5_at N 8 (G_order s15.2) (0 : Int32)).bind (fun o4 => (f_X5_at N 8 (G_sides s15.2) o4).bind (fun o6 => lpN (stQ1 N s15 p1 o6) N (0 : Int32)))) (fun (j15 : (Int32 × GV) → Option (Int32 × GV)) => (if o1 = 0 then (f_X0_sortByDistance N g).bind (fun o28 => j15 (o28.1, o28.2)) else j15 ((0 : Int32), g)))) := rfl
theorem stQ1_st (N : Nat) (s15 : Int32 × GV) (p1 o6 : Int32) (s35 : Int32) (k35 : Int32 → Option (Int32 × GV)) : stQ1 N s15 p1 o6 s35 k35 = jn (fun (s67 : Unit) => lpN (stQ2 N s15 p1 s35) N ((0 : Int32), (0 : Int32))) (fun (j67 : (Unit) → Option (Int32 × GV)) => (if s15.1 ≤ s35 then j67 () else (f_X5_at N 8 (G_order s15.2) s35).bind (fun o22 => (f_X5_at N 8 (G_sides s15.2) o22).bind (fun o24 => (if o24 = o6 then k35 (s35 + (1 : Int32)) else j67 ()))))) := rfl
theorem ordered_0 {N : Nat} {g : GV} {p1 o6 : Int32} (hN : 0 < N) : lpN (stQ1 N ((0 : Int32), g) p1 o6) N (0 : Int32) = some ((0 : Int32), g) := by
  obtain ⟨M, rfl⟩ : ∃ M, N = M + 1 := ⟨N - 1, by omega⟩
  rw [lpN_s1, stQ1_st]
  simp only [jn]
  rw [if_pos (by decide), lpN_s1]
  unfold stQ2
  simp only []
  rw [if_pos (by decide)]
theorem ordered_1 {N n m : Nat} {B : Int} {p : Int → Int} {sd : Int → Int} {ai : Int → Int} {we : Int → Int} {bi : Int → Int} {to : Int → Int} {od : Int → Int} {st : Int} {s : Int → Int} (hN : 9 < N) (h : INV B n s) (r : relG s p sd ai we bi to n) (c : s 0 = 1 ∧ ¬ Burnt s n) (O : OrdP (aM s) (dm s) n m od) (hm : 0 < m) : lpN (stQ1 N (i32 (m : Int), (GK (RZ p) (RZ sd) (RZ ai) (RZ we) (RZ bi) (RZ to) (RZ od) (i32 ((n : Int))) (i32 st))) (i32 (s 64)) (i32 (sdS s (od 0)))) N (0 : Int32) = some (i32 (pts s n), (GK (RZ p) (RZ sd) (RZ ai) (RZ we) (RZ bi) (RZ to) (RZ od) (i32 ((n : Int))) (i32 st))) := by
  obtain ⟨f1, f2, f3, f4, f5, f6⟩ := rel_facts h r
  have hn := h.2.1
  have h64 := h.2.2.2.2.2.2.2.1
  have mn := O.1
  have ofs : ∀ i, 0 ≤ i → i < (m : Int) → (0 ≤ od i ∧ od i < 8) ∧ sd (od i) = sdS s (od i) ∧ (p (od i) ≠ -1 ∧ dst (p (od i)) (p 8) = dm s (od i)) ∧ to (od i) = s (4 + 7 * od i + 3) ∧ (0 ≤ dm s (od i) ∧ dm s (od i) ≤ 10000) := fun i x y => by
    have q := O.2.2.2.1 i x y
    have e := rel_aM h r (od i) q.1 q.2.1
    refine ⟨⟨q.1, by omega⟩, e.2.2, ⟨e.1.mpr q.2.2, e.2.1 (e.1.mpr q.2.2)⟩, ?_, dm_b h q.1 q.2.1 q.2.2⟩
    rw [r.2.2 _ q.1 (by omega), if_pos q.2.1]
  have sd01 : ∀ k, sdS s k = 0 ∨ sdS s k = 1 := fun k => by
    show (s 61 + k) % 2 = 0 ∨ (s 61 + k) % 2 = 1
    omega
  have dist : ∀ i, 0 ≤ i → i < (m : Int) → f_X0_distance N (GK (RZ p) (RZ sd) (RZ ai) (RZ we) (RZ bi) (RZ to) (RZ od) (i32 ((n : Int))) (i32 st)) (i32 (od i)) = some (i32 (dm s (od i))) := fun i x y => by
    obtain ⟨a1, -, ⟨a2, a3⟩, -, -⟩ := ofs i x y
    have b1 := f1 (od i) a1.1 (by omega)
    have b2 := f1 8 (by omega) (by omega)
    have q := O.2.2.2.1 i x y
    have b3 := f4 (od i) q.1 q.2.1 a2
    rw [← a3]
    exact x0_distance a1.1 (by omega) (by omega) (by omega) b3 (by omega)
  have epts := pts_ord h c O hm
  have side0 := sd01 (od 0)
  have sd0 : sdS s (od 0) = sdS s (od 0) := rfl
  generalize eside : sdS s (od 0) = side at epts side0
  obtain ⟨q, -, hq, hlt, hstop, k, L⟩ := lp_to (step := stQ1 N (i32 (m : Int), (GK (RZ p) (RZ sd) (RZ ai) (RZ we) (RZ bi) (RZ to) (RZ od) (i32 ((n : Int))) (i32 st))) (i32 (s 64)) (i32 side)) (fun i => i32 (i : Int)) (fun i => i = m ∨ sdS s (od i) ≠ side) m N 0 (by omega) (Or.inl (by omega)) (fun j _ hj hc k => by
    obtain ⟨a1, a2, -, -, -⟩ := ofs j (by omega) (by omega)
    have e : sdS s (od j) = side := Decidable.byContradiction fun x => hc (Or.inr x)
    rw [e] at a2
    rw [stQ1_st]
    simp (maxSteps := 4000000) (disch := omega) only [jn, Option.bind_some, l32_0, l32_1, l32_2, l32_3, l32_4, l32_5, l32_6, l32_7, l32_8, l32_9, l32_10, l32_11, l32_12, l32_13, l32_14, l32_15, l32_16, l32_17, l32_18, l32_19, l32_20, l32_21, l32_22, l32_23, l32_24, l32_25, l32_26, l32_27, l32_28, l32_29, l32_30, l32_31, l32_32, l32_33, l32_34, l32_35, l32_36, l32_37, l32_38, l32_39, l32_40, l32_41, l32_42, l32_43, l32_44, l32_45, l32_46, l32_47, l32_48, l32_49, l32_50, l32_51, l32_52, l32_53, l32_54, l32_55, l32_56, l32_57, l32_58, l32_59, l32_60, l32_61, l32_62, l32_63, l32_64, l32_65, l32_66, l32_67, l32_68, l32_69, l32_70, l32_71, l32_83, l32_91, l32_98, l32_99, l32_100, l32_101, l32_102, l32_103, l32_106, l32_119, l32_126, l32_206, l32_515, l32_618, l32_850, l32_1000, l32_1022, l32_1023, l32_1050, l32_1239, l32_1260, i32_add, i32_sub, i32_mul, i32_neg, ↓reduceIte, ltT, ltF, leT, leF, eqT, eqF, gd_ix, i32_nat, RZ_at, upd_RZ, i32_ofNat, G_places_k, G_sides_k, G_aims_k, G_weights_k, G_biases_k, G_touched_k, G_order_k, G_bowlCount_k, G_strikes_k, G_set_places_k, G_set_sides_k, G_set_aims_k, G_set_weights_k, G_set_biases_k, G_set_touched_k, G_set_order_k, G_set_bowlCount_k, G_set_strikes_k, at_in, a2, ncS])
  rw [Nat.zero_add] at hq
  have q1 : 0 < q := by
    refine Nat.pos_of_ne_zero fun e => ?_
    subst e
    rcases hstop with z | z
    · omega
    · exact z eside
  have same : ∀ i : Int, 0 ≤ i → i < (q : Int) → sdS s (od i) = side := fun i x y => by
    refine Decidable.byContradiction fun z => hlt i.toNat (by omega) (by omega) (Or.inr ?_)
    rw [Int.toNat_of_nonneg x]
    exact z
  have L0 : lpN (stQ1 N (i32 (m : Int), (GK (RZ p) (RZ sd) (RZ ai) (RZ we) (RZ bi) (RZ to) (RZ od) (i32 ((n : Int))) (i32 st))) (i32 (s 64)) (i32 side)) N (0 : Int32) = lpN (stQ2 N (i32 (m : Int), (GK (RZ p) (RZ sd) (RZ ai) (RZ we) (RZ bi) (RZ to) (RZ od) (i32 ((n : Int))) (i32 st))) (i32 (s 64)) (i32 (q : Int))) N ((0 : Int32), (0 : Int32)) := by
    refine (show lpN (stQ1 N (i32 (m : Int), (GK (RZ p) (RZ sd) (RZ ai) (RZ we) (RZ bi) (RZ to) (RZ od) (i32 ((n : Int))) (i32 st))) (i32 (s 64)) (i32 side)) N (0 : Int32) = _ from L).trans ?_
    rw [stQ1_st]
    rcases hstop with z | z
    · simp (maxSteps := 4000000) (disch := omega) only [jn, Option.bind_some, l32_0, l32_1, l32_2, l32_3, l32_4, l32_5, l32_6, l32_7, l32_8, l32_9, l32_10, l32_11, l32_12, l32_13, l32_14, l32_15, l32_16, l32_17, l32_18, l32_19, l32_20, l32_21, l32_22, l32_23, l32_24, l32_25, l32_26, l32_27, l32_28, l32_29, l32_30, l32_31, l32_32, l32_33, l32_34, l32_35, l32_36, l32_37, l32_38, l32_39, l32_40, l32_41, l32_42, l32_43, l32_44, l32_45, l32_46, l32_47, l32_48, l32_49, l32_50, l32_51, l32_52, l32_53, l32_54, l32_55, l32_56, l32_57, l32_58, l32_59, l32_60, l32_61, l32_62, l32_63, l32_64, l32_65, l32_66, l32_67, l32_68, l32_69, l32_70, l32_71, l32_83, l32_91, l32_98, l32_99, l32_100, l32_101, l32_102, l32_103, l32_106, l32_119, l32_126, l32_206, l32_515, l32_618, l32_850, l32_1000, l32_1022, l32_1023, l32_1050, l32_1239, l32_1260, i32_add, i32_sub, i32_mul, i32_neg, ↓reduceIte, ltT, ltF, leT, leF, eqT, eqF, gd_ix, i32_nat, RZ_at, upd_RZ, i32_ofNat, G_places_k, G_sides_k, G_aims_k, G_weights_k, G_biases_k, G_touched_k, G_order_k, G_bowlCount_k, G_strikes_k, G_set_places_k, G_set_sides_k, G_set_aims_k, G_set_weights_k, G_set_biases_k, G_set_touched_k, G_set_order_k, G_set_bowlCount_k, G_set_strikes_k, z]
    · by_cases qm : q = m
      · simp (maxSteps := 4000000) (disch := omega) only [jn, Option.bind_some, l32_0, l32_1, l32_2, l32_3, l32_4, l32_5, l32_6, l32_7, l32_8, l32_9, l32_10, l32_11, l32_12, l32_13, l32_14, l32_15, l32_16, l32_17, l32_18, l32_19, l32_20, l32_21, l32_22, l32_23, l32_24, l32_25, l32_26, l32_27, l32_28, l32_29, l32_30, l32_31, l32_32, l32_33, l32_34, l32_35, l32_36, l32_37, l32_38, l32_39, l32_40, l32_41, l32_42, l32_43, l32_44, l32_45, l32_46, l32_47, l32_48, l32_49, l32_50, l32_51, l32_52, l32_53, l32_54, l32_55, l32_56, l32_57, l32_58, l32_59, l32_60, l32_61, l32_62, l32_63, l32_64, l32_65, l32_66, l32_67, l32_68, l32_69, l32_70, l32_71, l32_83, l32_91, l32_98, l32_99, l32_100, l32_101, l32_102, l32_103, l32_106, l32_119, l32_126, l32_206, l32_515, l32_618, l32_850, l32_1000, l32_1022, l32_1023, l32_1050, l32_1239, l32_1260, i32_add, i32_sub, i32_mul, i32_neg, ↓reduceIte, ltT, ltF, leT, leF, eqT, eqF, gd_ix, i32_nat, RZ_at, upd_RZ, i32_ofNat, G_places_k, G_sides_k, G_aims_k, G_weights_k, G_biases_k, G_touched_k, G_order_k, G_bowlCount_k, G_strikes_k, G_set_places_k, G_set_sides_k, G_set_aims_k, G_set_weights_k, G_set_biases_k, G_set_touched_k, G_set_order_k, G_set_bowlCount_k, G_set_strikes_k, qm]
      · obtain ⟨a1, a2, -, -, -⟩ := ofs q (by omega) (by omega)
        have s01 := sd01 (od q)
        rw [← a2] at z s01
        simp (maxSteps := 4000000) (disch := omega) only [jn, Option.bind_some, l32_0, l32_1, l32_2, l32_3, l32_4, l32_5, l32_6, l32_7, l32_8, l32_9, l32_10, l32_11, l32_12, l32_13, l32_14, l32_15, l32_16, l32_17, l32_18, l32_19, l32_20, l32_21, l32_22, l32_23, l32_24, l32_25, l32_26, l32_27, l32_28, l32_29, l32_30, l32_31, l32_32, l32_33, l32_34, l32_35, l32_36, l32_37, l32_38, l32_39, l32_40, l32_41, l32_42, l32_43, l32_44, l32_45, l32_46, l32_47, l32_48, l32_49, l32_50, l32_51, l32_52, l32_53, l32_54, l32_55, l32_56, l32_57, l32_58, l32_59, l32_60, l32_61, l32_62, l32_63, l32_64, l32_65, l32_66, l32_67, l32_68, l32_69, l32_70, l32_71, l32_83, l32_91, l32_98, l32_99, l32_100, l32_101, l32_102, l32_103, l32_106, l32_119, l32_126, l32_206, l32_515, l32_618, l32_850, l32_1000, l32_1022, l32_1023, l32_1050, l32_1239, l32_1260, i32_add, i32_sub, i32_mul, i32_neg, ↓reduceIte, ltT, ltF, leT, leF, eqT, eqF, gd_ix, i32_nat, RZ_at, upd_RZ, i32_ofNat, G_places_k, G_sides_k, G_aims_k, G_weights_k, G_biases_k, G_touched_k, G_order_k, G_bowlCount_k, G_strikes_k, G_set_places_k, G_set_sides_k, G_set_aims_k, G_set_weights_k, G_set_biases_k, G_set_touched_k, G_set_order_k, G_set_bowlCount_k, G_set_strikes_k, at_in]
  rw [L0]
  -- the nearest of the other side
  have hod : ∀ i, 0 ≤ i → i < (m : Int) → 0 ≤ dm s (od i) := fun i x y => (ofs i x y).2.2.2.2.1
  have eoth : (q = m ∧ othF (sdS s) (dm s) od side m = -1) ∨ (q < m ∧ othF (sdS s) (dm s) od side m = dm s (od q)) := by
    rcases othF_spec (sd := sdS s) (side := side) hod with ⟨e, z⟩ | ⟨i, x, y, z, e, w⟩
    · rcases hstop with e2 | e2
      · exact Or.inl ⟨e2, e⟩
      · by_cases qm : q = m
        · exact Or.inl ⟨qm, e⟩
        · exact absurd (z q (by omega) (by omega)) e2
    · have iq : ¬ i < q := fun l => z (same i x l)
      by_cases qm : q = m
      · omega
      · have e2 : sdS s (od q) ≠ side := by
          rcases hstop with e2 | e2
          · exact absurd e2 qm
          · exact e2
        have qi : ¬ (q : Int) < i := fun l => e2 (w q (by omega) l)
        have : i = q := by omega
        rw [this] at e
        exact Or.inr ⟨by omega, e⟩
  have esum : pts s n = sumZ (fun i => b2i (q = m ∨ dm s (od i) < dm s (od q)) * (1 + s 64 * to (od i))) q := by
    rw [epts]
    rw [sumZ_cut (a := q) hq (fun i x y => by
      show b2i _ * _ = 0
      rw [b2i_n, Int.zero_mul]
      rintro ⟨-, z⟩
      rcases eoth with ⟨e, -⟩ | ⟨e, e2⟩
      · omega
      · have := O.2.2.1 q i (by omega) x y
        have := hod q (by omega) (by omega)
        omega)]
    refine sumZ_congr fun i x y => ?_
    show b2i _ * _ = b2i _ * _
    have a4 := (ofs i x (by omega)).2.2.2.1
    rw [a4]
    congr 1
    refine b2i_congr ⟨fun z => ?_, fun z => ⟨same i x y, ?_⟩⟩
    · rcases eoth with ⟨e, -⟩ | ⟨e, e2⟩
      · exact Or.inl e
      · have := hod q (by omega) (by omega)
        exact Or.inr (by omega)
    · rcases eoth with ⟨e, e2⟩ | ⟨e, e2⟩
      · exact Or.inl (by omega)
      · exact Or.inr (by omega)
  rw [esum]
  refine lp_for0 (fun j => (i32 (sumZ (fun i => b2i (q = m ∨ dm s (od i) < dm s (od q)) * (1 + s 64 * to (od i))) j), i32 j)) q N rfl (by omega) (fun j hj k => ?_) (fun k => ?_)
  · obtain ⟨a1, a2, a3, a4, a5⟩ := ofs j (by omega) (by omega)
    have dj := dist j (by omega) (by omega)
    have wj := x0_worth (N := N) (p := p) (sd := sd) (ai := ai) (we := we) (bi := bi) (to := to) (od := od) (n := (n : Int)) (st := st) (k := od j) (tw := s 64) a1.1 a1.2 f3 h64
    show _ = k (i32 (sumZ _ j + b2i (q = m ∨ dm s (od j) < dm s (od q)) * (1 + s 64 * to (od j))), i32 ((j + 1 : Nat) : Int))
    unfold stQ2
    by_cases qm : q = m
    · rw [b2i_p (Or.inl qm), Int.one_mul]
      simp (maxSteps := 4000000) (disch := omega) only [jn, Option.bind_some, l32_0, l32_1, l32_2, l32_3, l32_4, l32_5, l32_6, l32_7, l32_8, l32_9, l32_10, l32_11, l32_12, l32_13, l32_14, l32_15, l32_16, l32_17, l32_18, l32_19, l32_20, l32_21, l32_22, l32_23, l32_24, l32_25, l32_26, l32_27, l32_28, l32_29, l32_30, l32_31, l32_32, l32_33, l32_34, l32_35, l32_36, l32_37, l32_38, l32_39, l32_40, l32_41, l32_42, l32_43, l32_44, l32_45, l32_46, l32_47, l32_48, l32_49, l32_50, l32_51, l32_52, l32_53, l32_54, l32_55, l32_56, l32_57, l32_58, l32_59, l32_60, l32_61, l32_62, l32_63, l32_64, l32_65, l32_66, l32_67, l32_68, l32_69, l32_70, l32_71, l32_83, l32_91, l32_98, l32_99, l32_100, l32_101, l32_102, l32_103, l32_106, l32_119, l32_126, l32_206, l32_515, l32_618, l32_850, l32_1000, l32_1022, l32_1023, l32_1050, l32_1239, l32_1260, i32_add, i32_sub, i32_mul, i32_neg, ↓reduceIte, ltT, ltF, leT, leF, eqT, eqF, gd_ix, i32_nat, RZ_at, upd_RZ, i32_ofNat, G_places_k, G_sides_k, G_aims_k, G_weights_k, G_biases_k, G_touched_k, G_order_k, G_bowlCount_k, G_strikes_k, G_set_places_k, G_set_sides_k, G_set_aims_k, G_set_weights_k, G_set_biases_k, G_set_touched_k, G_set_order_k, G_set_bowlCount_k, G_set_strikes_k, at_in, wj, ncS, qm]
    · have dq := dist q (by omega) (by omega)
      have bq := (ofs q (by omega) (by omega)).2.2.2.2
      have oq := (ofs q (by omega) (by omega)).1
      by_cases d : dm s (od j) < dm s (od q)
      · rw [b2i_p (Or.inr d), Int.one_mul]
        simp (maxSteps := 4000000) (disch := omega) only [jn, Option.bind_some, l32_0, l32_1, l32_2, l32_3, l32_4, l32_5, l32_6, l32_7, l32_8, l32_9, l32_10, l32_11, l32_12, l32_13, l32_14, l32_15, l32_16, l32_17, l32_18, l32_19, l32_20, l32_21, l32_22, l32_23, l32_24, l32_25, l32_26, l32_27, l32_28, l32_29, l32_30, l32_31, l32_32, l32_33, l32_34, l32_35, l32_36, l32_37, l32_38, l32_39, l32_40, l32_41, l32_42, l32_43, l32_44, l32_45, l32_46, l32_47, l32_48, l32_49, l32_50, l32_51, l32_52, l32_53, l32_54, l32_55, l32_56, l32_57, l32_58, l32_59, l32_60, l32_61, l32_62, l32_63, l32_64, l32_65, l32_66, l32_67, l32_68, l32_69, l32_70, l32_71, l32_83, l32_91, l32_98, l32_99, l32_100, l32_101, l32_102, l32_103, l32_106, l32_119, l32_126, l32_206, l32_515, l32_618, l32_850, l32_1000, l32_1022, l32_1023, l32_1050, l32_1239, l32_1260, i32_add, i32_sub, i32_mul, i32_neg, ↓reduceIte, ltT, ltF, leT, leF, eqT, eqF, gd_ix, i32_nat, RZ_at, upd_RZ, i32_ofNat, G_places_k, G_sides_k, G_aims_k, G_weights_k, G_biases_k, G_touched_k, G_order_k, G_bowlCount_k, G_strikes_k, G_set_places_k, G_set_sides_k, G_set_aims_k, G_set_weights_k, G_set_biases_k, G_set_touched_k, G_set_order_k, G_set_bowlCount_k, G_set_strikes_k, at_in, wj, dj, dq, ncS]
      · rw [b2i_n (fun z => z.elim qm d), Int.zero_mul]
        simp (maxSteps := 4000000) (disch := omega) only [jn, Option.bind_some, l32_0, l32_1, l32_2, l32_3, l32_4, l32_5, l32_6, l32_7, l32_8, l32_9, l32_10, l32_11, l32_12, l32_13, l32_14, l32_15, l32_16, l32_17, l32_18, l32_19, l32_20, l32_21, l32_22, l32_23, l32_24, l32_25, l32_26, l32_27, l32_28, l32_29, l32_30, l32_31, l32_32, l32_33, l32_34, l32_35, l32_36, l32_37, l32_38, l32_39, l32_40, l32_41, l32_42, l32_43, l32_44, l32_45, l32_46, l32_47, l32_48, l32_49, l32_50, l32_51, l32_52, l32_53, l32_54, l32_55, l32_56, l32_57, l32_58, l32_59, l32_60, l32_61, l32_62, l32_63, l32_64, l32_65, l32_66, l32_67, l32_68, l32_69, l32_70, l32_71, l32_83, l32_91, l32_98, l32_99, l32_100, l32_101, l32_102, l32_103, l32_106, l32_119, l32_126, l32_206, l32_515, l32_618, l32_850, l32_1000, l32_1022, l32_1023, l32_1050, l32_1239, l32_1260, i32_add, i32_sub, i32_mul, i32_neg, ↓reduceIte, ltT, ltF, leT, leF, eqT, eqF, gd_ix, i32_nat, RZ_at, upd_RZ, i32_ofNat, G_places_k, G_sides_k, G_aims_k, G_weights_k, G_biases_k, G_touched_k, G_order_k, G_bowlCount_k, G_strikes_k, G_set_places_k, G_set_sides_k, G_set_aims_k, G_set_weights_k, G_set_biases_k, G_set_touched_k, G_set_order_k, G_set_bowlCount_k, G_set_strikes_k, at_in, wj, dj, dq, ncS, Int.add_zero]
  · unfold stQ2
    simp (maxSteps := 4000000) (disch := omega) only [jn, Option.bind_some, l32_0, l32_1, l32_2, l32_3, l32_4, l32_5, l32_6, l32_7, l32_8, l32_9, l32_10, l32_11, l32_12, l32_13, l32_14, l32_15, l32_16, l32_17, l32_18, l32_19, l32_20, l32_21, l32_22, l32_23, l32_24, l32_25, l32_26, l32_27, l32_28, l32_29, l32_30, l32_31, l32_32, l32_33, l32_34, l32_35, l32_36, l32_37, l32_38, l32_39, l32_40, l32_41, l32_42, l32_43, l32_44, l32_45, l32_46, l32_47, l32_48, l32_49, l32_50, l32_51, l32_52, l32_53, l32_54, l32_55, l32_56, l32_57, l32_58, l32_59, l32_60, l32_61, l32_62, l32_63, l32_64, l32_65, l32_66, l32_67, l32_68, l32_69, l32_70, l32_71, l32_83, l32_91, l32_98, l32_99, l32_100, l32_101, l32_102, l32_103, l32_106, l32_119, l32_126, l32_206, l32_515, l32_618, l32_850, l32_1000, l32_1022, l32_1023, l32_1050, l32_1239, l32_1260, i32_add, i32_sub, i32_mul, i32_neg, ↓reduceIte, ltT, ltF, leT, leF, eqT, eqF, gd_ix, i32_nat, RZ_at, upd_RZ, i32_ofNat, G_places_k, G_sides_k, G_aims_k, G_weights_k, G_biases_k, G_touched_k, G_order_k, G_bowlCount_k, G_strikes_k, G_set_places_k, G_set_sides_k, G_set_aims_k, G_set_weights_k, G_set_biases_k, G_set_touched_k, G_set_order_k, G_set_bowlCount_k, G_set_strikes_k]
theorem ordered_x {N n : Nat} {B z : Int} {s : Int → Int} {S : SV} (hN : 9 < N) (h : INV B n s) (hS : shows s n z S) : ∃ G, f_X0_orderedPoints N (S_green S) (S_touchersTwice S) = some (i32 (pts s n), G) ∧ shows s n z (S_set_green S G) := by
  obtain ⟨p, sd, ai, we, bi, to, od, po, la, eb, rfl, rG, rV⟩ := hS
  obtain ⟨f1, f2, f3, f4, f5, f6⟩ := rel_facts h rG
  have hn := h.2.1
  simp only [S_green_k, S_score_k, S_bowlsEach_k, S_blowing_k, S_jackGoesBack_k, S_touchersTwice_k, S_set_green_k, S_set_score_k, S_set_bowlsEach_k, S_set_blowing_k, S_set_jackGoesBack_k, S_set_touchersTwice_k]
  rw [ordered_st, x0_isJackLost (by omega) f1 f3]
  by_cases c : Lost p to
  · rw [b2i_p c]
    obtain ⟨v, e⟩ := at_tot (N := N) (n := 8) (f := RZ sd) (x := i32 (od 0)) (by omega)
    refine ⟨(GK (RZ p) (RZ sd) (RZ ai) (RZ we) (RZ bi) (RZ to) (RZ od) (i32 ((n : Int))) (i32 z)), ?_, ⟨p, sd, ai, we, bi, to, od, po, la, eb, rfl, rG, rV⟩⟩
    rw [pts_n (fun q => q.2 (f5.mp c))]
    simp (maxSteps := 4000000) (disch := omega) only [jn, Option.bind_some, l32_0, l32_1, l32_2, l32_3, l32_4, l32_5, l32_6, l32_7, l32_8, l32_9, l32_10, l32_11, l32_12, l32_13, l32_14, l32_15, l32_16, l32_17, l32_18, l32_19, l32_20, l32_21, l32_22, l32_23, l32_24, l32_25, l32_26, l32_27, l32_28, l32_29, l32_30, l32_31, l32_32, l32_33, l32_34, l32_35, l32_36, l32_37, l32_38, l32_39, l32_40, l32_41, l32_42, l32_43, l32_44, l32_45, l32_46, l32_47, l32_48, l32_49, l32_50, l32_51, l32_52, l32_53, l32_54, l32_55, l32_56, l32_57, l32_58, l32_59, l32_60, l32_61, l32_62, l32_63, l32_64, l32_65, l32_66, l32_67, l32_68, l32_69, l32_70, l32_71, l32_83, l32_91, l32_98, l32_99, l32_100, l32_101, l32_102, l32_103, l32_106, l32_119, l32_126, l32_206, l32_515, l32_618, l32_850, l32_1000, l32_1022, l32_1023, l32_1050, l32_1239, l32_1260, i32_add, i32_sub, i32_mul, i32_neg, ↓reduceIte, ltT, ltF, leT, leF, eqT, eqF, gd_ix, i32_nat, RZ_at, upd_RZ, i32_ofNat, G_places_k, G_sides_k, G_aims_k, G_weights_k, G_biases_k, G_touched_k, G_order_k, G_bowlCount_k, G_strikes_k, G_set_places_k, G_set_sides_k, G_set_aims_k, G_set_weights_k, G_set_biases_k, G_set_touched_k, G_set_order_k, G_set_bowlCount_k, G_set_strikes_k, at_in, e]
    exact ordered_0 (by omega)
  · rw [b2i_n c]
    have O := ordP_congr (fun k x y => ⟨(rel_aM h rG k x y).1, (rel_aM h rG k x y).2.1⟩) (srtF_spec (fun b => p b ≠ -1) (fun b => dst (p b) (p 8)) od n)
    have es := x0_sort (N := N) (n := n) (p := p) (sd := sd) (ai := ai) (we := we) (bi := bi) (to := to) (od := od) (st := z) hN hn f1 f4
    generalize (srtF (fun b => p b ≠ -1) (fun b => dst (p b) (p 8)) od n).1 = m at O es
    generalize (srtF (fun b => p b ≠ -1) (fun b => dst (p b) (p 8)) od n).2 = o at O es
    refine ⟨(GK (RZ p) (RZ sd) (RZ ai) (RZ we) (RZ bi) (RZ to) (RZ o) (i32 ((n : Int))) (i32 z)), ?_, ⟨p, sd, ai, we, bi, to, o, po, la, eb, rfl, rG, rV⟩⟩
    by_cases m0 : m = 0
    · obtain ⟨v, e⟩ := at_tot (N := N) (n := 8) (f := RZ sd) (x := i32 (o 0)) (by omega)
      subst m0
      rw [pts_none (fun b x y q => by
        obtain ⟨i, i0, im, -⟩ := O.2.2.2.2 b x y q.1
        omega)]
      simp (maxSteps := 4000000) (disch := omega) only [jn, Option.bind_some, l32_0, l32_1, l32_2, l32_3, l32_4, l32_5, l32_6, l32_7, l32_8, l32_9, l32_10, l32_11, l32_12, l32_13, l32_14, l32_15, l32_16, l32_17, l32_18, l32_19, l32_20, l32_21, l32_22, l32_23, l32_24, l32_25, l32_26, l32_27, l32_28, l32_29, l32_30, l32_31, l32_32, l32_33, l32_34, l32_35, l32_36, l32_37, l32_38, l32_39, l32_40, l32_41, l32_42, l32_43, l32_44, l32_45, l32_46, l32_47, l32_48, l32_49, l32_50, l32_51, l32_52, l32_53, l32_54, l32_55, l32_56, l32_57, l32_58, l32_59, l32_60, l32_61, l32_62, l32_63, l32_64, l32_65, l32_66, l32_67, l32_68, l32_69, l32_70, l32_71, l32_83, l32_91, l32_98, l32_99, l32_100, l32_101, l32_102, l32_103, l32_106, l32_119, l32_126, l32_206, l32_515, l32_618, l32_850, l32_1000, l32_1022, l32_1023, l32_1050, l32_1239, l32_1260, i32_add, i32_sub, i32_mul, i32_neg, ↓reduceIte, ltT, ltF, leT, leF, eqT, eqF, gd_ix, i32_nat, RZ_at, upd_RZ, i32_ofNat, G_places_k, G_sides_k, G_aims_k, G_weights_k, G_biases_k, G_touched_k, G_order_k, G_bowlCount_k, G_strikes_k, G_set_places_k, G_set_sides_k, G_set_aims_k, G_set_weights_k, G_set_biases_k, G_set_touched_k, G_set_order_k, G_set_bowlCount_k, G_set_strikes_k, es, at_in, e, nc0]
      exact ordered_0 (by omega)
    · have O0 := O.2.2.2.1 0 (by omega) (by omega)
      have e0 := (rel_aM h rG (o 0) O0.1 O0.2.1).2.2
      have c0 : s 0 = 1 := by
        rcases h.2.2.1 with q | q
        · omega
        · exact q.1.1
      simp (maxSteps := 4000000) (disch := omega) only [jn, Option.bind_some, l32_0, l32_1, l32_2, l32_3, l32_4, l32_5, l32_6, l32_7, l32_8, l32_9, l32_10, l32_11, l32_12, l32_13, l32_14, l32_15, l32_16, l32_17, l32_18, l32_19, l32_20, l32_21, l32_22, l32_23, l32_24, l32_25, l32_26, l32_27, l32_28, l32_29, l32_30, l32_31, l32_32, l32_33, l32_34, l32_35, l32_36, l32_37, l32_38, l32_39, l32_40, l32_41, l32_42, l32_43, l32_44, l32_45, l32_46, l32_47, l32_48, l32_49, l32_50, l32_51, l32_52, l32_53, l32_54, l32_55, l32_56, l32_57, l32_58, l32_59, l32_60, l32_61, l32_62, l32_63, l32_64, l32_65, l32_66, l32_67, l32_68, l32_69, l32_70, l32_71, l32_83, l32_91, l32_98, l32_99, l32_100, l32_101, l32_102, l32_103, l32_106, l32_119, l32_126, l32_206, l32_515, l32_618, l32_850, l32_1000, l32_1022, l32_1023, l32_1050, l32_1239, l32_1260, i32_add, i32_sub, i32_mul, i32_neg, ↓reduceIte, ltT, ltF, leT, leF, eqT, eqF, gd_ix, i32_nat, RZ_at, upd_RZ, i32_ofNat, G_places_k, G_sides_k, G_aims_k, G_weights_k, G_biases_k, G_touched_k, G_order_k, G_bowlCount_k, G_strikes_k, G_set_places_k, G_set_sides_k, G_set_aims_k, G_set_weights_k, G_set_biases_k, G_set_touched_k, G_set_order_k, G_set_bowlCount_k, G_set_strikes_k, es, at_in, e0]
      exact ordered_1 (by omega) h rG ⟨c0, fun q => c (f5.mpr q)⟩ O (by omega)

