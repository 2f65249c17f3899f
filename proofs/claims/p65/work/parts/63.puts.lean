/-! the jack is put back: the class and the reference end alike -/
theorem sumZ_le {f g : Int → Int} : ∀ {n : Nat}, (∀ k : Int, 0 ≤ k → k < n → f k ≤ g k) → sumZ f n ≤ sumZ g n
  | 0, _ => Int.le_refl _
  | n + 1, h => by
    have h1 := sumZ_le (n := n) (fun k a b => h k a (by omega))
    have h2 := h n (by omega) (by omega)
    show sumZ f n + f n ≤ sumZ g n + g n
    omega
theorem sumZ_lt {f g : Int → Int} {j : Int} : ∀ {n : Nat}, (∀ k : Int, 0 ≤ k → k < n → f k ≤ g k) → 0 ≤ j → j < n → f j < g j → sumZ f n < sumZ g n
  | 0, _, a, b, _ => by omega
  | n + 1, h, a, b, q => by
    show sumZ f n + f n < sumZ g n + g n
    by_cases e : j = n
    · have h1 := sumZ_le (f := f) (g := g) (n := n) (fun k a b => h k a (by omega))
      subst e
      omega
    · have h1 := sumZ_lt (n := n) (fun k a b => h k a (by omega)) a (by omega) q
      have h2 := h n (by omega) (by omega)
      omega
theorem free_row (p : Int → Int) (h8 : ∀ j : Nat, j < 9 → p 8 ≠ 850 + 21 * (j : Int)) : ∃ j : Nat, j ≤ 8 ∧ ∀ k, 0 ≤ k → k < 9 → p k ≠ 850 + 21 * (j : Int) := by
  refine Classical.byContradiction fun hno => ?_
  have all : ∀ j : Nat, j < 9 → ∃ k, 0 ≤ k ∧ k < 8 ∧ p k = 850 + 21 * (j : Int) := fun j hj => by
    refine Classical.byContradiction fun q => hno ⟨j, by omega, fun k a b e => ?_⟩
    by_cases k8 : k = 8
    · rw [k8] at e; exact h8 j hj e
    · exact q ⟨k, a, by omega, e⟩
  have cnt : ∀ m : Nat, m ≤ 9 → (m : Int) ≤ sumZ (fun k => b2i (∃ j : Nat, j < m ∧ p k = 850 + 21 * (j : Int))) 8 := by
    intro m
    induction m with
    | zero =>
      intro _
      exact (sumZ_b (f := fun k => b2i (∃ j : Nat, j < 0 ∧ p k = 850 + 21 * (j : Int))) (c := 1) (by omega) (n := 8) (fun k _ _ => by
        have := b2i_01 (∃ j : Nat, j < 0 ∧ p k = 850 + 21 * (j : Int))
        show 0 ≤ b2i _ ∧ b2i _ ≤ 1
        omega)).1
    | succ m ih =>
      intro hm
      have h1 := ih (by omega)
      obtain ⟨k, a, b, e⟩ := all m (by omega)
      have lo : b2i (∃ j : Nat, j < m ∧ p k = 850 + 21 * (j : Int)) = 0 := b2i_n (by
        rintro ⟨j, q1, q2⟩
        omega)
      have hi : b2i (∃ j : Nat, j < m + 1 ∧ p k = 850 + 21 * (j : Int)) = 1 := b2i_p ⟨m, by omega, e⟩
      have h2 := sumZ_lt (f := fun k => b2i (∃ j : Nat, j < m ∧ p k = 850 + 21 * (j : Int))) (g := fun k => b2i (∃ j : Nat, j < m + 1 ∧ p k = 850 + 21 * (j : Int))) (j := k) (n := 8) (fun k' _ _ => by
        show b2i _ ≤ b2i _
        by_cases q : ∃ j : Nat, j < m ∧ p k' = 850 + 21 * (j : Int)
        · obtain ⟨j, q1, q2⟩ := q
          rw [b2i_p ⟨j, q1, q2⟩, b2i_p ⟨j, by omega, q2⟩]; omega
        · rw [b2i_n q]
          have := b2i_01 (∃ j : Nat, j < m + 1 ∧ p k' = 850 + 21 * (j : Int))
          omega) a (by omega) (by
        show b2i (∃ j : Nat, j < m ∧ p k = 850 + 21 * (j : Int)) < b2i (∃ j : Nat, j < m + 1 ∧ p k = 850 + 21 * (j : Int))
        rw [lo, hi]
        omega)
      rw [ncS]
      omega
  have h1 := cnt 9 (by omega)
  have h2 := (sumZ_b (f := fun k => b2i (∃ j : Nat, j < 9 ∧ p k = 850 + 21 * (j : Int))) (c := 1) (by omega) (n := 8) (fun k _ _ => by
    have := b2i_01 (∃ j : Nat, j < 9 ∧ p k = 850 + 21 * (j : Int))
    show 0 ≤ b2i _ ∧ b2i _ ≤ 1
    omega)).2
  omega
theorem inv_of {B B' : Int} {n n' : Nat} {s s' : Int → Int} (h : INV B n s) (e : ∀ j, 60 ≤ j → ¬ isC j → s' j = s j) (c : ∀ j, isC j → 0 ≤ s' j ∧ s' j ≤ B') (h3 : s' 3 = n') (hn' : n' ≤ 8) (h0 : (s' 0 = 0 ∧ n' = 0) ∨ (GEO s' n' ∧ (n' : Int) ≤ 2 * s 60)) (hB : B' ≤ 1000000) : INV B' n' s' := by
  obtain ⟨-, -, -, q60, q61, q62, q63, q64, q67, q70, qk, -, -⟩ := h
  have e60 := e 60 (by omega) (by omega)
  have e61 := e 61 (by omega) (by omega)
  have e62 := e 62 (by omega) (by omega)
  have e63 := e 63 (by omega) (by omega)
  have e64 := e 64 (by omega) (by omega)
  have e67 := e 67 (by omega) (by omega)
  have e70 := e 70 (by omega) (by omega)
  refine ⟨h3, hn', ?_, by omega, by omega, by omega, by omega, by omega, by omega, by omega, fun k a b => ?_, c, hB⟩
  · rw [e60]; exact h0
  · rw [e (71 + k) (by omega) (by omega)]
    exact qk k a b
theorem inv_mono {B B' : Int} {n : Nat} {s : Int → Int} (h : INV B n s) (hB : B ≤ B') (hB' : B' ≤ 1000000) : INV B' n s := inv_of h (fun j _ _ => rfl) (fun j hj => by
  have := h.2.2.2.2.2.2.2.2.2.2.2.1 j hj
  omega) h.1 h.2.1 h.2.2.1 hB'
theorem shows_mk {s : Int → Int} {n : Nat} {z : Int} {p sd ai we bi to od po la eb : Int → Int} {pn ec bc lc kc wc tc fs be bl jb tt : Int} (rG : relG s p sd ai we bi to n) (rV : relV s po la eb) (h : pn = s 67 ∧ ec = s 68 ∧ bc = s 69 ∧ lc = s 70 ∧ kc = s 100 ∧ wc = s 101 ∧ tc = s 102 ∧ fs = s 61 ∧ be = s 60 ∧ bl = s 62 ∧ jb = s 63 ∧ tt = s 64) : shows s n z (SK (GK (RZ p) (RZ sd) (RZ ai) (RZ we) (RZ bi) (RZ to) (RZ od) (i32 ((n : Int))) (i32 z)) (VK (RZ po) (RZ la) (RZ eb) (i32 pn) (i32 ec) (i32 bc) (i32 lc) (i32 kc) (i32 wc) (i32 tc) (i32 fs)) (i32 be) (i32 bl) (i32 jb) (i32 tt)) := by
  obtain ⟨rfl, rfl, rfl, rfl, rfl, rfl, rfl, rfl, rfl, rfl, rfl, rfl⟩ := h
  exact ⟨p, sd, ai, we, bi, to, od, po, la, eb, rfl, rG, rV⟩
/-- the jack was laid anew -/
theorem geo_jk {s s' : Int → Int} {n : Nat} {r c : Int} (g : GEO s n) (hn : n ≤ 8) (e : ∀ j, 0 ≤ j → j < 60 → j ≠ 1 → j ≠ 2 → s' j = s j) (e1 : s' 1 = r) (e2 : s' 2 = c) (hr : 0 ≤ r ∧ r ≤ 60) (hc : 0 ≤ c ∧ c ≤ 20) (fr : r < 60 → ∀ k, k ≠ 8 → ¬ Lies s r c k) : GEO s' n ∧ (∀ k, k ≠ 8 → Pl s' k = Pl s k) ∧ Pl s' 8 = 21 * r + c := by
  obtain ⟨g0, g3, g1, g2, gb, gu⟩ := g
  have h0 := e 0 (by omega) (by omega) (by omega) (by omega)
  have h3 := e 3 (by omega) (by omega) (by omega) (by omega)
  have hk : ∀ k w : Int, 0 ≤ k → k < 8 → 0 ≤ w → w < 7 → s' (4 + 7 * k + w) = s (4 + 7 * k + w) := fun k w a b x y => e _ (by omega) (by omega) (by omega) (by omega)
  have L : ∀ a d k, k ≠ 8 → (Lies s' a d k ↔ Lies s a d k) := fun a d k k8 => by
    constructor
    · rintro (⟨q, -⟩ | ⟨q0, q1, q2, q3, q4⟩)
      · exact absurd q k8
      · rw [hk k _ q0 (by omega) (by omega) (by omega)] at q2 q3 q4
        exact Or.inr ⟨q0, by omega, q2, q3, q4⟩
    · rintro (⟨q, -⟩ | ⟨q0, q1, q2⟩)
      · exact absurd q k8
      · refine Or.inr ⟨q0, by omega, ?_⟩
        rw [hk k _ q0 (by omega) (by omega) (by omega), hk k _ q0 (by omega) (by omega) (by omega), hk k _ q0 (by omega) (by omega) (by omega)]
        exact q2
  have L8 : ∀ a d, Lies s' a d 8 → a = r ∧ d = c := fun a d q => by
    rcases q with ⟨-, -, q1, q2⟩ | ⟨-, q, -⟩
    · exact ⟨by omega, by omega⟩
    · omega
  refine ⟨⟨by omega, by omega, by omega, by omega, fun k a b => ?_, ?_⟩, fun k k8 => ?_, ?_⟩
  · have := gb k a b
    have q0 := hk k 0 a (by omega) (by omega) (by omega)
    have q1 := hk k 1 a (by omega) (by omega) (by omega)
    have q2 := hk k 2 a (by omega) (by omega) (by omega)
    have q3 := hk k 3 a (by omega) (by omega) (by omega)
    unfold bowlOK at this ⊢
    rw [q0, q1, q2, q3]
    exact this
  · intro a d i j ha hi hj
    by_cases i8 : i = 8
    · by_cases j8 : j = 8
      · omega
      · subst i8
        obtain ⟨rfl, rfl⟩ := L8 a d hi
        exact absurd ((L _ _ j j8).mp hj) (fr ha j j8)
    · by_cases j8 : j = 8
      · subst j8
        obtain ⟨rfl, rfl⟩ := L8 a d hj
        exact absurd ((L _ _ i i8).mp hi) (fr ha i i8)
      · exact gu a d i j ha ((L _ _ i i8).mp hi) ((L _ _ j j8).mp hj)
  · by_cases a : 0 ≤ k ∧ k < n
    · have q0 := hk k 0 a.1 (by omega) (by omega) (by omega)
      have q1 := hk k 1 a.1 (by omega) (by omega) (by omega)
      have q2 := hk k 2 a.1 (by omega) (by omega) (by omega)
      unfold Pl
      rw [if_neg k8, if_neg k8, q0, q1, q2, h3]
    · unfold Pl
      rw [if_neg k8, if_neg k8, if_neg (by omega), if_neg (by omega)]
  · rw [Pl_jack (by omega), e1, e2]
def stB (N : Nat) (g : GV) : Int32 → (Int32 → Option GV) → Option GV := (fun (s4 : Int32) (k4 : (Int32) → Option (GV)) => jn (fun (s26 : Unit) => (f_X5_put N 9 (G_places g) (8 : Int32) s4).bind (fun o1 => some (G_set_places g o1))) (fun (j26 : (Unit) → Option (GV)) => (if (1239 : Int32) ≤ s4 then j26 () else (f_X0_thingAt N g s4).bind (fun o4 => (if o4 = (-1 : Int32) then j26 () else k4 (s4 + (21 : Int32)))))))
theorem putJackBack_st (N : Nat) (g : GV) : f_X0_putJackBack N g = lpN (stB N g) N (850 : Int32) := rfl
def stP (N : Nat) (v : MV) : Int32 → (Int32 → Option MV) → Option MV := (fun (s29 : Int32) (k29 : (Int32) → Option (MV)) => (f_X6_thingAt N (M_set_s v (upd (M_s v) (2 : Int32).toNatClampNeg (10 : Int32))) s29 (10 : Int32)).bind (fun o8 => (if o8 < 0 then some (M_set_s v (upd (upd (upd (M_s v) (2 : Int32).toNatClampNeg (10 : Int32)) (1 : Int32).toNatClampNeg s29) (100 : Int32).toNatClampNeg (((upd (upd (M_s v) (2 : Int32).toNatClampNeg (10 : Int32)) (1 : Int32).toNatClampNeg s29) (100 : Int32).toNatClampNeg) + (1 : Int32)))) else k29 (s29 + (1 : Int32)))))
theorem puts_st (N : Nat) (v : MV) : f_X6_puts N v = jn (fun (s17 : Unit) => some v) (fun (j17 : (Unit) → Option (MV)) => (if ((M_s v) (63 : Int32).toNatClampNeg) = 0 then j17 () else (f_X6_isBurntNow N v).bind (fun o3 => (if o3 = 0 then j17 () else lpN (stP N v) N (40 : Int32))))) := rfl
abbrev putF (s s' : Int → Int) : Prop := ∀ j, j ≠ 1 → j ≠ 2 → j ≠ 100 → s' j = s j
def putX (s s' : Int → Int) : Prop := ((s' 1 = s 1 ∧ s' 2 = s 2) ∨ (40 ≤ s' 1 ∧ s' 1 ≤ 59 ∧ s' 2 = 10)) ∧ s 100 ≤ s' 100
theorem putX_rf {s : Int → Int} : putX s s := ⟨Or.inl ⟨rfl, rfl⟩, Int.le_refl _⟩
theorem puts_joint {N n : Nat} {B z : Int} {th : Int} {s : Int → Int} {as_ : Int → Int} {ah : Int → Int} {sv : Int → Int} {sm : Int} {sl : Int → Int} {kp : Int} {bu : Int → Int} {le : Int} {st : Int} {od : Int → Int} {om : Int} {sp : Int} {wr_ : Int} {sg : Int} {on_ : Int} {tw : Int} {t3 : Int} {pl : Int} {fi : Int} {be : Int} {ha : Int64} {S : SV} (hN : 100 < N) (h : INV B n s) (hB : B + 1 ≤ 1000000) (hS : shows s n z S) : ∃ (s' : Int → Int) (S' : SV), f_X3_rescueJack N S = some S' ∧ f_X6_puts N (MK (i32 th) (RZ s) (RZ as_) (RZ ah) (RZ sv) (i32 sm) (RZ sl) (i32 kp) (RZ bu) (i32 le) (i32 st) (RZ od) (i32 om) (i32 sp) (i32 wr_) (i32 sg) (i32 on_) (i32 tw) (i32 t3) (i32 pl) (i32 fi) (i32 be) ha) = some (MK (i32 th) (RZ s') (RZ as_) (RZ ah) (RZ sv) (i32 sm) (RZ sl) (i32 kp) (RZ bu) (i32 le) (i32 st) (RZ od) (i32 om) (i32 sp) (i32 wr_) (i32 sg) (i32 on_) (i32 tw) (i32 t3) (i32 pl) (i32 fi) (i32 be) ha) ∧ INV (B + 1) n s' ∧ shows s' n z S' ∧ putF s s' ∧ putX s s' := by
  have eb := burnt_m (N := N) (n := n) (B := B) (th := th) (s := s) (as_ := as_) (ah := ah) (sv := sv) (sm := sm) (sl := sl) (kp := kp) (bu := bu) (le := le) (st := st) (od := od) (om := om) (sp := sp) (wr_ := wr_) (sg := sg) (on_ := on_) (tw := tw) (t3 := t3) (pl := pl) (fi := fi) (be := be) (ha := ha) (by omega) h
  obtain ⟨p, sd, ai, we, bi, to, orr, po, la, eb_, rfl, rG, rV⟩ := hS
  obtain ⟨f1, f2, f3, f4, f5, f6⟩ := rel_facts h rG
  have ex := x0_isJackLost (N := N) (p := p) (sd := sd) (ai := ai) (we := we) (bi := bi) (to := to) (od := orr) (n := n) (st := z) (by omega) f1 f3
  rw [b2i_congr f5] at ex
  have h63 : s 63 = 0 ∨ s 63 = 1 := h.2.2.2.2.2.2.1
  have same : shows s n z (SK (GK (RZ p) (RZ sd) (RZ ai) (RZ we) (RZ bi) (RZ to) (RZ orr) (i32 ((n : Int))) (i32 z)) (VK (RZ po) (RZ la) (RZ eb_) (i32 (s 67)) (i32 (s 68)) (i32 (s 69)) (i32 (s 70)) (i32 (s 100)) (i32 (s 101)) (i32 (s 102)) (i32 (s 61))) (i32 (s 60)) (i32 (s 62)) (i32 (s 63)) (i32 (s 64))) := ⟨p, sd, ai, we, bi, to, orr, po, la, eb_, rfl, rG, rV⟩
  by_cases c1 : s 63 = 0
  · refine ⟨s, _, ?_, ?_, inv_mono h (by omega) hB, same, fun j _ _ _ => rfl, putX_rf⟩
    · unfold f_X3_rescueJack
      simp (maxSteps := 4000000) (disch := omega) only [jn, Option.bind_some, l32_0, l32_1, l32_2, l32_3, l32_4, l32_5, l32_6, l32_7, l32_8, l32_9, l32_10, l32_11, l32_12, l32_13, l32_14, l32_15, l32_16, l32_17, l32_18, l32_19, l32_20, l32_21, l32_22, l32_23, l32_24, l32_25, l32_26, l32_27, l32_28, l32_29, l32_30, l32_31, l32_32, l32_33, l32_34, l32_35, l32_36, l32_37, l32_38, l32_39, l32_40, l32_41, l32_42, l32_43, l32_44, l32_45, l32_46, l32_47, l32_48, l32_49, l32_50, l32_51, l32_52, l32_53, l32_54, l32_55, l32_56, l32_57, l32_58, l32_59, l32_60, l32_61, l32_62, l32_63, l32_64, l32_65, l32_66, l32_67, l32_68, l32_69, l32_70, l32_71, l32_83, l32_91, l32_98, l32_99, l32_100, l32_101, l32_102, l32_103, l32_106, l32_119, l32_126, l32_206, l32_515, l32_618, l32_850, l32_1000, l32_1022, l32_1023, l32_1050, l32_1239, l32_1260, i32_add, i32_sub, i32_mul, i32_neg, ↓reduceIte, ltT, ltF, leT, leF, eqT, eqF, gd_ix, i32_nat, RZ_at, upd_RZ, i32_ofNat, S_green_k, S_score_k, S_bowlsEach_k, S_blowing_k, S_jackGoesBack_k, S_touchersTwice_k, S_set_green_k, S_set_score_k, S_set_bowlsEach_k, S_set_blowing_k, S_set_jackGoesBack_k, S_set_touchersTwice_k, c1]
    · rw [puts_st]
      simp (maxSteps := 4000000) (disch := omega) only [jn, Option.bind_some, l32_0, l32_1, l32_2, l32_3, l32_4, l32_5, l32_6, l32_7, l32_8, l32_9, l32_10, l32_11, l32_12, l32_13, l32_14, l32_15, l32_16, l32_17, l32_18, l32_19, l32_20, l32_21, l32_22, l32_23, l32_24, l32_25, l32_26, l32_27, l32_28, l32_29, l32_30, l32_31, l32_32, l32_33, l32_34, l32_35, l32_36, l32_37, l32_38, l32_39, l32_40, l32_41, l32_42, l32_43, l32_44, l32_45, l32_46, l32_47, l32_48, l32_49, l32_50, l32_51, l32_52, l32_53, l32_54, l32_55, l32_56, l32_57, l32_58, l32_59, l32_60, l32_61, l32_62, l32_63, l32_64, l32_65, l32_66, l32_67, l32_68, l32_69, l32_70, l32_71, l32_83, l32_91, l32_98, l32_99, l32_100, l32_101, l32_102, l32_103, l32_106, l32_119, l32_126, l32_206, l32_515, l32_618, l32_850, l32_1000, l32_1022, l32_1023, l32_1050, l32_1239, l32_1260, i32_add, i32_sub, i32_mul, i32_neg, ↓reduceIte, ltT, ltF, leT, leF, eqT, eqF, gd_ix, i32_nat, RZ_at, upd_RZ, i32_ofNat, M_thrown_k, M_s_k, M_aside_k, M_ahead_k, M_saved_k, M_savedMany_k, M_slots_k, M_kept_k, M_buffer_k, M_length_k, M_strikes_k, M_order_k, M_orderMany_k, M_spot_k, M_isWrong_k, M_sign_k, M_one_k, M_two_k, M_three_k, M_played_k, M_isFine_k, M_bestPoints_k, M_hash_k, M_set_thrown_k, M_set_s_k, M_set_aside_k, M_set_ahead_k, M_set_saved_k, M_set_savedMany_k, M_set_slots_k, M_set_kept_k, M_set_buffer_k, M_set_length_k, M_set_strikes_k, M_set_order_k, M_set_orderMany_k, M_set_spot_k, M_set_isWrong_k, M_set_sign_k, M_set_one_k, M_set_two_k, M_set_three_k, M_set_played_k, M_set_isFine_k, M_set_bestPoints_k, M_set_hash_k, c1]
  by_cases c2 : Burnt s n
  · rw [b2i_p c2] at ex eb
    obtain ⟨b0, b1, b2⟩ := c2
    have hn := h.2.1
    have hg : GEO s n := by
      rcases h.2.2.1 with q | q
      · omega
      · exact q.1
    have g2 := hg.2.2.2.1
    have p8 : 1260 ≤ p 8 := by
      rw [rG.1 8 (by omega) (by omega), Pl_jack b0]; omega
    obtain ⟨j0, j08, hj0⟩ := free_row p (fun j hj => by omega)
    -- what lies in the middle of a row
    have mid : ∀ j : Nat, j ≤ 8 → ∃ t : Int, f_X6_thingAt N (MK (i32 th) (RZ (up s 2 10)) (RZ as_) (RZ ah) (RZ sv) (i32 sm) (RZ sl) (i32 kp) (RZ bu) (i32 le) (i32 st) (RZ od) (i32 om) (i32 sp) (i32 wr_) (i32 sg) (i32 on_) (i32 tw) (i32 t3) (i32 pl) (i32 fi) (i32 be) ha) (i32 (40 + (j : Int))) (i32 10) = some (i32 t) ∧ ((∀ k, 0 ≤ k → k < 9 → p k ≠ 850 + 21 * (j : Int)) → t = -1) ∧ (¬ (∀ k, 0 ≤ k → k < 9 → p k ≠ 850 + 21 * (j : Int)) → 0 ≤ t ∧ t < 9) := fun j hj => by
      have okg := geo_okG hg
      obtain ⟨t, e1, e2⟩ := thingAt_m (N := N) (th := th) (s := up s 2 10) (as_ := as_) (ah := ah) (sv := sv) (sm := sm) (sl := sl) (kp := kp) (bu := bu) (le := le) (st := st) (od := od) (om := om) (sp := sp) (wr_ := wr_) (sg := sg) (on_ := on_) (tw := tw) (t3 := t3) (pl := pl) (fi := fi) (be := be) (ha := ha) (n := n) (r := 40 + (j : Int)) (c := 10) (by omega) hn (by rw [up_ne (by omega)]; exact h.1) (by
        refine ⟨by rw [up_ne (by omega)]; exact okg.1, by rw [up_ne (by omega)]; exact okg.2.1, by rw [up_self]; omega, fun k a b => ?_⟩
        rw [up_ne (by omega), up_ne (by omega), up_ne (by omega)]
        exact okg.2.2.2 k a b) (by omega) (by omega)
      have L : ∀ k, Lies (up s 2 10) (40 + (j : Int)) 10 k ↔ k ≠ 8 ∧ Lies s (40 + (j : Int)) 10 k := fun k => by
        unfold Lies
        rw [up_ne (show (0 : Int) ≠ 2 by omega), up_ne (show (1 : Int) ≠ 2 by omega), up_ne (show (3 : Int) ≠ 2 by omega)]
        constructor
        · rintro (⟨q, q1, q2, q3⟩ | ⟨q0, q1, q2, q3, q4⟩)
          · omega
          · rw [up_ne (by omega)] at q2 q3 q4
            exact ⟨by omega, Or.inr ⟨q0, q1, q2, q3, q4⟩⟩
        · rintro ⟨k8, ⟨q, q1, q2, q3⟩ | ⟨q0, q1, q2, q3, q4⟩⟩
          · omega
          · refine Or.inr ⟨q0, q1, ?_⟩
            rw [up_ne (by omega), up_ne (by omega), up_ne (by omega)]
            exact ⟨q2, q3, q4⟩
      have lp : ∀ k, 0 ≤ k → k < 9 → (Lies s (40 + (j : Int)) 10 k ↔ p k = 850 + 21 * (j : Int)) := fun k a b => by
        rw [lies_pl hg hn (by omega) (by omega) (by omega) (by omega) a b, rG.1 k a b]
        constructor <;> intro q <;> omega
      have rng : ∀ k, Lies s (40 + (j : Int)) 10 k → 0 ≤ k ∧ k < 9 := fun k q => by
        have := h.1
        rcases q with q | q <;> omega
      refine ⟨t, e1, fun q => ?_, fun q => ?_⟩
      · rcases e2 with e2 | e2
        · exact e2.1
        · have q1 := ((L t).mp e2).2
          have q2 := rng t q1
          exact absurd ((lp t q2.1 q2.2).mp q1) (q t q2.1 q2.2)
      · rcases e2 with e2 | e2
        · exfalso
          refine q fun k a b ek => ?_
          refine e2.2 k ((L k).mpr ⟨fun e => ?_, (lp k a b).mpr ek⟩)
          rw [e] at ek
          omega
        · exact rng t ((L t).mp e2).2
    obtain ⟨m, hm, -, hc, ⟨k1, L1⟩, ⟨k2, L2⟩⟩ := lp_to2 (step := stB N (GK (RZ p) (RZ sd) (RZ ai) (RZ we) (RZ bi) (RZ to) (RZ orr) (i32 ((n : Int))) (i32 z))) (step' := stP N (MK (i32 th) (RZ s) (RZ as_) (RZ ah) (RZ sv) (i32 sm) (RZ sl) (i32 kp) (RZ bu) (i32 le) (i32 st) (RZ od) (i32 om) (i32 sp) (i32 wr_) (i32 sg) (i32 on_) (i32 tw) (i32 t3) (i32 pl) (i32 fi) (i32 be) ha)) (fun i => i32 (850 + 21 * (i : Int))) (fun i => i32 (40 + (i : Int))) (fun i => ∀ k, 0 ≤ k → k < 9 → p k ≠ 850 + 21 * (i : Int)) j0 N (s0 := i32 850) (s0' := i32 40) rfl rfl (by omega) hj0 (fun j hj q k => by
        have e1 := x0_thingAt (N := N) (p := p) (sd := sd) (ai := ai) (we := we) (bi := bi) (to := to) (od := orr) (n := (n : Int)) (st := z) (q := 850 + 21 * (j : Int)) (by omega) f1 (by omega) (by omega)
        have e2 : thg p (850 + 21 * (j : Int)) ≠ -1 ∧ thg p (850 + 21 * (j : Int)) < 9 ∧ 0 ≤ thg p (850 + 21 * (j : Int)) := by
          rcases thg_spec p (850 + 21 * (j : Int)) with ⟨-, e⟩ | ⟨a, b, -⟩
          · exact absurd e q
          · omega
        unfold stB
        show _ = k (i32 (850 + 21 * ((j + 1 : Nat) : Int)))
        rw [ncS, show 850 + 21 * ((j : Int) + 1) = 850 + 21 * (j : Int) + 21 by omega]
        generalize thg p (850 + 21 * (j : Int)) = u at e1 e2
        simp (maxSteps := 4000000) (disch := omega) only [jn, Option.bind_some, l32_0, l32_1, l32_2, l32_3, l32_4, l32_5, l32_6, l32_7, l32_8, l32_9, l32_10, l32_11, l32_12, l32_13, l32_14, l32_15, l32_16, l32_17, l32_18, l32_19, l32_20, l32_21, l32_22, l32_23, l32_24, l32_25, l32_26, l32_27, l32_28, l32_29, l32_30, l32_31, l32_32, l32_33, l32_34, l32_35, l32_36, l32_37, l32_38, l32_39, l32_40, l32_41, l32_42, l32_43, l32_44, l32_45, l32_46, l32_47, l32_48, l32_49, l32_50, l32_51, l32_52, l32_53, l32_54, l32_55, l32_56, l32_57, l32_58, l32_59, l32_60, l32_61, l32_62, l32_63, l32_64, l32_65, l32_66, l32_67, l32_68, l32_69, l32_70, l32_71, l32_83, l32_91, l32_98, l32_99, l32_100, l32_101, l32_102, l32_103, l32_106, l32_119, l32_126, l32_206, l32_515, l32_618, l32_850, l32_1000, l32_1022, l32_1023, l32_1050, l32_1239, l32_1260, i32_add, i32_sub, i32_mul, i32_neg, ↓reduceIte, ltT, ltF, leT, leF, eqT, eqF, gd_ix, i32_nat, RZ_at, upd_RZ, i32_ofNat, G_places_k, G_sides_k, G_aims_k, G_weights_k, G_biases_k, G_touched_k, G_order_k, G_bowlCount_k, G_strikes_k, G_set_places_k, G_set_sides_k, G_set_aims_k, G_set_weights_k, G_set_biases_k, G_set_touched_k, G_set_order_k, G_set_bowlCount_k, G_set_strikes_k, e1]) (fun j hj q k => by
        obtain ⟨t, e1, -, e2⟩ := mid j (by omega)
        have e3 := e2 q
        unfold stP
        show _ = k (i32 (40 + ((j + 1 : Nat) : Int)))
        rw [ncS, show 40 + ((j : Int) + 1) = 40 + (j : Int) + 1 by omega]
        simp (maxSteps := 4000000) (disch := omega) only [jn, Option.bind_some, l32_0, l32_1, l32_2, l32_3, l32_4, l32_5, l32_6, l32_7, l32_8, l32_9, l32_10, l32_11, l32_12, l32_13, l32_14, l32_15, l32_16, l32_17, l32_18, l32_19, l32_20, l32_21, l32_22, l32_23, l32_24, l32_25, l32_26, l32_27, l32_28, l32_29, l32_30, l32_31, l32_32, l32_33, l32_34, l32_35, l32_36, l32_37, l32_38, l32_39, l32_40, l32_41, l32_42, l32_43, l32_44, l32_45, l32_46, l32_47, l32_48, l32_49, l32_50, l32_51, l32_52, l32_53, l32_54, l32_55, l32_56, l32_57, l32_58, l32_59, l32_60, l32_61, l32_62, l32_63, l32_64, l32_65, l32_66, l32_67, l32_68, l32_69, l32_70, l32_71, l32_83, l32_91, l32_98, l32_99, l32_100, l32_101, l32_102, l32_103, l32_106, l32_119, l32_126, l32_206, l32_515, l32_618, l32_850, l32_1000, l32_1022, l32_1023, l32_1050, l32_1239, l32_1260, i32_add, i32_sub, i32_mul, i32_neg, ↓reduceIte, ltT, ltF, leT, leF, eqT, eqF, gd_ix, i32_nat, RZ_at, upd_RZ, i32_ofNat, M_thrown_k, M_s_k, M_aside_k, M_ahead_k, M_saved_k, M_savedMany_k, M_slots_k, M_kept_k, M_buffer_k, M_length_k, M_strikes_k, M_order_k, M_orderMany_k, M_spot_k, M_isWrong_k, M_sign_k, M_one_k, M_two_k, M_three_k, M_played_k, M_isFine_k, M_bestPoints_k, M_hash_k, M_set_thrown_k, M_set_s_k, M_set_aside_k, M_set_ahead_k, M_set_saved_k, M_set_savedMany_k, M_set_slots_k, M_set_kept_k, M_set_buffer_k, M_set_length_k, M_set_strikes_k, M_set_order_k, M_set_orderMany_k, M_set_spot_k, M_set_isWrong_k, M_set_sign_k, M_set_one_k, M_set_two_k, M_set_three_k, M_set_played_k, M_set_isFine_k, M_set_bestPoints_k, M_set_hash_k, e1])
    have hm8 : m ≤ 8 := by omega
    have H1 : f_X0_putJackBack N (GK (RZ p) (RZ sd) (RZ ai) (RZ we) (RZ bi) (RZ to) (RZ orr) (i32 ((n : Int))) (i32 z)) = some (GK (RZ (up p 8 (850 + 21 * (m : Int)))) (RZ sd) (RZ ai) (RZ we) (RZ bi) (RZ to) (RZ orr) (i32 ((n : Int))) (i32 z)) := by
      have e1 := x0_thingAt (N := N) (p := p) (sd := sd) (ai := ai) (we := we) (bi := bi) (to := to) (od := orr) (n := (n : Int)) (st := z) (q := 850 + 21 * (m : Int)) (by omega) f1 (by omega) (by omega)
      have e2 : thg p (850 + 21 * (m : Int)) = -1 := by
        rcases thg_spec p (850 + 21 * (m : Int)) with ⟨e, -⟩ | ⟨a, b, e⟩
        · exact e
        · exact absurd e (hc _ a b)
      rw [e2] at e1
      rw [putJackBack_st, l32_850, L1]
      unfold stB
      simp (maxSteps := 4000000) (disch := omega) only [jn, Option.bind_some, l32_0, l32_1, l32_2, l32_3, l32_4, l32_5, l32_6, l32_7, l32_8, l32_9, l32_10, l32_11, l32_12, l32_13, l32_14, l32_15, l32_16, l32_17, l32_18, l32_19, l32_20, l32_21, l32_22, l32_23, l32_24, l32_25, l32_26, l32_27, l32_28, l32_29, l32_30, l32_31, l32_32, l32_33, l32_34, l32_35, l32_36, l32_37, l32_38, l32_39, l32_40, l32_41, l32_42, l32_43, l32_44, l32_45, l32_46, l32_47, l32_48, l32_49, l32_50, l32_51, l32_52, l32_53, l32_54, l32_55, l32_56, l32_57, l32_58, l32_59, l32_60, l32_61, l32_62, l32_63, l32_64, l32_65, l32_66, l32_67, l32_68, l32_69, l32_70, l32_71, l32_83, l32_91, l32_98, l32_99, l32_100, l32_101, l32_102, l32_103, l32_106, l32_119, l32_126, l32_206, l32_515, l32_618, l32_850, l32_1000, l32_1022, l32_1023, l32_1050, l32_1239, l32_1260, i32_add, i32_sub, i32_mul, i32_neg, ↓reduceIte, ltT, ltF, leT, leF, eqT, eqF, gd_ix, i32_nat, RZ_at, upd_RZ, i32_ofNat, G_places_k, G_sides_k, G_aims_k, G_weights_k, G_biases_k, G_touched_k, G_order_k, G_bowlCount_k, G_strikes_k, G_set_places_k, G_set_sides_k, G_set_aims_k, G_set_weights_k, G_set_biases_k, G_set_touched_k, G_set_order_k, G_set_bowlCount_k, G_set_strikes_k, e1, put_in]
    have e21 : up s 2 10 1 = s 1 := up_ne (by omega)
    generalize es' : up (up (up s 2 10) 1 (40 + (m : Int))) 100 (s 100 + 1) = s'
    have us : ∀ j, j ≠ 1 → j ≠ 2 → j ≠ 100 → s' j = s j := fun j x y w => by rw [← es', up_ne w, up_ne x, up_ne y]
    have u1 : s' 1 = 40 + (m : Int) := by rw [← es', up_ne (by omega), up_self]
    have u2 : s' 2 = 10 := by rw [← es', up_ne (by omega), up_ne (by omega), up_self]
    have u100 : s' 100 = s 100 + 1 := by rw [← es', up_self]
    have H2 : f_X6_puts N (MK (i32 th) (RZ s) (RZ as_) (RZ ah) (RZ sv) (i32 sm) (RZ sl) (i32 kp) (RZ bu) (i32 le) (i32 st) (RZ od) (i32 om) (i32 sp) (i32 wr_) (i32 sg) (i32 on_) (i32 tw) (i32 t3) (i32 pl) (i32 fi) (i32 be) ha) = some (MK (i32 th) (RZ s') (RZ as_) (RZ ah) (RZ sv) (i32 sm) (RZ sl) (i32 kp) (RZ bu) (i32 le) (i32 st) (RZ od) (i32 om) (i32 sp) (i32 wr_) (i32 sg) (i32 on_) (i32 tw) (i32 t3) (i32 pl) (i32 fi) (i32 be) ha) := by
      obtain ⟨t, e1, e2, -⟩ := mid m hm8
      rw [e2 hc] at e1
      have e3 : up (up s 2 10) 1 (40 + (m : Int)) 100 = s 100 := by rw [up_ne (by omega), up_ne (by omega)]
      rw [puts_st]
      simp (maxSteps := 4000000) (disch := omega) only [jn, Option.bind_some, l32_0, l32_1, l32_2, l32_3, l32_4, l32_5, l32_6, l32_7, l32_8, l32_9, l32_10, l32_11, l32_12, l32_13, l32_14, l32_15, l32_16, l32_17, l32_18, l32_19, l32_20, l32_21, l32_22, l32_23, l32_24, l32_25, l32_26, l32_27, l32_28, l32_29, l32_30, l32_31, l32_32, l32_33, l32_34, l32_35, l32_36, l32_37, l32_38, l32_39, l32_40, l32_41, l32_42, l32_43, l32_44, l32_45, l32_46, l32_47, l32_48, l32_49, l32_50, l32_51, l32_52, l32_53, l32_54, l32_55, l32_56, l32_57, l32_58, l32_59, l32_60, l32_61, l32_62, l32_63, l32_64, l32_65, l32_66, l32_67, l32_68, l32_69, l32_70, l32_71, l32_83, l32_91, l32_98, l32_99, l32_100, l32_101, l32_102, l32_103, l32_106, l32_119, l32_126, l32_206, l32_515, l32_618, l32_850, l32_1000, l32_1022, l32_1023, l32_1050, l32_1239, l32_1260, i32_add, i32_sub, i32_mul, i32_neg, ↓reduceIte, ltT, ltF, leT, leF, eqT, eqF, gd_ix, i32_nat, RZ_at, upd_RZ, i32_ofNat, M_thrown_k, M_s_k, M_aside_k, M_ahead_k, M_saved_k, M_savedMany_k, M_slots_k, M_kept_k, M_buffer_k, M_length_k, M_strikes_k, M_order_k, M_orderMany_k, M_spot_k, M_isWrong_k, M_sign_k, M_one_k, M_two_k, M_three_k, M_played_k, M_isFine_k, M_bestPoints_k, M_hash_k, M_set_thrown_k, M_set_s_k, M_set_aside_k, M_set_ahead_k, M_set_saved_k, M_set_savedMany_k, M_set_slots_k, M_set_kept_k, M_set_buffer_k, M_set_length_k, M_set_strikes_k, M_set_order_k, M_set_orderMany_k, M_set_spot_k, M_set_isWrong_k, M_set_sign_k, M_set_one_k, M_set_two_k, M_set_three_k, M_set_played_k, M_set_isFine_k, M_set_bestPoints_k, M_set_hash_k, eb]
      rw [L2]
      unfold stP
      simp (maxSteps := 4000000) (disch := omega) only [jn, Option.bind_some, l32_0, l32_1, l32_2, l32_3, l32_4, l32_5, l32_6, l32_7, l32_8, l32_9, l32_10, l32_11, l32_12, l32_13, l32_14, l32_15, l32_16, l32_17, l32_18, l32_19, l32_20, l32_21, l32_22, l32_23, l32_24, l32_25, l32_26, l32_27, l32_28, l32_29, l32_30, l32_31, l32_32, l32_33, l32_34, l32_35, l32_36, l32_37, l32_38, l32_39, l32_40, l32_41, l32_42, l32_43, l32_44, l32_45, l32_46, l32_47, l32_48, l32_49, l32_50, l32_51, l32_52, l32_53, l32_54, l32_55, l32_56, l32_57, l32_58, l32_59, l32_60, l32_61, l32_62, l32_63, l32_64, l32_65, l32_66, l32_67, l32_68, l32_69, l32_70, l32_71, l32_83, l32_91, l32_98, l32_99, l32_100, l32_101, l32_102, l32_103, l32_106, l32_119, l32_126, l32_206, l32_515, l32_618, l32_850, l32_1000, l32_1022, l32_1023, l32_1050, l32_1239, l32_1260, i32_add, i32_sub, i32_mul, i32_neg, ↓reduceIte, ltT, ltF, leT, leF, eqT, eqF, gd_ix, i32_nat, RZ_at, upd_RZ, i32_ofNat, M_thrown_k, M_s_k, M_aside_k, M_ahead_k, M_saved_k, M_savedMany_k, M_slots_k, M_kept_k, M_buffer_k, M_length_k, M_strikes_k, M_order_k, M_orderMany_k, M_spot_k, M_isWrong_k, M_sign_k, M_one_k, M_two_k, M_three_k, M_played_k, M_isFine_k, M_bestPoints_k, M_hash_k, M_set_thrown_k, M_set_s_k, M_set_aside_k, M_set_ahead_k, M_set_saved_k, M_set_savedMany_k, M_set_slots_k, M_set_kept_k, M_set_buffer_k, M_set_length_k, M_set_strikes_k, M_set_order_k, M_set_orderMany_k, M_set_spot_k, M_set_isWrong_k, M_set_sign_k, M_set_one_k, M_set_two_k, M_set_three_k, M_set_played_k, M_set_isFine_k, M_set_bestPoints_k, M_set_hash_k, e1, e3, es']
    obtain ⟨G1, P1, P8⟩ := geo_jk (s' := s') (r := 40 + (m : Int)) (c := 10) hg hn (fun j _ _ x y => us j x y (by omega)) u1 u2 (by omega) (by omega) (fun _ k k8 q => by
      have k09 : 0 ≤ k ∧ k < 9 := by
        have := h.1
        rcases q with q | q <;> omega
      have := (lies_pl hg hn (by omega) (by omega) (by omega) (by omega) k09.1 k09.2).mp q
      rw [← rG.1 k k09.1 k09.2] at this
      exact hc k k09.1 k09.2 (by omega))
    have hC := h.2.2.2.2.2.2.2.2.2.2.2.1
    refine ⟨s', (SK (GK (RZ (up p 8 (850 + 21 * (m : Int)))) (RZ sd) (RZ ai) (RZ we) (RZ bi) (RZ to) (RZ orr) (i32 ((n : Int))) (i32 z)) (VK (RZ po) (RZ la) (RZ eb_) (i32 (s 67)) (i32 (s 68)) (i32 (s 69)) (i32 (s 70)) (i32 (s 100 + 1)) (i32 (s 101)) (i32 (s 102)) (i32 (s 61))) (i32 (s 60)) (i32 (s 62)) (i32 (s 63)) (i32 (s 64))), ?_, H2, ?_, ?_, us, Or.inr ⟨by omega, by omega, u2⟩, by omega⟩
    · unfold f_X3_rescueJack
      simp (maxSteps := 4000000) (disch := omega) only [jn, Option.bind_some, l32_0, l32_1, l32_2, l32_3, l32_4, l32_5, l32_6, l32_7, l32_8, l32_9, l32_10, l32_11, l32_12, l32_13, l32_14, l32_15, l32_16, l32_17, l32_18, l32_19, l32_20, l32_21, l32_22, l32_23, l32_24, l32_25, l32_26, l32_27, l32_28, l32_29, l32_30, l32_31, l32_32, l32_33, l32_34, l32_35, l32_36, l32_37, l32_38, l32_39, l32_40, l32_41, l32_42, l32_43, l32_44, l32_45, l32_46, l32_47, l32_48, l32_49, l32_50, l32_51, l32_52, l32_53, l32_54, l32_55, l32_56, l32_57, l32_58, l32_59, l32_60, l32_61, l32_62, l32_63, l32_64, l32_65, l32_66, l32_67, l32_68, l32_69, l32_70, l32_71, l32_83, l32_91, l32_98, l32_99, l32_100, l32_101, l32_102, l32_103, l32_106, l32_119, l32_126, l32_206, l32_515, l32_618, l32_850, l32_1000, l32_1022, l32_1023, l32_1050, l32_1239, l32_1260, i32_add, i32_sub, i32_mul, i32_neg, ↓reduceIte, ltT, ltF, leT, leF, eqT, eqF, gd_ix, i32_nat, RZ_at, upd_RZ, i32_ofNat, S_green_k, S_score_k, S_bowlsEach_k, S_blowing_k, S_jackGoesBack_k, S_touchersTwice_k, S_set_green_k, S_set_score_k, S_set_bowlsEach_k, S_set_blowing_k, S_set_jackGoesBack_k, S_set_touchersTwice_k, V_points_k, V_latest_k, V_endsByPoints_k, V_pointsNeeded_k, V_endCount_k, V_burntCount_k, V_latestCount_k, V_backCount_k, V_bowlCount_k, V_toucherCount_k, V_firstSide_k, V_set_points_k, V_set_latest_k, V_set_endsByPoints_k, V_set_pointsNeeded_k, V_set_endCount_k, V_set_burntCount_k, V_set_latestCount_k, V_set_backCount_k, V_set_bowlCount_k, V_set_toucherCount_k, V_set_firstSide_k, ex, H1]
    · refine inv_of h (fun j a b => us j (by omega) (by omega) (by omega)) (fun j hj => ?_) (by rw [us 3 (by omega) (by omega) (by omega)]; exact h.1) hn (Or.inr ⟨G1, ?_⟩) hB
      · by_cases j100 : j = 100
        · have := hC 100 (by omega)
          rw [j100, u100]; omega
        · have := hC j hj
          rw [us j (by omega) (by omega) j100]; omega
      · rcases h.2.2.1 with q | q
        · omega
        · exact q.2
    · refine shows_mk ⟨fun k a b => ?_, fun k a b => ?_, fun k a b => ?_⟩ ⟨?_, ?_, fun k a b => ?_, fun k a b => ?_⟩ ⟨(us _ (by omega) (by omega) (by omega)).symm, (us _ (by omega) (by omega) (by omega)).symm, (us _ (by omega) (by omega) (by omega)).symm, (us _ (by omega) (by omega) (by omega)).symm, u100.symm, (us _ (by omega) (by omega) (by omega)).symm, (us _ (by omega) (by omega) (by omega)).symm, (us _ (by omega) (by omega) (by omega)).symm, (us _ (by omega) (by omega) (by omega)).symm, (us _ (by omega) (by omega) (by omega)).symm, (us _ (by omega) (by omega) (by omega)).symm, (us _ (by omega) (by omega) (by omega)).symm⟩
      · by_cases k8 : k = 8
        · rw [k8, up_self, P8]; omega
        · rw [up_ne k8, P1 k k8]; exact rG.1 k a b
      · rw [us 61 (by omega) (by omega) (by omega), us _ (by omega) (by omega) (by omega), us _ (by omega) (by omega) (by omega), us _ (by omega) (by omega) (by omega)]
        exact rG.2.1 k a b
      · rw [us _ (by omega) (by omega) (by omega)]
        exact rG.2.2 k a b
      · rw [us _ (by omega) (by omega) (by omega)]; exact rV.1
      · rw [us _ (by omega) (by omega) (by omega)]; exact rV.2.1
      · rw [us 70 (by omega) (by omega) (by omega)] at b
        have := h.2.2.2.2.2.2.2.2.2.1
        rw [us _ (by omega) (by omega) (by omega)]; exact rV.2.2.1 k a b
      · rw [us _ (by omega) (by omega) (by omega)]; exact rV.2.2.2 k a b
  · rw [b2i_n c2] at ex eb
    refine ⟨s, _, ?_, ?_, inv_mono h (by omega) hB, same, fun j _ _ _ => rfl, putX_rf⟩
    · unfold f_X3_rescueJack
      simp (maxSteps := 4000000) (disch := omega) only [jn, Option.bind_some, l32_0, l32_1, l32_2, l32_3, l32_4, l32_5, l32_6, l32_7, l32_8, l32_9, l32_10, l32_11, l32_12, l32_13, l32_14, l32_15, l32_16, l32_17, l32_18, l32_19, l32_20, l32_21, l32_22, l32_23, l32_24, l32_25, l32_26, l32_27, l32_28, l32_29, l32_30, l32_31, l32_32, l32_33, l32_34, l32_35, l32_36, l32_37, l32_38, l32_39, l32_40, l32_41, l32_42, l32_43, l32_44, l32_45, l32_46, l32_47, l32_48, l32_49, l32_50, l32_51, l32_52, l32_53, l32_54, l32_55, l32_56, l32_57, l32_58, l32_59, l32_60, l32_61, l32_62, l32_63, l32_64, l32_65, l32_66, l32_67, l32_68, l32_69, l32_70, l32_71, l32_83, l32_91, l32_98, l32_99, l32_100, l32_101, l32_102, l32_103, l32_106, l32_119, l32_126, l32_206, l32_515, l32_618, l32_850, l32_1000, l32_1022, l32_1023, l32_1050, l32_1239, l32_1260, i32_add, i32_sub, i32_mul, i32_neg, ↓reduceIte, ltT, ltF, leT, leF, eqT, eqF, gd_ix, i32_nat, RZ_at, upd_RZ, i32_ofNat, S_green_k, S_score_k, S_bowlsEach_k, S_blowing_k, S_jackGoesBack_k, S_touchersTwice_k, S_set_green_k, S_set_score_k, S_set_bowlsEach_k, S_set_blowing_k, S_set_jackGoesBack_k, S_set_touchersTwice_k, ex]
    · rw [puts_st]
      simp (maxSteps := 4000000) (disch := omega) only [jn, Option.bind_some, l32_0, l32_1, l32_2, l32_3, l32_4, l32_5, l32_6, l32_7, l32_8, l32_9, l32_10, l32_11, l32_12, l32_13, l32_14, l32_15, l32_16, l32_17, l32_18, l32_19, l32_20, l32_21, l32_22, l32_23, l32_24, l32_25, l32_26, l32_27, l32_28, l32_29, l32_30, l32_31, l32_32, l32_33, l32_34, l32_35, l32_36, l32_37, l32_38, l32_39, l32_40, l32_41, l32_42, l32_43, l32_44, l32_45, l32_46, l32_47, l32_48, l32_49, l32_50, l32_51, l32_52, l32_53, l32_54, l32_55, l32_56, l32_57, l32_58, l32_59, l32_60, l32_61, l32_62, l32_63, l32_64, l32_65, l32_66, l32_67, l32_68, l32_69, l32_70, l32_71, l32_83, l32_91, l32_98, l32_99, l32_100, l32_101, l32_102, l32_103, l32_106, l32_119, l32_126, l32_206, l32_515, l32_618, l32_850, l32_1000, l32_1022, l32_1023, l32_1050, l32_1239, l32_1260, i32_add, i32_sub, i32_mul, i32_neg, ↓reduceIte, ltT, ltF, leT, leF, eqT, eqF, gd_ix, i32_nat, RZ_at, upd_RZ, i32_ofNat, M_thrown_k, M_s_k, M_aside_k, M_ahead_k, M_saved_k, M_savedMany_k, M_slots_k, M_kept_k, M_buffer_k, M_length_k, M_strikes_k, M_order_k, M_orderMany_k, M_spot_k, M_isWrong_k, M_sign_k, M_one_k, M_two_k, M_three_k, M_played_k, M_isFine_k, M_bestPoints_k, M_hash_k, M_set_thrown_k, M_set_s_k, M_set_aside_k, M_set_ahead_k, M_set_saved_k, M_set_savedMany_k, M_set_slots_k, M_set_kept_k, M_set_buffer_k, M_set_length_k, M_set_strikes_k, M_set_order_k, M_set_orderMany_k, M_set_spot_k, M_set_isWrong_k, M_set_sign_k, M_set_one_k, M_set_two_k, M_set_three_k, M_set_played_k, M_set_isFine_k, M_set_bestPoints_k, M_set_hash_k, eb]
