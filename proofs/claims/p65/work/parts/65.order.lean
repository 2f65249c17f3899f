/-! bowls in order by their distance: one order of both -/
theorem up_comm {s : Int → Int} {a b x y : Int} (h : a ≠ b) : up (up s a x) b y = up (up s b y) a x := by
  funext j
  unfold up
  by_cases ja : j = a
  · rw [if_pos ja, if_neg (by omega), if_pos ja]
  · rw [if_neg ja, if_neg ja]
/-- k laid into the order of m, ahead of all that are farther -/
def insF (d od : Int → Int) (k : Int) : Nat → Int → Int
  | 0 => up od 0 k
  | m + 1 => if d (od m) ≤ d k then up od ((m : Int) + 1) k else up (insF d od k m) ((m : Int) + 1) (od m)
theorem insF_p {d od : Int → Int} {k : Int} {m : Nat} (h : d (od m) ≤ d k) : insF d od k (m + 1) = up od ((m : Int) + 1) k := by
  rw [insF]; exact if_pos h
theorem insF_n {d od : Int → Int} {k : Int} {m : Nat} (h : ¬ d (od m) ≤ d k) : insF d od k (m + 1) = up (insF d od k m) ((m : Int) + 1) (od m) := by
  rw [insF]; exact if_neg h
theorem insF_up {d : Int → Int} {k x j : Int} : ∀ {m : Nat} {od : Int → Int}, (m : Int) < j → insF d (up od j x) k m = up (insF d od k m) j x
  | 0, od, h => by
    rw [insF, insF]
    exact up_comm (by omega)
  | m + 1, od, h => by
    have e : up od j x m = od m := up_ne (by omega)
    by_cases c : d (od m) ≤ d k
    · rw [insF_p (by rw [e]; exact c), insF_p c]
      exact up_comm (by omega)
    · rw [insF_n (by rw [e]; exact c), insF_n c, e, insF_up (m := m) (by omega)]
      exact up_comm (by omega)
theorem insF_sum {d : Int → Int} {k : Int} (φ : Int → Int) : ∀ {m : Nat} {od : Int → Int}, sumZ (fun i => φ (insF d od k m i)) (m + 1) = sumZ (fun i => φ (od i)) m + φ k
  | 0, od => by
    show 0 + φ (insF d od k 0 ((0 : Nat) : Int)) = 0 + φ k
    rw [insF, nc0, up_self]
  | m + 1, od => by
    show sumZ (fun i => φ (insF d od k (m + 1) i)) (m + 1) + φ (insF d od k (m + 1) ((m + 1 : Nat) : Int)) = sumZ (fun i => φ (od i)) m + φ (od m) + φ k
    rw [ncS]
    by_cases c : d (od m) ≤ d k
    · rw [insF_p c, up_self, sumZ_congr (g := fun i => φ (od i)) (fun i a b => by
        show φ (up od ((m : Int) + 1) k i) = _
        rw [up_ne (by omega)])]
      rfl
    · have ih := insF_sum (d := d) (k := k) φ (m := m) (od := od)
      rw [insF_n c, up_self, sumZ_congr (g := fun i => φ (insF d od k m i)) (fun i a b => by
        show φ (up (insF d od k m) ((m : Int) + 1) (od m) i) = _
        rw [up_ne (by omega)]), ih]
      omega
theorem insF_val {d : Int → Int} {k : Int} : ∀ {m : Nat} {od : Int → Int} {i : Int}, 0 ≤ i → i ≤ m → insF d od k m i = k ∨ ∃ i' : Int, 0 ≤ i' ∧ i' < m ∧ insF d od k m i = od i'
  | 0, od, i, h0, h1 => by
    have : i = 0 := by omega
    subst this
    rw [insF, up_self]
    exact Or.inl rfl
  | m + 1, od, i, h0, h1 => by
    by_cases c : d (od m) ≤ d k
    · rw [insF_p c]
      by_cases e : i = (m : Int) + 1
      · rw [e, up_self]; exact Or.inl rfl
      · rw [up_ne e]; exact Or.inr ⟨i, h0, by omega, rfl⟩
    · rw [insF_n c]
      by_cases e : i = (m : Int) + 1
      · rw [e, up_self]; exact Or.inr ⟨m, by omega, by omega, rfl⟩
      · rw [up_ne e]
        rcases insF_val (d := d) (k := k) (m := m) (od := od) h0 (by omega) with q | ⟨i', a, b, q⟩
        · exact Or.inl q
        · exact Or.inr ⟨i', a, by omega, q⟩
theorem insF_mem {d : Int → Int} {k : Int} : ∀ {m : Nat} {od : Int → Int}, (∃ i, 0 ≤ i ∧ i ≤ (m : Int) ∧ insF d od k m i = k) ∧ ∀ i, 0 ≤ i → i < (m : Int) → ∃ i', 0 ≤ i' ∧ i' ≤ (m : Int) ∧ insF d od k m i' = od i
  | 0, od => by
    refine ⟨⟨0, by omega, by omega, by rw [insF, up_self]⟩, fun i a b => by omega⟩
  | m + 1, od => by
    by_cases c : d (od m) ≤ d k
    · rw [insF_p c]
      exact ⟨⟨(m : Int) + 1, by omega, by omega, up_self _ _ _⟩, fun i a b => ⟨i, a, by omega, up_ne (by omega)⟩⟩
    · rw [insF_n c]
      obtain ⟨⟨i, a, b, e⟩, h⟩ := insF_mem (d := d) (k := k) (m := m) (od := od)
      refine ⟨⟨i, a, by omega, by rw [up_ne (by omega)]; exact e⟩, fun i a b => ?_⟩
      by_cases im : i = m
      · exact ⟨(m : Int) + 1, by omega, by omega, by rw [up_self, im]⟩
      · obtain ⟨i', a', b', e'⟩ := h i a (by omega)
        exact ⟨i', a', by omega, by rw [up_ne (by omega)]; exact e'⟩
theorem insF_sort {d : Int → Int} {k : Int} : ∀ {m : Nat} {od : Int → Int}, (∀ i j, 0 ≤ i → i ≤ j → j < (m : Int) → d (od i) ≤ d (od j)) → ∀ i j, 0 ≤ i → i ≤ j → j ≤ (m : Int) → d (insF d od k m i) ≤ d (insF d od k m j)
  | 0, od, _, i, j, h0, h1, h2 => by
    have : i = j := by omega
    rw [this]
    exact Int.le_refl _
  | m + 1, od, hs, i, j, h0, h1, h2 => by
    by_cases c : d (od m) ≤ d k
    · rw [insF_p c]
      by_cases e : j = (m : Int) + 1
      · rw [e, up_self]
        by_cases e2 : i = (m : Int) + 1
        · rw [e2, up_self]; exact Int.le_refl _
        · rw [up_ne e2]
          exact Int.le_trans (hs i m h0 (by omega) (by omega)) c
      · rw [up_ne e, up_ne (by omega)]
        exact hs i j h0 h1 (by omega)
    · rw [insF_n c]
      by_cases e : j = (m : Int) + 1
      · rw [e, up_self]
        by_cases e2 : i = (m : Int) + 1
        · rw [e2, up_self]; exact Int.le_refl _
        · rw [up_ne e2]
          rcases insF_val (d := d) (k := k) (m := m) (od := od) h0 (by omega) with q | ⟨i', a, b, q⟩
          · rw [q]; omega
          · rw [q]; exact hs i' m a (by omega) (by omega)
      · rw [up_ne e, up_ne (by omega)]
        exact insF_sort (m := m) (fun i j a b c => hs i j a b (by omega)) i j h0 h1 (by omega)
theorem insF_congr {d d' : Int → Int} {k : Int} (hk : d k = d' k) : ∀ {m : Nat} {od od' : Int → Int}, (∀ i, 0 ≤ i → i < (m : Int) → od i = od' i ∧ d (od i) = d' (od i)) → ∀ i, 0 ≤ i → i ≤ (m : Int) → insF d od k m i = insF d' od' k m i
  | 0, od, od', _, i, h0, h1 => by
    have : i = 0 := by omega
    rw [this, insF, insF, up_self, up_self]
  | m + 1, od, od', h, i, h0, h1 => by
    have hm := h m (by omega) (by omega)
    by_cases c : d (od m) ≤ d k
    · rw [insF_p c, insF_p (by rw [← hm.1, ← hm.2, ← hk]; exact c)]
      by_cases e : i = (m : Int) + 1
      · rw [e, up_self, up_self]
      · rw [up_ne e, up_ne e]; exact (h i h0 (by omega)).1
    · rw [insF_n c, insF_n (by rw [← hm.1, ← hm.2, ← hk]; exact c)]
      by_cases e : i = (m : Int) + 1
      · rw [e, up_self, up_self]; exact hm.1
      · rw [up_ne e, up_ne e]
        exact insF_congr hk (m := m) (fun i a b => h i a (by omega)) i h0 (by omega)
/-- how many are in order, and the order, of the first n -/
noncomputable def srtF (c : Int → Prop) (d od : Int → Int) : Nat → Nat × (Int → Int)
  | 0 => (0, od)
  | n + 1 => by
    classical
    exact if c n then ((srtF c d od n).1 + 1, insF d (srtF c d od n).2 n (srtF c d od n).1) else srtF c d od n
theorem srtF_p {c : Int → Prop} {d od : Int → Int} {n : Nat} (h : c n) : srtF c d od (n + 1) = ((srtF c d od n).1 + 1, insF d (srtF c d od n).2 n (srtF c d od n).1) := by
  rw [srtF]; exact if_pos h
theorem srtF_n {c : Int → Prop} {d od : Int → Int} {n : Nat} (h : ¬ c n) : srtF c d od (n + 1) = srtF c d od n := by
  rw [srtF]; exact if_neg h
/-- what holds of an order -/
abbrev OrdP (c : Int → Prop) (d : Int → Int) (n m : Nat) (od : Int → Int) : Prop := m ≤ n ∧ (∀ φ : Int → Int, sumZ (fun i => φ (od i)) m = sumZ (fun b => b2i (c b) * φ b) n) ∧ (∀ i j, 0 ≤ i → i ≤ j → j < (m : Int) → d (od i) ≤ d (od j)) ∧ (∀ i, 0 ≤ i → i < (m : Int) → 0 ≤ od i ∧ od i < n ∧ c (od i)) ∧ (∀ b : Int, 0 ≤ b → b < n → c b → ∃ i, 0 ≤ i ∧ i < (m : Int) ∧ od i = b)
theorem srtF_spec (c : Int → Prop) (d od : Int → Int) : ∀ n : Nat, OrdP c d n (srtF c d od n).1 (srtF c d od n).2
  | 0 => ⟨Nat.le_refl _, fun φ => rfl, fun i j a b q => by
      have : j < ((0 : Nat) : Int) := q
      omega, fun i a b => by
      have : i < ((0 : Nat) : Int) := b
      omega, fun b x y => by omega⟩
  | n + 1 => by
    obtain ⟨h1, h2, h3, h4, h5⟩ := srtF_spec c d od n
    by_cases hc : c n
    · rw [srtF_p hc]
      refine ⟨by show (srtF c d od n).1 + 1 ≤ n + 1; omega, fun φ => ?_, fun i j a b q => ?_, fun i a q => ?_, fun b x y z => ?_⟩
      · show sumZ (fun i => φ (insF d (srtF c d od n).2 n (srtF c d od n).1 i)) ((srtF c d od n).1 + 1) = sumZ (fun b => b2i (c b) * φ b) n + b2i (c n) * φ n
        rw [insF_sum, h2, b2i_p hc, Int.one_mul]
      · exact insF_sort h3 i j a b (by
          have : j < (((srtF c d od n).1 + 1 : Nat) : Int) := q
          omega)
      · have q : i < (((srtF c d od n).1 + 1 : Nat) : Int) := q
        show 0 ≤ insF d (srtF c d od n).2 n (srtF c d od n).1 i ∧ insF d (srtF c d od n).2 n (srtF c d od n).1 i < ((n + 1 : Nat) : Int) ∧ c (insF d (srtF c d od n).2 n (srtF c d od n).1 i)
        rcases insF_val (d := d) (k := n) (m := (srtF c d od n).1) (od := (srtF c d od n).2) a (by omega) with e | ⟨i', x, y, e⟩
        · rw [e]; exact ⟨by omega, by omega, hc⟩
        · rw [e]
          have := h4 i' x y
          exact ⟨this.1, by omega, this.2.2⟩
      · obtain ⟨m1, m2⟩ := insF_mem (d := d) (k := n) (m := (srtF c d od n).1) (od := (srtF c d od n).2)
        by_cases bn : b = n
        · obtain ⟨i, q1, q2, q3⟩ := m1
          exact ⟨i, q1, by show i < (((srtF c d od n).1 + 1 : Nat) : Int); omega, q3.trans bn.symm⟩
        · obtain ⟨i, q1, q2, q3⟩ := h5 b x (by omega) z
          obtain ⟨i', r1, r2, r3⟩ := m2 i q1 q2
          exact ⟨i', r1, by show i' < (((srtF c d od n).1 + 1 : Nat) : Int); omega, r3.trans q3⟩
    · rw [srtF_n hc]
      refine ⟨by omega, fun φ => ?_, h3, fun i a b => ?_, fun b x y z => ?_⟩
      · show _ = sumZ (fun b => b2i (c b) * φ b) n + b2i (c n) * φ n
        rw [h2, b2i_n hc, Int.zero_mul, Int.add_zero]
      · have := h4 i a b
        exact ⟨this.1, by omega, this.2.2⟩
      · by_cases bn : b = n
        · rw [bn] at z; exact absurd z hc
        · exact h5 b x (by omega) z
theorem srtF_congr {c c' : Int → Prop} {d d' od od' : Int → Int} : ∀ {n : Nat}, (∀ k : Int, 0 ≤ k → k < n → (c k ↔ c' k) ∧ (c k → d k = d' k)) → (srtF c d od n).1 = (srtF c' d' od' n).1 ∧ ∀ i, 0 ≤ i → i < ((srtF c d od n).1 : Int) → (srtF c d od n).2 i = (srtF c' d' od' n).2 i
  | 0, _ => ⟨rfl, fun i a b => by
      have : i < ((0 : Nat) : Int) := b
      omega⟩
  | n + 1, h => by
    obtain ⟨h1, h2⟩ := srtF_congr (c := c) (c' := c') (d := d) (d' := d') (od := od) (od' := od') (n := n) (fun k a b => h k a (by omega))
    have hn := h n (by omega) (by omega)
    have hs := srtF_spec c d od n
    by_cases hc : c n
    · rw [srtF_p hc, srtF_p (hn.1.mp hc)]
      refine ⟨by show (srtF c d od n).1 + 1 = (srtF c' d' od' n).1 + 1; rw [h1], fun i a b => ?_⟩
      have b : i < (((srtF c d od n).1 + 1 : Nat) : Int) := b
      show insF d (srtF c d od n).2 n (srtF c d od n).1 i = insF d' (srtF c' d' od' n).2 n (srtF c' d' od' n).1 i
      rw [← h1]
      exact insF_congr (hn.2 hc) (fun i a b => ⟨h2 i a b, by
        have := hs.2.2.2.1 i a b
        exact (h _ this.1 (by omega)).2 this.2.2⟩) i a (by omega)
    · rw [srtF_n hc, srtF_n (fun q => hc (hn.1.mpr q))]
      exact ⟨h1, h2⟩
-- the class's
def stO (N : Nat) : Int32 × Int32 × GV → (Int32 × Int32 × GV → Option (Int32 × GV)) → Option (Int32 × GV) := (fun (s4 : Int32 × Int32 × GV) (k4 : (Int32 × Int32 × GV) → Option (Int32 × GV)) => (if (G_bowlCount s4.2.2) ≤ s4.2.1 then some (s4.1, s4.2.2) else (f_X0_isAlive N s4.2.2 s4.2.1).bind (fun o2 => jn (fun (s84 : Int32 × GV) => k4 (s84.1, (s4.2.1 + (1 : Int32)), s84.2)) (fun (j84 : (Int32 × GV) → Option (Int32 × GV)) => (if o2 = 0 then j84 (s4.1, s4.2.2) else lpN (fun (s22 : Int32 × GV) (k22 : (Int32 × GV) → Option (Int32 × GV)) => jn (fun (s72 : Unit) => (f_X5_put N 8 (G_order s22.2) s22.1 s4.2.1).bind (fun o6 => j84 ((s4.1 + (1 : Int32)), (G_set_order s22.2 o6)))) (fun (j72 : (Unit) → Option (Int32 × GV)) => (if s22.1 ≤ 0 then j72 () else (f_X5_at N 8 (G_order s22.2) (s22.1 - (1 : Int32))).bind (fun o9 => (f_X0_distance N s22.2 o9).bind (fun o11 => (f_X0_distance N s22.2 s4.2.1).bind (fun o13 => (if o11 ≤ o13 then j72 () else (f_X5_at N 8 (G_order s22.2) (s22.1 - (1 : Int32))).bind (fun o16 => (f_X5_put N 8 (G_order s22.2) s22.1 o16).bind (fun o18 => k22 ((s22.1 + (-1 : Int32)), (G_set_order s22.2 o18))))))))))) N (s4.1, s4.2.2))))))
def stI (N : Nat) (s4 : Int32 × Int32 × GV) (j84 : Int32 × GV → Option (Int32 × GV)) : Int32 × GV → (Int32 × GV → Option (Int32 × GV)) → Option (Int32 × GV) := (fun (s22 : Int32 × GV) (k22 : (Int32 × GV) → Option (Int32 × GV)) => jn (fun (s72 : Unit) => (f_X5_put N 8 (G_order s22.2) s22.1 s4.2.1).bind (fun o6 => j84 ((s4.1 + (1 : Int32)), (G_set_order s22.2 o6)))) (fun (j72 : (Unit) → Option (Int32 × GV)) => (if s22.1 ≤ 0 then j72 () else (f_X5_at N 8 (G_order s22.2) (s22.1 - (1 : Int32))).bind (fun o9 => (f_X0_distance N s22.2 o9).bind (fun o11 => (f_X0_distance N s22.2 s4.2.1).bind (fun o13 => (if o11 ≤ o13 then j72 () else (f_X5_at N 8 (G_order s22.2) (s22.1 - (1 : Int32))).bind (fun o16 => (f_X5_put N 8 (G_order s22.2) s22.1 o16).bind (fun o18 => k22 ((s22.1 + (-1 : Int32)), (G_set_order s22.2 o18)))))))))))
theorem stO_st (N : Nat) (s4 : Int32 × Int32 × GV) (k4 : Int32 × Int32 × GV → Option (Int32 × GV)) : stO N s4 k4 = (if (G_bowlCount s4.2.2) ≤ s4.2.1 then some (s4.1, s4.2.2) else (f_X0_isAlive N s4.2.2 s4.2.1).bind (fun o2 => jn (fun (s84 : Int32 × GV) => k4 (s84.1, (s4.2.1 + (1 : Int32)), s84.2)) (fun (j84 : (Int32 × GV) → Option (Int32 × GV)) => (if o2 = 0 then j84 (s4.1, s4.2.2) else lpN (stI N s4 j84) N (s4.1, s4.2.2))))) := rfl
theorem sort_st (N : Nat) (g : GV) : f_X0_sortByDistance N g = lpN (stO N) N ((0 : Int32), (0 : Int32), g) := rfl
theorem at_32 {N : Nat} {f : Nat → Int32} {z : Int} {a : Int} (h1 : 0 ≤ a) (h2 : a < 8) (e : f a.toNat = i32 z) : f_X5_at N 8 f (i32 a) = some (i32 z) := by
  unfold f_X5_at
  simp (maxSteps := 4000000) (disch := omega) only [jn, Option.bind_some, l32_0, l32_1, l32_2, l32_3, l32_4, l32_5, l32_6, l32_7, l32_8, l32_9, l32_10, l32_11, l32_12, l32_13, l32_14, l32_15, l32_16, l32_17, l32_18, l32_19, l32_20, l32_21, l32_22, l32_23, l32_24, l32_25, l32_26, l32_27, l32_28, l32_29, l32_30, l32_31, l32_32, l32_33, l32_34, l32_35, l32_36, l32_37, l32_38, l32_39, l32_40, l32_41, l32_42, l32_43, l32_44, l32_45, l32_46, l32_47, l32_48, l32_49, l32_50, l32_51, l32_52, l32_53, l32_54, l32_55, l32_56, l32_57, l32_58, l32_59, l32_60, l32_61, l32_62, l32_63, l32_64, l32_65, l32_66, l32_67, l32_68, l32_69, l32_70, l32_71, l32_83, l32_91, l32_98, l32_99, l32_100, l32_101, l32_102, l32_103, l32_106, l32_119, l32_126, l32_206, l32_515, l32_618, l32_850, l32_1000, l32_1022, l32_1023, l32_1050, l32_1239, l32_1260, i32_add, i32_sub, i32_mul, i32_neg, ↓reduceIte, ltT, ltF, leT, leF, eqT, eqF, gd_ix, i32_nat, RZ_at, upd_RZ, i32_ofNat, e]
theorem x0_ins {N n : Nat} {p : Int → Int} {sd : Int → Int} {ai : Int → Int} {we : Int → Int} {bi : Int → Int} {to : Int → Int} {st : Int} {k : Int} {al : Int32} {gx : GV} {J : Int32 × GV → Option (Int32 × GV)} (hk : 0 ≤ k ∧ k < 8) (hp : okP p) (hj : 0 ≤ p 8) (hkp : p k ≠ -1) : ∀ (m M : Nat) (od : Int → Int), m < M → m < 8 → (∀ i, 0 ≤ i → i < (m : Int) → 0 ≤ od i ∧ od i < 8 ∧ p (od i) ≠ -1) → lpN (stI N (al, i32 k, gx) J) M (i32 (m : Int), (GK (RZ p) (RZ sd) (RZ ai) (RZ we) (RZ bi) (RZ to) (RZ od) (i32 ((n : Int))) (i32 st))) = J (al + i32 1, (GK (RZ p) (RZ sd) (RZ ai) (RZ we) (RZ bi) (RZ to) (RZ (insF (fun b => dst (p b) (p 8)) od k m)) (i32 ((n : Int))) (i32 st))) := by
  have pk := hp k hk.1 (by omega)
  have p8 := hp 8 (by omega) (by omega)
  have dk := dst_b (a := p k) (b := p 8) (by omega) (by omega) hj (by omega)
  intro m
  induction m with
  | zero =>
    intro M od hM _ _
    obtain ⟨M, rfl⟩ : ∃ x, M = x + 1 := ⟨M - 1, by omega⟩
    rw [lpN_s1, insF, nc0]
    unfold stI
    simp (maxSteps := 4000000) (disch := omega) only [jn, Option.bind_some, l32_0, l32_1, l32_2, l32_3, l32_4, l32_5, l32_6, l32_7, l32_8, l32_9, l32_10, l32_11, l32_12, l32_13, l32_14, l32_15, l32_16, l32_17, l32_18, l32_19, l32_20, l32_21, l32_22, l32_23, l32_24, l32_25, l32_26, l32_27, l32_28, l32_29, l32_30, l32_31, l32_32, l32_33, l32_34, l32_35, l32_36, l32_37, l32_38, l32_39, l32_40, l32_41, l32_42, l32_43, l32_44, l32_45, l32_46, l32_47, l32_48, l32_49, l32_50, l32_51, l32_52, l32_53, l32_54, l32_55, l32_56, l32_57, l32_58, l32_59, l32_60, l32_61, l32_62, l32_63, l32_64, l32_65, l32_66, l32_67, l32_68, l32_69, l32_70, l32_71, l32_83, l32_91, l32_98, l32_99, l32_100, l32_101, l32_102, l32_103, l32_106, l32_119, l32_126, l32_206, l32_515, l32_618, l32_850, l32_1000, l32_1022, l32_1023, l32_1050, l32_1239, l32_1260, i32_add, i32_sub, i32_mul, i32_neg, ↓reduceIte, ltT, ltF, leT, leF, eqT, eqF, gd_ix, i32_nat, RZ_at, upd_RZ, i32_ofNat, G_places_k, G_sides_k, G_aims_k, G_weights_k, G_biases_k, G_touched_k, G_order_k, G_bowlCount_k, G_strikes_k, G_set_places_k, G_set_sides_k, G_set_aims_k, G_set_weights_k, G_set_biases_k, G_set_touched_k, G_set_order_k, G_set_bowlCount_k, G_set_strikes_k, put_in]
  | succ m ih =>
    intro M od hM hm hod
    obtain ⟨M, rfl⟩ : ∃ x, M = x + 1 := ⟨M - 1, by omega⟩
    have q := hod m (by omega) (by omega)
    have pq := hp (od m) q.1 (by omega)
    have dq := dst_b (a := p (od m)) (b := p 8) (by omega) (by omega) hj (by omega)
    have e1 : (m : Int) + 1 - 1 = m := by omega
    have e2 : (m : Int) + 1 + -1 = m := by omega
    have d1 := x0_distance (N := N) (p := p) (sd := sd) (ai := ai) (we := we) (bi := bi) (to := to) (od := od) (n := (n : Int)) (st := st) (k := od m) q.1 (by omega) (by omega) (by omega) hj (by omega)
    have d2 := x0_distance (N := N) (p := p) (sd := sd) (ai := ai) (we := we) (bi := bi) (to := to) (od := od) (n := (n : Int)) (st := st) (k := k) hk.1 (by omega) (by omega) (by omega) hj (by omega)
    rw [lpN_s1]
    by_cases c : dst (p (od m)) (p 8) ≤ dst (p k) (p 8)
    · rw [insF_p (d := fun b => dst (p b) (p 8)) c]
      unfold stI
      simp (maxSteps := 4000000) (disch := omega) only [jn, Option.bind_some, l32_0, l32_1, l32_2, l32_3, l32_4, l32_5, l32_6, l32_7, l32_8, l32_9, l32_10, l32_11, l32_12, l32_13, l32_14, l32_15, l32_16, l32_17, l32_18, l32_19, l32_20, l32_21, l32_22, l32_23, l32_24, l32_25, l32_26, l32_27, l32_28, l32_29, l32_30, l32_31, l32_32, l32_33, l32_34, l32_35, l32_36, l32_37, l32_38, l32_39, l32_40, l32_41, l32_42, l32_43, l32_44, l32_45, l32_46, l32_47, l32_48, l32_49, l32_50, l32_51, l32_52, l32_53, l32_54, l32_55, l32_56, l32_57, l32_58, l32_59, l32_60, l32_61, l32_62, l32_63, l32_64, l32_65, l32_66, l32_67, l32_68, l32_69, l32_70, l32_71, l32_83, l32_91, l32_98, l32_99, l32_100, l32_101, l32_102, l32_103, l32_106, l32_119, l32_126, l32_206, l32_515, l32_618, l32_850, l32_1000, l32_1022, l32_1023, l32_1050, l32_1239, l32_1260, i32_add, i32_sub, i32_mul, i32_neg, ↓reduceIte, ltT, ltF, leT, leF, eqT, eqF, gd_ix, i32_nat, RZ_at, upd_RZ, i32_ofNat, G_places_k, G_sides_k, G_aims_k, G_weights_k, G_biases_k, G_touched_k, G_order_k, G_bowlCount_k, G_strikes_k, G_set_places_k, G_set_sides_k, G_set_aims_k, G_set_weights_k, G_set_biases_k, G_set_touched_k, G_set_order_k, G_set_bowlCount_k, G_set_strikes_k, ncS, at_in, put_in, e1, d1, d2]
    · rw [insF_n (d := fun b => dst (p b) (p 8)) c]
      have h := ih M (up od ((m : Int) + 1) (od m)) (by omega) (by omega) (fun i a b => by rw [up_ne (by omega)]; exact hod i a (by omega))
      rw [insF_up (by omega)] at h
      have step : ∀ K, stI N (al, i32 k, gx) J (i32 ((m + 1 : Nat) : Int), (GK (RZ p) (RZ sd) (RZ ai) (RZ we) (RZ bi) (RZ to) (RZ od) (i32 ((n : Int))) (i32 st))) K = K (i32 (m : Int), (GK (RZ p) (RZ sd) (RZ ai) (RZ we) (RZ bi) (RZ to) (RZ (up od ((m : Int) + 1) (od m))) (i32 ((n : Int))) (i32 st))) := fun K => by
        unfold stI
        simp (maxSteps := 4000000) (disch := omega) only [jn, Option.bind_some, l32_0, l32_1, l32_2, l32_3, l32_4, l32_5, l32_6, l32_7, l32_8, l32_9, l32_10, l32_11, l32_12, l32_13, l32_14, l32_15, l32_16, l32_17, l32_18, l32_19, l32_20, l32_21, l32_22, l32_23, l32_24, l32_25, l32_26, l32_27, l32_28, l32_29, l32_30, l32_31, l32_32, l32_33, l32_34, l32_35, l32_36, l32_37, l32_38, l32_39, l32_40, l32_41, l32_42, l32_43, l32_44, l32_45, l32_46, l32_47, l32_48, l32_49, l32_50, l32_51, l32_52, l32_53, l32_54, l32_55, l32_56, l32_57, l32_58, l32_59, l32_60, l32_61, l32_62, l32_63, l32_64, l32_65, l32_66, l32_67, l32_68, l32_69, l32_70, l32_71, l32_83, l32_91, l32_98, l32_99, l32_100, l32_101, l32_102, l32_103, l32_106, l32_119, l32_126, l32_206, l32_515, l32_618, l32_850, l32_1000, l32_1022, l32_1023, l32_1050, l32_1239, l32_1260, i32_add, i32_sub, i32_mul, i32_neg, ↓reduceIte, ltT, ltF, leT, leF, eqT, eqF, gd_ix, i32_nat, RZ_at, upd_RZ, i32_ofNat, G_places_k, G_sides_k, G_aims_k, G_weights_k, G_biases_k, G_touched_k, G_order_k, G_bowlCount_k, G_strikes_k, G_set_places_k, G_set_sides_k, G_set_aims_k, G_set_weights_k, G_set_biases_k, G_set_touched_k, G_set_order_k, G_set_bowlCount_k, G_set_strikes_k, ncS, at_in, put_in, e1, e2, d1, d2]
      rw [step]
      exact h
theorem x0_sort {N n : Nat} {p : Int → Int} {sd : Int → Int} {ai : Int → Int} {we : Int → Int} {bi : Int → Int} {to : Int → Int} {od : Int → Int} {st : Int} (hN : 9 < N) (hn : n ≤ 8) (hp : okP p) (hj : okJ p n) : f_X0_sortByDistance N (GK (RZ p) (RZ sd) (RZ ai) (RZ we) (RZ bi) (RZ to) (RZ od) (i32 ((n : Int))) (i32 st)) = some (i32 ((srtF (fun b => p b ≠ -1) (fun b => dst (p b) (p 8)) od n).1 : Nat), (GK (RZ p) (RZ sd) (RZ ai) (RZ we) (RZ bi) (RZ to) (RZ ((srtF (fun b => p b ≠ -1) (fun b => dst (p b) (p 8)) od n).2)) (i32 ((n : Int))) (i32 st))) := by
  rw [sort_st]
  refine lp_for0 (fun j => (i32 ((srtF (fun b => p b ≠ -1) (fun b => dst (p b) (p 8)) od j).1 : Nat), i32 j, (GK (RZ p) (RZ sd) (RZ ai) (RZ we) (RZ bi) (RZ to) (RZ ((srtF (fun b => p b ≠ -1) (fun b => dst (p b) (p 8)) od j).2)) (i32 ((n : Int))) (i32 st)))) n N rfl (by omega) (fun j hj' k => ?_) (fun k => ?_)
  · have pj := hp j (by omega) (by omega)
    have hs := srtF_spec (fun b => p b ≠ -1) (fun b => dst (p b) (p 8)) od j
    by_cases c : p j ≠ -1
    · rw [srtF_p (c := fun b => p b ≠ -1) c]
      obtain ⟨h1, -, -, h4, -⟩ := hs
      generalize (srtF (fun b => p b ≠ -1) (fun b => dst (p b) (p 8)) od j).1 = m at h1 h4 ⊢
      generalize (srtF (fun b => p b ≠ -1) (fun b => dst (p b) (p 8)) od j).2 = o at h4 ⊢
      rw [stO_st]
      simp (maxSteps := 4000000) (disch := omega) only [jn, Option.bind_some, l32_0, l32_1, l32_2, l32_3, l32_4, l32_5, l32_6, l32_7, l32_8, l32_9, l32_10, l32_11, l32_12, l32_13, l32_14, l32_15, l32_16, l32_17, l32_18, l32_19, l32_20, l32_21, l32_22, l32_23, l32_24, l32_25, l32_26, l32_27, l32_28, l32_29, l32_30, l32_31, l32_32, l32_33, l32_34, l32_35, l32_36, l32_37, l32_38, l32_39, l32_40, l32_41, l32_42, l32_43, l32_44, l32_45, l32_46, l32_47, l32_48, l32_49, l32_50, l32_51, l32_52, l32_53, l32_54, l32_55, l32_56, l32_57, l32_58, l32_59, l32_60, l32_61, l32_62, l32_63, l32_64, l32_65, l32_66, l32_67, l32_68, l32_69, l32_70, l32_71, l32_83, l32_91, l32_98, l32_99, l32_100, l32_101, l32_102, l32_103, l32_106, l32_119, l32_126, l32_206, l32_515, l32_618, l32_850, l32_1000, l32_1022, l32_1023, l32_1050, l32_1239, l32_1260, i32_add, i32_sub, i32_mul, i32_neg, ↓reduceIte, ltT, ltF, leT, leF, eqT, eqF, gd_ix, i32_nat, RZ_at, upd_RZ, i32_ofNat, G_places_k, G_sides_k, G_aims_k, G_weights_k, G_biases_k, G_touched_k, G_order_k, G_bowlCount_k, G_strikes_k, G_set_places_k, G_set_sides_k, G_set_aims_k, G_set_weights_k, G_set_biases_k, G_set_touched_k, G_set_order_k, G_set_bowlCount_k, G_set_strikes_k, x0_isAlive, b2i_p c]
      rw [x0_ins ⟨by omega, by omega⟩ hp (hj j (by omega) (by omega) c) c m N o (by omega) (by omega) (fun i a b => ⟨(h4 i a b).1, by have := (h4 i a b).2.1; omega, (h4 i a b).2.2⟩)]
      simp only [l32_0, l32_1, l32_2, l32_3, l32_4, l32_5, l32_6, l32_7, l32_8, l32_9, l32_10, l32_11, l32_12, l32_13, l32_14, l32_15, l32_16, l32_17, l32_18, l32_19, l32_20, l32_21, l32_22, l32_23, l32_24, l32_25, l32_26, l32_27, l32_28, l32_29, l32_30, l32_31, l32_32, l32_33, l32_34, l32_35, l32_36, l32_37, l32_38, l32_39, l32_40, l32_41, l32_42, l32_43, l32_44, l32_45, l32_46, l32_47, l32_48, l32_49, l32_50, l32_51, l32_52, l32_53, l32_54, l32_55, l32_56, l32_57, l32_58, l32_59, l32_60, l32_61, l32_62, l32_63, l32_64, l32_65, l32_66, l32_67, l32_68, l32_69, l32_70, l32_71, l32_83, l32_91, l32_98, l32_99, l32_100, l32_101, l32_102, l32_103, l32_106, l32_119, l32_126, l32_206, l32_515, l32_618, l32_850, l32_1000, l32_1022, l32_1023, l32_1050, l32_1239, l32_1260, i32_add, ncS]
    · rw [srtF_n (c := fun b => p b ≠ -1) c]
      rw [stO_st]
      simp (maxSteps := 4000000) (disch := omega) only [jn, Option.bind_some, l32_0, l32_1, l32_2, l32_3, l32_4, l32_5, l32_6, l32_7, l32_8, l32_9, l32_10, l32_11, l32_12, l32_13, l32_14, l32_15, l32_16, l32_17, l32_18, l32_19, l32_20, l32_21, l32_22, l32_23, l32_24, l32_25, l32_26, l32_27, l32_28, l32_29, l32_30, l32_31, l32_32, l32_33, l32_34, l32_35, l32_36, l32_37, l32_38, l32_39, l32_40, l32_41, l32_42, l32_43, l32_44, l32_45, l32_46, l32_47, l32_48, l32_49, l32_50, l32_51, l32_52, l32_53, l32_54, l32_55, l32_56, l32_57, l32_58, l32_59, l32_60, l32_61, l32_62, l32_63, l32_64, l32_65, l32_66, l32_67, l32_68, l32_69, l32_70, l32_71, l32_83, l32_91, l32_98, l32_99, l32_100, l32_101, l32_102, l32_103, l32_106, l32_119, l32_126, l32_206, l32_515, l32_618, l32_850, l32_1000, l32_1022, l32_1023, l32_1050, l32_1239, l32_1260, i32_add, i32_sub, i32_mul, i32_neg, ↓reduceIte, ltT, ltF, leT, leF, eqT, eqF, gd_ix, i32_nat, RZ_at, upd_RZ, i32_ofNat, G_places_k, G_sides_k, G_aims_k, G_weights_k, G_biases_k, G_touched_k, G_order_k, G_bowlCount_k, G_strikes_k, G_set_places_k, G_set_sides_k, G_set_aims_k, G_set_weights_k, G_set_biases_k, G_set_touched_k, G_set_order_k, G_set_bowlCount_k, G_set_strikes_k, x0_isAlive, b2i_n c, ncS]
  · rw [stO_st]
    simp (maxSteps := 4000000) (disch := omega) only [jn, Option.bind_some, l32_0, l32_1, l32_2, l32_3, l32_4, l32_5, l32_6, l32_7, l32_8, l32_9, l32_10, l32_11, l32_12, l32_13, l32_14, l32_15, l32_16, l32_17, l32_18, l32_19, l32_20, l32_21, l32_22, l32_23, l32_24, l32_25, l32_26, l32_27, l32_28, l32_29, l32_30, l32_31, l32_32, l32_33, l32_34, l32_35, l32_36, l32_37, l32_38, l32_39, l32_40, l32_41, l32_42, l32_43, l32_44, l32_45, l32_46, l32_47, l32_48, l32_49, l32_50, l32_51, l32_52, l32_53, l32_54, l32_55, l32_56, l32_57, l32_58, l32_59, l32_60, l32_61, l32_62, l32_63, l32_64, l32_65, l32_66, l32_67, l32_68, l32_69, l32_70, l32_71, l32_83, l32_91, l32_98, l32_99, l32_100, l32_101, l32_102, l32_103, l32_106, l32_119, l32_126, l32_206, l32_515, l32_618, l32_850, l32_1000, l32_1022, l32_1023, l32_1050, l32_1239, l32_1260, i32_add, i32_sub, i32_mul, i32_neg, ↓reduceIte, ltT, ltF, leT, leF, eqT, eqF, gd_ix, i32_nat, RZ_at, upd_RZ, i32_ofNat, G_places_k, G_sides_k, G_aims_k, G_weights_k, G_biases_k, G_touched_k, G_order_k, G_bowlCount_k, G_strikes_k, G_set_places_k, G_set_sides_k, G_set_aims_k, G_set_weights_k, G_set_biases_k, G_set_touched_k, G_set_order_k, G_set_bowlCount_k, G_set_strikes_k]
-- the reference's
def stLO (N : Nat) : Int32 × MV → (Int32 × MV → Option MV) → Option MV := (fun (s7 : Int32 × MV) (k7 : (Int32 × MV) → Option (MV)) => (if ((M_s s7.2) (3 : Int32).toNatClampNeg) ≤ s7.1 then some s7.2 else (f_X6_of N s7.2 s7.1 (0 : Int32)).bind (fun o3 => jn (fun (s93 : MV) => k7 ((s7.1 + (1 : Int32)), s93)) (fun (j93 : (MV) → Option (MV)) => (if o3 = (2 : Int32) then j93 s7.2 else lpN (fun (s32 : Int32 × MV) (k32 : (Int32 × MV) → Option (MV)) => jn (fun (s76 : Unit) => gd (ixok s32.1 8) (j93 (M_set_orderMany (M_set_order s32.2 (upd (M_order s32.2) s32.1.toNatClampNeg s7.1)) ((M_orderMany s32.2) + (1 : Int32))))) (fun (j76 : (Unit) → Option (MV)) => (if s32.1 ≤ 0 then j76 () else gd (ixok (s32.1 - (1 : Int32)) 8) ((f_X6_distance N s32.2 ((M_order s32.2) (s32.1 - (1 : Int32)).toNatClampNeg)).bind (fun o9 => (f_X6_distance N s32.2 s7.1).bind (fun o11 => (if o9 ≤ o11 then j76 () else gd (ixok (s32.1 - (1 : Int32)) 8) (gd (ixok s32.1 8) (k32 ((s32.1 + (-1 : Int32)), (M_set_order s32.2 (upd (M_order s32.2) s32.1.toNatClampNeg ((M_order s32.2) (s32.1 - (1 : Int32)).toNatClampNeg))))))))))))) N ((M_orderMany s7.2), s7.2))))))
def stLI (N : Nat) (s7 : Int32 × MV) (j93 : MV → Option MV) : Int32 × MV → (Int32 × MV → Option MV) → Option MV := (fun (s32 : Int32 × MV) (k32 : (Int32 × MV) → Option (MV)) => jn (fun (s76 : Unit) => gd (ixok s32.1 8) (j93 (M_set_orderMany (M_set_order s32.2 (upd (M_order s32.2) s32.1.toNatClampNeg s7.1)) ((M_orderMany s32.2) + (1 : Int32))))) (fun (j76 : (Unit) → Option (MV)) => (if s32.1 ≤ 0 then j76 () else gd (ixok (s32.1 - (1 : Int32)) 8) ((f_X6_distance N s32.2 ((M_order s32.2) (s32.1 - (1 : Int32)).toNatClampNeg)).bind (fun o9 => (f_X6_distance N s32.2 s7.1).bind (fun o11 => (if o9 ≤ o11 then j76 () else gd (ixok (s32.1 - (1 : Int32)) 8) (gd (ixok s32.1 8) (k32 ((s32.1 + (-1 : Int32)), (M_set_order s32.2 (upd (M_order s32.2) s32.1.toNatClampNeg ((M_order s32.2) (s32.1 - (1 : Int32)).toNatClampNeg)))))))))))))
theorem stLO_st (N : Nat) (s7 : Int32 × MV) (k7 : Int32 × MV → Option MV) : stLO N s7 k7 = (if ((M_s s7.2) (3 : Int32).toNatClampNeg) ≤ s7.1 then some s7.2 else (f_X6_of N s7.2 s7.1 (0 : Int32)).bind (fun o3 => jn (fun (s93 : MV) => k7 ((s7.1 + (1 : Int32)), s93)) (fun (j93 : (MV) → Option (MV)) => (if o3 = (2 : Int32) then j93 s7.2 else lpN (stLI N s7 j93) N ((M_orderMany s7.2), s7.2))))) := rfl
theorem lays_st (N : Nat) (v : MV) : f_X6_laysOrder N v = lpN (stLO N) N ((0 : Int32), (M_set_orderMany v (0 : Int32))) := rfl
/-- the distance of a bowl in the row -/
def dm (s : Int → Int) (k : Int) : Int := (s (4 + 7 * k + 1) - s 1) * (s (4 + 7 * k + 1) - s 1) + (s (4 + 7 * k + 2) - s 2) * (s (4 + 7 * k + 2) - s 2)
theorem distance_m {N : Nat} {th : Int} {s : Int → Int} {as_ : Int → Int} {ah : Int → Int} {sv : Int → Int} {sm : Int} {sl : Int → Int} {kp : Int} {bu : Int → Int} {le : Int} {st : Int} {od : Int → Int} {om : Int} {sp : Int} {wr_ : Int} {sg : Int} {on_ : Int} {tw : Int} {t3 : Int} {pl : Int} {fi : Int} {be : Int} {ha : Int64} {k : Int} (h1 : 0 ≤ k) (h2 : k < 8) : f_X6_distance N (MK (i32 th) (RZ s) (RZ as_) (RZ ah) (RZ sv) (i32 sm) (RZ sl) (i32 kp) (RZ bu) (i32 le) (i32 st) (RZ od) (i32 om) (i32 sp) (i32 wr_) (i32 sg) (i32 on_) (i32 tw) (i32 t3) (i32 pl) (i32 fi) (i32 be) ha) (i32 k) = some (i32 (dm s k)) := by
  unfold f_X6_distance dm
  simp (maxSteps := 4000000) (disch := omega) only [jn, Option.bind_some, l32_0, l32_1, l32_2, l32_3, l32_4, l32_5, l32_6, l32_7, l32_8, l32_9, l32_10, l32_11, l32_12, l32_13, l32_14, l32_15, l32_16, l32_17, l32_18, l32_19, l32_20, l32_21, l32_22, l32_23, l32_24, l32_25, l32_26, l32_27, l32_28, l32_29, l32_30, l32_31, l32_32, l32_33, l32_34, l32_35, l32_36, l32_37, l32_38, l32_39, l32_40, l32_41, l32_42, l32_43, l32_44, l32_45, l32_46, l32_47, l32_48, l32_49, l32_50, l32_51, l32_52, l32_53, l32_54, l32_55, l32_56, l32_57, l32_58, l32_59, l32_60, l32_61, l32_62, l32_63, l32_64, l32_65, l32_66, l32_67, l32_68, l32_69, l32_70, l32_71, l32_83, l32_91, l32_98, l32_99, l32_100, l32_101, l32_102, l32_103, l32_106, l32_119, l32_126, l32_206, l32_515, l32_618, l32_850, l32_1000, l32_1022, l32_1023, l32_1050, l32_1239, l32_1260, i32_add, i32_sub, i32_mul, i32_neg, ↓reduceIte, ltT, ltF, leT, leF, eqT, eqF, gd_ix, i32_nat, RZ_at, upd_RZ, i32_ofNat, M_thrown_k, M_s_k, M_aside_k, M_ahead_k, M_saved_k, M_savedMany_k, M_slots_k, M_kept_k, M_buffer_k, M_length_k, M_strikes_k, M_order_k, M_orderMany_k, M_spot_k, M_isWrong_k, M_sign_k, M_one_k, M_two_k, M_three_k, M_played_k, M_isFine_k, M_bestPoints_k, M_hash_k, M_set_thrown_k, M_set_s_k, M_set_aside_k, M_set_ahead_k, M_set_saved_k, M_set_savedMany_k, M_set_slots_k, M_set_kept_k, M_set_buffer_k, M_set_length_k, M_set_strikes_k, M_set_order_k, M_set_orderMany_k, M_set_spot_k, M_set_isWrong_k, M_set_sign_k, M_set_one_k, M_set_two_k, M_set_three_k, M_set_played_k, M_set_isFine_k, M_set_bestPoints_k, M_set_hash_k, of_ok]
theorem dm_dst {s : Int → Int} {n : Nat} {k : Int} (g : GEO s n) (h0 : 0 ≤ k) (hn : k < n) (hn8 : n ≤ 8) (h2 : s (4 + 7 * k + 0) ≠ 2) : dm s k = dst (Pl s k) (Pl s 8) := by
  have q := g.2.2.2.2.1 k h0 hn
  rw [Pl_live h0 (by rw [g.2.1]; exact hn) (by omega) h2, Pl_jack g.1, dst_of q.2.2.1.1 q.2.2.1.2 g.2.2.2.1.1 g.2.2.2.1.2]
  rfl
theorem m_ins {N : Nat} {th : Int} {s : Int → Int} {as_ : Int → Int} {ah : Int → Int} {sv : Int → Int} {sm : Int} {sl : Int → Int} {kp : Int} {bu : Int → Int} {le : Int} {st : Int} {sp : Int} {wr_ : Int} {sg : Int} {on_ : Int} {tw : Int} {t3 : Int} {pl : Int} {fi : Int} {be : Int} {ha : Int64} {k : Int} {mx : MV} {J : MV → Option MV} (hk : 0 ≤ k ∧ k < 8) (hd : 0 ≤ dm s k ∧ dm s k ≤ 10000) {om : Int} : ∀ (m M : Nat) (od : Int → Int), m < M → m < 8 → (∀ i, 0 ≤ i → i < (m : Int) → (0 ≤ od i ∧ od i < 8) ∧ 0 ≤ dm s (od i) ∧ dm s (od i) ≤ 10000) → lpN (stLI N (i32 k, mx) J) M (i32 (m : Int), (MK (i32 th) (RZ s) (RZ as_) (RZ ah) (RZ sv) (i32 sm) (RZ sl) (i32 kp) (RZ bu) (i32 le) (i32 st) (RZ od) (i32 om) (i32 sp) (i32 wr_) (i32 sg) (i32 on_) (i32 tw) (i32 t3) (i32 pl) (i32 fi) (i32 be) ha)) = J (MK (i32 th) (RZ s) (RZ as_) (RZ ah) (RZ sv) (i32 sm) (RZ sl) (i32 kp) (RZ bu) (i32 le) (i32 st) (RZ (insF (dm s) od k m)) (i32 (om + 1)) (i32 sp) (i32 wr_) (i32 sg) (i32 on_) (i32 tw) (i32 t3) (i32 pl) (i32 fi) (i32 be) ha) := by
  intro m
  induction m with
  | zero =>
    intro M od hM _ _
    obtain ⟨M, rfl⟩ : ∃ x, M = x + 1 := ⟨M - 1, by omega⟩
    rw [lpN_s1, insF, nc0]
    unfold stLI
    simp (maxSteps := 4000000) (disch := omega) only [jn, Option.bind_some, l32_0, l32_1, l32_2, l32_3, l32_4, l32_5, l32_6, l32_7, l32_8, l32_9, l32_10, l32_11, l32_12, l32_13, l32_14, l32_15, l32_16, l32_17, l32_18, l32_19, l32_20, l32_21, l32_22, l32_23, l32_24, l32_25, l32_26, l32_27, l32_28, l32_29, l32_30, l32_31, l32_32, l32_33, l32_34, l32_35, l32_36, l32_37, l32_38, l32_39, l32_40, l32_41, l32_42, l32_43, l32_44, l32_45, l32_46, l32_47, l32_48, l32_49, l32_50, l32_51, l32_52, l32_53, l32_54, l32_55, l32_56, l32_57, l32_58, l32_59, l32_60, l32_61, l32_62, l32_63, l32_64, l32_65, l32_66, l32_67, l32_68, l32_69, l32_70, l32_71, l32_83, l32_91, l32_98, l32_99, l32_100, l32_101, l32_102, l32_103, l32_106, l32_119, l32_126, l32_206, l32_515, l32_618, l32_850, l32_1000, l32_1022, l32_1023, l32_1050, l32_1239, l32_1260, i32_add, i32_sub, i32_mul, i32_neg, ↓reduceIte, ltT, ltF, leT, leF, eqT, eqF, gd_ix, i32_nat, RZ_at, upd_RZ, i32_ofNat, M_thrown_k, M_s_k, M_aside_k, M_ahead_k, M_saved_k, M_savedMany_k, M_slots_k, M_kept_k, M_buffer_k, M_length_k, M_strikes_k, M_order_k, M_orderMany_k, M_spot_k, M_isWrong_k, M_sign_k, M_one_k, M_two_k, M_three_k, M_played_k, M_isFine_k, M_bestPoints_k, M_hash_k, M_set_thrown_k, M_set_s_k, M_set_aside_k, M_set_ahead_k, M_set_saved_k, M_set_savedMany_k, M_set_slots_k, M_set_kept_k, M_set_buffer_k, M_set_length_k, M_set_strikes_k, M_set_order_k, M_set_orderMany_k, M_set_spot_k, M_set_isWrong_k, M_set_sign_k, M_set_one_k, M_set_two_k, M_set_three_k, M_set_played_k, M_set_isFine_k, M_set_bestPoints_k, M_set_hash_k]
  | succ m ih =>
    intro M od hM hm hod
    obtain ⟨M, rfl⟩ : ∃ x, M = x + 1 := ⟨M - 1, by omega⟩
    have q := hod m (by omega) (by omega)
    have e1 : (m : Int) + 1 - 1 = m := by omega
    have e2 : (m : Int) + 1 + -1 = m := by omega
    rw [lpN_s1]
    by_cases c : dm s (od m) ≤ dm s k
    · rw [insF_p (d := dm s) c]
      unfold stLI
      simp (maxSteps := 4000000) (disch := omega) only [jn, Option.bind_some, l32_0, l32_1, l32_2, l32_3, l32_4, l32_5, l32_6, l32_7, l32_8, l32_9, l32_10, l32_11, l32_12, l32_13, l32_14, l32_15, l32_16, l32_17, l32_18, l32_19, l32_20, l32_21, l32_22, l32_23, l32_24, l32_25, l32_26, l32_27, l32_28, l32_29, l32_30, l32_31, l32_32, l32_33, l32_34, l32_35, l32_36, l32_37, l32_38, l32_39, l32_40, l32_41, l32_42, l32_43, l32_44, l32_45, l32_46, l32_47, l32_48, l32_49, l32_50, l32_51, l32_52, l32_53, l32_54, l32_55, l32_56, l32_57, l32_58, l32_59, l32_60, l32_61, l32_62, l32_63, l32_64, l32_65, l32_66, l32_67, l32_68, l32_69, l32_70, l32_71, l32_83, l32_91, l32_98, l32_99, l32_100, l32_101, l32_102, l32_103, l32_106, l32_119, l32_126, l32_206, l32_515, l32_618, l32_850, l32_1000, l32_1022, l32_1023, l32_1050, l32_1239, l32_1260, i32_add, i32_sub, i32_mul, i32_neg, ↓reduceIte, ltT, ltF, leT, leF, eqT, eqF, gd_ix, i32_nat, RZ_at, upd_RZ, i32_ofNat, M_thrown_k, M_s_k, M_aside_k, M_ahead_k, M_saved_k, M_savedMany_k, M_slots_k, M_kept_k, M_buffer_k, M_length_k, M_strikes_k, M_order_k, M_orderMany_k, M_spot_k, M_isWrong_k, M_sign_k, M_one_k, M_two_k, M_three_k, M_played_k, M_isFine_k, M_bestPoints_k, M_hash_k, M_set_thrown_k, M_set_s_k, M_set_aside_k, M_set_ahead_k, M_set_saved_k, M_set_savedMany_k, M_set_slots_k, M_set_kept_k, M_set_buffer_k, M_set_length_k, M_set_strikes_k, M_set_order_k, M_set_orderMany_k, M_set_spot_k, M_set_isWrong_k, M_set_sign_k, M_set_one_k, M_set_two_k, M_set_three_k, M_set_played_k, M_set_isFine_k, M_set_bestPoints_k, M_set_hash_k, ncS, e1, distance_m]
    · rw [insF_n (d := dm s) c]
      have h := ih M (up od ((m : Int) + 1) (od m)) (by omega) (by omega) (fun i a b => by rw [up_ne (by omega)]; exact hod i a (by omega))
      rw [insF_up (by omega)] at h
      have step : ∀ K, stLI N (i32 k, mx) J (i32 ((m + 1 : Nat) : Int), (MK (i32 th) (RZ s) (RZ as_) (RZ ah) (RZ sv) (i32 sm) (RZ sl) (i32 kp) (RZ bu) (i32 le) (i32 st) (RZ od) (i32 om) (i32 sp) (i32 wr_) (i32 sg) (i32 on_) (i32 tw) (i32 t3) (i32 pl) (i32 fi) (i32 be) ha)) K = K (i32 (m : Int), (MK (i32 th) (RZ s) (RZ as_) (RZ ah) (RZ sv) (i32 sm) (RZ sl) (i32 kp) (RZ bu) (i32 le) (i32 st) (RZ (up od ((m : Int) + 1) (od m))) (i32 om) (i32 sp) (i32 wr_) (i32 sg) (i32 on_) (i32 tw) (i32 t3) (i32 pl) (i32 fi) (i32 be) ha)) := fun K => by
        unfold stLI
        simp (maxSteps := 4000000) (disch := omega) only [jn, Option.bind_some, l32_0, l32_1, l32_2, l32_3, l32_4, l32_5, l32_6, l32_7, l32_8, l32_9, l32_10, l32_11, l32_12, l32_13, l32_14, l32_15, l32_16, l32_17, l32_18, l32_19, l32_20, l32_21, l32_22, l32_23, l32_24, l32_25, l32_26, l32_27, l32_28, l32_29, l32_30, l32_31, l32_32, l32_33, l32_34, l32_35, l32_36, l32_37, l32_38, l32_39, l32_40, l32_41, l32_42, l32_43, l32_44, l32_45, l32_46, l32_47, l32_48, l32_49, l32_50, l32_51, l32_52, l32_53, l32_54, l32_55, l32_56, l32_57, l32_58, l32_59, l32_60, l32_61, l32_62, l32_63, l32_64, l32_65, l32_66, l32_67, l32_68, l32_69, l32_70, l32_71, l32_83, l32_91, l32_98, l32_99, l32_100, l32_101, l32_102, l32_103, l32_106, l32_119, l32_126, l32_206, l32_515, l32_618, l32_850, l32_1000, l32_1022, l32_1023, l32_1050, l32_1239, l32_1260, i32_add, i32_sub, i32_mul, i32_neg, ↓reduceIte, ltT, ltF, leT, leF, eqT, eqF, gd_ix, i32_nat, RZ_at, upd_RZ, i32_ofNat, M_thrown_k, M_s_k, M_aside_k, M_ahead_k, M_saved_k, M_savedMany_k, M_slots_k, M_kept_k, M_buffer_k, M_length_k, M_strikes_k, M_order_k, M_orderMany_k, M_spot_k, M_isWrong_k, M_sign_k, M_one_k, M_two_k, M_three_k, M_played_k, M_isFine_k, M_bestPoints_k, M_hash_k, M_set_thrown_k, M_set_s_k, M_set_aside_k, M_set_ahead_k, M_set_saved_k, M_set_savedMany_k, M_set_slots_k, M_set_kept_k, M_set_buffer_k, M_set_length_k, M_set_strikes_k, M_set_order_k, M_set_orderMany_k, M_set_spot_k, M_set_isWrong_k, M_set_sign_k, M_set_one_k, M_set_two_k, M_set_three_k, M_set_played_k, M_set_isFine_k, M_set_bestPoints_k, M_set_hash_k, ncS, e1, e2, distance_m]
      rw [step]
      exact h
/-- the order of the row -/
noncomputable abbrev ordM (s od : Int → Int) (n : Nat) : Nat × (Int → Int) := srtF (fun b => s (4 + 7 * b + 0) ≠ 2) (dm s) od n
theorem dm_b {B : Int} {n : Nat} {s : Int → Int} (h : INV B n s) {k : Int} (h0 : 0 ≤ k) (hn : k < n) (h2 : s (4 + 7 * k + 0) ≠ 2) : 0 ≤ dm s k ∧ dm s k ≤ 10000 := by
  have g : GEO s n := by
    rcases h.2.2.1 with q | q
    · omega
    · exact q.1
  have hn8 := h.2.1
  have r := pl_range g hn8
  have q := g.2.2.2.2.1 k h0 hn
  have r8 : 0 ≤ Pl s 8 ∧ Pl s 8 < 1300 := by
    have g1 := g.2.2.1
    have g2 := g.2.2.2.1
    rw [Pl_jack g.1]; omega
  rw [dm_dst g h0 hn hn8 h2]
  refine dst_b ?_ (r k h0 (by omega)).2 r8.1 r8.2
  rw [Pl_live h0 (by rw [g.2.1]; exact hn) (by omega) h2]
  omega
theorem lays_m {N n : Nat} {B : Int} {th : Int} {s : Int → Int} {as_ : Int → Int} {ah : Int → Int} {sv : Int → Int} {sm : Int} {sl : Int → Int} {kp : Int} {bu : Int → Int} {le : Int} {st : Int} {od : Int → Int} {om : Int} {sp : Int} {wr_ : Int} {sg : Int} {on_ : Int} {tw : Int} {t3 : Int} {pl : Int} {fi : Int} {be : Int} {ha : Int64} (hN : 9 < N) (h : INV B n s) : f_X6_laysOrder N (MK (i32 th) (RZ s) (RZ as_) (RZ ah) (RZ sv) (i32 sm) (RZ sl) (i32 kp) (RZ bu) (i32 le) (i32 st) (RZ od) (i32 om) (i32 sp) (i32 wr_) (i32 sg) (i32 on_) (i32 tw) (i32 t3) (i32 pl) (i32 fi) (i32 be) ha) = some (MK (i32 th) (RZ s) (RZ as_) (RZ ah) (RZ sv) (i32 sm) (RZ sl) (i32 kp) (RZ bu) (i32 le) (i32 st) (RZ ((ordM s od n).2)) (i32 (((ordM s od n).1 : Nat))) (i32 sp) (i32 wr_) (i32 sg) (i32 on_) (i32 tw) (i32 t3) (i32 pl) (i32 fi) (i32 be) ha) := by
  have h3 := h.1
  have hn := h.2.1
  have st2 : ∀ k : Int, 0 ≤ k → k < n → s (4 + 7 * k + 0) = 0 ∨ s (4 + 7 * k + 0) = 1 ∨ s (4 + 7 * k + 0) = 2 := fun k a b => by
    rcases h.2.2.1 with q | q
    · omega
    · have := q.1.2.2.2.2.1 k a b
      omega
  rw [lays_st]
  refine lp_for0 (fun j => (i32 j, (MK (i32 th) (RZ s) (RZ as_) (RZ ah) (RZ sv) (i32 sm) (RZ sl) (i32 kp) (RZ bu) (i32 le) (i32 st) (RZ ((ordM s od j).2)) (i32 (((ordM s od j).1 : Nat))) (i32 sp) (i32 wr_) (i32 sg) (i32 on_) (i32 tw) (i32 t3) (i32 pl) (i32 fi) (i32 be) ha))) n N (by simp only [M_thrown_k, M_s_k, M_aside_k, M_ahead_k, M_saved_k, M_savedMany_k, M_slots_k, M_kept_k, M_buffer_k, M_length_k, M_strikes_k, M_order_k, M_orderMany_k, M_spot_k, M_isWrong_k, M_sign_k, M_one_k, M_two_k, M_three_k, M_played_k, M_isFine_k, M_bestPoints_k, M_hash_k, M_set_thrown_k, M_set_s_k, M_set_aside_k, M_set_ahead_k, M_set_saved_k, M_set_savedMany_k, M_set_slots_k, M_set_kept_k, M_set_buffer_k, M_set_length_k, M_set_strikes_k, M_set_order_k, M_set_orderMany_k, M_set_spot_k, M_set_isWrong_k, M_set_sign_k, M_set_one_k, M_set_two_k, M_set_three_k, M_set_played_k, M_set_isFine_k, M_set_bestPoints_k, M_set_hash_k, l32_0, srtF, nc0]) (by omega) (fun j hj' k => ?_) (fun k => ?_)
  · have hs := srtF_spec (fun b => s (4 + 7 * b + 0) ≠ 2) (dm s) od j
    have sj := st2 j (by omega) (by omega)
    by_cases c : s (4 + 7 * (j : Int) + 0) ≠ 2
    · have dj := dm_b h (k := j) (by omega) (by omega) c
      show stLO N (i32 j, (MK (i32 th) (RZ s) (RZ as_) (RZ ah) (RZ sv) (i32 sm) (RZ sl) (i32 kp) (RZ bu) (i32 le) (i32 st) (RZ ((srtF (fun b => s (4 + 7 * b + 0) ≠ 2) (dm s) od j).2)) (i32 (((srtF (fun b => s (4 + 7 * b + 0) ≠ 2) (dm s) od j).1 : Nat))) (i32 sp) (i32 wr_) (i32 sg) (i32 on_) (i32 tw) (i32 t3) (i32 pl) (i32 fi) (i32 be) ha)) k = k (i32 ((j + 1 : Nat) : Int), (MK (i32 th) (RZ s) (RZ as_) (RZ ah) (RZ sv) (i32 sm) (RZ sl) (i32 kp) (RZ bu) (i32 le) (i32 st) (RZ ((srtF (fun b => s (4 + 7 * b + 0) ≠ 2) (dm s) od (j + 1)).2)) (i32 (((srtF (fun b => s (4 + 7 * b + 0) ≠ 2) (dm s) od (j + 1)).1 : Nat))) (i32 sp) (i32 wr_) (i32 sg) (i32 on_) (i32 tw) (i32 t3) (i32 pl) (i32 fi) (i32 be) ha))
      rw [srtF_p (c := fun b => s (4 + 7 * b + 0) ≠ 2) c]
      obtain ⟨h1, -, -, h4, -⟩ := hs
      generalize (srtF (fun b => s (4 + 7 * b + 0) ≠ 2) (dm s) od j).1 = m at h1 h4 ⊢
      generalize (srtF (fun b => s (4 + 7 * b + 0) ≠ 2) (dm s) od j).2 = o at h4 ⊢
      rw [stLO_st]
      simp (maxSteps := 4000000) (disch := omega) only [jn, Option.bind_some, l32_0, l32_1, l32_2, l32_3, l32_4, l32_5, l32_6, l32_7, l32_8, l32_9, l32_10, l32_11, l32_12, l32_13, l32_14, l32_15, l32_16, l32_17, l32_18, l32_19, l32_20, l32_21, l32_22, l32_23, l32_24, l32_25, l32_26, l32_27, l32_28, l32_29, l32_30, l32_31, l32_32, l32_33, l32_34, l32_35, l32_36, l32_37, l32_38, l32_39, l32_40, l32_41, l32_42, l32_43, l32_44, l32_45, l32_46, l32_47, l32_48, l32_49, l32_50, l32_51, l32_52, l32_53, l32_54, l32_55, l32_56, l32_57, l32_58, l32_59, l32_60, l32_61, l32_62, l32_63, l32_64, l32_65, l32_66, l32_67, l32_68, l32_69, l32_70, l32_71, l32_83, l32_91, l32_98, l32_99, l32_100, l32_101, l32_102, l32_103, l32_106, l32_119, l32_126, l32_206, l32_515, l32_618, l32_850, l32_1000, l32_1022, l32_1023, l32_1050, l32_1239, l32_1260, i32_add, i32_sub, i32_mul, i32_neg, ↓reduceIte, ltT, ltF, leT, leF, eqT, eqF, gd_ix, i32_nat, RZ_at, upd_RZ, i32_ofNat, M_thrown_k, M_s_k, M_aside_k, M_ahead_k, M_saved_k, M_savedMany_k, M_slots_k, M_kept_k, M_buffer_k, M_length_k, M_strikes_k, M_order_k, M_orderMany_k, M_spot_k, M_isWrong_k, M_sign_k, M_one_k, M_two_k, M_three_k, M_played_k, M_isFine_k, M_bestPoints_k, M_hash_k, M_set_thrown_k, M_set_s_k, M_set_aside_k, M_set_ahead_k, M_set_saved_k, M_set_savedMany_k, M_set_slots_k, M_set_kept_k, M_set_buffer_k, M_set_length_k, M_set_strikes_k, M_set_order_k, M_set_orderMany_k, M_set_spot_k, M_set_isWrong_k, M_set_sign_k, M_set_one_k, M_set_two_k, M_set_three_k, M_set_played_k, M_set_isFine_k, M_set_bestPoints_k, M_set_hash_k, of_ok, h3]
      rw [m_ins ⟨by omega, by omega⟩ dj m N o (by omega) (by omega) (fun i a b => ⟨⟨(h4 i a b).1, by have := (h4 i a b).2.1; omega⟩, dm_b h (h4 i a b).1 (by have := (h4 i a b).2.1; omega) (h4 i a b).2.2⟩)]
      simp only [l32_0, l32_1, l32_2, l32_3, l32_4, l32_5, l32_6, l32_7, l32_8, l32_9, l32_10, l32_11, l32_12, l32_13, l32_14, l32_15, l32_16, l32_17, l32_18, l32_19, l32_20, l32_21, l32_22, l32_23, l32_24, l32_25, l32_26, l32_27, l32_28, l32_29, l32_30, l32_31, l32_32, l32_33, l32_34, l32_35, l32_36, l32_37, l32_38, l32_39, l32_40, l32_41, l32_42, l32_43, l32_44, l32_45, l32_46, l32_47, l32_48, l32_49, l32_50, l32_51, l32_52, l32_53, l32_54, l32_55, l32_56, l32_57, l32_58, l32_59, l32_60, l32_61, l32_62, l32_63, l32_64, l32_65, l32_66, l32_67, l32_68, l32_69, l32_70, l32_71, l32_83, l32_91, l32_98, l32_99, l32_100, l32_101, l32_102, l32_103, l32_106, l32_119, l32_126, l32_206, l32_515, l32_618, l32_850, l32_1000, l32_1022, l32_1023, l32_1050, l32_1239, l32_1260, i32_add, ncS]
    · show stLO N (i32 j, (MK (i32 th) (RZ s) (RZ as_) (RZ ah) (RZ sv) (i32 sm) (RZ sl) (i32 kp) (RZ bu) (i32 le) (i32 st) (RZ ((srtF (fun b => s (4 + 7 * b + 0) ≠ 2) (dm s) od j).2)) (i32 (((srtF (fun b => s (4 + 7 * b + 0) ≠ 2) (dm s) od j).1 : Nat))) (i32 sp) (i32 wr_) (i32 sg) (i32 on_) (i32 tw) (i32 t3) (i32 pl) (i32 fi) (i32 be) ha)) k = k (i32 ((j + 1 : Nat) : Int), (MK (i32 th) (RZ s) (RZ as_) (RZ ah) (RZ sv) (i32 sm) (RZ sl) (i32 kp) (RZ bu) (i32 le) (i32 st) (RZ ((srtF (fun b => s (4 + 7 * b + 0) ≠ 2) (dm s) od (j + 1)).2)) (i32 (((srtF (fun b => s (4 + 7 * b + 0) ≠ 2) (dm s) od (j + 1)).1 : Nat))) (i32 sp) (i32 wr_) (i32 sg) (i32 on_) (i32 tw) (i32 t3) (i32 pl) (i32 fi) (i32 be) ha))
      have c' : s (4 + 7 * (j : Int) + 0) = 2 := by omega
      rw [srtF_n (c := fun b => s (4 + 7 * b + 0) ≠ 2) c]
      rw [stLO_st]
      simp (maxSteps := 4000000) (disch := omega) only [jn, Option.bind_some, l32_0, l32_1, l32_2, l32_3, l32_4, l32_5, l32_6, l32_7, l32_8, l32_9, l32_10, l32_11, l32_12, l32_13, l32_14, l32_15, l32_16, l32_17, l32_18, l32_19, l32_20, l32_21, l32_22, l32_23, l32_24, l32_25, l32_26, l32_27, l32_28, l32_29, l32_30, l32_31, l32_32, l32_33, l32_34, l32_35, l32_36, l32_37, l32_38, l32_39, l32_40, l32_41, l32_42, l32_43, l32_44, l32_45, l32_46, l32_47, l32_48, l32_49, l32_50, l32_51, l32_52, l32_53, l32_54, l32_55, l32_56, l32_57, l32_58, l32_59, l32_60, l32_61, l32_62, l32_63, l32_64, l32_65, l32_66, l32_67, l32_68, l32_69, l32_70, l32_71, l32_83, l32_91, l32_98, l32_99, l32_100, l32_101, l32_102, l32_103, l32_106, l32_119, l32_126, l32_206, l32_515, l32_618, l32_850, l32_1000, l32_1022, l32_1023, l32_1050, l32_1239, l32_1260, i32_add, i32_sub, i32_mul, i32_neg, ↓reduceIte, ltT, ltF, leT, leF, eqT, eqF, gd_ix, i32_nat, RZ_at, upd_RZ, i32_ofNat, M_thrown_k, M_s_k, M_aside_k, M_ahead_k, M_saved_k, M_savedMany_k, M_slots_k, M_kept_k, M_buffer_k, M_length_k, M_strikes_k, M_order_k, M_orderMany_k, M_spot_k, M_isWrong_k, M_sign_k, M_one_k, M_two_k, M_three_k, M_played_k, M_isFine_k, M_bestPoints_k, M_hash_k, M_set_thrown_k, M_set_s_k, M_set_aside_k, M_set_ahead_k, M_set_saved_k, M_set_savedMany_k, M_set_slots_k, M_set_kept_k, M_set_buffer_k, M_set_length_k, M_set_strikes_k, M_set_order_k, M_set_orderMany_k, M_set_spot_k, M_set_isWrong_k, M_set_sign_k, M_set_one_k, M_set_two_k, M_set_three_k, M_set_played_k, M_set_isFine_k, M_set_bestPoints_k, M_set_hash_k, of_ok, h3, c', ncS]
  · rw [stLO_st]
    simp (maxSteps := 4000000) (disch := omega) only [jn, Option.bind_some, l32_0, l32_1, l32_2, l32_3, l32_4, l32_5, l32_6, l32_7, l32_8, l32_9, l32_10, l32_11, l32_12, l32_13, l32_14, l32_15, l32_16, l32_17, l32_18, l32_19, l32_20, l32_21, l32_22, l32_23, l32_24, l32_25, l32_26, l32_27, l32_28, l32_29, l32_30, l32_31, l32_32, l32_33, l32_34, l32_35, l32_36, l32_37, l32_38, l32_39, l32_40, l32_41, l32_42, l32_43, l32_44, l32_45, l32_46, l32_47, l32_48, l32_49, l32_50, l32_51, l32_52, l32_53, l32_54, l32_55, l32_56, l32_57, l32_58, l32_59, l32_60, l32_61, l32_62, l32_63, l32_64, l32_65, l32_66, l32_67, l32_68, l32_69, l32_70, l32_71, l32_83, l32_91, l32_98, l32_99, l32_100, l32_101, l32_102, l32_103, l32_106, l32_119, l32_126, l32_206, l32_515, l32_618, l32_850, l32_1000, l32_1022, l32_1023, l32_1050, l32_1239, l32_1260, i32_add, i32_sub, i32_mul, i32_neg, ↓reduceIte, ltT, ltF, leT, leF, eqT, eqF, gd_ix, i32_nat, RZ_at, upd_RZ, i32_ofNat, M_thrown_k, M_s_k, M_aside_k, M_ahead_k, M_saved_k, M_savedMany_k, M_slots_k, M_kept_k, M_buffer_k, M_length_k, M_strikes_k, M_order_k, M_orderMany_k, M_spot_k, M_isWrong_k, M_sign_k, M_one_k, M_two_k, M_three_k, M_played_k, M_isFine_k, M_bestPoints_k, M_hash_k, M_set_thrown_k, M_set_s_k, M_set_aside_k, M_set_ahead_k, M_set_saved_k, M_set_savedMany_k, M_set_slots_k, M_set_kept_k, M_set_buffer_k, M_set_length_k, M_set_strikes_k, M_set_order_k, M_set_orderMany_k, M_set_spot_k, M_set_isWrong_k, M_set_sign_k, M_set_one_k, M_set_two_k, M_set_three_k, M_set_played_k, M_set_isFine_k, M_set_bestPoints_k, M_set_hash_k, h3]

