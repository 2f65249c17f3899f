/-! what holds of every row besides: accounts, touchers, the jack -/
def ACC (s : Int → Int) : Prop := s 69 ≤ s 91 ∧ s 102 ≤ s 101 ∧ s 70 = (if s 68 < 12 then s 68 else 12) ∧ sumZ (fun k => s (83 + k)) 17 = s 68 ∧ sumZ (fun k => (if 8 < k then k - 8 else 0) * s (83 + k)) 17 = s 65 ∧ sumZ (fun k => (if k < 8 then 8 - k else 0) * s (83 + k)) 17 = s 66 ∧ ∀ i, 0 ≤ i → i < s 70 → 0 < s (91 + s (71 + i))
def EX (s : Int → Int) (n : Nat) : Prop := (s 0 = 1 → 20 ≤ s 1 ∧ s 2 = 10) ∧ (∀ k : Int, 0 ≤ k → k < n → (s (4 + 7 * k + 0) = 2 → s (4 + 7 * k + 3) = 0) ∧ (-9 ≤ s (4 + 7 * k + 4) ∧ s (4 + 7 * k + 4) ≤ 9) ∧ (15 ≤ s (4 + 7 * k + 5) ∧ s (4 + 7 * k + 5) ≤ 70) ∧ (-3 ≤ s (4 + 7 * k + 6) ∧ s (4 + 7 * k + 6) ≤ 3)) ∧ ACC s
theorem acc_ext {B : Int} {n : Nat} {s s' : Int → Int} (h : INV B n s) (a : ACC s) (e : ∀ j, 65 ≤ j → j < 103 → j ≠ 67 → j ≠ 100 → j ≠ 101 → j ≠ 102 → s' j = s j) (c : s' 102 ≤ s' 101) : ACC s' := by
  obtain ⟨a1, a2, a3, a4, a5, a6, a7⟩ := a
  have h70 := h.2.2.2.2.2.2.2.2.2.1
  have h71 := h.2.2.2.2.2.2.2.2.2.2.1
  have e65 := e 65 (by omega) (by omega) (by omega) (by omega) (by omega) (by omega)
  have e66 := e 66 (by omega) (by omega) (by omega) (by omega) (by omega) (by omega)
  have e68 := e 68 (by omega) (by omega) (by omega) (by omega) (by omega) (by omega)
  have e69 := e 69 (by omega) (by omega) (by omega) (by omega) (by omega) (by omega)
  have e70 := e 70 (by omega) (by omega) (by omega) (by omega) (by omega) (by omega)
  have e91 := e 91 (by omega) (by omega) (by omega) (by omega) (by omega) (by omega)
  have E : ∀ k : Int, 0 ≤ k → k < ((17 : Nat) : Int) → s' (83 + k) = s (83 + k) := fun k x y => e _ (by omega) (by omega) (by omega) (by omega) (by omega) (by omega)
  refine ⟨by omega, c, by rw [e70, e68]; exact a3, ?_, ?_, ?_, fun i x y => ?_⟩
  · rw [e68, ← a4]
    exact sumZ_congr E
  · rw [e65, ← a5]
    exact sumZ_congr fun k x y => by rw [E k x y]
  · rw [e66, ← a6]
    exact sumZ_congr fun k x y => by rw [E k x y]
  · rw [e70] at y
    have q := h71 i x (by omega)
    rw [e (71 + i) (by omega) (by omega) (by omega) (by omega) (by omega) (by omega), e _ (by omega) (by omega) (by omega) (by omega) (by omega) (by omega)]
    exact a7 i x y
theorem ex_none {s' : Int → Int} (h0 : s' 0 ≠ 1) (a : ACC s') : EX s' 0 := ⟨fun q => absurd q h0, fun k x y => by omega, a⟩
theorem ex_roll {B r : Int} {n : Nat} {s : Int → Int} (h : INV B n s) (x : EX s n) (hr : 20 ≤ r) : EX (rollS s r) 0 := by
  obtain ⟨q0, q1, q2⟩ := rollS_0 s r
  refine ⟨fun _ => ⟨by omega, q2⟩, fun k x y => by omega, acc_ext h x.2.2 (fun j a b _ _ _ _ => rollS_ne (by omega) (by omega) (by omega)) ?_⟩
  rw [rollS_ne (by omega) (by omega) (by omega), rollS_ne (by omega) (by omega) (by omega)]
  exact x.2.2.2.1
theorem ex_c {B : Int} {n : Nat} {s s' : Int → Int} (h : INV B n s) (x : EX s n) (e : ∀ j, j ≠ 60 → j ≠ 62 → j ≠ 63 → j ≠ 64 → s' j = s j) : EX s' n := by
  have hn := h.2.1
  obtain ⟨x1, x2, x3⟩ := x
  refine ⟨fun q => ?_, fun k a b => ?_, acc_ext h x3 (fun j a b _ _ _ _ => e j (by omega) (by omega) (by omega) (by omega)) ?_⟩
  · rw [e 0 (by omega) (by omega) (by omega) (by omega)] at q
    rw [e 1 (by omega) (by omega) (by omega) (by omega), e 2 (by omega) (by omega) (by omega) (by omega)]
    exact x1 q
  · rw [e _ (by omega) (by omega) (by omega) (by omega), e _ (by omega) (by omega) (by omega) (by omega), e _ (by omega) (by omega) (by omega) (by omega), e _ (by omega) (by omega) (by omega) (by omega), e _ (by omega) (by omega) (by omega) (by omega)]
    exact x2 k a b
  · rw [e _ (by omega) (by omega) (by omega) (by omega), e _ (by omega) (by omega) (by omega) (by omega)]
    exact x3.2.1
theorem ex_puts {B : Int} {n : Nat} {s s' : Int → Int} (h : INV B n s) (x : EX s n) (f : putF s s') (p : putX s s') : EX s' n := by
  have hn := h.2.1
  obtain ⟨x1, x2, x3⟩ := x
  obtain ⟨p1, p2⟩ := p
  refine ⟨fun q => ?_, fun k a b => ?_, acc_ext h x3 (fun j a b _ c _ _ => f j (by omega) (by omega) c) ?_⟩
  · rw [f 0 (by omega) (by omega) (by omega)] at q
    have := x1 q
    omega
  · rw [f _ (by omega) (by omega) (by omega), f _ (by omega) (by omega) (by omega), f _ (by omega) (by omega) (by omega), f _ (by omega) (by omega) (by omega), f _ (by omega) (by omega) (by omega)]
    exact x2 k a b
  · rw [f _ (by omega) (by omega) (by omega), f _ (by omega) (by omega) (by omega)]
    exact x3.2.1
theorem ex_play {B z' a w b : Int} {n : Nat} {s s' : Int → Int} (h : INV B n s) (h' : INV (B + 2) (n + 1) s') (x : EX s n) (hc : s 0 = 1) (f : playF s s') (p : playX s s' n z' a w b) (hA : -9 ≤ a ∧ a ≤ 9) (hw : 15 ≤ w ∧ w ≤ 70) (hbb : -3 ≤ b ∧ b ≤ 3) : EX s' (n + 1) := by
  obtain ⟨x1, x2, x3⟩ := x
  obtain ⟨p1, p2, p3, p4, p5, ⟨p6, p7, p8⟩, p9, p10, -⟩ := p
  have q1 := x1 hc
  have tv := inv_tou h' n (by omega) (by omega)
  have g := inv_tou h
  refine ⟨fun _ => by omega, fun k c d => ?_, acc_ext h x3 (fun j a b _ c d e => f j (by omega) c d e) ?_⟩
  · by_cases kn : k = n
    · subst kn
      refine ⟨fun q => ?_, by omega, by omega, by omega⟩
      have := p10
      omega
    · obtain ⟨r1, r2⟩ := p5 k c (by omega)
      obtain ⟨y1, y2, y3, y4⟩ := x2 k c (by omega)
      have g1 := g k c (by omega)
      rw [r2 3 (by omega) (by omega), r2 4 (by omega) (by omega), r2 5 (by omega) (by omega), r2 6 (by omega) (by omega)]
      refine ⟨fun q => ?_, y2, y3, y4⟩
      rcases g1 with g1 | g1
      · exact g1
      · by_cases y : s (4 + 7 * k + 0) = 2
        · exact y1 y
        · exact absurd q (r1 y g1)
  · have := x3.2.1
    omega
theorem sumZ_up {f f' : Int → Int} {a c : Int} : ∀ {n : Nat}, 0 ≤ a → a < n → (∀ k : Int, 0 ≤ k → k < n → k ≠ a → f' k = f k) → f' a = f a + c → sumZ f' n = sumZ f n + c
  | 0, h0, h1, _, _ => by omega
  | n + 1, h0, h1, e, e1 => by
    show sumZ f' n + f' n = sumZ f n + f n + c
    by_cases q : a = n
    · rw [sumZ_congr (f := f') (g := f) (n := n) (fun k x y => e k x (by omega) (by omega)), ← q, e1]
      omega
    · rw [sumZ_up (n := n) h0 (by omega) (fun k x y z => e k x (by omega) z) e1, e n (by omega) (by omega) (fun h => q h.symm)]
      omega
theorem ex_count {B : Int} {n : Nat} {s s' : Int → Int} (h : INV B n s) (h' : INV (B + 8) 0 s') (x : EX s n) (e : RZ s' = RZ (cntZ s (sc s n) (b2i (Burnt s n)) (fstS s (sc s n)))) : EX s' 0 ∧ s' 0 = 0 := by
  obtain ⟨-, -, a1, a2, a3, a4, a5, a6, a7⟩ := x
  obtain ⟨-, pb⟩ := pabs h
  have h70 := h.2.2.2.2.2.2.2.2.2.1
  have h71 := h.2.2.2.2.2.2.2.2.2.2.1
  have hC := h.2.2.2.2.2.2.2.2.2.2.2.1
  have hB := h.2.2.2.2.2.2.2.2.2.2.2.2
  have hC' := h'.2.2.2.2.2.2.2.2.2.2.2.1
  have hB' := h'.2.2.2.2.2.2.2.2.2.2.2.2
  have h70' := h'.2.2.2.2.2.2.2.2.2.1
  have h71' := h'.2.2.2.2.2.2.2.2.2.2.1
  have hbu : b2i (Burnt s n) = 0 ∨ (b2i (Burnt s n) = 1 ∧ sc s n = 0) := by
    by_cases c : Burnt s n
    · refine Or.inr ⟨b2i_p c, ?_⟩
      have q := pts_n (s := s) (n := n) (fun q => q.2 c)
      have ab := sc_abs s n
      omega
    · exact Or.inl (b2i_n c)
  have V := cntZ_v (s := s) (p := sc s n) (b := b2i (Burnt s n)) (f := fstS s (sc s n)) (by omega) h70
  have z0 : cntZ s (sc s n) (b2i (Burnt s n)) (fstS s (sc s n)) 0 = 0 := by
    unfold cntZ
    exact clr_lo (by omega) (by omega)
  generalize cntZ s (sc s n) (b2i (Burnt s n)) (fstS s (sc s n)) = t at e V z0
  generalize b2i (Burnt s n) = b at hbu V
  generalize sc s n = p at pb hbu V
  obtain ⟨-, -, -, -, -, v65, v66, -, v68, v69, v70, v100, v101, v102, v83, v71⟩ := V
  have E : ∀ j : Int, 0 ≤ j → i32 (s' j) = i32 (t j) := fun j hj => by
    have q := congrFun e j.toNat
    unfold RZ at q
    rwa [Int.toNat_of_nonneg hj] at q
  have EQ : ∀ j : Int, 0 ≤ j → -2000000000 ≤ s' j → s' j < 2000000000 → -2000000000 ≤ t j → t j < 2000000000 → s' j = t j := fun j hj a b c d => by
    have q := E j hj
    rw [i32_eq (by omega) (by omega) (by omega) (by omega)] at q
    exact q
  have c65 := hC 65 (by omega)
  have c66 := hC 66 (by omega)
  have c68 := hC 68 (by omega)
  have c69 := hC 69 (by omega)
  have c91 := hC 91 (by omega)
  have c101 := hC 101 (by omega)
  have c102 := hC 102 (by omega)
  have d65 := hC' 65 (by omega)
  have d66 := hC' 66 (by omega)
  have d68 := hC' 68 (by omega)
  have d69 := hC' 69 (by omega)
  have d101 := hC' 101 (by omega)
  have d102 := hC' 102 (by omega)
  have i65 : 0 ≤ (if p ≤ 0 then 0 else p) ∧ (if p ≤ 0 then 0 else p) ≤ 8 := by
    by_cases c : p ≤ 0
    · rw [if_pos c]; omega
    · rw [if_neg c]; omega
  have i66 : -8 ≤ (if 0 ≤ p then 0 else p) ∧ (if 0 ≤ p then 0 else p) ≤ 0 := by
    by_cases c : 0 ≤ p
    · rw [if_pos c]; omega
    · rw [if_neg c]; omega
  have i70 : 0 ≤ (if s 70 = 12 then 12 else s 70 + 1) ∧ (if s 70 = 12 then 12 else s 70 + 1) ≤ 12 := by
    by_cases c : s 70 = 12
    · rw [if_pos c]; omega
    · rw [if_neg c]; omega
  have e65 := EQ 65 (by omega) (by omega) (by omega) (by omega) (by omega)
  have e66 := EQ 66 (by omega) (by omega) (by omega) (by omega) (by omega)
  have e68 := EQ 68 (by omega) (by omega) (by omega) (by omega) (by omega)
  have e69 := EQ 69 (by omega) (by omega) (by omega) (by omega) (by omega)
  have e70 := EQ 70 (by omega) (by omega) (by omega) (by omega) (by omega)
  have e101 := EQ 101 (by omega) (by omega) (by omega) (by omega) (by omega)
  have e102 := EQ 102 (by omega) (by omega) (by omega) (by omega) (by omega)
  have w83 : ∀ k : Int, 0 ≤ k → k < 17 → s' (83 + k) = if k = 8 + p then s (83 + k) + 1 else s (83 + k) := fun k x y => by
    have q1 := hC (83 + k) (by omega)
    have q2 := hC' (83 + k) (by omega)
    have q3 := v83 k x y
    by_cases c : k = 8 + p
    · rw [if_pos c] at q3 ⊢
      rw [EQ _ (by omega) (by omega) (by omega) (by omega) (by omega), q3]
    · rw [if_neg c] at q3 ⊢
      rw [EQ _ (by omega) (by omega) (by omega) (by omega) (by omega), q3]
  have s01 : s' 0 = 0 ∨ s' 0 = 1 := (inv_b31 h').1
  have e0 := EQ 0 (by omega) (by omega) (by omega) (by omega) (by omega)
  have w83p : s' (83 + (8 + p)) = s (83 + (8 + p)) + 1 := by rw [w83 _ (by omega) (by omega), if_pos rfl]
  have w83n : ∀ k : Int, 0 ≤ k → k < ((17 : Nat) : Int) → k ≠ 8 + p → s' (83 + k) = s (83 + k) := fun k x y z => by rw [w83 k x (by omega), if_neg z]
  have pos : ∀ v : Int, -8 ≤ v → v ≤ 8 → (0 < s (91 + v) ∨ v = p) → 0 < s' (91 + v) := fun v x y c => by
    have q1 := hC (91 + v) (by omega)
    have q := w83 (8 + v) (by omega) (by omega)
    rw [show 83 + (8 + v) = 91 + v by omega] at q
    by_cases d : 8 + v = 8 + p
    · rw [if_pos d] at q; omega
    · rw [if_neg d] at q; omega
  have w91 : s 91 ≤ s' 91 ∧ (p = 0 → s' 91 = s 91 + 1) := by
    have q := w83 8 (by omega) (by omega)
    rw [show (83 : Int) + 8 = 91 by omega] at q
    by_cases d : (8 : Int) = 8 + p
    · rw [if_pos d] at q; omega
    · rw [if_neg d] at q; omega
  refine ⟨ex_none (by omega) ⟨by omega, by omega, ?_, ?_, ?_, ?_, fun i x y => ?_⟩, by omega⟩
  · rw [e70, v70, e68, v68]
    by_cases c : s 68 < 12
    · rw [if_pos c] at a3
      by_cases d : s 68 + 1 < 12
      · rw [if_neg (show ¬ s 70 = 12 by omega), if_pos d]; omega
      · rw [if_neg (show ¬ s 70 = 12 by omega), if_neg d]; omega
    · rw [if_neg c] at a3
      rw [if_pos a3, if_neg (by omega)]
  · rw [e68, v68, ← a4]
    exact sumZ_up (a := 8 + p) (by omega) (by omega) w83n w83p
  · rw [e65, v65, ← a5]
    refine sumZ_up (a := 8 + p) (by omega) (by omega) (fun k x y z => by rw [w83n k x y z]) ?_
    rw [w83p, Int.mul_add, Int.mul_one]
    congr 1
    by_cases c : p ≤ 0
    · rw [if_pos c, if_neg (by omega)]
    · rw [if_neg c, if_pos (by omega)]; omega
  · rw [e66, v66, ← a6, Int.sub_eq_add_neg]
    refine sumZ_up (a := 8 + p) (by omega) (by omega) (fun k x y z => by rw [w83n k x y z]) ?_
    rw [w83p, Int.mul_add, Int.mul_one]
    congr 1
    by_cases c : 0 ≤ p
    · rw [if_pos c, if_neg (by omega)]; omega
    · rw [if_neg c, if_pos (by omega)]; omega
  · have q := h71' i x (by omega)
    have qv := v71 i x (by omega)
    rw [e70, v70] at y
    have r : -8 ≤ t (71 + i) ∧ t (71 + i) ≤ 8 ∧ (0 < s (91 + t (71 + i)) ∨ t (71 + i) = p) := by
      rw [qv]
      by_cases c : s 70 = 12
      · rw [if_pos c] at y ⊢
        by_cases d : i = 11
        · rw [if_pos d]; exact ⟨by omega, by omega, Or.inr rfl⟩
        · rw [if_neg d, show 71 + i + 1 = 71 + (i + 1) by omega]
          have r1 := h71 (i + 1) (by omega) (by omega)
          exact ⟨r1.1, r1.2, Or.inl (a7 (i + 1) (by omega) (by omega))⟩
      · rw [if_neg c] at y ⊢
        by_cases d : i = s 70
        · rw [if_pos d]; exact ⟨by omega, by omega, Or.inr rfl⟩
        · rw [if_neg d]
          have r1 := h71 i x (by omega)
          exact ⟨r1.1, r1.2, Or.inl (a7 i x (by omega))⟩
    have ei := EQ (71 + i) (by omega) (by omega) (by omega) (by omega) (by omega)
    rw [ei]
    exact pos _ r.1 r.2.1 r.2.2
theorem ex_begin {B r : Int} {n : Nat} {s : Int → Int} (h : INV B n s) (hr : 1 ≤ r) : EX (begM s r) 0 := by
  obtain ⟨m1, m2, m3, m4, m5⟩ := begM_v s r
  have z : ∀ k : Int, 0 ≤ k → k < ((17 : Nat) : Int) → begM s r (83 + k) = 0 := fun k x y => m5 _ (by omega) (by omega) (by omega)
  refine ex_none (by rw [m1 0 (by omega) (by omega)]; omega) ⟨?_, ?_, ?_, ?_, ?_, ?_, fun i x y => ?_⟩
  · rw [m5 69 (by omega) (by omega) (by omega), m5 91 (by omega) (by omega) (by omega)]; omega
  · rw [m5 101 (by omega) (by omega) (by omega), m5 102 (by omega) (by omega) (by omega)]; omega
  · rw [m5 70 (by omega) (by omega) (by omega), m5 68 (by omega) (by omega) (by omega)]; rfl
  · rw [m5 68 (by omega) (by omega) (by omega)]
    exact sumZ_nul z
  · rw [m5 65 (by omega) (by omega) (by omega)]
    exact sumZ_nul fun k x y => by rw [z k x y, Int.mul_zero]
  · rw [m5 66 (by omega) (by omega) (by omega)]
    exact sumZ_nul fun k x y => by rw [z k x y, Int.mul_zero]
  · rw [m5 70 (by omega) (by omega) (by omega)] at y
    omega
