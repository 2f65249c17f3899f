/-! two facts on doubles, from the laws of the doubles (as in whole) -/
abbrev dD (m : Nat) : UInt64 := UInt64.ofNat m
abbrev dec (x : UInt64) : FP.Core.Datum := FP.Core.decode FP.Core.b64 x.toNat
abbrev LBd : Prop := ∀ a b : UInt64, dec (FP.ddiv a b) = FP.Core.quotient FP.Core.b64 (dec a) (dec b)
abbrev LBr : Prop := ∀ (s : Bool) (A B c : Nat) (e q : Int), 0 < B → FP.Core.fits FP.Core.b64 (.fin s c q) → A * 2 ^ (e - q).toNat = c * B * 2 ^ (q - e).toNat → FP.Core.roundRatio FP.Core.b64 s A B e = .fin s c q
abbrev LBi : Prop := ∀ a b : UInt64, dec a ≠ .nan → dec a = dec b → a = b
abbrev LBc : Prop := ∀ a b : UInt64, a.toNat < 9218868437227405312 → b.toNat < 9218868437227405312 → FP.dcmp a b = some (compare (a.toNat : Int) (b.toNat : Int))
theorem dD_n {m : Nat} (h : m < 18446744073709551616) : (dD m).toNat = m := by
  show (UInt64.ofNat m).toNat = m
  rw [UInt64.toNat_ofNat']
  omega
theorem tails_n : FP.Core.b64.tails = 4503599627370496 := by decide +kernel
theorem exps_n : FP.Core.b64.exps = 2048 := by decide +kernel
theorem qmin_n : FP.Core.b64.qmin = -1074 := by decide +kernel
theorem qmax_n : FP.Core.b64.qmax = 971 := by decide +kernel
/-- what normal positive bits stand for -/
theorem dec_n {m : Nat} (h0 : 4503599627370496 ≤ m) (h1 : m < 2047 * 4503599627370496) : dec (dD m) = .fin false (4503599627370496 + m % 4503599627370496) (-1074 + ((m / 4503599627370496 : Nat) - 1)) := by
  show FP.Core.decode FP.Core.b64 (dD m).toNat = _
  rw [dD_n (by omega)]
  unfold FP.Core.decode FP.Core.fieldE FP.Core.fieldT FP.Core.fieldS
  rw [tails_n, exps_n, qmin_n]
  have e1 : m / 4503599627370496 % 2048 = m / 4503599627370496 := by omega
  have e2 : (m / 4503599627370496 / 2048 % 2 == 1) = false := by
    rw [show m / 4503599627370496 / 2048 = 0 by omega]
    rfl
  rw [e1, e2, if_neg (by omega), if_neg (by omega)]
theorem fits_n {c : Nat} {q : Int} (h0 : 4503599627370496 ≤ c) (h1 : c < 9007199254740992) (h2 : -1074 ≤ q) (h3 : q ≤ 971) : FP.Core.fits FP.Core.b64 (.fin false c q) := by
  refine ⟨?_, ?_, ?_, Or.inr ?_⟩
  · show c < 2 ^ 53
    omega
  · rw [qmin_n]; exact h2
  · rw [qmax_n]; exact h3
  · rw [tails_n]; exact h0
theorem cmp_n (Lc : LBc) {m k : Nat} (hm : m < 2046 * 4503599627370496) (hk : k < 2046 * 4503599627370496) : FP.dcmp (dD m) (dD k) = some (compare m k) := by
  rw [Lc _ _ (by rw [dD_n (by omega)]; omega) (by rw [dD_n (by omega)]; omega), dD_n (by omega), dD_n (by omega)]
  congr 1
  show compareOfLessAndEq (m : Int) (k : Int) = compareOfLessAndEq m k
  unfold compareOfLessAndEq
  by_cases c : m < k
  · rw [if_pos c, if_pos (by omega)]
  · rw [if_neg c, if_neg (by omega)]
    by_cases d : m = k
    · rw [if_pos d, if_pos (by omega)]
    · rw [if_neg d, if_neg (by omega)]
/-- no NaN, told by the bits -/
theorem nn_n {x : UInt64} (h : x.toNat % 9223372036854775808 ≤ 9218868437227405312) : nn64 x := by
  show x &&& 0x7fffffffffffffff ≤ 0x7ff0000000000000
  rw [UInt64.le_iff_toNat_le, UInt64.toNat_and]
  show x.toNat &&& (2 ^ 63 - 1) ≤ 9218868437227405312
  rw [Nat.and_two_pow_sub_one_eq_mod]
  omega
abbrev LBq : Prop := ∀ a b : Int, 1 ≤ a → a ≤ 2000000 → 1 ≤ b → b ≤ 1000000 → 989 * 4503599627370496 ≤ (FP.ddiv (FP.i2d (i32 a)) (FP.i2d (i32 b))).toNat ∧ (FP.ddiv (FP.i2d (i32 a)) (FP.i2d (i32 b))).toNat < 1060 * 4503599627370496
abbrev LBz : Prop := ∀ b : Int, 1 ≤ b → b ≤ 1000000 → FP.ddiv (FP.i2d (i32 0)) (FP.i2d (i32 b)) = dD 0
abbrev LBv : Prop := ∀ v : Int32, dec (FP.i2d v) = FP.Core.round FP.Core.b64 (FP.Core.ofInt v.toInt)
theorem i2d_n (Lv : LBv) (Lr : LBr) {v : Int} (h1 : 1 ≤ v) (h2 : v ≤ 2000000) : ∃ c k : Nat, 4503599627370496 ≤ c ∧ c < 9007199254740992 ∧ k ≤ 20 ∧ dec (FP.i2d (i32 v)) = .fin false c ((k : Int) - 52) := by
  obtain ⟨n, rfl⟩ : ∃ n : Nat, v = n := ⟨v.toNat, by omega⟩
  have l0 := Nat.log2_self_le (n := n) (by omega)
  have l1 := Nat.lt_log2_self (n := n)
  generalize n.log2 = k at l0 l1
  have k20 : k ≤ 20 := by
    apply Nat.le_of_not_lt
    intro hk
    have := Nat.pow_le_pow_right (n := 2) (by omega) (show 21 ≤ k by omega)
    omega
  have p52 : 2 ^ k * 2 ^ (52 - k) = 4503599627370496 := by
    rw [← Nat.pow_add, show k + (52 - k) = 52 by omega]
  have p53 : 2 ^ (k + 1) * 2 ^ (52 - k) = 9007199254740992 := by
    rw [← Nat.pow_add, show k + 1 + (52 - k) = 53 by omega]
  have pp : 0 < 2 ^ (52 - k) := Nat.two_pow_pos _
  have c0 : 4503599627370496 ≤ n * 2 ^ (52 - k) := by
    rw [← p52]
    exact Nat.mul_le_mul_right _ l0
  have c1 : n * 2 ^ (52 - k) < 9007199254740992 := by
    rw [← p53]
    exact Nat.mul_lt_mul_of_pos_right l1 pp
  refine ⟨n * 2 ^ (52 - k), k, c0, c1, k20, ?_⟩
  rw [Lv, i32_toInt (by omega) (by omega)]
  have e : FP.Core.round FP.Core.b64 (FP.Core.ofInt (n : Int)) = FP.Core.roundRatio FP.Core.b64 false n 1 0 := by
    show FP.Core.roundRatio FP.Core.b64 (decide ((n : Int) < 0)) (n : Int).natAbs 1 0 = _
    rw [decide_eq_false (by omega), Int.natAbs_natCast]
  rw [e]
  refine Lr false n 1 _ 0 _ (by omega) (fits_n c0 c1 (by omega) (by omega)) ?_
  rw [show (0 - ((k : Int) - 52)).toNat = 52 - k by omega, show ((k : Int) - 52 - 0).toNat = 0 by omega]
  omega
theorem log2_n {c : Nat} (h0 : 4503599627370496 ≤ c) (h1 : c < 9007199254740992) : c.log2 = 52 := by
  rw [Nat.log2_eq_iff (by omega)]
  exact ⟨by omega, by omega⟩
theorem lead_n {c d : Nat} (h0 : 4503599627370496 ≤ c) (h1 : c < 9007199254740992) (h2 : 4503599627370496 ≤ d) (h3 : d < 9007199254740992) : FP.Core.leading c d = if d ≤ c then 0 else -1 := by
  unfold FP.Core.leading
  rw [log2_n h0 h1, log2_n h2 h3]
  show (if d * 1 ≤ c * 1 then (0 : Int) else 0 - 1) = _
  rw [Nat.mul_one, Nat.mul_one]
  rfl
theorem near_n {A B lo hi : Nat} (hB : 0 < B) (h0 : lo * B ≤ A) (h1 : A < hi * B) : lo ≤ FP.Core.nearest A B ∧ FP.Core.nearest A B ≤ hi := by
  have q0 : lo ≤ A / B := (Nat.le_div_iff_mul_le hB).mpr h0
  have q1 : A / B < hi := (Nat.div_lt_iff_lt_mul hB).mpr h1
  unfold FP.Core.nearest
  generalize A / B = q at q0 q1
  split
  · omega
  · split
    · omega
    · omega
theorem ratio_n {c d : Nat} {e : Int} (h0 : 4503599627370496 ≤ c) (h1 : c < 9007199254740992) (h2 : 4503599627370496 ≤ d) (h3 : d < 9007199254740992) (he : -20 ≤ e ∧ e ≤ 20) : ∃ (c' : Nat) (Q : Int), FP.Core.roundRatio FP.Core.b64 false c d e = .fin false c' Q ∧ 4503599627370496 ≤ c' ∧ c' < 9007199254740992 ∧ -73 ≤ Q ∧ Q ≤ -31 := by
  have key : ∀ (Q : Int) (n : Nat), 4503599627370496 ≤ n → n ≤ 9007199254740992 → -73 ≤ Q → Q ≤ -32 → ∃ (c' : Nat) (Q' : Int), FP.Core.settle FP.Core.b64 false n Q = .fin false c' Q' ∧ 4503599627370496 ≤ c' ∧ c' < 9007199254740992 ∧ -73 ≤ Q' ∧ Q' ≤ -31 := fun Q n a b x y => by
    have p53 : 2 ^ FP.Core.b64.p = 9007199254740992 := by decide
    unfold FP.Core.settle FP.Core.bound
    rw [p53, tails_n, qmax_n]
    by_cases g : n < 9007199254740992
    · rw [if_pos g, if_pos (by omega)]
      exact ⟨n, Q, rfl, a, g, x, by omega⟩
    · rw [if_neg g, if_pos (by omega)]
      exact ⟨4503599627370496, Q + 1, rfl, by omega, by omega, by omega, by omega⟩
  have pe : ((FP.Core.b64.p : Nat) : Int) - 1 = 52 := by decide
  unfold FP.Core.roundRatio
  rw [if_neg (by omega)]
  unfold FP.Core.roundAt FP.Core.quantum
  rw [lead_n h0 h1 h2 h3, qmin_n, pe]
  unfold FP.Core.unitsNum FP.Core.unitsDen
  by_cases g : d ≤ c
  · rw [if_pos g, show max (-1074 : Int) (0 + e - 52) = e - 52 by omega, show (e - (e - 52)).toNat = 52 by omega, show (e - 52 - e).toNat = 0 by omega]
    have nb := near_n (A := c * 2 ^ 52) (B := d * 2 ^ 0) (lo := 4503599627370496) (hi := 9007199254740992) (by omega) (by omega) (by omega)
    exact key _ _ nb.1 nb.2 (by omega) (by omega)
  · rw [if_neg g, show max (-1074 : Int) (-1 + e - 52) = e - 53 by omega, show (e - (e - 53)).toNat = 53 by omega, show (e - 53 - e).toNat = 0 by omega]
    have nb := near_n (A := c * 2 ^ 53) (B := d * 2 ^ 0) (lo := 4503599627370496) (hi := 9007199254740992) (by omega) (by omega) (by omega)
    exact key _ _ nb.1 nb.2 (by omega) (by omega)
theorem Lq_of (Ld : LBd) (Lr : LBr) (Li : LBi) (Lv : LBv) : LBq := by
  intro a b h0 h1 h2 h3
  obtain ⟨c, k, c0, c1, k1, e1⟩ := i2d_n Lv Lr h0 h1
  obtain ⟨d, l, d0, d1, l1, e2⟩ := i2d_n Lv Lr h2 (by omega)
  have e3 := Ld (FP.i2d (i32 a)) (FP.i2d (i32 b))
  rw [e1, e2] at e3
  have e4 : FP.Core.quotient FP.Core.b64 (.fin false c ((k : Int) - 52)) (.fin false d ((l : Int) - 52)) = FP.Core.roundRatio FP.Core.b64 false c d ((k : Int) - 52 - ((l : Int) - 52)) := by
    show (if d = 0 then _ else FP.Core.roundRatio FP.Core.b64 false c d ((k : Int) - 52 - ((l : Int) - 52))) = _
    rw [if_neg (by omega)]
  obtain ⟨c', Q, r1, r2, r3, r4, r5⟩ := ratio_n (e := (k : Int) - 52 - ((l : Int) - 52)) c0 c1 d0 d1 (by omega)
  rw [e4, r1] at e3
  obtain ⟨E, hE⟩ : ∃ E : Nat, (E : Int) = Q + 1075 := ⟨(Q + 1075).toNat, by omega⟩
  have e5 := dec_n (m := E * 4503599627370496 + (c' - 4503599627370496)) (by omega) (by omega)
  have g1 : (E * 4503599627370496 + (c' - 4503599627370496)) % 4503599627370496 = c' - 4503599627370496 := by omega
  have g2 : (E * 4503599627370496 + (c' - 4503599627370496)) / 4503599627370496 = E := by omega
  rw [g1, g2, show 4503599627370496 + (c' - 4503599627370496) = c' by omega, show -1074 + ((E : Int) - 1) = Q by omega] at e5
  have e6 := Li _ _ (by rw [e3]; exact fun q => by cases q) (e3.trans e5.symm)
  rw [e6, dD_n (by omega)]
  exact ⟨by omega, by omega⟩
theorem Lz_of (Ld : LBd) (Lr : LBr) (Li : LBi) (Lv : LBv) : LBz := by
  intro b h0 h1
  obtain ⟨d, l, d0, d1, l1, e2⟩ := i2d_n Lv Lr h0 (by omega)
  have e1 := Lv (i32 0)
  rw [i32_toInt (by omega) (by omega)] at e1
  have z1 : FP.Core.round FP.Core.b64 (FP.Core.ofInt 0) = .fin false 0 (-1074) := by decide +kernel
  rw [z1] at e1
  have e3 := Ld (FP.i2d (i32 0)) (FP.i2d (i32 b))
  rw [e1, e2] at e3
  have e4 : FP.Core.quotient FP.Core.b64 (.fin false 0 (-1074)) (.fin false d ((l : Int) - 52)) = .fin false 0 (-1074) := by
    show (if d = 0 then _ else FP.Core.roundRatio FP.Core.b64 false 0 d (-1074 - ((l : Int) - 52))) = _
    rw [if_neg (by omega)]
    unfold FP.Core.roundRatio
    rw [if_pos rfl, qmin_n]
  have z2 : dec (dD 0) = .fin false 0 (-1074) := by decide +kernel
  rw [e4] at e3
  exact Li _ _ (by rw [e3]; exact fun q => by cases q) (e3.trans z2.symm)
theorem cm_eq0 (Lc : LBc) {m : Nat} {op : CmpOp} (hm : m < 2046 * 4503599627370496) : Op.cmpValue (FP.dcmp (dD m) (dD m)) op = 0 := by
  rw [cmp_n Lc hm hm, Nat.compare_eq_eq.mpr rfl]
  cases op <;> rfl
theorem FM_from (Ld : LBd) (Lr : LBr) (Li : LBi) (Lc : LBc) (Lv : LBv) : FM := by
  refine ⟨cm_eq0 (m := 0) Lc (by omega), fun a b h0 h1 h2 h3 => ?_⟩
  by_cases c : a = 0
  · subst c
    rw [Lz_of Ld Lr Li Lv b h2 h3]
    exact ⟨nn_n (by rw [dD_n (by omega)]; omega), cm_eq0 Lc (by omega)⟩
  · obtain ⟨q0, q1⟩ := Lq_of Ld Lr Li Lv a b (by omega) h1 h2 h3
    generalize FP.ddiv (FP.i2d (i32 a)) (FP.i2d (i32 b)) = x at q0 q1
    have e : x = dD x.toNat := by
      show _ = UInt64.ofNat _
      rw [UInt64.ofNat_toNat]
    refine ⟨nn_n (by omega), ?_⟩
    rw [e]
    exact cm_eq0 Lc (by omega)
