/-! halving and doubling, given the general laws of the doubles (LB) -/
abbrev dec (x : UInt64) : FP.Core.Datum := FP.Core.decode FP.Core.b64 x.toNat
abbrev LBd : Prop := ∀ a b : UInt64, dec (FP.ddiv a b) = FP.Core.quotient FP.Core.b64 (dec a) (dec b)
abbrev LBm : Prop := ∀ a b : UInt64, dec (FP.dmul a b) = FP.Core.round FP.Core.b64 (FP.Core.exactProduct (dec a) (dec b))
abbrev LBr : Prop := ∀ (s : Bool) (A B c : Nat) (e q : Int), 0 < B → FP.Core.fits FP.Core.b64 (.fin s c q) → A * 2 ^ (e - q).toNat = c * B * 2 ^ (q - e).toNat → FP.Core.roundRatio FP.Core.b64 s A B e = .fin s c q
abbrev LBi : Prop := ∀ a b : UInt64, dec a ≠ .nan → dec a = dec b → a = b
abbrev LBc : Prop := ∀ a b : UInt64, a.toNat < 9218868437227405312 → b.toNat < 9218868437227405312 → FP.dcmp a b = some (compare (a.toNat : Int) (b.toNat : Int))
theorem dD_n {m : Nat} (h : m < 18446744073709551616) : (dD m).toNat = m := by
  show (UInt64.ofNat m).toNat = m
  rw [UInt64.toNat_ofNat']
  omega
theorem tails_n : FP.Core.b64.tails = 4503599627370496 := by decide +kernel
theorem exps_n : FP.Core.b64.exps = 2048 := by decide +kernel
theorem qmin_n : FP.Core.b64.qmin = -1074 := by decide +kernel
theorem qmax_n : FP.Core.b64.qmax = 971 := by decide +kernel
/-- what normal positive bits stand for -/
theorem dec_n {m : Nat} (h0 : 4503599627370496 ≤ m) (h1 : m < 2047 * 4503599627370496) : dec (dD m) = .fin false (4503599627370496 + m % 4503599627370496) (-1074 + ((m / 4503599627370496 : Nat) - 1)) := by
  show FP.Core.decode FP.Core.b64 (dD m).toNat = _
  rw [dD_n (by omega)]
  unfold FP.Core.decode FP.Core.fieldE FP.Core.fieldT FP.Core.fieldS
  rw [tails_n, exps_n, qmin_n]
  have e1 : m / 4503599627370496 % 2048 = m / 4503599627370496 := by omega
  have e2 : (m / 4503599627370496 / 2048 % 2 == 1) = false := by
    rw [show m / 4503599627370496 / 2048 = 0 by omega]
    rfl
  rw [e1, e2, if_neg (by omega), if_neg (by omega)]
theorem two_n : dec (4611686018427387904 : UInt64) = .fin false 4503599627370496 (-51) := by decide +kernel
theorem fits_n {c : Nat} {q : Int} (h0 : 4503599627370496 ≤ c) (h1 : c < 9007199254740992) (h2 : -1074 ≤ q) (h3 : q ≤ 971) : FP.Core.fits FP.Core.b64 (.fin false c q) := by
  refine ⟨?_, ?_, ?_, Or.inr ?_⟩
  · show c < 2 ^ 53
    omega
  · rw [qmin_n]; exact h2
  · rw [qmax_n]; exact h3
  · rw [tails_n]; exact h0
theorem half_n (Ld : LBd) (Lr : LBr) (Li : LBi) {m : Nat} (h0 : 2 * 4503599627370496 ≤ m) (h1 : m < 2046 * 4503599627370496) : FP.ddiv (dD m) (4611686018427387904 : UInt64) = dD (m - 4503599627370496) := by
  have e1 := Ld (dD m) 4611686018427387904
  rw [dec_n (by omega) (by omega), two_n] at e1
  have e2 : FP.Core.quotient FP.Core.b64 (.fin false (4503599627370496 + m % 4503599627370496) (-1074 + ((m / 4503599627370496 : Nat) - 1))) (.fin false 4503599627370496 (-51)) = FP.Core.roundRatio FP.Core.b64 false (4503599627370496 + m % 4503599627370496) 4503599627370496 (-1074 + ((m / 4503599627370496 : Nat) - 1) - (-51)) := rfl
  have f := fits_n (c := 4503599627370496 + m % 4503599627370496) (q := -1074 + ((m / 4503599627370496 : Nat) - 1) - 1) (by omega) (by omega) (by omega) (by omega)
  have e3 := Lr false (4503599627370496 + m % 4503599627370496) 4503599627370496 (4503599627370496 + m % 4503599627370496) (-1074 + ((m / 4503599627370496 : Nat) - 1) - (-51)) (-1074 + ((m / 4503599627370496 : Nat) - 1) - 1) (by omega) f (by
    rw [show (-1074 + (((m / 4503599627370496 : Nat) : Int) - 1) - (-51) - (-1074 + ((m / 4503599627370496 : Nat) - 1) - 1)).toNat = 52 by omega, show (-1074 + (((m / 4503599627370496 : Nat) : Int) - 1) - 1 - (-1074 + ((m / 4503599627370496 : Nat) - 1) - (-51))).toNat = 0 by omega]
    omega)
  rw [e2, e3] at e1
  refine Li _ _ (by rw [e1]; exact fun q => by cases q) ?_
  rw [e1, dec_n (by omega) (by omega)]
  have g1 : (m - 4503599627370496) % 4503599627370496 = m % 4503599627370496 := by omega
  have g2 : ((m - 4503599627370496) / 4503599627370496 : Nat) = m / 4503599627370496 - 1 := by omega
  rw [g1, g2]
  exact congrArg (fun q => FP.Core.Datum.fin false (4503599627370496 + m % 4503599627370496) q) (by omega)
theorem dbl_n (Lm : LBm) (Lr : LBr) (Li : LBi) {m : Nat} (h0 : 4503599627370496 ≤ m) (h1 : m < 2045 * 4503599627370496) : FP.dmul (dD m) (4611686018427387904 : UInt64) = dD (m + 4503599627370496) := by
  have e1 := Lm (dD m) 4611686018427387904
  rw [dec_n (by omega) (by omega), two_n] at e1
  have e2 : FP.Core.round FP.Core.b64 (FP.Core.exactProduct (.fin false (4503599627370496 + m % 4503599627370496) (-1074 + ((m / 4503599627370496 : Nat) - 1))) (.fin false 4503599627370496 (-51))) = FP.Core.roundRatio FP.Core.b64 false ((4503599627370496 + m % 4503599627370496) * 4503599627370496) 1 (-1074 + ((m / 4503599627370496 : Nat) - 1) + (-51)) := rfl
  have f := fits_n (c := 4503599627370496 + m % 4503599627370496) (q := -1074 + ((m / 4503599627370496 : Nat) - 1) + 1) (by omega) (by omega) (by omega) (by omega)
  have e3 := Lr false ((4503599627370496 + m % 4503599627370496) * 4503599627370496) 1 (4503599627370496 + m % 4503599627370496) (-1074 + ((m / 4503599627370496 : Nat) - 1) + (-51)) (-1074 + ((m / 4503599627370496 : Nat) - 1) + 1) (by omega) f (by
    rw [show (-1074 + (((m / 4503599627370496 : Nat) : Int) - 1) + (-51) - (-1074 + ((m / 4503599627370496 : Nat) - 1) + 1)).toNat = 0 by omega, show (-1074 + (((m / 4503599627370496 : Nat) : Int) - 1) + 1 - (-1074 + ((m / 4503599627370496 : Nat) - 1) + (-51))).toNat = 52 by omega]
    omega)
  rw [e2, e3] at e1
  refine Li _ _ (by rw [e1]; exact fun q => by cases q) ?_
  rw [e1, dec_n (by omega) (by omega)]
  have g1 : (m + 4503599627370496) % 4503599627370496 = m % 4503599627370496 := by omega
  have g2 : ((m + 4503599627370496) / 4503599627370496 : Nat) = m / 4503599627370496 + 1 := by omega
  rw [g1, g2]
  exact congrArg (fun q => FP.Core.Datum.fin false (4503599627370496 + m % 4503599627370496) q) (by omega)
theorem cmp_n (Lc : LBc) {m k : Nat} (hm : m < 2046 * 4503599627370496) (hk : k < 2046 * 4503599627370496) : FP.dcmp (dD m) (dD k) = some (compare m k) := by
  rw [Lc _ _ (by rw [dD_n (by omega)]; omega) (by rw [dD_n (by omega)]; omega), dD_n (by omega), dD_n (by omega)]
  congr 1
  show compareOfLessAndEq (m : Int) (k : Int) = compareOfLessAndEq m k
  unfold compareOfLessAndEq
  by_cases c : m < k
  · rw [if_pos c, if_pos (by omega)]
  · rw [if_neg c, if_neg (by omega)]
    by_cases d : m = k
    · rw [if_pos d, if_pos (by omega)]
    · rw [if_neg d, if_neg (by omega)]
/-- no NaN, told by the bits -/
theorem nn_n {x : UInt64} (h : x.toNat % 9223372036854775808 ≤ 9218868437227405312) : nn64 x := by
  show x &&& 0x7fffffffffffffff ≤ 0x7ff0000000000000
  rw [UInt64.le_iff_toNat_le, UInt64.toNat_and]
  show x.toNat &&& (2 ^ 63 - 1) ≤ 9218868437227405312
  rw [Nat.and_two_pow_sub_one_eq_mod]
  omega
abbrev LBs : Prop := ∀ a b : UInt64, a.toNat % 9223372036854775808 < 1024 * 4503599627370496 → b.toNat % 9223372036854775808 < 1024 * 4503599627370496 → (FP.dsub a b).toNat % 9223372036854775808 < 1026 * 4503599627370496
abbrev LBp : Prop := ∀ a b : UInt64, a.toNat % 9223372036854775808 < 1026 * 4503599627370496 → b.toNat % 9223372036854775808 < 1076 * 4503599627370496 → (FP.dmul a b).toNat % 9223372036854775808 < 1080 * 4503599627370496
abbrev LBq : Prop := ∀ a b : Int, 1 ≤ a → a ≤ 2000000 → 1 ≤ b → b ≤ 1000000 → 989 * 4503599627370496 ≤ (FP.ddiv (FP.i2d (i32 a)) (FP.i2d (i32 b))).toNat ∧ (FP.ddiv (FP.i2d (i32 a)) (FP.i2d (i32 b))).toNat < 1060 * 4503599627370496
abbrev LBz : Prop := ∀ b : Int, 1 ≤ b → b ≤ 1000000 → FP.ddiv (FP.i2d (i32 0)) (FP.i2d (i32 b)) = dD 0
theorem FH_of (Ld : LBd) (Lm : LBm) (Lr : LBr) (Li : LBi) (Lc : LBc) (Ls : LBs) (Lp : LBp) (Lq : LBq) (Lz : LBz) : FH := by
  refine ⟨fun m h => nn_n (by rw [dD_n (by omega)]; omega), fun m k hm hk => cmp_n Lc hm hk, fun m h0 h1 => half_n Ld Lr Li (by omega) (by omega), fun m h0 h1 => dbl_n Lm Lr Li (by omega) (by omega), fun m h0 h1 => ?_, fun a b h0 h1 h2 h3 => ?_, fun b h0 h1 => Lz b h0 h1⟩
  · have s1 := Ls (dD m) (4607182418800017408 : UInt64) (by rw [dD_n (by omega)]; omega) (by
      show (4607182418800017408 : Nat) % 9223372036854775808 < 1024 * 4503599627370496
      omega)
    have s2 := Lp (FP.dsub (dD m) (4607182418800017408 : UInt64)) (4841369599423283200 : UInt64) s1 (by
      show (4841369599423283200 : Nat) % 9223372036854775808 < 1076 * 4503599627370496
      omega)
    exact ⟨nn_n (by omega), nn_n (by omega)⟩
  · obtain ⟨q0, q1⟩ := Lq a b h0 h1 h2 h3
    refine ⟨_, q0, q1, ?_⟩
    show _ = UInt64.ofNat _
    rw [UInt64.ofNat_toNat]
