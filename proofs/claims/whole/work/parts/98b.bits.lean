/-! the halves of a double: both, given what halving and doubling do -/
abbrev dD (m : Nat) : UInt64 := UInt64.ofNat m
def FH : Prop := (∀ m : Nat, m < 2046 * 4503599627370496 → nn64 (dD m)) ∧ (∀ m k : Nat, m < 2046 * 4503599627370496 → k < 2046 * 4503599627370496 → FP.dcmp (dD m) (dD k) = some (compare m k)) ∧ (∀ m : Nat, 4611686018427387904 ≤ m → m < 1060 * 4503599627370496 → FP.ddiv (dD m) (4611686018427387904 : UInt64) = dD (m - 4503599627370496)) ∧ (∀ m : Nat, 980 * 4503599627370496 ≤ m → m < 4607182418800017408 → FP.dmul (dD m) (4611686018427387904 : UInt64) = dD (m + 4503599627370496)) ∧ (∀ m : Nat, 4607182418800017408 ≤ m → m < 4611686018427387904 → nn64 (FP.dsub (dD m) (4607182418800017408 : UInt64)) ∧ nn64 (FP.dmul (FP.dsub (dD m) (4607182418800017408 : UInt64)) (4841369599423283200 : UInt64))) ∧ (∀ a b : Int, 1 ≤ a → a ≤ 2000000 → 1 ≤ b → b ≤ 1000000 → ∃ m : Nat, 989 * 4503599627370496 ≤ m ∧ m < 1060 * 4503599627370496 ∧ FP.ddiv (FP.i2d (i32 a)) (FP.i2d (i32 b)) = dD m) ∧ (∀ b : Int, 1 ≤ b → b ≤ 1000000 → FP.ddiv (FP.i2d (i32 0)) (FP.i2d (i32 b)) = dD 0)
def sA1 (N : Nat) : UInt64 × Int64 × Int32 → (UInt64 × Int64 × Int32 → Option Int64) → Option Int64 := (fun (s18 : UInt64 × Int64 × Int32) (k18 : (UInt64 × Int64 × Int32) → Option (Int64)) => jn (fun (s52 : Unit) => lpN (fun (s55 : UInt64 × Int64 × Int32) (k55 : (UInt64 × Int64 × Int32) → Option (Int64)) => jn (fun (s87 : Unit) => gd (nn64 (FP.dsub s55.1 (4607182418800017408 : UInt64))) (gd (nn64 (FP.dmul (FP.dsub s55.1 (4607182418800017408 : UInt64)) (4841369599423283200 : UInt64))) (some ((s55.2.1 <<< ((52 : Int32).toInt64 &&& 63)) + (FP.d2l (FP.dmul (FP.dsub s55.1 (4607182418800017408 : UInt64)) (4841369599423283200 : UInt64))))))) (fun (j87 : (Unit) → Option (Int64)) => (if (1022 : Int32) ≤ s55.2.2 then j87 () else (if 0 ≤ (Op.cmpValue (FP.dcmp s55.1 (4607182418800017408 : UInt64)) CmpOp.g) then j87 () else gd (nn64 (FP.dmul s55.1 (4611686018427387904 : UInt64))) (k55 ((FP.dmul s55.1 (4611686018427387904 : UInt64)), (s55.2.1 - (1 : Int64)), (s55.2.2 + (1 : Int32)))))))) N (s18.1, s18.2.1, (0 : Int32))) (fun (j52 : (Unit) → Option (Int64)) => (if (1023 : Int32) ≤ s18.2.2 then j52 () else (if (Op.cmpValue (FP.dcmp s18.1 (4611686018427387904 : UInt64)) CmpOp.l) < 0 then j52 () else gd (nn64 (FP.ddiv s18.1 (4611686018427387904 : UInt64))) (k18 ((FP.ddiv s18.1 (4611686018427387904 : UInt64)), (s18.2.1 + (1 : Int64)), (s18.2.2 + (1 : Int32))))))))
def sA2 (N : Nat) : UInt64 × Int64 × Int32 → (UInt64 × Int64 × Int32 → Option Int64) → Option Int64 := (fun (s55 : UInt64 × Int64 × Int32) (k55 : (UInt64 × Int64 × Int32) → Option (Int64)) => jn (fun (s87 : Unit) => gd (nn64 (FP.dsub s55.1 (4607182418800017408 : UInt64))) (gd (nn64 (FP.dmul (FP.dsub s55.1 (4607182418800017408 : UInt64)) (4841369599423283200 : UInt64))) (some ((s55.2.1 <<< ((52 : Int32).toInt64 &&& 63)) + (FP.d2l (FP.dmul (FP.dsub s55.1 (4607182418800017408 : UInt64)) (4841369599423283200 : UInt64))))))) (fun (j87 : (Unit) → Option (Int64)) => (if (1022 : Int32) ≤ s55.2.2 then j87 () else (if 0 ≤ (Op.cmpValue (FP.dcmp s55.1 (4607182418800017408 : UInt64)) CmpOp.g) then j87 () else gd (nn64 (FP.dmul s55.1 (4611686018427387904 : UInt64))) (k55 ((FP.dmul s55.1 (4611686018427387904 : UInt64)), (s55.2.1 - (1 : Int64)), (s55.2.2 + (1 : Int32))))))))
def sB1 (N : Nat) : UInt64 × Int64 → (UInt64 × Int64 → Option Int64) → Option Int64 := (fun (s15 : UInt64 × Int64) (k15 : (UInt64 × Int64) → Option (Int64)) => jn (fun (s38 : UInt64 × Int64) => lpN (fun (s38 : UInt64 × Int64) (k38 : (UInt64 × Int64) → Option (Int64)) => (if 0 ≤ (Op.cmpValue (FP.dcmp s38.1 (4607182418800017408 : UInt64)) CmpOp.g) then gd (nn64 (FP.dsub s38.1 (4607182418800017408 : UInt64))) (gd (nn64 (FP.dmul (FP.dsub s38.1 (4607182418800017408 : UInt64)) (4841369599423283200 : UInt64))) (some ((s38.2 <<< ((52 : Int32).toInt64 &&& 63)) + (FP.d2l (FP.dmul (FP.dsub s38.1 (4607182418800017408 : UInt64)) (4841369599423283200 : UInt64)))))) else gd (nn64 (FP.dmul s38.1 (4611686018427387904 : UInt64))) (k38 ((FP.dmul s38.1 (4611686018427387904 : UInt64)), (s38.2 - (1 : Int64)))))) N s38) (fun (j38 : (UInt64 × Int64) → Option (Int64)) => (if (Op.cmpValue (FP.dcmp s15.1 (4611686018427387904 : UInt64)) CmpOp.l) < 0 then j38 (s15.1, s15.2) else gd (nn64 (FP.ddiv s15.1 (4611686018427387904 : UInt64))) (k15 ((FP.ddiv s15.1 (4611686018427387904 : UInt64)), (s15.2 + (1 : Int64)))))))
def sB2 (N : Nat) : UInt64 × Int64 → (UInt64 × Int64 → Option Int64) → Option Int64 := (fun (s38 : UInt64 × Int64) (k38 : (UInt64 × Int64) → Option (Int64)) => (if 0 ≤ (Op.cmpValue (FP.dcmp s38.1 (4607182418800017408 : UInt64)) CmpOp.g) then gd (nn64 (FP.dsub s38.1 (4607182418800017408 : UInt64))) (gd (nn64 (FP.dmul (FP.dsub s38.1 (4607182418800017408 : UInt64)) (4841369599423283200 : UInt64))) (some ((s38.2 <<< ((52 : Int32).toInt64 &&& 63)) + (FP.d2l (FP.dmul (FP.dsub s38.1 (4607182418800017408 : UInt64)) (4841369599423283200 : UInt64)))))) else gd (nn64 (FP.dmul s38.1 (4611686018427387904 : UInt64))) (k38 ((FP.dmul s38.1 (4611686018427387904 : UInt64)), (s38.2 - (1 : Int64))))))
theorem bits5_st (N : Nat) (p : UInt64) : f_X5_bitsOf N p = (if 0 < (Op.cmpValue (FP.dcmp p (0 : UInt64)) CmpOp.l) then lpN (sA1 N) N (p, (1023 : Int64), (0 : Int32)) else some (0 : Int64)) := rfl
theorem bits6_st (N : Nat) (p : UInt64) : f_X6_bitsOf N p = (if (Op.cmpValue (FP.dcmp p (0 : UInt64)) CmpOp.l) = 0 then some (0 : Int64) else lpN (sB1 N) N (p, (1023 : Int64))) := rfl
section BITS
variable {N : Nat} {x : UInt64} {e : Int64} {cnt : Int32}
theorem A1_out {k : UInt64 × Int64 × Int32 → Option Int64} (c : Op.cmpValue (FP.dcmp x (4611686018427387904 : UInt64)) CmpOp.l < 0) : sA1 N (x, e, cnt) k = lpN (sA2 N) N (x, e, (0 : Int32)) := by
  show (if (1023 : Int32) ≤ cnt then lpN (sA2 N) N (x, e, (0 : Int32)) else (if (Op.cmpValue (FP.dcmp x (4611686018427387904 : UInt64)) CmpOp.l) < 0 then lpN (sA2 N) N (x, e, (0 : Int32)) else gd (nn64 (FP.ddiv x (4611686018427387904 : UInt64))) (k ((FP.ddiv x (4611686018427387904 : UInt64)), (e + (1 : Int64)), (cnt + (1 : Int32)))))) = _
  by_cases h : (1023 : Int32) ≤ cnt
  · rw [if_pos h]
  · rw [if_neg h, if_pos c]
theorem A1_go {k : UInt64 × Int64 × Int32 → Option Int64} (h : ¬ (1023 : Int32) ≤ cnt) (c : ¬ Op.cmpValue (FP.dcmp x (4611686018427387904 : UInt64)) CmpOp.l < 0) (n : nn64 (FP.ddiv x (4611686018427387904 : UInt64))) : sA1 N (x, e, cnt) k = k ((FP.ddiv x (4611686018427387904 : UInt64)), (e + (1 : Int64)), (cnt + (1 : Int32))) := by
  show (if (1023 : Int32) ≤ cnt then lpN (sA2 N) N (x, e, (0 : Int32)) else (if (Op.cmpValue (FP.dcmp x (4611686018427387904 : UInt64)) CmpOp.l) < 0 then lpN (sA2 N) N (x, e, (0 : Int32)) else gd (nn64 (FP.ddiv x (4611686018427387904 : UInt64))) (k ((FP.ddiv x (4611686018427387904 : UInt64)), (e + (1 : Int64)), (cnt + (1 : Int32)))))) = _
  rw [if_neg h, if_neg c, gd_pos n]
theorem B1_out {k : UInt64 × Int64 → Option Int64} (c : Op.cmpValue (FP.dcmp x (4611686018427387904 : UInt64)) CmpOp.l < 0) : sB1 N (x, e) k = lpN (sB2 N) N (x, e) := if_pos c
theorem B1_go {k : UInt64 × Int64 → Option Int64} (c : ¬ Op.cmpValue (FP.dcmp x (4611686018427387904 : UInt64)) CmpOp.l < 0) (n : nn64 (FP.ddiv x (4611686018427387904 : UInt64))) : sB1 N (x, e) k = k ((FP.ddiv x (4611686018427387904 : UInt64)), (e + (1 : Int64))) := (if_neg c).trans (gd_pos n)
abbrev fin64 (x : UInt64) (e : Int64) : Int64 := (e <<< ((52 : Int32).toInt64 &&& 63)) + (FP.d2l (FP.dmul (FP.dsub x (4607182418800017408 : UInt64)) (4841369599423283200 : UInt64)))
theorem A2_out {k : UInt64 × Int64 × Int32 → Option Int64} (c : 0 ≤ Op.cmpValue (FP.dcmp x (4607182418800017408 : UInt64)) CmpOp.g) (n1 : nn64 (FP.dsub x (4607182418800017408 : UInt64))) (n2 : nn64 (FP.dmul (FP.dsub x (4607182418800017408 : UInt64)) (4841369599423283200 : UInt64))) : sA2 N (x, e, cnt) k = some (fin64 x e) := by
  show (if (1022 : Int32) ≤ cnt then gd (nn64 (FP.dsub x (4607182418800017408 : UInt64))) (gd (nn64 (FP.dmul (FP.dsub x (4607182418800017408 : UInt64)) (4841369599423283200 : UInt64))) (some (fin64 x e))) else (if 0 ≤ Op.cmpValue (FP.dcmp x (4607182418800017408 : UInt64)) CmpOp.g then gd (nn64 (FP.dsub x (4607182418800017408 : UInt64))) (gd (nn64 (FP.dmul (FP.dsub x (4607182418800017408 : UInt64)) (4841369599423283200 : UInt64))) (some (fin64 x e))) else gd (nn64 (FP.dmul x (4611686018427387904 : UInt64))) (k ((FP.dmul x (4611686018427387904 : UInt64)), (e - (1 : Int64)), (cnt + (1 : Int32)))))) = _
  by_cases h : (1022 : Int32) ≤ cnt
  · rw [if_pos h, gd_pos n1, gd_pos n2]
  · rw [if_neg h, if_pos c, gd_pos n1, gd_pos n2]
theorem A2_go {k : UInt64 × Int64 × Int32 → Option Int64} (h : ¬ (1022 : Int32) ≤ cnt) (c : ¬ 0 ≤ Op.cmpValue (FP.dcmp x (4607182418800017408 : UInt64)) CmpOp.g) (n : nn64 (FP.dmul x (4611686018427387904 : UInt64))) : sA2 N (x, e, cnt) k = k ((FP.dmul x (4611686018427387904 : UInt64)), (e - (1 : Int64)), (cnt + (1 : Int32))) := by
  show (if (1022 : Int32) ≤ cnt then gd (nn64 (FP.dsub x (4607182418800017408 : UInt64))) (gd (nn64 (FP.dmul (FP.dsub x (4607182418800017408 : UInt64)) (4841369599423283200 : UInt64))) (some (fin64 x e))) else (if 0 ≤ Op.cmpValue (FP.dcmp x (4607182418800017408 : UInt64)) CmpOp.g then gd (nn64 (FP.dsub x (4607182418800017408 : UInt64))) (gd (nn64 (FP.dmul (FP.dsub x (4607182418800017408 : UInt64)) (4841369599423283200 : UInt64))) (some (fin64 x e))) else gd (nn64 (FP.dmul x (4611686018427387904 : UInt64))) (k ((FP.dmul x (4611686018427387904 : UInt64)), (e - (1 : Int64)), (cnt + (1 : Int32)))))) = _
  rw [if_neg h, if_neg c, gd_pos n]
theorem B2_out {k : UInt64 × Int64 → Option Int64} (c : 0 ≤ Op.cmpValue (FP.dcmp x (4607182418800017408 : UInt64)) CmpOp.g) (n1 : nn64 (FP.dsub x (4607182418800017408 : UInt64))) (n2 : nn64 (FP.dmul (FP.dsub x (4607182418800017408 : UInt64)) (4841369599423283200 : UInt64))) : sB2 N (x, e) k = some (fin64 x e) := (if_pos c).trans ((gd_pos n1).trans (gd_pos n2))
theorem B2_go {k : UInt64 × Int64 → Option Int64} (c : ¬ 0 ≤ Op.cmpValue (FP.dcmp x (4607182418800017408 : UInt64)) CmpOp.g) (n : nn64 (FP.dmul x (4611686018427387904 : UInt64))) : sB2 N (x, e) k = k ((FP.dmul x (4611686018427387904 : UInt64)), (e - (1 : Int64))) := (if_neg c).trans (gd_pos n)
end BITS
theorem cm_lt {m k : Nat} {op : CmpOp} (F : FH) (hm : m < 2046 * 4503599627370496) (hk : k < 2046 * 4503599627370496) (h : m < k) : Op.cmpValue (FP.dcmp (dD m) (dD k)) op = -1 := by
  rw [F.2.1 m k hm hk, Nat.compare_eq_lt.mpr h]
  cases op <;> rfl
theorem cm_sm {m : Nat} {op : CmpOp} (F : FH) (hm : m < 2046 * 4503599627370496) : Op.cmpValue (FP.dcmp (dD m) (dD m)) op = 0 := by
  rw [F.2.1 m m hm hm, Nat.compare_eq_eq.mpr rfl]
  cases op <;> rfl
theorem cm_gt {m k : Nat} {op : CmpOp} (F : FH) (hm : m < 2046 * 4503599627370496) (hk : k < 2046 * 4503599627370496) (h : k < m) : Op.cmpValue (FP.dcmp (dD m) (dD k)) op = 1 := by
  rw [F.2.1 m k hm hk, Nat.compare_eq_gt.mpr h]
  cases op <;> rfl
theorem cm_ge {m k : Nat} {op : CmpOp} (F : FH) (hm : m < 2046 * 4503599627370496) (hk : k < 2046 * 4503599627370496) (h : k ≤ m) : ¬ Op.cmpValue (FP.dcmp (dD m) (dD k)) op < 0 ∧ 0 ≤ Op.cmpValue (FP.dcmp (dD m) (dD k)) op := by
  by_cases e : k = m
  · subst e
    rw [cm_sm F hm]
    decide
  · rw [cm_gt F hm hk (by omega)]
    decide
theorem lock1 {N : Nat} (F : FH) : ∀ (t M m : Nat) (e : Int64) (cnt : Int), 989 * 4503599627370496 ≤ m → m < 4611686018427387904 + t * 4503599627370496 → t ≤ 36 → t < M → 0 ≤ cnt → cnt + t ≤ 100 → ∃ (m' : Nat) (e' : Int64), lpN (sA1 N) M (dD m, e, i32 cnt) = lpN (sA2 N) N (dD m', e', (0 : Int32)) ∧ lpN (sB1 N) M (dD m, e) = lpN (sB2 N) N (dD m', e') ∧ 989 * 4503599627370496 ≤ m' ∧ m' < 4611686018427387904 := by
  intro t
  induction t with
  | zero =>
    intro M m e cnt h0 h1 _ hM _ _
    obtain ⟨M, rfl⟩ : ∃ x, M = x + 1 := ⟨M - 1, by omega⟩
    have c : Op.cmpValue (FP.dcmp (dD m) (4611686018427387904 : UInt64)) CmpOp.l = -1 := cm_lt (k := 4611686018427387904) F (by omega) (by omega) (by omega)
    exact ⟨m, e, by rw [lpN_s1, A1_out (by rw [c]; decide)], by rw [lpN_s1, B1_out (by rw [c]; decide)], h0, by omega⟩
  | succ t ih =>
    intro M m e cnt h0 h1 ht hM hc hct
    obtain ⟨M, rfl⟩ : ∃ x, M = x + 1 := ⟨M - 1, by omega⟩
    by_cases d : m < 4611686018427387904
    · have c : Op.cmpValue (FP.dcmp (dD m) (4611686018427387904 : UInt64)) CmpOp.l = -1 := cm_lt (k := 4611686018427387904) F (by omega) (by omega) (by omega)
      exact ⟨m, e, by rw [lpN_s1, A1_out (by rw [c]; decide)], by rw [lpN_s1, B1_out (by rw [c]; decide)], h0, by omega⟩
    · have c : ¬ Op.cmpValue (FP.dcmp (dD m) (4611686018427387904 : UInt64)) CmpOp.l < 0 := (cm_ge (k := 4611686018427387904) F (by omega) (by omega) (by omega)).1
      have hv := F.2.2.1 m (by omega) (by omega)
      have nn := F.1 (m - 4503599627370496) (by omega)
      have c2 : ¬ (1023 : Int32) ≤ i32 cnt := by
        rw [show (1023 : Int32) = i32 1023 from rfl, i32_le (by omega) (by omega) (by omega) (by omega)]
        omega
      rw [lpN_s1, A1_go c2 c (by rw [hv]; exact nn), hv, lpN_s1, B1_go c (by rw [hv]; exact nn), hv, show i32 cnt + (1 : Int32) = i32 (cnt + 1) from by rw [l32_1, i32_add]]
      exact ih M (m - 4503599627370496) (e + 1) (cnt + 1) (by omega) (by omega) (by omega) (by omega) (by omega) (by omega)
theorem lock2 {N : Nat} (F : FH) : ∀ (t M m : Nat) (e : Int64) (cnt : Int), 989 * 4503599627370496 ≤ m → 4607182418800017408 ≤ m + t * 4503599627370496 → m < 4611686018427387904 → t ≤ 36 → t < M → 0 ≤ cnt → cnt + t ≤ 100 → ∃ r, lpN (sA2 N) M (dD m, e, i32 cnt) = some r ∧ lpN (sB2 N) M (dD m, e) = some r := by
  intro t
  induction t with
  | zero =>
    intro M m e cnt h0 h1 h2 _ hM _ _
    obtain ⟨M, rfl⟩ : ∃ x, M = x + 1 := ⟨M - 1, by omega⟩
    have c : 0 ≤ Op.cmpValue (FP.dcmp (dD m) (4607182418800017408 : UInt64)) CmpOp.g := (cm_ge (k := 4607182418800017408) F (by omega) (by omega) (by omega)).2
    obtain ⟨n1, n2⟩ := F.2.2.2.2.1 m (by omega) h2
    exact ⟨_, by rw [lpN_s1, A2_out c n1 n2], by rw [lpN_s1, B2_out c n1 n2]⟩
  | succ t ih =>
    intro M m e cnt h0 h1 h2 ht hM hc hct
    obtain ⟨M, rfl⟩ : ∃ x, M = x + 1 := ⟨M - 1, by omega⟩
    by_cases d : 4607182418800017408 ≤ m
    · have c : 0 ≤ Op.cmpValue (FP.dcmp (dD m) (4607182418800017408 : UInt64)) CmpOp.g := (cm_ge (k := 4607182418800017408) F (by omega) (by omega) (by omega)).2
      obtain ⟨n1, n2⟩ := F.2.2.2.2.1 m d h2
      exact ⟨_, by rw [lpN_s1, A2_out c n1 n2], by rw [lpN_s1, B2_out c n1 n2]⟩
    · have c0 : Op.cmpValue (FP.dcmp (dD m) (4607182418800017408 : UInt64)) CmpOp.g = -1 := cm_lt (k := 4607182418800017408) F (by omega) (by omega) (by omega)
      have c : ¬ 0 ≤ Op.cmpValue (FP.dcmp (dD m) (4607182418800017408 : UInt64)) CmpOp.g := by
        rw [c0]
        decide
      have hv := F.2.2.2.1 m (by omega) (by omega)
      have nn := F.1 (m + 4503599627370496) (by omega)
      have c2 : ¬ (1022 : Int32) ≤ i32 cnt := by
        rw [show (1022 : Int32) = i32 1022 from rfl, i32_le (by omega) (by omega) (by omega) (by omega)]
        omega
      rw [lpN_s1, A2_go c2 c (by rw [hv]; exact nn), hv, lpN_s1, B2_go c (by rw [hv]; exact nn), hv, show i32 cnt + (1 : Int32) = i32 (cnt + 1) from by rw [l32_1, i32_add]]
      exact ih M (m + 4503599627370496) (e - 1) (cnt + 1) (by omega) (by omega) (by omega) (by omega) (by omega) (by omega) (by omega)
theorem FF_of (F : FH) : FF 2000 := by
  have z0 : Op.cmpValue (FP.dcmp (0 : UInt64) (0 : UInt64)) CmpOp.l = 0 := cm_sm (m := 0) F (by omega)
  have b5 : f_X5_bitsOf 2000 (0 : UInt64) = some 0 := by
    rw [bits5_st, z0]
    rfl
  have b6 : f_X6_bitsOf 2000 (0 : UInt64) = some 0 := by
    rw [bits6_st, z0]
    rfl
  refine ⟨⟨0, b5, b6⟩, z0, fun a b h0 h1 h2 h3 => ?_⟩
  by_cases c : a = 0
  · rw [c, F.2.2.2.2.2.2 b h2 h3]
    exact ⟨F.1 0 (by omega), z0, 0, b5, b6⟩
  · obtain ⟨m, k0, k1, k2⟩ := F.2.2.2.2.2.1 a b (by omega) h1 h2 h3
    rw [k2]
    have g : Op.cmpValue (FP.dcmp (dD m) (0 : UInt64)) CmpOp.l = 1 := cm_gt (k := 0) F (by omega) (by omega) (by omega)
    obtain ⟨m', e', l1, l2, l3, l4⟩ := lock1 (N := 2000) F 36 2000 m 1023 0 k0 (by omega) (by omega) (by omega) (by omega) (by omega)
    obtain ⟨r, q1, q2⟩ := lock2 (N := 2000) F 34 2000 m' e' 0 l3 (by omega) l4 (by omega) (by omega) (by omega) (by omega)
    refine ⟨F.1 m (by omega), cm_sm F (by omega), r, ?_, ?_⟩
    · rw [bits5_st, g, if_pos (by decide)]
      exact l1.trans q1
    · rw [bits6_st, g, if_neg (by decide)]
      exact l2.trans q2
