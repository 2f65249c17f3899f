/-! numbers: ints of 32 bits told by whole numbers; rows; loops -/
def i32 (z : Int) : Int32 := Int32.ofInt z
def RZ (s : Int → Int) : Nat → Int32 := fun k => i32 (s k)
def up (s : Int → Int) (a z : Int) : Int → Int := fun j => if j = a then z else s j
theorem i32_toInt {z : Int} (h1 : -2147483648 ≤ z) (h2 : z < 2147483648) : (i32 z).toInt = z := by
  unfold i32
  rw [Int32.toInt_ofInt]
  show z.bmod 4294967296 = z
  rw [Int.bmod_def]
  omega
theorem i32_of (x : Int32) : i32 x.toInt = x := by
  unfold i32
  exact Int32.ofInt_toInt x
theorem i32_ofNat (n : Nat) : Int32.ofNat n = i32 n := by
  unfold i32
  exact (Int32.ofInt_eq_ofNat).symm
theorem i32_add (a b : Int) : i32 a + i32 b = i32 (a + b) := (Int32.ofInt_add a b).symm
theorem i32_sub (a b : Int) : i32 a - i32 b = i32 (a - b) := (Int32.ofInt_sub a b).symm
theorem i32_mul (a b : Int) : i32 a * i32 b = i32 (a * b) := (Int32.ofInt_mul a b).symm
theorem i32_neg (a : Int) : -(i32 a) = i32 (-a) := (Int32.ofInt_neg a).symm
theorem i32_lt {a b : Int} (h1 : -2147483648 ≤ a) (h2 : a < 2147483648) (h3 : -2147483648 ≤ b) (h4 : b < 2147483648) : (i32 a < i32 b) = (a < b) := by
  rw [Int32.lt_iff_toInt_lt, i32_toInt h1 h2, i32_toInt h3 h4]
theorem i32_le {a b : Int} (h1 : -2147483648 ≤ a) (h2 : a < 2147483648) (h3 : -2147483648 ≤ b) (h4 : b < 2147483648) : (i32 a ≤ i32 b) = (a ≤ b) := by
  rw [Int32.le_iff_toInt_le, i32_toInt h1 h2, i32_toInt h3 h4]
theorem i32_eq {a b : Int} (h1 : -2147483648 ≤ a) (h2 : a < 2147483648) (h3 : -2147483648 ≤ b) (h4 : b < 2147483648) : (i32 a = i32 b) = (a = b) := by
  rw [← Int32.toInt_inj, i32_toInt h1 h2, i32_toInt h3 h4]
theorem i32_div {a b : Int} (h1 : 0 ≤ a) (h2 : a < 2147483648) (h3 : 0 < b) (h4 : b < 2147483648) : i32 a / i32 b = i32 (a / b) := by
  have hq : (a / b) ≤ a := Int.ediv_le_self _ h1
  have hq0 : 0 ≤ a / b := Int.ediv_nonneg h1 (by omega)
  apply Int32.toInt_inj.mp
  rw [Int32.toInt_div, i32_toInt (by omega) h2, i32_toInt (by omega) h4, i32_toInt (by omega) (by omega), Int.tdiv_eq_ediv_of_nonneg h1, Int.bmod_def]
  omega
theorem i32_nat {a : Int} (h1 : -2147483648 ≤ a) (h2 : a < 2147483648) : (i32 a).toNatClampNeg = a.toNat := by
  show (i32 a).toInt.toNat = a.toNat
  rw [i32_toInt h1 h2]
theorem i32_ix {a : Int} {n : Nat} (h1 : 0 ≤ a) (h2 : a < n) (hn : n ≤ 100000) : ixok (i32 a) n := by
  intro h
  rw [show (0 : Int32) = i32 0 from rfl, i32_lt (by omega) (by omega) (by omega) (by omega), i32_nat (by omega) (by omega)] at h
  omega
theorem RZ_at {s : Int → Int} {a : Int} (h : 0 ≤ a) : RZ s a.toNat = i32 (s a) := by
  unfold RZ
  rw [Int.toNat_of_nonneg h]
theorem upd_RZ {s : Int → Int} {a z : Int} (h : 0 ≤ a) : upd (RZ s) a.toNat (i32 z) = RZ (up s a z) := by
  funext j
  unfold upd RZ up
  by_cases hj : j = a.toNat
  · rw [if_pos hj, if_pos (by omega)]
  · rw [if_neg hj, if_neg (by omega)]
theorem RZ_of (f : Nat → Int32) : ∃ s : Int → Int, f = RZ s := ⟨fun k => (f k.toNat).toInt, by
  funext k
  show f k = i32 (f ((k : Int)).toNat).toInt
  rw [Int.toNat_natCast, i32_of]⟩
/-- a row that is all alike -/
theorem RZ_const (z : Int) : (fun _ => i32 z) = RZ (fun _ => z) := rfl
theorem up_self (s : Int → Int) (a z : Int) : up s a z a = z := if_pos rfl
theorem up_ne {s : Int → Int} {a b z : Int} (h : b ≠ a) : up s a z b = s b := if_neg h
-- loops
theorem lp_for {σ ρ : Type} {step : σ → (σ → Option ρ) → Option ρ} (f : Nat → σ) (o : Option ρ) : ∀ (n N i : Nat), n < N → (∀ j, i ≤ j → j < i + n → ∀ k, step (f j) k = k (f (j + 1))) → (∀ k, step (f (i + n)) k = o) → lpN step N (f i) = o
  | 0, N, i, hN, _, he => by
    obtain ⟨M, rfl⟩ : ∃ M, N = M + 1 := ⟨N - 1, by omega⟩
    exact he _
  | n + 1, N, i, hN, h, he => by
    obtain ⟨M, rfl⟩ : ∃ M, N = M + 1 := ⟨N - 1, by omega⟩
    show step (f i) (lpN step M) = o
    rw [h i (Nat.le_refl _) (by omega)]
    exact lp_for f o n M (i + 1) (by omega) (fun j h1 h2 k => h j (by omega) (by omega) k) (fun k => by rw [show i + 1 + n = i + (n + 1) by omega]; exact he k)
/-- a search: the first that is met ends it -/
theorem lp_srch {σ ρ : Type} {step : σ → (σ → Option ρ) → Option ρ} (f : Nat → σ) (c : Nat → Prop) (o : Nat → Option ρ) : ∀ (n N i : Nat), n < N → (∀ j, i ≤ j → j < i + n → ∀ k, (c j → step (f j) k = o j) ∧ (¬ c j → step (f j) k = k (f (j + 1)))) → (∀ k, step (f (i + n)) k = o (i + n)) → ∃ m, i ≤ m ∧ m ≤ i + n ∧ (∀ j, i ≤ j → j < m → ¬ c j) ∧ (m < i + n → c m) ∧ lpN step N (f i) = o m
  | 0, N, i, hN, _, he => by
    obtain ⟨M, rfl⟩ : ∃ M, N = M + 1 := ⟨N - 1, by omega⟩
    exact ⟨i, Nat.le_refl _, Nat.le_refl _, fun j h1 h2 => by omega, fun h => by omega, he _⟩
  | n + 1, N, i, hN, h, he => by
    obtain ⟨M, rfl⟩ : ∃ M, N = M + 1 := ⟨N - 1, by omega⟩
    by_cases hc : c i
    · exact ⟨i, Nat.le_refl _, by omega, fun j h1 h2 => by omega, fun _ => hc, (h i (Nat.le_refl _) (by omega) _).1 hc⟩
    · obtain ⟨m, h1, h2, h3, h4, h5⟩ := lp_srch (step := step) f c o n M (i + 1) (by omega) (fun j h1 h2 k => h j (by omega) (by omega) k) (fun k => by rw [show i + 1 + n = i + (n + 1) by omega]; exact he k)
      refine ⟨m, by omega, by omega, fun j q1 q2 => ?_, fun q => h4 (by omega), ?_⟩
      · by_cases hj : j = i
        · rw [hj]; exact hc
        · exact h3 j (by omega) q2
      · show step (f i) (lpN step M) = o m
        rw [(h i (Nat.le_refl _) (by omega) _).2 hc]
        exact h5
theorem lp_for0 {σ ρ : Type} {step : σ → (σ → Option ρ) → Option ρ} (f : Nat → σ) {o : Option ρ} (n N : Nat) {s0 : σ} (hi : s0 = f 0) (hN : n < N) (h : ∀ j < n, ∀ k, step (f j) k = k (f (j + 1))) (he : ∀ k, step (f n) k = o) : lpN step N s0 = o := by
  rw [hi]
  exact lp_for f o n N 0 hN (fun j _ h2 k => h j (by omega) k) (fun k => by rw [Nat.zero_add]; exact he k)
theorem lp_srch0 {σ ρ : Type} {step : σ → (σ → Option ρ) → Option ρ} (f : Nat → σ) (c : Nat → Prop) (o : Nat → Option ρ) (n N : Nat) {s0 : σ} (hi : s0 = f 0) (hN : n < N) (h : ∀ j < n, ∀ k, (c j → step (f j) k = o j) ∧ (¬ c j → step (f j) k = k (f (j + 1)))) (he : ∀ k, step (f n) k = o n) : ∃ m ≤ n, (∀ j < m, ¬ c j) ∧ (m < n → c m) ∧ lpN step N s0 = o m := by
  rw [hi]
  obtain ⟨m, -, h2, h3, h4, h5⟩ := lp_srch (step := step) f c o n N 0 hN (fun j _ h2 k => h j (by omega) k) (fun k => by rw [Nat.zero_add]; exact he k)
  exact ⟨m, by omega, fun j hj => h3 j (by omega) hj, fun hm => h4 (by omega), h5⟩
section IFS
variable {α : Type} {a b : Int} {x y : α}
theorem ilt_p (h : a < b) (h1 : -2147483648 ≤ a) (h4 : b < 2147483648) : (if i32 a < i32 b then x else y) = x := if_pos (by rw [i32_lt (by omega) (by omega) (by omega) (by omega)]; exact h)
theorem ilt_n (h : ¬ a < b) (h1 : a < 2147483648) (h4 : -2147483648 ≤ b) : (if i32 a < i32 b then x else y) = y := if_neg (by rw [i32_lt (by omega) (by omega) (by omega) (by omega)]; exact h)
theorem ile_p (h : a ≤ b) (h1 : -2147483648 ≤ a) (h4 : b < 2147483648) : (if i32 a ≤ i32 b then x else y) = x := if_pos (by rw [i32_le (by omega) (by omega) (by omega) (by omega)]; exact h)
theorem ile_n (h : ¬ a ≤ b) (h1 : a < 2147483648) (h4 : -2147483648 ≤ b) : (if i32 a ≤ i32 b then x else y) = y := if_neg (by rw [i32_le (by omega) (by omega) (by omega) (by omega)]; exact h)
theorem ieq_p (h : a = b) : (if i32 a = i32 b then x else y) = x := if_pos (by rw [h])
theorem ieq_n (h : ¬ a = b) (h1 : -2147483648 ≤ a) (h2 : a < 2147483648) (h3 : -2147483648 ≤ b) (h4 : b < 2147483648) : (if i32 a = i32 b then x else y) = y := if_neg (by rw [i32_eq h1 h2 h3 h4]; exact h)
end IFS
theorem gd_ix {ρ : Type} {a : Int} {n : Nat} {x : Option ρ} (h1 : 0 ≤ a) (h2 : a < n) (h3 : n ≤ 100000) : gd (ixok (i32 a) n) x = x := gd_pos (i32_ix h1 h2 h3)
/-- the row s with the places from a up to b written anew by f -/
def wr (a b : Int) (f s : Int → Int) : Int → Int := fun j => if a ≤ j ∧ j < b then f j else s j
theorem wr_nil (a : Int) (f s : Int → Int) : wr a a f s = s := funext fun j => if_neg (by omega)
theorem wr_succ {a b : Int} (f s : Int → Int) (h : a ≤ b) : up (wr a b f s) b (f b) = wr a (b + 1) f s := by
  funext q
  unfold up wr
  by_cases hq : q = b
  · rw [if_pos hq, if_pos (by omega), hq]
  · rw [if_neg hq]
    by_cases hq2 : a ≤ q ∧ q < b
    · rw [if_pos hq2, if_pos (by omega)]
    · rw [if_neg hq2, if_neg (by omega)]
theorem wr_in {a b j : Int} {f s : Int → Int} (h1 : a ≤ j) (h2 : j < b) : wr a b f s j = f j := if_pos ⟨h1, h2⟩
theorem wr_out {a b j : Int} {f s : Int → Int} (h : ¬ (a ≤ j ∧ j < b)) : wr a b f s j = s j := if_neg h
theorem nc0 : ((0 : Nat) : Int) = 0 := rfl
theorem ncS (n : Nat) : ((n + 1 : Nat) : Int) = (n : Int) + 1 := rfl
/-- 1 where P holds, else 0 -/
noncomputable def b2i (P : Prop) : Int := by
  classical
  exact if P then 1 else 0
theorem b2i_p {P : Prop} (h : P) : b2i P = 1 := by unfold b2i; exact if_pos h
theorem b2i_n {P : Prop} (h : ¬ P) : b2i P = 0 := by unfold b2i; exact if_neg h
theorem b2i_01 (P : Prop) : b2i P = 0 ∨ b2i P = 1 := by
  by_cases h : P
  · exact Or.inr (b2i_p h)
  · exact Or.inl (b2i_n h)
theorem b2i_congr {P Q : Prop} (h : P ↔ Q) : b2i P = b2i Q := by rw [propext h]
theorem i32_divn {a b : Int} (h1 : -2147483648 < a) (h2 : a < 0) (h3 : 0 < b) (h4 : b < 2147483648) : i32 a / i32 b = i32 (-((-a) / b)) := by
  have hq : (-a) / b ≤ -a := Int.ediv_le_self _ (by omega)
  have hq0 : 0 ≤ (-a) / b := Int.ediv_nonneg (by omega) (by omega)
  apply Int32.toInt_inj.mp
  rw [Int32.toInt_div, i32_toInt (by omega) (by omega), i32_toInt (by omega) h4, i32_toInt (by omega) (by omega)]
  have : a.tdiv b = -((-a) / b) := by
    rw [← Int.tdiv_eq_ediv_of_nonneg (by omega : 0 ≤ -a), Int.neg_tdiv, Int.neg_neg]
  rw [this, Int.bmod_def]
  omega
theorem lp_srchE {σ ρ : Type} {step : σ → (σ → Option ρ) → Option ρ} (f : Nat → σ) (c : Nat → Prop) (o : Nat → Option ρ) (n N : Nat) {s0 : σ} {r : Option ρ} (hi : s0 = f 0) (hN : n < N) (h : ∀ j < n, ∀ k, (c j → step (f j) k = o j) ∧ (¬ c j → step (f j) k = k (f (j + 1)))) (he : ∀ k, step (f n) k = o n) (hr : ∀ m ≤ n, (∀ j < m, ¬ c j) → (m < n → c m) → o m = r) : lpN step N s0 = r := by
  obtain ⟨m, h1, h2, h3, h4⟩ := lp_srch0 f c o n N hi hN h he
  rw [h4]
  exact hr m h1 h2 h3
theorem itT {α : Type} {x y : α} {h : Decidable True} : @ite α True h x y = x := if_pos trivial
theorem itF {α : Type} {x y : α} {h : Decidable False} : @ite α False h x y = y := if_neg (fun h => h)
/-- the first place below n where c holds; n for none -/
abbrev isFst (c : Int → Prop) (n m : Nat) : Prop := m ≤ n ∧ (∀ j : Int, 0 ≤ j → j < m → ¬ c j) ∧ (m < n → c m)
theorem lp_srchX {σ ρ : Type} {step : σ → (σ → Option ρ) → Option ρ} (f : Nat → σ) (c : Int → Prop) (o : Nat → Option ρ) (n N : Nat) {s0 : σ} (hi : s0 = f 0) (hN : n < N) (h : ∀ j : Nat, j < n → ∀ k, (c j → step (f j) k = o j) ∧ (¬ c j → step (f j) k = k (f (j + 1)))) (he : ∀ k, step (f n) k = o n) : ∃ m : Nat, isFst c n m ∧ lpN step N s0 = o m := by
  obtain ⟨m, h1, h2, h3, h4⟩ := lp_srch0 f (fun j => c j) o n N hi hN h he
  refine ⟨m, ⟨h1, fun j a b q => h2 j.toNat (by omega) ?_, h3⟩, h4⟩
  rw [Int.toNat_of_nonneg a]
  exact q
theorem fst_uniq {c c' : Int → Prop} {n m m' : Nat} (hc : ∀ j : Int, 0 ≤ j → j < n → (c j ↔ c' j)) (h : isFst c n m) (h' : isFst c' n m') : m = m' := by
  rcases Nat.lt_trichotomy m m' with q | q | q
  · exact absurd ((hc m (by omega) (by have := h'.1; omega)).mp (h.2.2 (by have := h'.1; omega))) (h'.2.1 m (by omega) (by omega))
  · exact q
  · exact absurd ((hc m' (by omega) (by have := h.1; omega)).mpr (h'.2.2 (by have := h.1; omega))) (h.2.1 m' (by omega) (by omega))
theorem l32_0 : (0 : Int32) = i32 0 := by decide
theorem l32_1 : (1 : Int32) = i32 1 := by decide
theorem l32_2 : (2 : Int32) = i32 2 := by decide
theorem l32_3 : (3 : Int32) = i32 3 := by decide
theorem l32_4 : (4 : Int32) = i32 4 := by decide
theorem l32_5 : (5 : Int32) = i32 5 := by decide
theorem l32_6 : (6 : Int32) = i32 6 := by decide
theorem l32_7 : (7 : Int32) = i32 7 := by decide
theorem l32_8 : (8 : Int32) = i32 8 := by decide
theorem l32_9 : (9 : Int32) = i32 9 := by decide
theorem l32_10 : (10 : Int32) = i32 10 := by decide
theorem l32_11 : (11 : Int32) = i32 11 := by decide
theorem l32_12 : (12 : Int32) = i32 12 := by decide
theorem l32_13 : (13 : Int32) = i32 13 := by decide
theorem l32_14 : (14 : Int32) = i32 14 := by decide
theorem l32_15 : (15 : Int32) = i32 15 := by decide
theorem l32_16 : (16 : Int32) = i32 16 := by decide
theorem l32_17 : (17 : Int32) = i32 17 := by decide
theorem l32_18 : (18 : Int32) = i32 18 := by decide
theorem l32_19 : (19 : Int32) = i32 19 := by decide
theorem l32_20 : (20 : Int32) = i32 20 := by decide
theorem l32_21 : (21 : Int32) = i32 21 := by decide
theorem l32_22 : (22 : Int32) = i32 22 := by decide
theorem l32_23 : (23 : Int32) = i32 23 := by decide
theorem l32_24 : (24 : Int32) = i32 24 := by decide
theorem l32_25 : (25 : Int32) = i32 25 := by decide
theorem l32_26 : (26 : Int32) = i32 26 := by decide
theorem l32_27 : (27 : Int32) = i32 27 := by decide
theorem l32_28 : (28 : Int32) = i32 28 := by decide
theorem l32_29 : (29 : Int32) = i32 29 := by decide
theorem l32_30 : (30 : Int32) = i32 30 := by decide
theorem l32_31 : (31 : Int32) = i32 31 := by decide
theorem l32_32 : (32 : Int32) = i32 32 := by decide
theorem l32_33 : (33 : Int32) = i32 33 := by decide
theorem l32_34 : (34 : Int32) = i32 34 := by decide
theorem l32_35 : (35 : Int32) = i32 35 := by decide
theorem l32_36 : (36 : Int32) = i32 36 := by decide
theorem l32_37 : (37 : Int32) = i32 37 := by decide
theorem l32_38 : (38 : Int32) = i32 38 := by decide
theorem l32_39 : (39 : Int32) = i32 39 := by decide
theorem l32_40 : (40 : Int32) = i32 40 := by decide
theorem l32_41 : (41 : Int32) = i32 41 := by decide
theorem l32_42 : (42 : Int32) = i32 42 := by decide
theorem l32_43 : (43 : Int32) = i32 43 := by decide
theorem l32_44 : (44 : Int32) = i32 44 := by decide
theorem l32_45 : (45 : Int32) = i32 45 := by decide
theorem l32_46 : (46 : Int32) = i32 46 := by decide
theorem l32_47 : (47 : Int32) = i32 47 := by decide
theorem l32_48 : (48 : Int32) = i32 48 := by decide
theorem l32_49 : (49 : Int32) = i32 49 := by decide
theorem l32_50 : (50 : Int32) = i32 50 := by decide
theorem l32_51 : (51 : Int32) = i32 51 := by decide
theorem l32_52 : (52 : Int32) = i32 52 := by decide
theorem l32_53 : (53 : Int32) = i32 53 := by decide
theorem l32_54 : (54 : Int32) = i32 54 := by decide
theorem l32_55 : (55 : Int32) = i32 55 := by decide
theorem l32_56 : (56 : Int32) = i32 56 := by decide
theorem l32_57 : (57 : Int32) = i32 57 := by decide
theorem l32_58 : (58 : Int32) = i32 58 := by decide
theorem l32_59 : (59 : Int32) = i32 59 := by decide
theorem l32_60 : (60 : Int32) = i32 60 := by decide
theorem l32_61 : (61 : Int32) = i32 61 := by decide
theorem l32_62 : (62 : Int32) = i32 62 := by decide
theorem l32_63 : (63 : Int32) = i32 63 := by decide
theorem l32_64 : (64 : Int32) = i32 64 := by decide
theorem l32_65 : (65 : Int32) = i32 65 := by decide
theorem l32_66 : (66 : Int32) = i32 66 := by decide
theorem l32_67 : (67 : Int32) = i32 67 := by decide
theorem l32_68 : (68 : Int32) = i32 68 := by decide
theorem l32_69 : (69 : Int32) = i32 69 := by decide
theorem l32_70 : (70 : Int32) = i32 70 := by decide
theorem l32_71 : (71 : Int32) = i32 71 := by decide
theorem l32_83 : (83 : Int32) = i32 83 := by decide
theorem l32_91 : (91 : Int32) = i32 91 := by decide
theorem l32_98 : (98 : Int32) = i32 98 := by decide
theorem l32_99 : (99 : Int32) = i32 99 := by decide
theorem l32_100 : (100 : Int32) = i32 100 := by decide
theorem l32_101 : (101 : Int32) = i32 101 := by decide
theorem l32_102 : (102 : Int32) = i32 102 := by decide
theorem l32_103 : (103 : Int32) = i32 103 := by decide
theorem l32_106 : (106 : Int32) = i32 106 := by decide
theorem l32_119 : (119 : Int32) = i32 119 := by decide
theorem l32_126 : (126 : Int32) = i32 126 := by decide
theorem l32_206 : (206 : Int32) = i32 206 := by decide
theorem l32_515 : (515 : Int32) = i32 515 := by decide
theorem l32_618 : (618 : Int32) = i32 618 := by decide
theorem l32_850 : (850 : Int32) = i32 850 := by decide
theorem l32_1000 : (1000 : Int32) = i32 1000 := by decide
theorem l32_1022 : (1022 : Int32) = i32 1022 := by decide
theorem l32_1023 : (1023 : Int32) = i32 1023 := by decide
theorem l32_1050 : (1050 : Int32) = i32 1050 := by decide
theorem l32_1239 : (1239 : Int32) = i32 1239 := by decide
theorem l32_1260 : (1260 : Int32) = i32 1260 := by decide

