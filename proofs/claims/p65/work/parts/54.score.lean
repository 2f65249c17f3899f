/-! sums, least ones, widest ones; the class's counting -/
def sumZ (f : Int → Int) : Nat → Int
  | 0 => 0
  | n + 1 => sumZ f n + f n
theorem sumZ_congr {f g : Int → Int} : ∀ {n : Nat}, (∀ k : Int, 0 ≤ k → k < n → f k = g k) → sumZ f n = sumZ g n
  | 0, _ => rfl
  | n + 1, h => by
    show sumZ f n + f n = sumZ g n + g n
    rw [sumZ_congr (n := n) (fun k a b => h k a (by omega)), h n (by omega) (by omega)]
theorem sumZ_b {f : Int → Int} {c : Int} (hc : 0 ≤ c) : ∀ {n : Nat}, (∀ k : Int, 0 ≤ k → k < n → 0 ≤ f k ∧ f k ≤ c) → 0 ≤ sumZ f n ∧ sumZ f n ≤ c * n
  | 0, _ => by
    show (0 : Int) ≤ 0 ∧ (0 : Int) ≤ c * 0
    rw [Int.mul_zero]
    omega
  | n + 1, h => by
    have h1 := sumZ_b hc (n := n) (fun k a b => h k a (by omega))
    have h2 := h n (by omega) (by omega)
    show 0 ≤ sumZ f n + f n ∧ sumZ f n + f n ≤ c * ((n + 1 : Nat) : Int)
    rw [ncS, Int.mul_add, Int.mul_one]
    omega
/-- the distance of two places, squared -/
def dst (a b : Int) : Int := (a / 21 - b / 21) * (a / 21 - b / 21) + ((a - a / 21 * 21) - (b - b / 21 * 21)) * ((a - a / 21 * 21) - (b - b / 21 * 21))
theorem sq_b {x B : Int} (h1 : -B ≤ x) (h2 : x ≤ B) (h3 : 0 ≤ B) : 0 ≤ x * x ∧ x * x ≤ B * B := by
  by_cases h : 0 ≤ x
  · exact ⟨Int.mul_nonneg h h, (mul_lo h h2 h1 h2 h3).2⟩
  · have e : x * x = (-x) * (-x) := by rw [Int.neg_mul_neg]
    rw [e]
    exact ⟨Int.mul_nonneg (by omega) (by omega), (mul_lo (a := -x) (b := -x) (by omega) (by omega) (by omega) (by omega) h3).2⟩
theorem dst_b {a b : Int} (h1 : 0 ≤ a) (h2 : a < 1300) (h3 : 0 ≤ b) (h4 : b < 1300) : 0 ≤ dst a b ∧ dst a b ≤ 10000 := by
  unfold dst
  have q1 := sq_b (x := a / 21 - b / 21) (B := 62) (by omega) (by omega) (by omega)
  have q2 := sq_b (x := (a - a / 21 * 21) - (b - b / 21 * 21)) (B := 20) (by omega) (by omega) (by omega)
  omega
theorem dst_of {a b c d : Int} (h1 : 0 ≤ b) (h2 : b ≤ 20) (h3 : 0 ≤ d) (h4 : d ≤ 20) : dst (21 * a + b) (21 * c + d) = (a - c) * (a - c) + (b - d) * (b - d) := by
  unfold dst
  rw [show (21 * a + b) / 21 = a by omega, show (21 * c + d) / 21 = c by omega, show 21 * a + b - a * 21 = b by omega, show 21 * c + d - c * 21 = d by omega]
theorem x0_apart {N : Nat} {a b : Int} (h1 : 0 ≤ a) (h2 : a < 1300) (h3 : 0 ≤ b) (h4 : b < 1300) : f_X0_apart N (i32 a) (i32 b) = some (i32 (dst a b)) := by
  unfold f_X0_apart dst
  simp (disch := omega) only [jn, Option.bind_some, l32_0, l32_1, l32_2, l32_3, l32_4, l32_5, l32_6, l32_7, l32_8, l32_9, l32_10, l32_11, l32_12, l32_13, l32_14, l32_15, l32_16, l32_17, l32_18, l32_19, l32_20, l32_21, l32_22, l32_23, l32_24, l32_25, l32_26, l32_27, l32_28, l32_29, l32_30, l32_31, l32_32, l32_33, l32_34, l32_35, l32_36, l32_37, l32_38, l32_39, l32_40, l32_41, l32_42, l32_43, l32_44, l32_45, l32_46, l32_47, l32_48, l32_49, l32_50, l32_51, l32_52, l32_53, l32_54, l32_55, l32_56, l32_57, l32_58, l32_59, l32_60, l32_61, l32_62, l32_63, l32_64, l32_65, l32_66, l32_67, l32_68, l32_69, l32_70, l32_71, l32_83, l32_91, l32_98, l32_99, l32_100, l32_101, l32_102, l32_103, l32_106, l32_119, l32_126, l32_206, l32_515, l32_618, l32_850, l32_1000, l32_1022, l32_1023, l32_1050, l32_1239, l32_1260, i32_add, i32_sub, i32_mul, i32_neg, itT, itF, ilt_p, ilt_n, ile_p, ile_n, ieq_p, ieq_n, gd_ix, i32_nat, RZ_at, upd_RZ, i32_ofNat, i32_div]
theorem x0_distance {N : Nat} {p : Int → Int} {sd : Int → Int} {ai : Int → Int} {we : Int → Int} {bi : Int → Int} {to : Int → Int} {od : Int → Int} {n : Int} {st : Int} {k : Int} (h1 : 0 ≤ k) (h2 : k < 9) (h3 : 0 ≤ p k) (h4 : p k < 1300) (h5 : 0 ≤ p 8) (h6 : p 8 < 1300) : f_X0_distance N (GK (RZ p) (RZ sd) (RZ ai) (RZ we) (RZ bi) (RZ to) (RZ od) (i32 n) (i32 st)) (i32 k) = some (i32 (dst (p k) (p 8))) := by
  unfold f_X0_distance
  simp (disch := omega) only [jn, Option.bind_some, l32_0, l32_1, l32_2, l32_3, l32_4, l32_5, l32_6, l32_7, l32_8, l32_9, l32_10, l32_11, l32_12, l32_13, l32_14, l32_15, l32_16, l32_17, l32_18, l32_19, l32_20, l32_21, l32_22, l32_23, l32_24, l32_25, l32_26, l32_27, l32_28, l32_29, l32_30, l32_31, l32_32, l32_33, l32_34, l32_35, l32_36, l32_37, l32_38, l32_39, l32_40, l32_41, l32_42, l32_43, l32_44, l32_45, l32_46, l32_47, l32_48, l32_49, l32_50, l32_51, l32_52, l32_53, l32_54, l32_55, l32_56, l32_57, l32_58, l32_59, l32_60, l32_61, l32_62, l32_63, l32_64, l32_65, l32_66, l32_67, l32_68, l32_69, l32_70, l32_71, l32_83, l32_91, l32_98, l32_99, l32_100, l32_101, l32_102, l32_103, l32_106, l32_119, l32_126, l32_206, l32_515, l32_618, l32_850, l32_1000, l32_1022, l32_1023, l32_1050, l32_1239, l32_1260, i32_add, i32_sub, i32_mul, i32_neg, itT, itF, ilt_p, ilt_n, ile_p, ile_n, ieq_p, ieq_n, gd_ix, i32_nat, RZ_at, upd_RZ, i32_ofNat, G_places_k, G_sides_k, G_aims_k, G_weights_k, G_biases_k, G_touched_k, G_order_k, G_bowlCount_k, G_strikes_k, G_set_places_k, G_set_sides_k, G_set_aims_k, G_set_weights_k, G_set_biases_k, G_set_touched_k, G_set_order_k, G_set_bowlCount_k, G_set_strikes_k, x0_placeOf, x0_apart]
/-- the least of the values at places that are wanted; -1 for none -/
noncomputable def lst (c : Int → Prop) (d : Int → Int) : Nat → Int
  | 0 => -1
  | n + 1 => by
    classical
    exact if c n ∧ (lst c d n = -1 ∨ d n < lst c d n) then d n else lst c d n
theorem lst_p {c : Int → Prop} {d : Int → Int} {n : Nat} (h1 : c n) (h2 : lst c d n = -1 ∨ d n < lst c d n) : lst c d (n + 1) = d n := by
  unfold lst
  exact if_pos ⟨h1, h2⟩
theorem lst_n {c : Int → Prop} {d : Int → Int} {n : Nat} (h : ¬ (c n ∧ (lst c d n = -1 ∨ d n < lst c d n))) : lst c d (n + 1) = lst c d n := by
  rw [lst]
  exact if_neg h
theorem lst_b {c : Int → Prop} {d : Int → Int} : ∀ {n : Nat}, (∀ k : Int, 0 ≤ k → k < n → c k → 0 ≤ d k ∧ d k ≤ 10000) → -1 ≤ lst c d n ∧ lst c d n ≤ 10000
  | 0, _ => by
    show -1 ≤ (-1 : Int) ∧ (-1 : Int) ≤ 10000
    omega
  | n + 1, h => by
    have h1 := lst_b (n := n) (fun k a b => h k a (by omega))
    by_cases q : c n ∧ (lst c d n = -1 ∨ d n < lst c d n)
    · have := h n (by omega) (by omega) q.1
      rw [lst_p q.1 q.2]; omega
    · rw [lst_n q]; exact h1
theorem lst_congr {c c' : Int → Prop} {d d' : Int → Int} : ∀ {n : Nat}, (∀ k : Int, 0 ≤ k → k < n → (c k ↔ c' k) ∧ (c k → d k = d' k)) → lst c d n = lst c' d' n
  | 0, _ => rfl
  | n + 1, h => by
    have h1 := lst_congr (n := n) (fun k a b => h k a (by omega))
    have h2 := h n (by omega) (by omega)
    by_cases q : c n ∧ (lst c d n = -1 ∨ d n < lst c d n)
    · rw [lst_p q.1 q.2, lst_p (h2.1.mp q.1) (by rw [← h1, ← h2.2 q.1]; exact q.2), h2.2 q.1]
    · rw [lst_n q, lst_n, h1]
      intro q'
      refine q ⟨h2.1.mpr q'.1, ?_⟩
      rw [h1, h2.2 (h2.1.mpr q'.1)]
      exact q'.2
/-- the greatest of m and the values at places that are wanted -/
noncomputable def fmx (c : Int → Prop) (v : Int → Int) (m : Int) : Nat → Int
  | 0 => m
  | n + 1 => by
    classical
    exact if c n ∧ fmx c v m n < v n then v n else fmx c v m n
theorem fmx_p {c : Int → Prop} {v : Int → Int} {m : Int} {n : Nat} (h1 : c n) (h2 : fmx c v m n < v n) : fmx c v m (n + 1) = v n := by
  rw [fmx]
  exact if_pos ⟨h1, h2⟩
theorem fmx_n {c : Int → Prop} {v : Int → Int} {m : Int} {n : Nat} (h : ¬ (c n ∧ fmx c v m n < v n)) : fmx c v m (n + 1) = fmx c v m n := by
  rw [fmx]
  exact if_neg h
theorem fmx_b {c : Int → Prop} {v : Int → Int} {m : Int} (hm : 0 ≤ m ∧ m ≤ 10000) : ∀ {n : Nat}, (∀ k : Int, 0 ≤ k → k < n → c k → 0 ≤ v k ∧ v k ≤ 10000) → 0 ≤ fmx c v m n ∧ fmx c v m n ≤ 10000
  | 0, _ => hm
  | n + 1, h => by
    have h1 := fmx_b hm (n := n) (fun k a b => h k a (by omega))
    by_cases q : c n ∧ fmx c v m n < v n
    · have := h n (by omega) (by omega) q.1
      rw [fmx_p q.1 q.2]; omega
    · rw [fmx_n q]; exact h1
theorem fmx_congr {c c' : Int → Prop} {v v' : Int → Int} {m : Int} : ∀ {n : Nat}, (∀ k : Int, 0 ≤ k → k < n → (c k ↔ c' k) ∧ (c k → v k = v' k)) → fmx c v m n = fmx c' v' m n
  | 0, _ => rfl
  | n + 1, h => by
    have h1 := fmx_congr (m := m) (n := n) (fun k a b => h k a (by omega))
    have h2 := h n (by omega) (by omega)
    by_cases q : c n ∧ fmx c v m n < v n
    · rw [fmx_p q.1 q.2, fmx_p (h2.1.mp q.1) (by rw [← h1, ← h2.2 q.1]; exact q.2), h2.2 q.1]
    · rw [fmx_n q, fmx_n, h1]
      intro q'
      refine q ⟨h2.1.mpr q'.1, ?_⟩
      rw [h1, h2.2 (h2.1.mpr q'.1)]
      exact q'.2
/-- the greatest over pairs -/
noncomputable def wid (c : Int → Prop) (v : Int → Int → Int) : Nat → Int
  | 0 => 0
  | n + 1 => fmx (fun b => c n ∧ c b) (fun b => v n b) (wid c v n) n
theorem wid_b {c : Int → Prop} {v : Int → Int → Int} : ∀ {n : Nat}, (∀ a b : Int, 0 ≤ a → a < n → 0 ≤ b → b < a → c a → c b → 0 ≤ v a b ∧ v a b ≤ 10000) → 0 ≤ wid c v n ∧ wid c v n ≤ 10000
  | 0, _ => by
    show (0 : Int) ≤ 0 ∧ (0 : Int) ≤ 10000
    omega
  | n + 1, h => fmx_b (wid_b (n := n) (fun a b h1 h2 h3 h4 => h a b h1 (by omega) h3 h4)) (fun k h1 h2 h3 => h n k (by omega) (by omega) h1 h2 h3.1 h3.2)
theorem wid_congr {c c' : Int → Prop} {v v' : Int → Int → Int} : ∀ {n : Nat}, (∀ k : Int, 0 ≤ k → k < n → (c k ↔ c' k)) → (∀ a b : Int, 0 ≤ a → a < n → 0 ≤ b → b < a → c a → c b → v a b = v' a b) → wid c v n = wid c' v' n
  | 0, _, _ => rfl
  | n + 1, h, h' => by
    show fmx _ _ (wid c v n) n = fmx _ _ (wid c' v' n) n
    rw [wid_congr (n := n) (fun k a b => h k a (by omega)) (fun a b h1 h2 h3 h4 => h' a b h1 (by omega) h3 h4)]
    exact fmx_congr (fun k a b => ⟨and_congr (h n (by omega) (by omega)) (h k a (by omega)), fun q => h' n k (by omega) (by omega) a b q.1 q.2⟩)

