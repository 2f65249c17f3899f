/-! the points: by the order, and by pairs -/
theorem sumZ_nul {f : Int → Int} : ∀ {n : Nat}, (∀ k : Int, 0 ≤ k → k < n → f k = 0) → sumZ f n = 0
  | 0, _ => rfl
  | n + 1, h => by
    show sumZ f n + f n = 0
    rw [sumZ_nul (n := n) (fun k a b => h k a (by omega)), h n (by omega) (by omega)]
    rfl
theorem sumZ_2 (f : Int → Int) : ∀ n : Nat, sumZ (fun k => 2 * f k) n = 2 * sumZ f n
  | 0 => rfl
  | n + 1 => by
    show sumZ (fun k => 2 * f k) n + 2 * f n = 2 * (sumZ f n + f n)
    rw [sumZ_2 f n]
    omega
theorem sumZ_ge {f : Int → Int} {j : Int} : ∀ {n : Nat}, (∀ k : Int, 0 ≤ k → k < n → 0 ≤ f k) → 0 ≤ j → j < n → f j ≤ sumZ f n
  | 0, _, a, b => by omega
  | n + 1, h, a, b => by
    show f j ≤ sumZ f n + f n
    by_cases e : j = n
    · have h1 := sumZ_le (f := fun _ => 0) (g := f) (n := n) (fun k a b => h k a (by omega))
      have h0 : sumZ (fun _ => 0) n = 0 := sumZ_nul fun _ _ _ => rfl
      rw [e]; omega
    · have h1 := sumZ_ge (n := n) (fun k a b => h k a (by omega)) a (by omega)
      have h2 := h n (by omega) (by omega)
      omega
theorem sumZ_cut {f : Int → Int} {a : Nat} : ∀ {n : Nat}, a ≤ n → (∀ k : Int, (a : Int) ≤ k → k < n → f k = 0) → sumZ f n = sumZ f a
  | 0, h, _ => by
    have : a = 0 := by omega
    rw [this]
  | n + 1, h, q => by
    by_cases e : a = n + 1
    · rw [e]
    · show sumZ f n + f n = _
      rw [sumZ_cut (n := n) (by omega) (fun k x y => q k x (by omega)), q n (by omega) (by omega), Int.add_zero]
/-- the nearest one of the other side: its distance, or -1 -/
def othF (sd d od : Int → Int) (side : Int) : Nat → Int
  | 0 => -1
  | i + 1 => if othF sd d od side i < 0 ∧ sd (od i) ≠ side then d (od i) else othF sd d od side i
theorem othF_p {sd d od : Int → Int} {side : Int} {i : Nat} (h1 : othF sd d od side i < 0) (h2 : sd (od i) ≠ side) : othF sd d od side (i + 1) = d (od i) := by
  rw [othF]; exact if_pos ⟨h1, h2⟩
theorem othF_n {sd d od : Int → Int} {side : Int} {i : Nat} (h : ¬ (othF sd d od side i < 0 ∧ sd (od i) ≠ side)) : othF sd d od side (i + 1) = othF sd d od side i := by
  rw [othF]; exact if_neg h
theorem othF_spec {sd d od : Int → Int} {side : Int} : ∀ {m : Nat}, (∀ i, 0 ≤ i → i < (m : Int) → 0 ≤ d (od i)) → (othF sd d od side m = -1 ∧ ∀ i, 0 ≤ i → i < (m : Int) → sd (od i) = side) ∨ (∃ i, 0 ≤ i ∧ i < (m : Int) ∧ sd (od i) ≠ side ∧ othF sd d od side m = d (od i) ∧ ∀ i', 0 ≤ i' → i' < i → sd (od i') = side)
  | 0, _ => Or.inl ⟨rfl, fun i a b => by omega⟩
  | m + 1, h => by
    have hm := h m (by omega) (by omega)
    rcases othF_spec (sd := sd) (d := d) (od := od) (side := side) (m := m) (fun i a b => h i a (by omega)) with ⟨e, q⟩ | ⟨i, a, b, q1, e, q2⟩
    · by_cases c : sd (od m) = side
      · rw [othF_n (fun x => x.2 c)]
        refine Or.inl ⟨e, fun i a b => ?_⟩
        by_cases im : i = m
        · rw [im]; exact c
        · exact q i a (by omega)
      · rw [othF_p (by omega) c]
        exact Or.inr ⟨m, by omega, by omega, c, rfl, q⟩
    · have hi := h i a (by omega)
      rw [othF_n (fun x => by omega)]
      exact Or.inr ⟨i, a, by omega, q1, e, q2⟩
/-- is a bowl nearer than all of the other side -/
abbrev NearC (c : Int → Prop) (d sd : Int → Int) (n : Nat) (b : Int) : Prop := c b ∧ ∀ o : Int, 0 ≤ o → o < n → sd o ≠ sd b → c o → d b < d o
theorem nearC_congr {c c' : Int → Prop} {d d' sd sd' : Int → Int} {n : Nat} (h : ∀ k : Int, 0 ≤ k → k < n → (c k ↔ c' k) ∧ (c k → d k = d' k) ∧ sd k = sd' k) {b : Int} (h0 : 0 ≤ b) (hn : b < n) : NearC c d sd n b ↔ NearC c' d' sd' n b := by
  obtain ⟨b1, b2, b3⟩ := h b h0 hn
  constructor
  · rintro ⟨q, r⟩
    refine ⟨b1.mp q, fun o x y z w => ?_⟩
    obtain ⟨o1, o2, o3⟩ := h o x y
    have := r o x y (by rw [o3, b3]; exact z) (o1.mpr w)
    rw [← b2 q, ← o2 (o1.mpr w)]
    exact this
  · rintro ⟨q, r⟩
    refine ⟨b1.mpr q, fun o x y z w => ?_⟩
    obtain ⟨o1, o2, o3⟩ := h o x y
    have := r o x y (by rw [← o3, ← b3]; exact z) (o1.mp w)
    rw [b2 (b1.mpr q), o2 w]
    exact this
theorem nearC_side {c : Int → Prop} {d sd : Int → Int} {n : Nat} {a b : Int} (ha0 : 0 ≤ a) (han : a < n) (hb0 : 0 ≤ b) (hbn : b < n) (ha : NearC c d sd n a) (hb : NearC c d sd n b) : sd a = sd b := by
  refine Decidable.byContradiction fun q => ?_
  have h1 := ha.2 b hb0 hbn (fun e => q e.symm) hb.1
  have h2 := hb.2 a ha0 han q ha.1
  omega
theorem nearC_iff {c : Int → Prop} {d sd od : Int → Int} {n m : Nat} (O : OrdP c d n m od) (hd : ∀ b : Int, 0 ≤ b → b < n → c b → 0 ≤ d b) (hm : 0 < m) {b : Int} (h0 : 0 ≤ b) (hn : b < n) : NearC c d sd n b ↔ c b ∧ sd b = sd (od 0) ∧ (othF sd d od (sd (od 0)) m < 0 ∨ d b < othF sd d od (sd (od 0)) m) := by
  obtain ⟨-, -, o3, o4, o5⟩ := O
  have hod : ∀ i, 0 ≤ i → i < (m : Int) → 0 ≤ d (od i) := fun i x y => by
    have := o4 i x y
    exact hd _ this.1 this.2.1 this.2.2
  constructor
  · rintro ⟨q, r⟩
    have side : sd b = sd (od 0) := Decidable.byContradiction fun ne => by
      have z := o4 0 (by omega) (by omega)
      have h1 := r (od 0) z.1 z.2.1 (fun e => ne e.symm) z.2.2
      obtain ⟨i, i0, im, ei⟩ := o5 b h0 hn q
      have h2 := o3 0 i (by omega) i0 im
      rw [ei] at h2
      omega
    refine ⟨q, side, ?_⟩
    rcases othF_spec (sd := sd) (side := sd (od 0)) hod with ⟨e, -⟩ | ⟨i, x, y, z, e, -⟩
    · rw [e]; exact Or.inl (by omega)
    · rw [e]
      have w := o4 i x y
      exact Or.inr (r (od i) w.1 w.2.1 (by rw [side]; exact z) w.2.2)
  · rintro ⟨q, side, r⟩
    refine ⟨q, fun o x y z w => ?_⟩
    obtain ⟨i, i0, im, ei⟩ := o5 o x y w
    rcases othF_spec (sd := sd) (side := sd (od 0)) hod with ⟨e, h⟩ | ⟨i', x', y', z', e, h⟩
    · have := h i i0 im
      rw [ei, ← side] at this
      exact absurd this z
    · have hi : i' ≤ i := Decidable.byContradiction fun hl => by
        have := h i i0 (by omega)
        rw [ei, ← side] at this
        exact z this
      have h3 := o3 i' i x' hi im
      have h4 := hod i' x' y'
      rw [ei] at h3
      omega
abbrev aM (s : Int → Int) (b : Int) : Prop := s (4 + 7 * b + 0) ≠ 2
abbrev sdS (s : Int → Int) (k : Int) : Int := (s 61 + k) % 2
abbrev NearM (s : Int → Int) (n : Nat) (b : Int) : Prop := NearC (aM s) (dm s) (sdS s) n b
/-- the points of now -/
noncomputable def pts (s : Int → Int) (n : Nat) : Int := by
  classical
  exact if s 0 = 1 ∧ ¬ Burnt s n then sumZ (fun b => b2i (NearM s n b) * (1 + s 64 * s (4 + 7 * b + 3))) n else 0
/-- above 0 for the side 0, below for the side 1 -/
noncomputable def sc (s : Int → Int) (n : Nat) : Int := by
  classical
  exact if ∃ b : Int, 0 ≤ b ∧ b < n ∧ NearM s n b ∧ sdS s b = 0 then pts s n else -pts s n
theorem pts_p {s : Int → Int} {n : Nat} (h : s 0 = 1 ∧ ¬ Burnt s n) : pts s n = sumZ (fun b => b2i (NearM s n b) * (1 + s 64 * s (4 + 7 * b + 3))) n := by
  unfold pts; exact if_pos h
theorem pts_n {s : Int → Int} {n : Nat} (h : ¬ (s 0 = 1 ∧ ¬ Burnt s n)) : pts s n = 0 := by
  unfold pts; exact if_neg h
theorem sc_p {s : Int → Int} {n : Nat} {b : Int} (h0 : 0 ≤ b) (hn : b < n) (h : NearM s n b) (h2 : sdS s b = 0) : sc s n = pts s n := by
  unfold sc; exact if_pos ⟨b, h0, hn, h, h2⟩
theorem sc_n {s : Int → Int} {n : Nat} {b : Int} (h0 : 0 ≤ b) (hn : b < n) (h : NearM s n b) (h2 : sdS s b ≠ 0) : sc s n = -pts s n := by
  unfold sc
  refine if_neg ?_
  rintro ⟨b', x, y, z, w⟩
  have := nearC_side h0 hn x y h z
  omega
theorem sc_abs (s : Int → Int) (n : Nat) : sc s n = pts s n ∨ sc s n = -pts s n := by
  by_cases h : ∃ b : Int, 0 ≤ b ∧ b < n ∧ NearM s n b ∧ sdS s b = 0
  · exact Or.inl (by unfold sc; exact if_pos h)
  · exact Or.inr (by unfold sc; exact if_neg h)
theorem half_b {a side : Int} (hs : side = 0 ∨ side = 1) : ∀ n : Nat, 2 * sumZ (fun b => b2i ((a + b) % 2 = side)) n ≤ (n : Int) + 1 ∧ (∀ q : (a + (n : Int)) % 2 = side, 2 * sumZ (fun b => b2i ((a + b) % 2 = side)) n ≤ (n : Int))
  | 0 => by
    show 2 * (0 : Int) ≤ ((0 : Nat) : Int) + 1 ∧ _
    refine ⟨by omega, fun _ => ?_⟩
    show 2 * (0 : Int) ≤ ((0 : Nat) : Int)
    omega
  | n + 1 => by
    obtain ⟨h1, h2⟩ := half_b (a := a) hs n
    show 2 * (sumZ (fun b => b2i ((a + b) % 2 = side)) n + b2i ((a + (n : Int)) % 2 = side)) ≤ ((n + 1 : Nat) : Int) + 1 ∧ ∀ q : (a + ((n + 1 : Nat) : Int)) % 2 = side, 2 * (sumZ (fun b => b2i ((a + b) % 2 = side)) n + b2i ((a + (n : Int)) % 2 = side)) ≤ ((n + 1 : Nat) : Int)
    by_cases c : (a + (n : Int)) % 2 = side
    · have := h2 c
      rw [b2i_p c, ncS]
      refine ⟨by omega, fun q => by omega⟩
    · rw [b2i_n c, ncS]
      refine ⟨by omega, fun q => by omega⟩
theorem pts_b {B : Int} {n : Nat} {s : Int → Int} (h : INV B n s) : 0 ≤ pts s n ∧ pts s n ≤ 8 := by
  by_cases c : s 0 = 1 ∧ ¬ Burnt s n
  · rw [pts_p c]
    have h64 := h.2.2.2.2.2.2.2.1
    have ht := inv_tou h
    have hn := h.2.1
    have h61 := h.2.2.2.2.1
    have term : ∀ b : Int, 0 ≤ b → b < n → 1 ≤ 1 + s 64 * s (4 + 7 * b + 3) ∧ 1 + s 64 * s (4 + 7 * b + 3) ≤ 2 := fun b x y => by
      rcases h64 with e | e <;> rcases ht b x y with e2 | e2 <;> rw [e, e2] <;> omega
    have nn : ∀ b : Int, 0 ≤ b → b < n → 0 ≤ b2i (NearM s n b) * (1 + s 64 * s (4 + 7 * b + 3)) := fun b x y => by
      have := term b x y
      by_cases q : NearM s n b
      · rw [b2i_p q]; omega
      · rw [b2i_n q]; omega
    refine ⟨?_, ?_⟩
    · have := sumZ_le (f := fun _ => 0) (g := fun b => b2i (NearM s n b) * (1 + s 64 * s (4 + 7 * b + 3))) (n := n) nn
      rw [sumZ_nul (fun _ _ _ => rfl)] at this
      exact this
    · by_cases e : ∃ b : Int, 0 ≤ b ∧ b < n ∧ NearM s n b
      · obtain ⟨b, x, y, z⟩ := e
        have h1 := sumZ_le (f := fun b => b2i (NearM s n b) * (1 + s 64 * s (4 + 7 * b + 3))) (g := fun k => 2 * b2i ((s 61 + k) % 2 = sdS s b)) (n := n) (fun k kx ky => by
          show b2i (NearM s n k) * (1 + s 64 * s (4 + 7 * k + 3)) ≤ 2 * b2i ((s 61 + k) % 2 = sdS s b)
          have := term k kx ky
          by_cases q : NearM s n k
          · have := nearC_side kx ky x y q z
            rw [b2i_p q, b2i_p (show (s 61 + k) % 2 = sdS s b from this)]; omega
          · have := b2i_01 ((s 61 + k) % 2 = sdS s b)
            rw [b2i_n q]; omega)
        have h2 := (half_b (a := s 61) (side := sdS s b) (by unfold sdS; omega) n).1
        have h3 : sumZ (fun k => 2 * b2i ((s 61 + k) % 2 = sdS s b)) n = 2 * sumZ (fun k => b2i ((s 61 + k) % 2 = sdS s b)) n := sumZ_2 _ n
        omega
      · rw [sumZ_nul (fun k kx ky => by
          show b2i (NearM s n k) * _ = 0
          rw [b2i_n (fun q => e ⟨k, kx, ky, q⟩), Int.zero_mul])]
        omega
  · rw [pts_n c]; omega
theorem pts_pos {B : Int} {n : Nat} {s : Int → Int} (h : INV B n s) (c : s 0 = 1 ∧ ¬ Burnt s n) {b : Int} (h0 : 0 ≤ b) (hn : b < n) (hb : NearM s n b) : 0 < pts s n := by
  rw [pts_p c]
  have h64 := h.2.2.2.2.2.2.2.1
  have ht := inv_tou h
  have term : ∀ b : Int, 0 ≤ b → b < n → 1 ≤ 1 + s 64 * s (4 + 7 * b + 3) ∧ 1 + s 64 * s (4 + 7 * b + 3) ≤ 2 := fun b x y => by
    rcases h64 with e | e <;> rcases ht b x y with e2 | e2 <;> rw [e, e2] <;> omega
  have := sumZ_ge (f := fun b => b2i (NearM s n b) * (1 + s 64 * s (4 + 7 * b + 3))) (j := b) (n := n) (fun k x y => by
    have := term k x y
    show 0 ≤ b2i (NearM s n k) * (1 + s 64 * s (4 + 7 * k + 3))
    by_cases q : NearM s n k
    · rw [b2i_p q]; omega
    · rw [b2i_n q]; omega) h0 hn
  have t := term b h0 hn
  have e : b2i (NearM s n b) * (1 + s 64 * s (4 + 7 * b + 3)) ≤ sumZ (fun b => b2i (NearM s n b) * (1 + s 64 * s (4 + 7 * b + 3))) n := this
  rw [b2i_p hb] at e
  omega
theorem pts_none {s : Int → Int} {n : Nat} (h : ∀ b : Int, 0 ≤ b → b < n → ¬ NearM s n b) : pts s n = 0 := by
  by_cases c : s 0 = 1 ∧ ¬ Burnt s n
  · rw [pts_p c]
    exact sumZ_nul (fun k kx ky => by
      show b2i (NearM s n k) * _ = 0
      rw [b2i_n (h k kx ky), Int.zero_mul])
  · exact pts_n c
/-- the points, summed in order -/
theorem pts_ord {B : Int} {n : Nat} {s od : Int → Int} {m : Nat} (h : INV B n s) (c : s 0 = 1 ∧ ¬ Burnt s n) (O : OrdP (aM s) (dm s) n m od) (hm : 0 < m) : pts s n = sumZ (fun i => b2i (sdS s (od i) = sdS s (od 0) ∧ (othF (sdS s) (dm s) od (sdS s (od 0)) m < 0 ∨ dm s (od i) < othF (sdS s) (dm s) od (sdS s (od 0)) m)) * (1 + s 64 * s (4 + 7 * od i + 3))) m := by
  rw [pts_p c]
  have hd : ∀ b : Int, 0 ≤ b → b < n → aM s b → 0 ≤ dm s b := fun b x y z => (dm_b h x y z).1
  have e := O.2.1 (fun b => b2i (sdS s b = sdS s (od 0) ∧ (othF (sdS s) (dm s) od (sdS s (od 0)) m < 0 ∨ dm s b < othF (sdS s) (dm s) od (sdS s (od 0)) m)) * (1 + s 64 * s (4 + 7 * b + 3)))
  refine Eq.trans ?_ e.symm
  refine sumZ_congr fun b x y => ?_
  have q := nearC_iff (sd := sdS s) O hd hm x y
  show b2i (NearM s n b) * _ = b2i (aM s b) * (b2i _ * _)
  by_cases cb : aM s b
  · rw [b2i_p cb, Int.one_mul, b2i_congr (q.trans ⟨fun z => z.2, fun z => ⟨cb, z⟩⟩)]
  · rw [b2i_n cb, Int.zero_mul, b2i_n (fun z => cb z.1), Int.zero_mul]
theorem sc_ord {B : Int} {n : Nat} {s od : Int → Int} {m : Nat} (h : INV B n s) (c : s 0 = 1 ∧ ¬ Burnt s n) (O : OrdP (aM s) (dm s) n m od) (hm : 0 < m) : sc s n = if sdS s (od 0) = 0 then pts s n else -pts s n := by
  have hd : ∀ b : Int, 0 ≤ b → b < n → aM s b → 0 ≤ dm s b := fun b x y z => (dm_b h x y z).1
  by_cases e : ∃ b : Int, 0 ≤ b ∧ b < n ∧ NearM s n b
  · obtain ⟨b, x, y, z⟩ := e
    have q := ((nearC_iff (sd := sdS s) O hd hm x y).mp z).2.1
    by_cases f : sdS s (od 0) = 0
    · rw [if_pos f, sc_p x y z (by rw [q]; exact f)]
    · rw [if_neg f, sc_n x y z (by rw [q]; exact f)]
  · have p0 := pts_none (s := s) (n := n) (fun b x y z => e ⟨b, x, y, z⟩)
    have := sc_abs s n
    rw [p0] at this ⊢
    by_cases f : sdS s (od 0) = 0
    · rw [if_pos f]; omega
    · rw [if_neg f]; omega

