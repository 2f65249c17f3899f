/-! bowls: the nearest, the gap, who lies where -/
noncomputable abbrev oM (s : Int → Int) (n : Nat) : Nat × (Int → Int) := ordM s (fun _ => 0) n
theorem oM_spec (s : Int → Int) (n : Nat) : OrdP (aM s) (dm s) n (oM s n).1 (oM s n).2 := srtF_spec (aM s) (dm s) (fun _ => 0) n
theorem q_nearest {N n : Nat} {B z : Int} {s : Int → Int} {S : SV} {xv : XV} (hN : 1500 < N) (h : INV B n s) (hS : shows s n z S) {k : Int} (h0 : 0 ≤ k) (h1 : k < ((oM s n).1 : Int)) : ∃ S', f_X5_nearest N xv S (i32 k) = some (Sum.inr (i32 ((oM s n).2 k)), (xv, S')) ∧ shows s n z S' := by
  have hn := h.2.1
  have hb := (inv_b31 h).1
  have ej := hasJack_x (N := N) h hS
  obtain ⟨p, sd, ai, we, bi, to, orr, po, la, eb, rfl, rG, rV⟩ := hS
  obtain ⟨f1, f2, f3, f4, f5, f6⟩ := rel_facts h rG
  clear f5
  have es := x0_sort (N := N) (n := n) (p := p) (sd := sd) (ai := ai) (we := we) (bi := bi) (to := to) (od := orr) (st := z) (by omega) hn f1 f4
  obtain ⟨k1, k2⟩ := srtF_congr (od := orr) (od' := fun _ => 0) (fun k x y => ⟨(rel_aM h rG k x y).1, (rel_aM h rG k x y).2.1⟩)
  have O := oM_spec s n
  rw [show srtF (aM s) (dm s) (fun _ => 0) n = oM s n from rfl] at k1 k2
  rw [k1] at es k2
  generalize (srtF (fun b => p b ≠ -1) (fun b => dst (p b) (p 8)) orr n).2 = o at es k2
  generalize (oM s n).2 = om2 at *
  generalize (oM s n).1 = m at *
  have mn : m ≤ n := O.1
  simp only [S_green_k, S_score_k, S_bowlsEach_k, S_blowing_k, S_jackGoesBack_k, S_touchersTwice_k, S_set_green_k, S_set_score_k, S_set_bowlsEach_k, S_set_blowing_k, S_set_jackGoesBack_k, S_set_touchersTwice_k] at ej
  have hSo : shows s n z (SK (GK (RZ p) (RZ sd) (RZ ai) (RZ we) (RZ bi) (RZ to) (RZ o) (i32 ((n : Int))) (i32 z)) (VK (RZ po) (RZ la) (RZ eb) (i32 (s 67)) (i32 (s 68)) (i32 (s 69)) (i32 (s 70)) (i32 (s 100)) (i32 (s 101)) (i32 (s 102)) (i32 (s 61))) (i32 (s 60)) (i32 (s 62)) (i32 (s 63)) (i32 (s 64))) := ⟨p, sd, ai, we, bi, to, o, po, la, eb, rfl, rG, rV⟩
  have c0 : s 0 = 1 := by
    rcases h.2.2.1 with q | q
    · omega
    · exact q.1.1
  rw [b2i_p c0] at ej
  have ek := k2 k h0 (by omega)
  refine ⟨_, ?_, hSo⟩
  unfold f_X5_nearest
  simp (maxSteps := 4000000) (disch := omega) only [jn, Option.bind_some, l32_0, l32_1, l32_2, l32_3, l32_4, l32_5, l32_6, l32_7, l32_8, l32_9, l32_10, l32_11, l32_12, l32_13, l32_14, l32_15, l32_16, l32_17, l32_18, l32_19, l32_20, l32_21, l32_22, l32_23, l32_24, l32_25, l32_26, l32_27, l32_28, l32_29, l32_30, l32_31, l32_32, l32_33, l32_34, l32_35, l32_36, l32_37, l32_38, l32_39, l32_40, l32_41, l32_42, l32_43, l32_44, l32_45, l32_46, l32_47, l32_48, l32_49, l32_50, l32_51, l32_52, l32_53, l32_54, l32_55, l32_56, l32_57, l32_58, l32_59, l32_60, l32_61, l32_62, l32_63, l32_64, l32_65, l32_66, l32_67, l32_68, l32_69, l32_70, l32_71, l32_83, l32_91, l32_98, l32_99, l32_100, l32_101, l32_102, l32_103, l32_106, l32_119, l32_126, l32_206, l32_515, l32_618, l32_850, l32_1000, l32_1022, l32_1023, l32_1050, l32_1239, l32_1260, l32_1459, l32_7919, l32_2147483647, i32_add, i32_sub, i32_mul, i32_neg, ↓reduceIte, ltT, ltF, leT, leF, eqT, eqF, gd_ix, i32_nat, RZ_at, upd_RZ, i32_ofNat, G_places_k, G_sides_k, G_aims_k, G_weights_k, G_biases_k, G_touched_k, G_order_k, G_bowlCount_k, G_strikes_k, G_set_places_k, G_set_sides_k, G_set_aims_k, G_set_weights_k, G_set_biases_k, G_set_touched_k, G_set_order_k, G_set_bowlCount_k, G_set_strikes_k, S_green_k, S_score_k, S_bowlsEach_k, S_blowing_k, S_jackGoesBack_k, S_touchersTwice_k, S_set_green_k, S_set_score_k, S_set_bowlsEach_k, S_set_blowing_k, S_set_jackGoesBack_k, S_set_touchersTwice_k, ej, es, at_in, ek]
theorem q_bowlAt {N n : Nat} {B z : Int} {s : Int → Int} {S : SV} {xv : XV} (hN : 1500 < N) (h : INV B n s) (hS : shows s n z S) {k : Int} (h0 : 0 ≤ k) (h1 : k < n) (h2 : s (4 + 7 * k + 0) = 0) : f_X5_bowlAt N xv S (i32 (s (4 + 7 * k + 1))) (i32 (s (4 + 7 * k + 2))) = some (Sum.inr (i32 k)) := by
  have hn := h.2.1
  obtain ⟨g, bk, epl, -⟩ := bowl_pl h h0 h1
  have epl := epl (by omega)
  obtain ⟨p, sd, ai, we, bi, to, orr, po, la, eb, rfl, rG, rV⟩ := hS
  obtain ⟨f1, f2, f3, f4, f5, f6⟩ := rel_facts h rG
  clear f5
  have ek := rG.1 k h0 (by omega)
  have e2 : thg p (s (4 + 7 * k + 1) * 21 + s (4 + 7 * k + 2)) = k := by
    rcases thg_spec p (s (4 + 7 * k + 1) * 21 + s (4 + 7 * k + 2)) with ⟨-, q⟩ | ⟨a, b, q⟩
    · exact absurd (by omega) (q k h0 (by omega))
    · generalize thg p (s (4 + 7 * k + 1) * 21 + s (4 + 7 * k + 2)) = u at a b q
      have eu := rG.1 u a b
      have lu : Lies s (s (4 + 7 * k + 1)) (s (4 + 7 * k + 2)) u := (lies_pl g hn (by omega) (by omega) (by omega) (by omega) a b).mpr (by omega)
      have lk : Lies s (s (4 + 7 * k + 1)) (s (4 + 7 * k + 2)) k := (lies_pl g hn (by omega) (by omega) (by omega) (by omega) h0 (by omega)).mpr (by omega)
      exact g.2.2.2.2.2 _ _ u k (by omega) lu lk
  have e3 := x0_thingAt (N := N) (p := p) (sd := sd) (ai := ai) (we := we) (bi := bi) (to := to) (od := orr) (n := (n : Int)) (st := z) (q := s (4 + 7 * k + 1) * 21 + s (4 + 7 * k + 2)) (by omega) f1 (by omega) (by omega)
  rw [e2] at e3
  have io := isOut_in (N := N) (a := s (4 + 7 * k + 2)) (by omega) (by omega)
  unfold f_X5_bowlAt
  simp (maxSteps := 4000000) (disch := omega) only [jn, Option.bind_some, l32_0, l32_1, l32_2, l32_3, l32_4, l32_5, l32_6, l32_7, l32_8, l32_9, l32_10, l32_11, l32_12, l32_13, l32_14, l32_15, l32_16, l32_17, l32_18, l32_19, l32_20, l32_21, l32_22, l32_23, l32_24, l32_25, l32_26, l32_27, l32_28, l32_29, l32_30, l32_31, l32_32, l32_33, l32_34, l32_35, l32_36, l32_37, l32_38, l32_39, l32_40, l32_41, l32_42, l32_43, l32_44, l32_45, l32_46, l32_47, l32_48, l32_49, l32_50, l32_51, l32_52, l32_53, l32_54, l32_55, l32_56, l32_57, l32_58, l32_59, l32_60, l32_61, l32_62, l32_63, l32_64, l32_65, l32_66, l32_67, l32_68, l32_69, l32_70, l32_71, l32_83, l32_91, l32_98, l32_99, l32_100, l32_101, l32_102, l32_103, l32_106, l32_119, l32_126, l32_206, l32_515, l32_618, l32_850, l32_1000, l32_1022, l32_1023, l32_1050, l32_1239, l32_1260, l32_1459, l32_7919, l32_2147483647, i32_add, i32_sub, i32_mul, i32_neg, ↓reduceIte, ltT, ltF, leT, leF, eqT, eqF, gd_ix, i32_nat, RZ_at, upd_RZ, i32_ofNat, S_green_k, S_score_k, S_bowlsEach_k, S_blowing_k, S_jackGoesBack_k, S_touchersTwice_k, S_set_green_k, S_set_score_k, S_set_bowlsEach_k, S_set_blowing_k, S_set_jackGoesBack_k, S_set_touchersTwice_k, io, e3]
theorem dm_pos {B : Int} {n : Nat} {s : Int → Int} (h : INV B n s) {k : Int} (h0 : 0 ≤ k) (h1 : k < n) (h2 : s (4 + 7 * k + 0) = 0) : 0 < dm s k := by
  have hn := h.2.1
  have b := dm_b h h0 h1 (by omega)
  by_cases c : dm s k = 0
  · exfalso
    obtain ⟨g, bk, epl, -⟩ := bowl_pl h h0 h1
    unfold dm at c
    have q1 := sq_b (x := s (4 + 7 * k + 1) - s 1) (B := 100) (by have := g.2.2.1; omega) (by have := g.2.2.1; omega) (by omega)
    have q2 := sq_b (x := s (4 + 7 * k + 2) - s 2) (B := 100) (by have := g.2.2.2.1; omega) (by have := g.2.2.2.1; omega) (by omega)
    have z1 := Int.mul_eq_zero.mp (show (s (4 + 7 * k + 1) - s 1) * (s (4 + 7 * k + 1) - s 1) = 0 by omega)
    have z2 := Int.mul_eq_zero.mp (show (s (4 + 7 * k + 2) - s 2) * (s (4 + 7 * k + 2) - s 2) = 0 by omega)
    have lu : Lies s (s 1) (s 2) 8 := Or.inl ⟨rfl, g.1, rfl, rfl⟩
    have lk : Lies s (s 1) (s 2) k := Or.inr ⟨h0, by have := g.2.1; omega, h2, by omega, by omega⟩
    have := g.2.2.2.2.2 _ _ 8 k (by omega) lu lk
    omega
  · omega
theorem sumZ_add {f g : Int → Int} : ∀ {n : Nat}, sumZ (fun k => f k + g k) n = sumZ f n + sumZ g n
  | 0 => rfl
  | n + 1 => by
    show sumZ (fun k => f k + g k) n + (f n + g n) = sumZ f n + f n + (sumZ g n + g n)
    rw [sumZ_add (n := n)]
    omega
theorem sumZ_1 : ∀ {n : Nat}, sumZ (fun _ => 1) n = (n : Int)
  | 0 => rfl
  | n + 1 => by
    show sumZ (fun _ => 1) n + 1 = _
    rw [sumZ_1 (n := n), ncS]
noncomputable abbrev alv (s : Int → Int) (n : Nat) : Int := sumZ (fun b => b2i (aM s b)) n
theorem alv_m (s : Int → Int) (n : Nat) : alv s n = ((oM s n).1 : Int) := by
  have q := (oM_spec s n).2.1 (fun _ => 1)
  rw [sumZ_1] at q
  rw [q]
  exact sumZ_congr fun k _ _ => by rw [Int.mul_one]
theorem alv_2 (s : Int → Int) (n : Nat) : sumZ (fun b => b2i (aM s b ∧ sdS s b = 0)) n + sumZ (fun b => b2i (aM s b ∧ sdS s b = 1)) n = alv s n := by
  rw [← sumZ_add]
  refine sumZ_congr fun k _ _ => ?_
  have r : sdS s k = 0 ∨ sdS s k = 1 := by
    show (s 61 + k) % 2 = 0 ∨ (s 61 + k) % 2 = 1
    omega
  by_cases a : aM s k
  · rw [b2i_p a]
    rcases r with r | r
    · rw [b2i_p ⟨a, r⟩, b2i_n (fun q => by omega)]; rfl
    · rw [b2i_n (fun q => by omega), b2i_p ⟨a, r⟩]; rfl
  · rw [b2i_n a, b2i_n (fun q => a q.1), b2i_n (fun q => a q.1)]; rfl
theorem lst_spec {c : Int → Prop} {d : Int → Int} : ∀ {n : Nat}, (∀ k : Int, 0 ≤ k → k < n → c k → 0 ≤ d k ∧ d k ≤ 10000) → (lst c d n = -1 ∧ ∀ k : Int, 0 ≤ k → k < n → ¬ c k) ∨ ((∃ k : Int, 0 ≤ k ∧ k < n ∧ c k ∧ lst c d n = d k) ∧ ∀ k : Int, 0 ≤ k → k < n → c k → lst c d n ≤ d k)
  | 0, _ => Or.inl ⟨rfl, fun k a b => by omega⟩
  | n + 1, h => by
    have ih := lst_spec (c := c) (d := d) (n := n) (fun k a b => h k a (by omega))
    by_cases q : c n ∧ (lst c d n = -1 ∨ d n < lst c d n)
    · rw [lst_p q.1 q.2]
      refine Or.inr ⟨⟨n, by omega, by omega, q.1, rfl⟩, fun k a b ck => ?_⟩
      by_cases kn : k = n
      · rw [kn]; exact Int.le_refl _
      · rcases ih with ⟨-, i2⟩ | ⟨⟨j, j0, j1, j2, j3⟩, i2⟩
        · exact absurd ck (i2 k a (by omega))
        · have u := i2 k a (by omega) ck
          have v := h j j0 (by omega) j2
          omega
    · rw [lst_n q]
      rcases ih with ⟨i1, i2⟩ | ⟨⟨j, j0, j1, j2, j3⟩, i2⟩
      · refine Or.inl ⟨i1, fun k a b ck => ?_⟩
        by_cases kn : k = n
        · rw [kn] at ck
          exact q ⟨ck, Or.inl i1⟩
        · exact i2 k a (by omega) ck
      · refine Or.inr ⟨⟨j, j0, by omega, j2, j3⟩, fun k a b ck => ?_⟩
        by_cases kn : k = n
        · rw [kn] at ck ⊢
          by_cases e : d n < lst c d n
          · exact absurd ⟨ck, Or.inr e⟩ q
          · omega
        · exact i2 k a (by omega) ck
theorem gap_0 {B : Int} {n : Nat} {s : Int → Int} (h : INV B n s) (g : gapS s n = 0) : pts s n = 0 := by
  by_cases e : ∃ b : Int, 0 ≤ b ∧ b < n ∧ NearM s n b
  · exfalso
    obtain ⟨b, b0, b1, b2, b3⟩ := e
    have gv := gap_val h (by omega)
    rw [g] at gv
    have hd : ∀ i : Int, ∀ k : Int, 0 ≤ k → k < n → (aM s k ∧ sdS s k = i) → 0 ≤ dm s k ∧ dm s k ≤ 10000 := fun i k x y z => dm_b h x y z.1
    have l0 := lst_spec (hd 0)
    have l1 := lst_spec (hd 1)
    have ne : lst (fun b => aM s b ∧ sdS s b = 0) (dm s) n ≠ -1 ∧ lst (fun b => aM s b ∧ sdS s b = 1) (dm s) n ≠ -1 := by
      unfold gapS at g
      by_cases c : s 0 ≠ 1 ∨ lst (fun b => aM s b ∧ sdS s b = 0) (dm s) n = -1 ∨ lst (fun b => aM s b ∧ sdS s b = 1) (dm s) n = -1
      · rw [if_pos c] at g; omega
      · omega
    have e01 : lst (fun b => aM s b ∧ sdS s b = 0) (dm s) n = lst (fun b => aM s b ∧ sdS s b = 1) (dm s) n := by
      by_cases c : 0 ≤ lst (fun b => aM s b ∧ sdS s b = 0) (dm s) n - lst (fun b => aM s b ∧ sdS s b = 1) (dm s) n
      · rw [if_pos c] at gv; omega
      · rw [if_neg c] at gv; omega
    rcases l0 with ⟨q, -⟩ | ⟨⟨j, j0, j1, ⟨j2, j3⟩, j4⟩, jm⟩
    · exact ne.1 q
    rcases l1 with ⟨q, -⟩ | ⟨⟨i, i0, i1, ⟨i2, i3⟩, i4⟩, im⟩
    · exact ne.2 q
    have r : sdS s b = 0 ∨ sdS s b = 1 := by
      show (s 61 + b) % 2 = 0 ∨ (s 61 + b) % 2 = 1
      omega
    rcases r with r | r
    · have u := jm b b0 b1 ⟨b2, r⟩
      have v := b3 i i0 i1 (by omega) i2
      omega
    · have u := im b b0 b1 ⟨b2, r⟩
      have v := b3 j j0 j1 (by omega) j2
      omega
  · exact pts_none (fun b x y z => e ⟨b, x, y, z⟩)
theorem gap_n {B : Int} {n : Nat} {s : Int → Int} (h : INV B n s) : gapS s n = -1 ↔ (sumZ (fun b => b2i (aM s b ∧ sdS s b = 0)) n = 0 ∨ sumZ (fun b => b2i (aM s b ∧ sdS s b = 1)) n = 0) := by
  have hd : ∀ i : Int, ∀ k : Int, 0 ≤ k → k < n → (aM s k ∧ sdS s k = i) → 0 ≤ dm s k ∧ dm s k ≤ 10000 := fun i k x y z => dm_b h x y z.1
  have l0 := lst_none (hd 0)
  have l1 := lst_none (hd 1)
  have nn : ∀ i : Int, 0 ≤ sumZ (fun b => b2i (aM s b ∧ sdS s b = i)) n := fun i => by
    have q := sumZ_le (f := fun _ => 0) (g := fun b => b2i (aM s b ∧ sdS s b = i)) (n := n) (fun k _ _ => by
      have := b2i_01 (aM s k ∧ sdS s k = i)
      show 0 ≤ b2i (aM s k ∧ sdS s k = i)
      omega)
    rw [sumZ_nul (fun _ _ _ => rfl)] at q
    exact q
  have n0 := nn 0
  have n1 := nn 1
  have rb := lst_rng h 0
  have rc := lst_rng h 1
  unfold gapS
  by_cases c : s 0 ≠ 1 ∨ lst (fun b => aM s b ∧ sdS s b = 0) (dm s) n = -1 ∨ lst (fun b => aM s b ∧ sdS s b = 1) (dm s) n = -1
  · rw [if_pos c]
    refine ⟨fun _ => ?_, fun _ => rfl⟩
    rcases c with c | c | c
    · have n0 : n = 0 := by
        rcases h.2.2.1 with q | q
        · exact q.2
        · exact absurd q.1.1 c
      subst n0
      exact Or.inl rfl
    · have := l0.mp c
      omega
    · have := l1.mp c
      omega
  · rw [if_neg c]
    constructor
    · intro q
      exfalso
      by_cases d : 0 ≤ lst (fun b => aM s b ∧ sdS s b = 0) (dm s) n - lst (fun b => aM s b ∧ sdS s b = 1) (dm s) n
      · rw [if_pos d] at q; omega
      · rw [if_neg d] at q; omega
    · rintro (q | q)
      · exact absurd (Or.inr (Or.inl (l0.mpr (by omega)))) c
      · exact absurd (Or.inr (Or.inr (l1.mpr (by omega)))) c
theorem fmx_none {c : Int → Prop} {v : Int → Int} {m : Int} : ∀ {n : Nat}, (∀ k : Int, 0 ≤ k → k < n → ¬ c k) → fmx c v m n = m
  | 0, _ => rfl
  | n + 1, h => by
    rw [fmx_n (fun q => h n (by omega) (by omega) q.1)]
    exact fmx_none (fun k a b => h k a (by omega))
theorem wid_two {c : Int → Prop} {v : Int → Int → Int} : ∀ {n : Nat}, 0 < wid c v n → 1 < sumZ (fun b => b2i (c b)) n
  | 0, q => by
    have q : (0 : Int) < 0 := q
    omega
  | n + 1, q => by
    show 1 < sumZ (fun b => b2i (c b)) n + b2i (c n)
    have q : 0 < fmx (fun b => c n ∧ c b) (fun b => v n b) (wid c v n) n := q
    have i01 := b2i_01 (c n)
    by_cases cn : c n
    · by_cases e : ∃ b : Int, 0 ≤ b ∧ b < n ∧ c b
      · obtain ⟨b, b0, b1, cb⟩ := e
        have g := sumZ_ge (f := fun b => b2i (c b)) (j := b) (n := n) (fun k _ _ => by
          have := b2i_01 (c k)
          show 0 ≤ b2i (c k)
          omega) b0 b1
        have g : b2i (c b) ≤ sumZ (fun b => b2i (c b)) n := g
        rw [b2i_p cb] at g
        rw [b2i_p cn]
        omega
      · rw [fmx_none (fun k a b r => e ⟨k, a, b, r.2⟩)] at q
        have := wid_two q
        omega
    · rw [fmx_none (fun k a b r => cn r.1)] at q
      have := wid_two q
      omega
theorem side_0 {B : Int} {n : Nat} {s : Int → Int} (h : INV B n s) (q : pts s n ≠ 0) : 0 < (oM s n).1 ∧ sdS s ((oM s n).2 0) = (if 0 < sc s n then 0 else 1) ∧ sc s n ≠ 0 := by
  have c : s 0 = 1 ∧ ¬ Burnt s n := Classical.byContradiction fun c => q (pts_n c)
  have pb := pts_b h
  have m0 : 0 < (oM s n).1 := by
    by_cases e : ∃ b : Int, 0 ≤ b ∧ b < n ∧ NearM s n b
    · obtain ⟨b, b0, b1, b2, b3⟩ := e
      obtain ⟨i, i0, i1, -⟩ := (oM_spec s n).2.2.2.2 b b0 b1 b2
      omega
    · exact absurd (pts_none (fun b x y z => e ⟨b, x, y, z⟩)) q
  have so := sc_ord h c (oM_spec s n) m0
  have r : sdS s ((oM s n).2 0) = 0 ∨ sdS s ((oM s n).2 0) = 1 := by
    show (s 61 + (oM s n).2 0) % 2 = 0 ∨ (s 61 + (oM s n).2 0) % 2 = 1
    omega
  refine ⟨m0, ?_, ?_⟩
  · rcases r with r | r
    · rw [if_pos r] at so
      rw [r, if_pos (by omega)]
    · rw [if_neg (by omega)] at so
      rw [r, if_neg (by omega)]
  · rcases r with r | r
    · rw [if_pos r] at so; omega
    · rw [if_neg (by omega)] at so; omega
