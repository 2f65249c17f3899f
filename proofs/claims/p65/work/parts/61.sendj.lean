/-! a bowl goes its way, whole -/
def colAt (dr bi i : Int) : Int := if i = 0 then 10 else clm i dr bi
theorem colAt_0 (dr bi : Int) : colAt dr bi 0 = 10 := if_pos rfl
theorem colAt_s {dr bi i : Int} (h : i ≠ 0) : colAt dr bi i = clm i dr bi := if_neg h
/-- what a bowl's way may change of the row -/
abbrev sendF (s s' : Int → Int) (n : Nat) (b : Int) : Prop := ∀ j, 0 ≤ j → j ≠ 1 → j ≠ 102 → (∀ k : Int, 0 ≤ k → k < n → j ≠ 4 + 7 * k + 0 ∧ j ≠ 4 + 7 * k + 1) → j ≠ 4 + 7 * b + 2 → j ≠ 4 + 7 * b + 3 → s' j = s j
abbrev stopS (s : Int → Int) (w dr bi : Int) (i : Nat) : Prop := w ≤ i ∨ 60 ≤ (i : Int) + 1 ∨ ¬ (0 ≤ clm ((i : Int) + 1) dr bi ∧ clm ((i : Int) + 1) dr bi < 21) ∨ ∃ k, Lies s ((i : Int) + 1) (clm ((i : Int) + 1) dr bi) k
/-- what a bowl's way keeps besides -/
def sendX (s s' : Int → Int) (n : Nat) (b st st' w dr bi : Int) : Prop := s 1 ≤ s' 1 ∧ (∀ k : Int, 0 ≤ k → k < n → k ≠ b → s (4 + 7 * k + 0) ≠ 2 → s (4 + 7 * k + 3) = 1 → s' (4 + 7 * k + 0) ≠ 2) ∧ (st ≤ st' ∧ st' ≤ st + 8) ∧ (s' (4 + 7 * b + 3) = 1 → st < st' ∧ (20 ≤ s 1 → s' (4 + 7 * b + 0) ≠ 2)) ∧ (st' = st → (s' (4 + 7 * b + 0) = 0 ∧ s' (4 + 7 * b + 1) = w ∧ s' (4 + 7 * b + 2) = colAt dr bi w ∧ ∀ j : Int, 1 ≤ j → j ≤ w → (0 ≤ clm j dr bi ∧ clm j dr bi < 21) ∧ j < 60) ∨ (s' (4 + 7 * b + 0) = 2 ∧ ∃ j : Int, 1 ≤ j ∧ j ≤ w ∧ ¬ ((0 ≤ clm j dr bi ∧ clm j dr bi < 21) ∧ j < 60)))
theorem send_joint {N n : Nat} (hN : 900 < N) (hn : n ≤ 8) {th : Int} {s : Int → Int} {as_ : Int → Int} {ah : Int → Int} {sv : Int → Int} {sm : Int} {sl : Int → Int} {kp : Int} {bu : Int → Int} {le : Int} {st : Int} {od : Int → Int} {om : Int} {sp : Int} {wr_ : Int} {sg : Int} {on_ : Int} {tw : Int} {t3 : Int} {pl : Int} {fi : Int} {be : Int} {ha : Int64} {p sd ai we bi to orr : Int → Int} {nn b a w bb : Int} (hb0 : 0 ≤ b) (hbn : b < n) (hg : GEO s n) (b2 : s (4 + 7 * b + 0) = 2) (b3 : s (4 + 7 * b + 3) = 0) (ht : ∀ k : Int, 0 ≤ k → k < n → to k = s (4 + 7 * k + 3)) (hto : okT to) (hp : ∀ k, 0 ≤ k → k < 9 → k ≠ b → p k = Pl s k) (hpb : p b = -1) (ea : ai b = a) (ew : we b = w) (eb : bi b = bb) (sa : s (4 + 7 * b + 4) = a) (sw : s (4 + 7 * b + 5) = w) (sb : s (4 + 7 * b + 6) = bb) (hA : -9 ≤ a ∧ a ≤ 9) (hw : 15 ≤ w ∧ w ≤ 70) (hbb : -3 ≤ bb ∧ bb ≤ 3) (hwi : -5 ≤ s 62 ∧ s 62 ≤ 5) :
    ∃ (p' to' s' : Int → Int) (st' : Int), f_X0_sendBowl N (GK (RZ p) (RZ sd) (RZ ai) (RZ we) (RZ bi) (RZ to) (RZ orr) (i32 nn) (i32 st)) (i32 b) (i32 (s 62)) = some (GK (RZ p') (RZ sd) (RZ ai) (RZ we) (RZ bi) (RZ to') (RZ orr) (i32 nn) (i32 st')) ∧ f_X6_goes N (MK (i32 th) (RZ s) (RZ as_) (RZ ah) (RZ sv) (i32 sm) (RZ sl) (i32 kp) (RZ bu) (i32 le) (i32 st) (RZ od) (i32 om) (i32 sp) (i32 wr_) (i32 sg) (i32 on_) (i32 tw) (i32 t3) (i32 pl) (i32 fi) (i32 be) ha) (i32 b) = some (MK (i32 th) (RZ s') (RZ as_) (RZ ah) (RZ sv) (i32 sm) (RZ sl) (i32 kp) (RZ bu) (i32 le) (i32 st') (RZ od) (i32 om) (i32 sp) (i32 wr_) (i32 sg) (i32 on_) (i32 tw) (i32 t3) (i32 pl) (i32 fi) (i32 be) ha) ∧ GEO s' n ∧ (∀ k, 0 ≤ k → k < 9 → p' k = Pl s' k) ∧ (∀ k, k ≠ b → to' k = to k) ∧ to' b = s' (4 + 7 * b + 3) ∧ sendF s s' n b ∧ s' 102 = s 102 + to' b ∧ sendX s s' n b st st' w (a + s 62) bb := by
  have hpr := pl_range hg hn
  have okp : okP p := fun k x y => by
    by_cases kb : k = b
    · rw [kb, hpb]; omega
    · rw [hp k x y kb]; exact hpr k x y
  have okg := geo_okG hg
  have g3 := hg.2.1
  have nLb : ∀ r c, ¬ Lies s r c b := fun r c q => by
    rcases q with ⟨q, -⟩ | ⟨-, -, q, -⟩ <;> omega
  -- what lies ahead
  have ahead : ∀ r c : Int, 1 ≤ r → r < 60 → 0 ≤ c → c < 21 → ∃ t : Int, f_X6_thingAt N (MK (i32 th) (RZ s) (RZ as_) (RZ ah) (RZ sv) (i32 sm) (RZ sl) (i32 kp) (RZ bu) (i32 le) (i32 st) (RZ od) (i32 om) (i32 sp) (i32 wr_) (i32 sg) (i32 on_) (i32 tw) (i32 t3) (i32 pl) (i32 fi) (i32 be) ha) (i32 r) (i32 c) = some (i32 t) ∧ ((t = -1 ∧ ∀ k, ¬ Lies s r c k) ∨ Lies s r c t) ∧ thg p (r * 21 + c) = t := fun r c r1 r2 c1 c2 => by
    obtain ⟨t, e1, e2⟩ := thingAt_m (N := N) (th := th) (as_ := as_) (ah := ah) (sv := sv) (sm := sm) (sl := sl) (kp := kp) (bu := bu) (le := le) (st := st) (od := od) (om := om) (sp := sp) (wr_ := wr_) (sg := sg) (on_ := on_) (tw := tw) (t3 := t3) (pl := pl) (fi := fi) (be := be) (ha := ha) (n := n) (r := r) (c := c) (by omega) hn g3 okg (by omega) (by omega)
    refine ⟨t, e1, e2, ?_⟩
    rw [show r * 21 + c = 21 * r + c by omega]
    exact thg_lies hg hn (by omega) r2 c1 (by omega) hp (by omega) b2 (by omega) e2
  have go : ∀ j : Nat, ¬ stopS s w (a + s 62) bb j → (j : Int) < w ∧ (j : Int) + 1 < 60 ∧ (0 ≤ clm ((j : Int) + 1) (a + s 62) bb ∧ clm ((j : Int) + 1) (a + s 62) bb < 21) ∧ ∀ k, ¬ Lies s ((j : Int) + 1) (clm ((j : Int) + 1) (a + s 62) bb) k := fun j h => by
    refine ⟨?_, ?_, ?_, fun k hk => h (Or.inr (Or.inr (Or.inr ⟨k, hk⟩)))⟩
    · exact Decidable.byContradiction fun q => h (Or.inl (by omega))
    · exact Decidable.byContradiction fun q => h (Or.inr (Or.inl (by omega)))
    · exact Decidable.byContradiction fun q => h (Or.inr (Or.inr (Or.inl q)))
  obtain ⟨m, hm, hlt, hstop, ⟨k1, L1⟩, ⟨k2, L2⟩⟩ := lp_to2 (step := stS N (GK (RZ p) (RZ sd) (RZ ai) (RZ we) (RZ bi) (RZ to) (RZ orr) (i32 nn) (i32 st)) (i32 b) (i32 (s 62)) (i32 a) (i32 bb) (i32 w)) (step' := stG N (MK (i32 th) (RZ s) (RZ as_) (RZ ah) (RZ sv) (i32 sm) (RZ sl) (i32 kp) (RZ bu) (i32 le) (i32 st) (RZ od) (i32 om) (i32 sp) (i32 wr_) (i32 sg) (i32 on_) (i32 tw) (i32 t3) (i32 pl) (i32 fi) (i32 be) ha) (i32 b)) (fun i => (i32 ((i : Int) * 21 + colAt (a + s 62) bb i), i32 ((i : Int) + 1))) (fun i => (i32 (i : Int), i32 (colAt (a + s 62) bb i), i32 (w - i))) (stopS s w (a + s 62) bb) w.toNat N (s0 := ((10 : Int32), (1 : Int32))) (s0' := ((0 : Int32), (10 : Int32), i32 w)) (by
      show _ = (i32 (((0 : Nat) : Int) * 21 + colAt (a + s 62) bb ((0 : Nat) : Int)), i32 (((0 : Nat) : Int) + 1))
      rw [nc0, colAt_0]
      rfl) (by
      show _ = (i32 ((0 : Nat) : Int), i32 (colAt (a + s 62) bb ((0 : Nat) : Int)), i32 (w - ((0 : Nat) : Int)))
      rw [nc0, colAt_0, Int.sub_zero]
      rfl) (by omega) (Or.inl (by omega)) (fun j hj q k => by
      obtain ⟨q1, q2, ⟨q3, q4⟩, q5⟩ := go j q
      obtain ⟨t, -, e2, e3⟩ := ahead ((j : Int) + 1) _ (by omega) q2 q3 q4
      have e4 : t = -1 := by
        rcases e2 with e2 | e2
        · exact e2.1
        · exact absurd e2 (q5 t)
      rw [e4] at e3
      rw [s_go (by omega) okp (by omega) (by omega) (by omega) hA hwi hbb q2 q3 q4 e3]
      show _ = k (i32 (((j + 1 : Nat) : Int) * 21 + colAt (a + s 62) bb ((j + 1 : Nat) : Int)), i32 (((j + 1 : Nat) : Int) + 1))
      rw [ncS, colAt_s (by omega)]) (fun j hj q k => by
      obtain ⟨q1, q2, ⟨q3, q4⟩, q5⟩ := go j q
      obtain ⟨t, e1, e2, -⟩ := ahead ((j : Int) + 1) _ (by omega) q2 q3 q4
      have e4 : t = -1 := by
        rcases e2 with e2 | e2
        · exact e2.1
        · exact absurd e2 (q5 t)
      rw [e4] at e1
      rw [g_go hb0 (by omega) (by omega) (by omega) (by omega) q2 (by omega) hwi (by omega) (by rw [sa, sb]) ⟨q3, by omega⟩ e1]
      show _ = k (i32 ((j + 1 : Nat) : Int), i32 (colAt (a + s 62) bb ((j + 1 : Nat) : Int)), i32 (w - ((j + 1 : Nat) : Int)))
      rw [ncS, colAt_s (by omega), show w - (j : Int) + -1 = w - ((j : Int) + 1) by omega])
  have E1 : ∀ o, stS N (GK (RZ p) (RZ sd) (RZ ai) (RZ we) (RZ bi) (RZ to) (RZ orr) (i32 nn) (i32 st)) (i32 b) (i32 (s 62)) (i32 a) (i32 bb) (i32 w) (i32 ((m : Int) * 21 + colAt (a + s 62) bb m), i32 ((m : Int) + 1)) k1 = o → f_X0_sendBowl N (GK (RZ p) (RZ sd) (RZ ai) (RZ we) (RZ bi) (RZ to) (RZ orr) (i32 nn) (i32 st)) (i32 b) (i32 (s 62)) = o := fun o h => by
    rw [sendBowl_st]
    simp (maxSteps := 4000000) (disch := omega) only [G_places_k, G_sides_k, G_aims_k, G_weights_k, G_biases_k, G_touched_k, G_order_k, G_bowlCount_k, G_strikes_k, G_set_places_k, G_set_sides_k, G_set_aims_k, G_set_weights_k, G_set_biases_k, G_set_touched_k, G_set_order_k, G_set_bowlCount_k, G_set_strikes_k, at_in, ea, ew, eb, Option.bind_some]
    rw [L1]
    exact h
  have E2 : ∀ o, stG N (MK (i32 th) (RZ s) (RZ as_) (RZ ah) (RZ sv) (i32 sm) (RZ sl) (i32 kp) (RZ bu) (i32 le) (i32 st) (RZ od) (i32 om) (i32 sp) (i32 wr_) (i32 sg) (i32 on_) (i32 tw) (i32 t3) (i32 pl) (i32 fi) (i32 be) ha) (i32 b) (i32 (m : Int), i32 (colAt (a + s 62) bb m), i32 (w - m)) k2 = o → f_X6_goes N (MK (i32 th) (RZ s) (RZ as_) (RZ ah) (RZ sv) (i32 sm) (RZ sl) (i32 kp) (RZ bu) (i32 le) (i32 st) (RZ od) (i32 om) (i32 sp) (i32 wr_) (i32 sg) (i32 on_) (i32 tw) (i32 t3) (i32 pl) (i32 fi) (i32 be) ha) (i32 b) = o := fun o h => by
    rw [goes_st]
    simp (maxSteps := 4000000) (disch := omega) only [l32_5, of_ok, sw, Option.bind_some]
    rw [L2]
    exact h
  have cm : 0 ≤ colAt (a + s 62) bb m ∧ colAt (a + s 62) bb m ≤ 20 ∧ (m : Int) < 60 ∧ (m ≠ 0 → ∀ k, ¬ Lies s m (colAt (a + s 62) bb m) k) := by
    by_cases m0 : m = 0
    · subst m0
      rw [nc0, colAt_0]
      exact ⟨by omega, by omega, by omega, fun h => absurd rfl h⟩
    · obtain ⟨q1, q2, ⟨q3, q4⟩, q5⟩ := go (m - 1) (hlt (m - 1) (by omega))
      have e : ((m - 1 : Nat) : Int) + 1 = m := by omega
      rw [e] at q2 q3 q4 q5
      rw [colAt_s (by omega)]
      exact ⟨q3, by omega, q2, fun _ => q5⟩
  obtain ⟨cm0, cm1, m60, cmL⟩ := cm
  generalize ecol : colAt (a + s 62) bb m = col at E1 E2 cm0 cm1 cmL
  by_cases hend : w ≤ m
  · -- it lies where it is
    have m0 : m ≠ 0 := by omega
    have up3 : ∀ j, j ≠ 4 + 7 * b + 0 → j ≠ 4 + 7 * b + 1 → j ≠ 4 + 7 * b + 2 → up (up (up s (4 + 7 * b + 0) 0) (4 + 7 * b + 1) m) (4 + 7 * b + 2) col j = s j := fun j x y z => by rw [up_ne z, up_ne y, up_ne x]
    obtain ⟨r1, r2, r3⟩ := geo_gen (s' := up (up (up s (4 + 7 * b + 0) 0) (4 + 7 * b + 1) m) (4 + 7 * b + 2) col) (n' := n) (t := b) (r := m) (c := col) (x := 0) (tv := 0) hg hn hb0 (Or.inl ⟨rfl, hbn⟩) (fun j _ _ _ hj => up3 j (fun e => hj 0 (by omega) (by omega) e) (fun e => hj 1 (by omega) (by omega) e) (fun e => hj 2 (by omega) (by omega) e)) (by rw [up3 3 (by omega) (by omega) (by omega)]; exact g3) (by rw [up_ne (by omega), up_ne (by omega), up_self]) (by rw [up_ne (by omega), up_self]) (by rw [up_self]) (by rw [up3 _ (by omega) (by omega) (by omega)]; exact b3) (by omega) (by omega) (by omega) (Or.inl ⟨rfl, m60⟩) (fun _ k _ => cmL m0 k)
    refine ⟨up p b ((m : Int) * 21 + col), to, _, st, E1 _ (s_end hb0 (by omega) (by omega) (by omega) (by omega)), E2 _ (g_end hb0 (by omega) (by omega) (by omega)), r1, fun k x y => ?_, fun k _ => rfl, ?_, fun j j0 _ _ hj j2 j3 => up3 j (hj b hb0 hbn).1 (hj b hb0 hbn).2 j2, ?_, ?_⟩
    · by_cases kb : k = b
      · rw [kb, up_self, r3, if_neg (by omega)]; omega
      · rw [up_ne kb, r2 k kb, hp k x y kb]
    · rw [up3 _ (by omega) (by omega) (by omega)]; exact ht b hb0 hbn
    · rw [up3 _ (by omega) (by omega) (by omega), ht b hb0 hbn, b3, Int.add_zero]
    · have wm : w = m := by omega
      refine ⟨by rw [up3 1 (by omega) (by omega) (by omega)]; exact Int.le_refl _, fun k k0 kn kb k2 k3 => by rw [up3 _ (by omega) (by omega) (by omega)]; exact k2, by omega, fun h3 => ?_, fun _ => Or.inl ⟨by rw [up_ne (by omega), up_ne (by omega), up_self], by rw [up_ne (by omega), up_self, wm], by rw [up_self, wm]; exact ecol.symm, fun j j1 j2 => ?_⟩⟩
      · rw [up3 _ (by omega) (by omega) (by omega), b3] at h3
        omega
      · obtain ⟨q1, q2, q3, q4⟩ := go (j.toNat - 1) (hlt (j.toNat - 1) (by omega))
        have ej : ((j.toNat - 1 : Nat) : Int) + 1 = j := by omega
        rw [ej] at q2 q3
        exact ⟨q3, q2⟩
  have Pb : p b = Pl s b := by rw [hpb, Pl_dead (by omega) b2]
  by_cases hout : 60 ≤ (m : Int) + 1 ∨ ¬ (0 ≤ clm ((m : Int) + 1) (a + s 62) bb ∧ clm ((m : Int) + 1) (a + s 62) bb < 21)
  · -- it is out, or in the ditch
    refine ⟨p, to, s, st, E1 _ (s_out (by omega) (by omega) (by omega) hA hwi hbb hout), E2 _ (g_out hb0 (by omega) (by omega) (by omega) (by omega) m60 (by omega) hwi (by omega) (by rw [sa, sb]; exact hout)), hg, fun k x y => ?_, fun k _ => rfl, ht b hb0 hbn, fun j _ _ _ _ _ _ => rfl, by rw [ht b hb0 hbn, b3, Int.add_zero], Int.le_refl _, fun k _ _ _ k2 _ => k2, by omega, fun h3 => by omega, fun _ => Or.inr ⟨b2, (m : Int) + 1, by omega, by omega, by omega⟩⟩
    by_cases kb : k = b
    · rw [kb]; exact Pb
    · exact hp k x y kb
  -- it strikes
  have hin : (0 ≤ clm ((m : Int) + 1) (a + s 62) bb ∧ clm ((m : Int) + 1) (a + s 62) bb < 21) := Decidable.byContradiction fun q => hout (Or.inr q)
  have hm6 : (m : Int) + 1 < 60 := by omega
  generalize ec : clm ((m : Int) + 1) (a + s 62) bb = c at hin
  obtain ⟨o, e1, e2, e3⟩ := ahead ((m : Int) + 1) c (by omega) hm6 hin.1 hin.2
  have hL : Lies s ((m : Int) + 1) c o := by
    rcases e2 with e2 | e2
    · exfalso
      rcases hstop with q | q | q | ⟨k, q⟩
      · omega
      · omega
      · rw [ec] at q; exact q hin
      · rw [ec] at q; exact e2.2 k q
    · exact e2
  have ob : o ≠ b := fun e => nLb _ _ (e ▸ hL)
  have o09 : 0 ≤ o ∧ o < 9 := by
    rcases hL with h | h <;> omega
  have otok : tOK n o := by
    rcases hL with h | h
    · exact Or.inl h.1
    · exact Or.inr ⟨h.1, by omega⟩
  have epo : p o = 21 * ((m : Int) + 1) + c := (hp o o09.1 o09.2 ob).trans ((lies_pl hg hn (by omega) hm6 hin.1 (by omega) o09.1 o09.2).mp hL)
  have H1 := s_hit (N := N) (p := p) (sd := sd) (ai := ai) (we := we) (bi := bi) (to := to) (od := orr) (n := nn) (st := st) (b := b) (wi := s 62) (a := a) (bb := bb) (w := w) (pl := (m : Int) * 21 + col) (q := (m : Int) + 1) (k := k1) (by omega) hb0 (by omega) okp (by omega) (by omega) (by omega) hA hwi hbb hm6 (by rw [ec]; exact hin.1) (by rw [ec]; exact hin.2) (by rw [ec]; exact e3) (by omega) o09.1 o09.2
  have H2 := g_hit (N := N) (b := b) (row := m) (at_ := col) (l := w - m) (k := k2) hb0 (by omega) (by omega) (by omega) (by omega) hm6 (by omega) hwi (by omega) (by rw [sa, sb]; exact ec) ⟨hin.1, by omega⟩ e1 o09.1 o09.2
  generalize etv : (if o = 8 then 1 else 0 : Int) = tv at H1 H2
  have htv : tv = 0 ∨ tv = 1 := by
    by_cases o8 : o = 8
    · rw [if_pos o8] at etv; omega
    · rw [if_neg o8] at etv; omega
  generalize epb : (if (m : Int) + 1 = 1 then -1 else (m : Int) * 21 + col) = pb at H1
  have hpb1 : -1 ≤ pb ∧ pb < 21 * ((m : Int) + 1) := by
    by_cases q : (m : Int) + 1 = 1
    · rw [if_pos q] at epb; omega
    · rw [if_neg q] at epb; omega
  generalize es1 : up (up (up (up s (4 + 7 * b + 3) tv) 102 (s 102 + tv)) (4 + 7 * b + 2) col) (4 + 7 * b + 1) (m : Int) = s1 at H2
  have u1 : ∀ j, j ≠ 4 + 7 * b + 3 → j ≠ 102 → j ≠ 4 + 7 * b + 2 → j ≠ 4 + 7 * b + 1 → s1 j = s j := fun j x y z v => by rw [← es1, up_ne v, up_ne z, up_ne y, up_ne x]
  have u11 : s1 (4 + 7 * b + 1) = m := by rw [← es1, up_self]
  have u12 : s1 (4 + 7 * b + 2) = col := by rw [← es1, up_ne (by omega), up_self]
  have u13 : s1 (4 + 7 * b + 3) = tv := by rw [← es1, up_ne (by omega), up_ne (by omega), up_ne (by omega), up_self]
  have u102 : s1 102 = s 102 + tv := by rw [← es1, up_ne (by omega), up_ne (by omega), up_self]
  have u10 : s1 (4 + 7 * b + 0) = 2 := by rw [u1 _ (by omega) (by omega) (by omega) (by omega)]; exact b2
  obtain ⟨G1, P1, -⟩ := geo_gen (s' := s1) (n' := n) (t := b) (r := m) (c := col) (x := 2) (tv := tv) hg hn hb0 (Or.inl ⟨rfl, hbn⟩) (fun j _ _ _ hj => u1 j (fun e => hj 3 (by omega) (by omega) e) (by omega) (fun e => hj 2 (by omega) (by omega) e) (fun e => hj 1 (by omega) (by omega) e)) (by rw [u1 3 (by omega) (by omega) (by omega) (by omega)]; exact g3) u10 u11 u12 u13 (by omega) (by omega) htv (Or.inr (Or.inr rfl)) (fun h => by omega)
  have hto1 : okT (up to b tv) := fun k x y => by
    by_cases kb : k = b
    · rw [kb, up_self]; exact htv
    · rw [up_ne kb]; exact hto k x y
  obtain ⟨p', s2, st', w1, w2, w3, w4, w5, w6, w7, x1, x2, x3, x4⟩ := push_joint (N := N) (n := n) (by omega) hn (th := th) (as_ := as_) (ah := ah) (sv := sv) (sm := sm) (sl := sl) (kp := kp) (bu := bu) (le := le) (od := od) (om := om) (sp := sp) (wr_ := wr_) (sg := sg) (on_ := on_) (tw := tw) (t3 := t3) (pl := pl) (fi := fi) (be := be) (ha := ha) (sd := sd) (ai := ai) (we := we) (bi := bi) (to := up to b tv) (orr := orr) (nn := nn) (b := b) (pb := pb) (lim := 21 * ((m : Int) + 1)) hb0 hbn hto1 hpb1.1 hpb1.2 70 N N o ((w - m + -1) / 2) (up p b pb) s1 (st + 1) (by omega) (by omega) (by omega) (by omega) (by omega) G1 u10 (fun k x y => by
      by_cases kb : k = b
      · rw [kb, up_self, u13]
      · rw [up_ne kb, u1 _ (by omega) (by omega) (by omega) (by omega)]; exact ht k x y) (fun k x y kb => by rw [up_ne kb, P1 k kb]; exact hp k x y kb) (up_self _ _ _) otok ob (by rw [up_ne ob]; omega) (by rw [up_ne ob]; omega) (by rw [up_ne ob]; omega)
  rw [show w - ((m : Int) + 1) = w - m + -1 by omega, pushOn_st, w1, Option.bind_some] at H1
  have eg : f_X6_goesOn N (MK (i32 th) (RZ s1) (RZ as_) (RZ ah) (RZ sv) (i32 sm) (RZ sl) (i32 kp) (RZ bu) (i32 le) (i32 st) (RZ od) (i32 om) (i32 sp) (i32 wr_) (i32 sg) (i32 on_) (i32 tw) (i32 t3) (i32 pl) (i32 fi) (i32 be) ha) (i32 o) (i32 ((w - m + -1) / 2)) = some (MK (i32 th) (RZ s2) (RZ as_) (RZ ah) (RZ sv) (i32 sm) (RZ sl) (i32 kp) (RZ bu) (i32 le) (i32 st') (RZ od) (i32 om) (i32 sp) (i32 wr_) (i32 sg) (i32 on_) (i32 tw) (i32 t3) (i32 pl) (i32 fi) (i32 be) ha) := by
    rw [goesOn_st, ← w2]
    simp only [M_thrown_k, M_s_k, M_aside_k, M_ahead_k, M_saved_k, M_savedMany_k, M_slots_k, M_kept_k, M_buffer_k, M_length_k, M_strikes_k, M_order_k, M_orderMany_k, M_spot_k, M_isWrong_k, M_sign_k, M_one_k, M_two_k, M_three_k, M_played_k, M_isFine_k, M_bestPoints_k, M_hash_k, M_set_thrown_k, M_set_s_k, M_set_aside_k, M_set_ahead_k, M_set_saved_k, M_set_savedMany_k, M_set_slots_k, M_set_kept_k, M_set_buffer_k, M_set_length_k, M_set_strikes_k, M_set_order_k, M_set_orderMany_k, M_set_spot_k, M_set_isWrong_k, M_set_sign_k, M_set_one_k, M_set_two_k, M_set_three_k, M_set_played_k, M_set_isFine_k, M_set_bestPoints_k, M_set_hash_k, l32_1, i32_add]
  have v1 : ∀ j, (j = 4 + 7 * b + 0 ∨ j = 4 + 7 * b + 1 ∨ j = 4 + 7 * b + 2 ∨ j = 4 + 7 * b + 3) → s2 j = s1 j := fun j e => w4 j (by omega) (fun k _ _ kb => by omega)
  rw [eg, Option.bind_some, sets_ok (by omega) (by omega), Option.bind_some] at H2
  generalize ex : (if (m : Int) + 1 ≤ 1 then 2 else 0 : Int) = x at H2
  have hx : (x = 2 ∧ m = 0) ∨ (x = 0 ∧ m ≠ 0) := by
    by_cases q : (m : Int) + 1 ≤ 1
    · rw [if_pos q] at ex; omega
    · rw [if_neg q] at ex; omega
  have u3 : ∀ j, j ≠ 4 + 7 * b + 0 → up s2 (4 + 7 * b + 0) x j = s2 j := fun j q => up_ne q
  obtain ⟨G2, P2, B2⟩ := geo_gen (s' := up s2 (4 + 7 * b + 0) x) (n' := n) (t := b) (r := m) (c := col) (x := x) (tv := tv) w3 hn hb0 (Or.inl ⟨rfl, hbn⟩) (fun j _ _ _ hj => u3 j (fun e => hj 0 (by omega) (by omega) e)) (by rw [u3 3 (by omega)]; exact w3.2.1) (up_self _ _ _) (by rw [u3 _ (by omega), v1 _ (by omega), u11]) (by rw [u3 _ (by omega), v1 _ (by omega), u12]) (by rw [u3 _ (by omega), v1 _ (by omega), u13]) (by omega) (by omega) htv (by omega) (fun x0 k kb hk => by
    have m0 : m ≠ 0 := by omega
    have k09 : 0 ≤ k ∧ k < 9 := by
      have := w3.2.1
      rcases hk with h | h <;> omega
    have q1 := (lies_pl w3 hn (by omega) m60 cm0 cm1 k09.1 k09.2).mp hk
    rw [← w5 k k09.1 k09.2 kb] at q1
    rcases w7 k kb with q | q | q
    · rw [up_ne kb, hp k k09.1 k09.2 kb] at q
      exact cmL m0 k ((lies_pl hg hn (by omega) m60 cm0 cm1 k09.1 k09.2).mpr (by omega))
    · omega
    · omega)
  refine ⟨p', up to b tv, up s2 (4 + 7 * b + 0) x, st', E1 _ H1, E2 _ H2, G2, fun k y z => ?_, fun k kb => up_ne kb, ?_, fun j j0 j1 j102 hj j2 j3 => ?_, ?_, ?_⟩
  · by_cases kb : k = b
    · rw [kb, w6, B2, ← epb]
      rcases hx with ⟨x2, m0⟩ | ⟨x0, m0⟩
      · rw [if_pos x2, if_pos (by omega)]
      · rw [if_neg (by omega), if_neg (by omega)]; omega
    · rw [P2 k kb]; exact w5 k y z kb
  · rw [up_self, u3 _ (by omega), v1 _ (by omega), u13]
  · rw [u3 j (hj b hb0 hbn).1, w4 j j1 (fun k x y _ => hj k x y), u1 j j3 j102 j2 (hj b hb0 hbn).2]
  · rw [up_self, u3 _ (by omega), w4 102 (by omega) (fun k x y _ => by omega), u102]
  · have x5 := x4 6 (show (w - m + -1) / 2 < 64 by omega)
    refine ⟨?_, fun k k0 kn kb k2 k3 => ?_, ⟨by omega, by omega⟩, fun h3 => ⟨by omega, fun h20 => ?_⟩, fun h => by omega⟩
    · rw [u3 1 (by omega)]
      rw [u1 1 (by omega) (by omega) (by omega) (by omega)] at x1
      exact x1
    · rw [u3 _ (by omega)]
      exact x2 k k0 kn kb (by rw [u1 _ (by omega) (by omega) (by omega) (by omega)]; exact k2) (by rw [u1 _ (by omega) (by omega) (by omega) (by omega)]; exact k3)
    · rw [u3 _ (by omega), v1 _ (by omega), u13] at h3
      have o8 : o = 8 := by
        by_cases q : o = 8
        · exact q
        · rw [if_neg q] at etv; omega
      have m0 : m ≠ 0 := by
        intro q
        rcases hL with h | h <;> omega
      rw [up_self]
      omega
