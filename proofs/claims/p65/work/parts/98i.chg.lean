/-! a change of an object: what is answered, what state comes; the saved states go along -/
def SVD (N : Nat) (S : SV) (xv : XV) (v0 v1 v2 v3 v4 v5 : SV) (xv2 : XV) (u0 u1 u2 u3 u4 u5 : SV) : Prop := f_X5_saveState N xv S v0 v1 v2 v3 v4 v5 = some (xv2, S, u0, u1, u2, u3, u4, u5)
def CHok (N : Nat) (how p3 p4 p5 : Int32) (S : SV) (q : Int32) (S2 : SV) : Prop := ∀ (fo : Nat → Int32) (xv : XV) (v0 v1 v2 v3 v4 v5 : SV) (xv2 : XV) (u0 u1 u2 u3 u4 u5 : SV), f_X5_saveState N xv S v0 v1 v2 v3 v4 v5 = some (xv2, S, u0, u1, u2, u3, u4, u5) → f_L_changes N fo xv S v0 v1 v2 v3 v4 v5 how p3 p4 p5 = some ((0 : Int32), (upd fo (0 : Int32).toNatClampNeg q, xv2, S2, u0, u1, u2, u3, u4, u5))
def CHno (N : Nat) (how p3 p4 p5 : Int32) (S : SV) (c : Int32) : Prop := ∀ (fo : Nat → Int32) (xv : XV) (v0 v1 v2 v3 v4 v5 : SV), f_L_changes N fo xv S v0 v1 v2 v3 v4 v5 how p3 p4 p5 = some (c, (fo, xv, S, v0, v1, v2, v3, v4, v5))
theorem excS {R ρ : Type} {r : R} {h : Nat → ρ} {c : R → ρ} {o : ρ} (k : c r = o) : exc (Sum.inr r) h c = o := k
theorem excN {R ρ : Type} {r : Nat} {h : Nat → ρ} {c : R → ρ} {o : ρ} (k : h r = o) : exc (Sum.inl r : Nat ⊕ R) h c = o := k
theorem cok_roll {N : Nat} {p3 p4 p5 q : Int32} {S S2 : SV} (h : ∀ (xv : XV) (v0 v1 v2 v3 v4 v5 : SV) (xv2 : XV) (u0 u1 u2 u3 u4 u5 : SV), f_X5_saveState N xv S v0 v1 v2 v3 v4 v5 = some (xv2, S, u0, u1, u2, u3, u4, u5) → f_X5_roll N xv S v0 v1 v2 v3 v4 v5 p3 = some (Sum.inr q, (xv2, S2, u0, u1, u2, u3, u4, u5))) : CHok N (0 : Int32) p3 p4 p5 S q S2 := by
  intro fo xv v0 v1 v2 v3 v4 v5 xv2 u0 u1 u2 u3 u4 u5 e
  unfold f_L_changes
  exact jnS (ifS rfl (bdS (h xv v0 v1 v2 v3 v4 v5 xv2 u0 u1 u2 u3 u4 u5 e) (excS rfl)))
theorem cno_roll {N : Nat} {p3 p4 p5 : Int32} {S : SV} {k : Nat} (hk : k = 0 ∨ k = 1) (h : ∀ (xv : XV) (v0 v1 v2 v3 v4 v5 : SV), f_X5_roll N xv S v0 v1 v2 v3 v4 v5 p3 = some (Sum.inl k, (xv, S, v0, v1, v2, v3, v4, v5))) : CHno N (0 : Int32) p3 p4 p5 S (if k = 0 then (2 : Int32) else (3 : Int32)) := by
  intro fo xv v0 v1 v2 v3 v4 v5
  unfold f_L_changes
  rcases hk with rfl | rfl
  · exact jnS (ifS rfl (bdS (h xv v0 v1 v2 v3 v4 v5) (excN rfl)))
  · exact jnS (ifS rfl (bdS (h xv v0 v1 v2 v3 v4 v5) (excN rfl)))
theorem cok_play {N : Nat} {p3 p4 p5 q : Int32} {S S2 : SV} (h : ∀ (xv : XV) (v0 v1 v2 v3 v4 v5 : SV) (xv2 : XV) (u0 u1 u2 u3 u4 u5 : SV), f_X5_saveState N xv S v0 v1 v2 v3 v4 v5 = some (xv2, S, u0, u1, u2, u3, u4, u5) → f_X5_play N xv S v0 v1 v2 v3 v4 v5 p3 p4 p5 = some (Sum.inr q, (xv2, S2, u0, u1, u2, u3, u4, u5))) : CHok N (1 : Int32) p3 p4 p5 S q S2 := by
  intro fo xv v0 v1 v2 v3 v4 v5 xv2 u0 u1 u2 u3 u4 u5 e
  unfold f_L_changes
  exact jnS (ifN (by decide) (ifS rfl (bdS (h xv v0 v1 v2 v3 v4 v5 xv2 u0 u1 u2 u3 u4 u5 e) (excS rfl))))
theorem cno_play {N : Nat} {p3 p4 p5 : Int32} {S : SV} {k : Nat} (hk : k = 0 ∨ k = 1) (h : ∀ (xv : XV) (v0 v1 v2 v3 v4 v5 : SV), f_X5_play N xv S v0 v1 v2 v3 v4 v5 p3 p4 p5 = some (Sum.inl k, (xv, S, v0, v1, v2, v3, v4, v5))) : CHno N (1 : Int32) p3 p4 p5 S (if k = 0 then (2 : Int32) else (3 : Int32)) := by
  intro fo xv v0 v1 v2 v3 v4 v5
  unfold f_L_changes
  rcases hk with rfl | rfl
  · exact jnS (ifN (by decide) (ifS rfl (bdS (h xv v0 v1 v2 v3 v4 v5) (excN rfl))))
  · exact jnS (ifN (by decide) (ifS rfl (bdS (h xv v0 v1 v2 v3 v4 v5) (excN rfl))))
theorem cok_count {N : Nat} {p3 p4 p5 q : Int32} {S S2 : SV} (h : ∀ (xv : XV) (v0 v1 v2 v3 v4 v5 : SV) (xv2 : XV) (u0 u1 u2 u3 u4 u5 : SV), f_X5_saveState N xv S v0 v1 v2 v3 v4 v5 = some (xv2, S, u0, u1, u2, u3, u4, u5) → f_X5_count N xv S v0 v1 v2 v3 v4 v5  = some (Sum.inr q, (xv2, S2, u0, u1, u2, u3, u4, u5))) : CHok N (2 : Int32) p3 p4 p5 S q S2 := by
  intro fo xv v0 v1 v2 v3 v4 v5 xv2 u0 u1 u2 u3 u4 u5 e
  unfold f_L_changes
  exact jnS (ifN (by decide) (ifN (by decide) (ifS rfl (bdS (h xv v0 v1 v2 v3 v4 v5 xv2 u0 u1 u2 u3 u4 u5 e) (excS rfl)))))
theorem cno_count {N : Nat} {p3 p4 p5 : Int32} {S : SV} {k : Nat} (hk : k = 0 ∨ k = 1) (h : ∀ (xv : XV) (v0 v1 v2 v3 v4 v5 : SV), f_X5_count N xv S v0 v1 v2 v3 v4 v5  = some (Sum.inl k, (xv, S, v0, v1, v2, v3, v4, v5))) : CHno N (2 : Int32) p3 p4 p5 S (if k = 0 then (2 : Int32) else (3 : Int32)) := by
  intro fo xv v0 v1 v2 v3 v4 v5
  unfold f_L_changes
  rcases hk with rfl | rfl
  · exact jnS (ifN (by decide) (ifN (by decide) (ifS rfl (bdS (h xv v0 v1 v2 v3 v4 v5) (excN rfl)))))
  · exact jnS (ifN (by decide) (ifN (by decide) (ifS rfl (bdS (h xv v0 v1 v2 v3 v4 v5) (excN rfl)))))
theorem cok_begin {N : Nat} {p3 p4 p5 q : Int32} {S S2 : SV} (h : ∀ (xv : XV) (v0 v1 v2 v3 v4 v5 : SV) (xv2 : XV) (u0 u1 u2 u3 u4 u5 : SV), f_X5_saveState N xv S v0 v1 v2 v3 v4 v5 = some (xv2, S, u0, u1, u2, u3, u4, u5) → f_X5_begin N xv S v0 v1 v2 v3 v4 v5 p3 = some (Sum.inr q, (xv2, S2, u0, u1, u2, u3, u4, u5))) : CHok N (3 : Int32) p3 p4 p5 S q S2 := by
  intro fo xv v0 v1 v2 v3 v4 v5 xv2 u0 u1 u2 u3 u4 u5 e
  unfold f_L_changes
  exact jnS (ifN (by decide) (ifN (by decide) (ifN (by decide) (ifS rfl (bdS (h xv v0 v1 v2 v3 v4 v5 xv2 u0 u1 u2 u3 u4 u5 e) (excS rfl))))))
theorem cno_begin {N : Nat} {p3 p4 p5 : Int32} {S : SV} {k : Nat} (hk : k = 0 ∨ k = 1) (h : ∀ (xv : XV) (v0 v1 v2 v3 v4 v5 : SV), f_X5_begin N xv S v0 v1 v2 v3 v4 v5 p3 = some (Sum.inl k, (xv, S, v0, v1, v2, v3, v4, v5))) : CHno N (3 : Int32) p3 p4 p5 S (if k = 0 then (2 : Int32) else (3 : Int32)) := by
  intro fo xv v0 v1 v2 v3 v4 v5
  unfold f_L_changes
  rcases hk with rfl | rfl
  · exact jnS (ifN (by decide) (ifN (by decide) (ifN (by decide) (ifS rfl (bdS (h xv v0 v1 v2 v3 v4 v5) (excN rfl))))))
  · exact jnS (ifN (by decide) (ifN (by decide) (ifN (by decide) (ifS rfl (bdS (h xv v0 v1 v2 v3 v4 v5) (excN rfl))))))
theorem cok_changeBowls {N : Nat} {p3 p4 p5 q : Int32} {S S2 : SV} (h : ∀ (xv : XV) (v0 v1 v2 v3 v4 v5 : SV) (xv2 : XV) (u0 u1 u2 u3 u4 u5 : SV), f_X5_saveState N xv S v0 v1 v2 v3 v4 v5 = some (xv2, S, u0, u1, u2, u3, u4, u5) → f_X5_changeBowls N xv S v0 v1 v2 v3 v4 v5 p3 = some (Sum.inr q, (xv2, S2, u0, u1, u2, u3, u4, u5))) : CHok N (4 : Int32) p3 p4 p5 S q S2 := by
  intro fo xv v0 v1 v2 v3 v4 v5 xv2 u0 u1 u2 u3 u4 u5 e
  unfold f_L_changes
  exact jnS (ifN (by decide) (ifN (by decide) (ifN (by decide) (ifN (by decide) (ifS rfl (bdS (h xv v0 v1 v2 v3 v4 v5 xv2 u0 u1 u2 u3 u4 u5 e) (excS rfl)))))))
theorem cno_changeBowls {N : Nat} {p3 p4 p5 : Int32} {S : SV} {k : Nat} (hk : k = 0 ∨ k = 1) (h : ∀ (xv : XV) (v0 v1 v2 v3 v4 v5 : SV), f_X5_changeBowls N xv S v0 v1 v2 v3 v4 v5 p3 = some (Sum.inl k, (xv, S, v0, v1, v2, v3, v4, v5))) : CHno N (4 : Int32) p3 p4 p5 S (if k = 0 then (2 : Int32) else (3 : Int32)) := by
  intro fo xv v0 v1 v2 v3 v4 v5
  unfold f_L_changes
  rcases hk with rfl | rfl
  · exact jnS (ifN (by decide) (ifN (by decide) (ifN (by decide) (ifN (by decide) (ifS rfl (bdS (h xv v0 v1 v2 v3 v4 v5) (excN rfl)))))))
  · exact jnS (ifN (by decide) (ifN (by decide) (ifN (by decide) (ifN (by decide) (ifS rfl (bdS (h xv v0 v1 v2 v3 v4 v5) (excN rfl)))))))
theorem cok_changeWind {N : Nat} {p3 p4 p5 q : Int32} {S S2 : SV} (h : ∀ (xv : XV) (v0 v1 v2 v3 v4 v5 : SV) (xv2 : XV) (u0 u1 u2 u3 u4 u5 : SV), f_X5_saveState N xv S v0 v1 v2 v3 v4 v5 = some (xv2, S, u0, u1, u2, u3, u4, u5) → f_X5_changeWind N xv S v0 v1 v2 v3 v4 v5 p3 = some (Sum.inr q, (xv2, S2, u0, u1, u2, u3, u4, u5))) : CHok N (5 : Int32) p3 p4 p5 S q S2 := by
  intro fo xv v0 v1 v2 v3 v4 v5 xv2 u0 u1 u2 u3 u4 u5 e
  unfold f_L_changes
  exact jnS (ifN (by decide) (ifN (by decide) (ifN (by decide) (ifN (by decide) (ifN (by decide) (ifS rfl (bdS (h xv v0 v1 v2 v3 v4 v5 xv2 u0 u1 u2 u3 u4 u5 e) (excS rfl))))))))
theorem cno_changeWind {N : Nat} {p3 p4 p5 : Int32} {S : SV} {k : Nat} (hk : k = 0 ∨ k = 1) (h : ∀ (xv : XV) (v0 v1 v2 v3 v4 v5 : SV), f_X5_changeWind N xv S v0 v1 v2 v3 v4 v5 p3 = some (Sum.inl k, (xv, S, v0, v1, v2, v3, v4, v5))) : CHno N (5 : Int32) p3 p4 p5 S (if k = 0 then (2 : Int32) else (3 : Int32)) := by
  intro fo xv v0 v1 v2 v3 v4 v5
  unfold f_L_changes
  rcases hk with rfl | rfl
  · exact jnS (ifN (by decide) (ifN (by decide) (ifN (by decide) (ifN (by decide) (ifN (by decide) (ifS rfl (bdS (h xv v0 v1 v2 v3 v4 v5) (excN rfl))))))))
  · exact jnS (ifN (by decide) (ifN (by decide) (ifN (by decide) (ifN (by decide) (ifN (by decide) (ifS rfl (bdS (h xv v0 v1 v2 v3 v4 v5) (excN rfl))))))))
theorem cok_turnBack {N : Nat} {p3 p4 p5 : Int32} {q : Int} {S S2 : SV} (hq : q = 0 ∨ q = 1) (h : ∀ (xv : XV) (v0 v1 v2 v3 v4 v5 : SV) (xv2 : XV) (u0 u1 u2 u3 u4 u5 : SV), f_X5_saveState N xv S v0 v1 v2 v3 v4 v5 = some (xv2, S, u0, u1, u2, u3, u4, u5) → f_X5_turnBack N xv S v0 v1 v2 v3 v4 v5 = some (i32 q, (xv2, S2, u0, u1, u2, u3, u4, u5))) : CHok N (6 : Int32) p3 p4 p5 S (i32 q) S2 := by
  intro fo xv v0 v1 v2 v3 v4 v5 xv2 u0 u1 u2 u3 u4 u5 e
  unfold f_L_changes
  rcases hq with rfl | rfl
  · exact jnS (ifN (by decide) (ifN (by decide) (ifN (by decide) (ifN (by decide) (ifN (by decide) (ifN (by decide) (ifS rfl (bdS (h xv v0 v1 v2 v3 v4 v5 xv2 u0 u1 u2 u3 u4 u5 e) (ifS rfl rfl)))))))))
  · exact jnS (ifN (by decide) (ifN (by decide) (ifN (by decide) (ifN (by decide) (ifN (by decide) (ifN (by decide) (ifS rfl (bdS (h xv v0 v1 v2 v3 v4 v5 xv2 u0 u1 u2 u3 u4 u5 e) (ifN (show ¬ (i32 1 : Int32) = 0 by decide) rfl)))))))))
theorem cok_turnTwice {N : Nat} {p3 p4 p5 : Int32} {q : Int} {S S2 : SV} (hq : q = 0 ∨ q = 1) (h : ∀ (xv : XV) (v0 v1 v2 v3 v4 v5 : SV) (xv2 : XV) (u0 u1 u2 u3 u4 u5 : SV), f_X5_saveState N xv S v0 v1 v2 v3 v4 v5 = some (xv2, S, u0, u1, u2, u3, u4, u5) → f_X5_turnTwice N xv S v0 v1 v2 v3 v4 v5 = some (i32 q, (xv2, S2, u0, u1, u2, u3, u4, u5))) : CHok N (7 : Int32) p3 p4 p5 S (i32 q) S2 := by
  intro fo xv v0 v1 v2 v3 v4 v5 xv2 u0 u1 u2 u3 u4 u5 e
  unfold f_L_changes
  rcases hq with rfl | rfl
  · exact jnS (ifN (by decide) (ifN (by decide) (ifN (by decide) (ifN (by decide) (ifN (by decide) (ifN (by decide) (ifN (by decide) (bdS (h xv v0 v1 v2 v3 v4 v5 xv2 u0 u1 u2 u3 u4 u5 e) (ifS rfl rfl)))))))))
  · exact jnS (ifN (by decide) (ifN (by decide) (ifN (by decide) (ifN (by decide) (ifN (by decide) (ifN (by decide) (ifN (by decide) (bdS (h xv v0 v1 v2 v3 v4 v5 xv2 u0 u1 u2 u3 u4 u5 e) (ifN (show ¬ (i32 1 : Int32) = 0 by decide) rfl)))))))))
/-- both are refused alike, or both go on alike -/
def TWO (N : Nat) (B : Int) (how p3 p4 p5 : Int32) (S T : SV) : Prop := (∃ c : Int32, (c = 2 ∨ c = 3) ∧ CHno N how p3 p4 p5 S c ∧ CHno N how p3 p4 p5 T c) ∨ (∃ (q : Int32) (s2 : Int → Int) (n2 : Nat) (z2 y2 : Int) (S2 T2 : SV), CHok N how p3 p4 p5 S q S2 ∧ CHok N how p3 p4 p5 T q T2 ∧ INV (B + 10) n2 s2 ∧ EX s2 n2 ∧ shows s2 n2 z2 S2 ∧ shows s2 n2 y2 T2)
theorem ifk0 {α : Type} {a b : α} : (if (0 : Nat) = 0 then a else b) = a := rfl
theorem ifk1 {α : Type} {a b : α} : (if (1 : Nat) = 0 then a else b) = b := rfl
theorem two_roll {r : Int} (hr : b31 r) {N n : Nat} {B z y : Int} {s : Int → Int} {S T : SV} {p4 p5 : Int32} (hN : 1500 < N) (h : INV B n s) (hB : B + 1000 ≤ 1000000) (x : EX s n) (hS : shows s n z S) (hT : shows s n y T) : TWO N B 0 (i32 r) p4 p5 S T := by
  by_cases c : 20 ≤ r ∧ r ≤ 50
  · have g1 : ¬ (i32 r < (20 : Int32)) := by rw [l32_20, i32_lt (by omega) (by omega) (by omega) (by omega)]; omega
    have g2 : i32 r ≤ (50 : Int32) := by rw [l32_50, i32_le (by omega) (by omega) (by omega) (by omega)]; omega
    have c1 := canRoll_x (N := N) h hS
    have c2 := canRoll_x (N := N) h hT
    by_cases d : CanRoll s
    · rw [b2i_p d] at c1 c2
      obtain ⟨Sa, a1, -, a3, a4, a5⟩ := roll_joint (N := N) (r := r) (th := 0) (as_ := fun _ => 0) (ah := fun _ => 0) (sv := fun _ => 0) (sm := 0) (sl := fun _ => 0) (kp := 0) (bu := fun _ => 0) (le := 0) (st := 0) (od := fun _ => 0) (om := 0) (sp := 0) (wr_ := 0) (sg := 0) (on_ := 0) (tw := 0) (t3 := 0) (pl := 0) (fi := 0) (be := 0) (ha := 0) (by omega) h hS d c
      obtain ⟨Sb, b1, -, b3, b4, b5⟩ := roll_joint (N := N) (r := r) (th := 0) (as_ := fun _ => 0) (ah := fun _ => 0) (sv := fun _ => 0) (sm := 0) (sl := fun _ => 0) (kp := 0) (bu := fun _ => 0) (le := 0) (st := 0) (od := fun _ => 0) (om := 0) (sp := 0) (wr_ := 0) (sg := 0) (on_ := 0) (tw := 0) (t3 := 0) (pl := 0) (fi := 0) (be := 0) (ha := 0) (by omega) h hT d c
      refine Or.inr ⟨i32 (s 61), rollS s r, 0, z, y, Sa, Sb, cok_roll (fun xv v0 v1 v2 v3 v4 v5 xv2 u0 u1 u2 u3 u4 u5 e => ?_), cok_roll (fun xv v0 v1 v2 v3 v4 v5 xv2 u0 u1 u2 u3 u4 u5 e => ?_), inv_mono a3 (by omega) (by omega), ex_roll h x c.1, a4, b4⟩
      · unfold f_X5_roll
        exact jnS (ifN g1 (ifS g2 (bdS c1 (ifN (by decide) (bdS e (bdS a1 (bdS a5 rfl)))))))
      · unfold f_X5_roll
        exact jnS (ifN g1 (ifS g2 (bdS c2 (ifN (by decide) (bdS e (bdS b1 (bdS b5 rfl)))))))
    · rw [b2i_n d] at c1 c2
      refine Or.inl ⟨_, Or.inr rfl, cno_roll (k := 1) (by omega) (fun xv v0 v1 v2 v3 v4 v5 => ?_), cno_roll (k := 1) (by omega) (fun xv v0 v1 v2 v3 v4 v5 => ?_)⟩
      · unfold f_X5_roll
        exact jnS (ifN g1 (ifS g2 (bdS c1 (ifS rfl rfl))))
      · unfold f_X5_roll
        exact jnS (ifN g1 (ifS g2 (bdS c2 (ifS rfl rfl))))
  · refine Or.inl ⟨_, Or.inl rfl, cno_roll (k := 0) (by omega) (fun xv v0 v1 v2 v3 v4 v5 => ?_), cno_roll (k := 0) (by omega) (fun xv v0 v1 v2 v3 v4 v5 => ?_)⟩
    · unfold f_X5_roll
      by_cases d : r < 20
      · exact jnS (ifS (by rw [show (20 : Int32) = i32 (20) from rfl, i32_lt (by omega) (by omega) (by omega) (by omega)]; exact d) rfl)
      · exact jnS (ifN (by rw [show (20 : Int32) = i32 (20) from rfl, i32_lt (by omega) (by omega) (by omega) (by omega)]; exact d) (ifN (by rw [show (50 : Int32) = i32 (50) from rfl, i32_le (by omega) (by omega) (by omega) (by omega)]; omega) rfl))
    · unfold f_X5_roll
      by_cases d : r < 20
      · exact jnS (ifS (by rw [show (20 : Int32) = i32 (20) from rfl, i32_lt (by omega) (by omega) (by omega) (by omega)]; exact d) rfl)
      · exact jnS (ifN (by rw [show (20 : Int32) = i32 (20) from rfl, i32_lt (by omega) (by omega) (by omega) (by omega)]; exact d) (ifN (by rw [show (50 : Int32) = i32 (50) from rfl, i32_le (by omega) (by omega) (by omega) (by omega)]; omega) rfl))
theorem two_play {a w b : Int} (ha : b31 a) (hw : b31 w) (hb : b31 b) {N n : Nat} {B z y : Int} {s : Int → Int} {S T : SV} (hN : 1500 < N) (h : INV B n s) (hB : B + 1000 ≤ 1000000) (x : EX s n) (hS : shows s n z S) (hT : shows s n y T) : TWO N B 1 (i32 a) (i32 w) (i32 b) S T := by
  have i1 := isPlay_ok (N := N) (a := a) (w := w) (b := b) ha hw hb
  have c1 := canPlay_x (N := N) (by omega) h hS
  have c2 := canPlay_x (N := N) (by omega) h hT
  by_cases c : -9 ≤ a ∧ a ≤ 9 ∧ 15 ≤ w ∧ w ≤ 70 ∧ -3 ≤ b ∧ b ≤ 3
  · rw [b2i_p c] at i1
    by_cases d : CanPlay s n
    · rw [b2i_p d] at c1 c2
      obtain ⟨s2, z2, y2, S2, T2, r1, t1, r3, r4, t4, r5, r6, -, r7⟩ := play_two (N := N) (a := a) (w := w) (b := b) (by omega) h (by omega) hS hT d (by omega) (by omega) (by omega)
      have fx : ∀ (z' : Int) (S' : SV), shows s2 (n + 1) z' S' → f_X0_fateOf N (S_green S') (i32 (n : Int)) = some (i32 (s2 (4 + 7 * (n : Int) + 0))) := fun z' S' hS' => by
        have hn := r3.2.1
        obtain ⟨-, -, -, ef⟩ := bowl_pl r3 (k := (n : Int)) (by omega) (by omega)
        obtain ⟨p, sd, ai, we, bi, to, orr, po, la, eb, rfl, rG, rV⟩ := hS'
        obtain ⟨f1, -, -, -, -, -⟩ := rel_facts r3 rG
        have g := rG.1 (n : Int) (by omega) (by omega)
        simp only [S_green_k, S_score_k, S_bowlsEach_k, S_blowing_k, S_jackGoesBack_k, S_touchersTwice_k, S_set_green_k, S_set_score_k, S_set_bowlsEach_k, S_set_blowing_k, S_set_jackGoesBack_k, S_set_touchersTwice_k]
        rw [x0_fateOf (by omega) (by omega) f1, g, ef]
      refine Or.inr ⟨i32 (s2 (4 + 7 * (n : Int) + 0)), s2, n + 1, z2, y2, S2, T2, cok_play (fun xv v0 v1 v2 v3 v4 v5 xv2 u0 u1 u2 u3 u4 u5 e => ?_), cok_play (fun xv v0 v1 v2 v3 v4 v5 xv2 u0 u1 u2 u3 u4 u5 e => ?_), inv_mono r3 (by omega) (by omega), ex_play h r3 x d.1 r5 r7 (by omega) (by omega) (by omega), r4, t4⟩
      · unfold f_X5_play
        exact bdS i1 (ifN (by decide) (bdS c1 (ifN (by decide) (bdS e (bdS r1 (bdS (fx _ _ r4) rfl))))))
      · unfold f_X5_play
        exact bdS i1 (ifN (by decide) (bdS c2 (ifN (by decide) (bdS e (bdS t1 (bdS (fx _ _ t4) rfl))))))
    · rw [b2i_n d] at c1 c2
      refine Or.inl ⟨_, Or.inr rfl, cno_play (k := 1) (by omega) (fun xv v0 v1 v2 v3 v4 v5 => ?_), cno_play (k := 1) (by omega) (fun xv v0 v1 v2 v3 v4 v5 => ?_)⟩
      · unfold f_X5_play
        exact bdS i1 (ifN (by decide) (bdS c1 (ifS rfl rfl)))
      · unfold f_X5_play
        exact bdS i1 (ifN (by decide) (bdS c2 (ifS rfl rfl)))
  · rw [b2i_n c] at i1
    refine Or.inl ⟨_, Or.inl rfl, cno_play (k := 0) (by omega) (fun xv v0 v1 v2 v3 v4 v5 => ?_), cno_play (k := 0) (by omega) (fun xv v0 v1 v2 v3 v4 v5 => ?_)⟩
    · unfold f_X5_play
      exact bdS i1 (ifS rfl rfl)
    · unfold f_X5_play
      exact bdS i1 (ifS rfl rfl)
theorem two_count {N n : Nat} {B z y : Int} {s : Int → Int} {S T : SV} {p3 p4 p5 : Int32} (hN : 1500 < N) (h : INV B n s) (hB : B + 1000 ≤ 1000000) (x : EX s n) (hS : shows s n z S) (hT : shows s n y T) : TWO N B 2 p3 p4 p5 S T := by
  have c1 := canCount_x (N := N) (by omega) h hS
  have c2 := canCount_x (N := N) (by omega) h hT
  by_cases d : CanCount s n
  · rw [b2i_p d] at c1 c2
    obtain ⟨s2, S2, T2, r1, t1, r3, r4, t4, r5⟩ := count_two (N := N) (by omega) h (by omega) hS hT
    refine Or.inr ⟨i32 (pts s n), s2, 0, z, y, S2, T2, cok_count (fun xv v0 v1 v2 v3 v4 v5 xv2 u0 u1 u2 u3 u4 u5 e => ?_), cok_count (fun xv v0 v1 v2 v3 v4 v5 xv2 u0 u1 u2 u3 u4 u5 e => ?_), inv_mono r3 (by omega) (by omega), (ex_count h r3 x r5).1, r4, t4⟩
    · unfold f_X5_count
      exact bdS c1 (ifN (by decide) (bdS e (bdS r1 rfl)))
    · unfold f_X5_count
      exact bdS c2 (ifN (by decide) (bdS e (bdS t1 rfl)))
  · rw [b2i_n d] at c1 c2
    refine Or.inl ⟨_, Or.inr rfl, cno_count (k := 1) (by omega) (fun xv v0 v1 v2 v3 v4 v5 => ?_), cno_count (k := 1) (by omega) (fun xv v0 v1 v2 v3 v4 v5 => ?_)⟩
    · unfold f_X5_count
      exact bdS c1 (ifS rfl rfl)
    · unfold f_X5_count
      exact bdS c2 (ifS rfl rfl)
