/-! an act is a change, the same for all objects that show one row -/
def HW (how : Int32) : Prop := how = 0 ∨ how = 1 ∨ how = 2 ∨ how = 3 ∨ how = 4 ∨ how = 5 ∨ how = 6 ∨ how = 7
theorem two_any {N n : Nat} {B z y : Int} {s : Int → Int} {S T : SV} {how p3 p4 p5 : Int32} (hh : HW how) (hN : 1500 < N) (h : INV B n s) (hB : B + 1000 ≤ 1000000) (x : EX s n) (hS : shows s n z S) (hT : shows s n y T) : TWO N B how p3 p4 p5 S T := by
  obtain ⟨a, ha, rfl⟩ := arg32 p3
  obtain ⟨b, hb, rfl⟩ := arg32 p4
  obtain ⟨c, hc, rfl⟩ := arg32 p5
  rcases hh with rfl | rfl | rfl | rfl | rfl | rfl | rfl | rfl
  · exact two_roll ha hN h hB x hS hT
  · exact two_play ha hb hc hN h hB x hS hT
  · exact two_count hN h hB x hS hT
  · exact two_begin ha hN h hB x hS hT
  · exact two_bowls ha hN h hB x hS hT
  · exact two_wind ha hN h hB x hS hT
  · exact two_back hN h hB x hS hT
  · exact two_twice hN h hB x hS hT
abbrev RT : Type := Int32 × ((Nat → Int32) × XV × SV × SV × SV × SV × SV × SV × SV)
abbrev EV_ (ρ : Type) : Type := SV → (Nat → Int32) → XV → SV → SV → SV → SV → SV → SV → ρ
def GOOD (N n : Nat) (s : Int → Int) (E : EV_ (Option RT)) : Prop := ∃ how p3 p4 p5 : Int32, HW how ∧ ∀ (S : SV) (z : Int), shows s n z S → ∀ (fo : Nat → Int32) (xv : XV) (v0 v1 v2 v3 v4 v5 : SV) (r : RT), f_L_changes N fo xv S v0 v1 v2 v3 v4 v5 how p3 p4 p5 = some r → E S fo xv v0 v1 v2 v3 v4 v5 = some r
def PURS (n : Nat) (s : Int → Int) {τ : Type} (use : EV_ ((τ → Option RT) → Option RT)) : Prop := ∃ x : τ, ∀ (S : SV) (z : Int), shows s n z S → ∀ (fo : Nat → Int32) (xv : XV) (v0 v1 v2 v3 v4 v5 : SV) (rest : τ → Option RT), use S fo xv v0 v1 v2 v3 v4 v5 rest = rest x
section GD
variable {N n : Nat} {s : Int → Int}
theorem good_if {c : Prop} [Decidable c] {a b : EV_ (Option RT)} (h1 : c → GOOD N n s a) (h2 : ¬ c → GOOD N n s b) : GOOD N n s (fun S fo xv v0 v1 v2 v3 v4 v5 => if c then a S fo xv v0 v1 v2 v3 v4 v5 else b S fo xv v0 v1 v2 v3 v4 v5) := by
  by_cases q : c
  · obtain ⟨how, p3, p4, p5, k1, k2⟩ := h1 q
    exact ⟨how, p3, p4, p5, k1, fun S z hS fo xv v0 v1 v2 v3 v4 v5 r e => ifS q (k2 S z hS fo xv v0 v1 v2 v3 v4 v5 r e)⟩
  · obtain ⟨how, p3, p4, p5, k1, k2⟩ := h2 q
    exact ⟨how, p3, p4, p5, k1, fun S z hS fo xv v0 v1 v2 v3 v4 v5 r e => ifN q (k2 S z hS fo xv v0 v1 v2 v3 v4 v5 r e)⟩
theorem good_bd {α : Type} {X : EV_ (Option α)} {f : α → EV_ (Option RT)} {val : SV → XV → α} (h : ∀ (S : SV) (z : Int), shows s n z S → ∀ (fo : Nat → Int32) (xv : XV) (v0 v1 v2 v3 v4 v5 : SV), X S fo xv v0 v1 v2 v3 v4 v5 = some (val S xv)) (k : GOOD N n s (fun S fo xv v0 v1 v2 v3 v4 v5 => f (val S xv) S fo xv v0 v1 v2 v3 v4 v5)) : GOOD N n s (fun S fo xv v0 v1 v2 v3 v4 v5 => (X S fo xv v0 v1 v2 v3 v4 v5).bind (fun o => f o S fo xv v0 v1 v2 v3 v4 v5)) := by
  obtain ⟨how, p3, p4, p5, k1, k2⟩ := k
  exact ⟨how, p3, p4, p5, k1, fun S z hS fo xv v0 v1 v2 v3 v4 v5 r e => bdS (h S z hS fo xv v0 v1 v2 v3 v4 v5) (k2 S z hS fo xv v0 v1 v2 v3 v4 v5 r e)⟩
theorem good_jn {τ : Type} {rest : EV_ (τ → Option RT)} {use : EV_ ((τ → Option RT) → Option RT)} (k : GOOD N n s (fun S fo xv v0 v1 v2 v3 v4 v5 => use S fo xv v0 v1 v2 v3 v4 v5 (rest S fo xv v0 v1 v2 v3 v4 v5))) : GOOD N n s (fun S fo xv v0 v1 v2 v3 v4 v5 => jn (rest S fo xv v0 v1 v2 v3 v4 v5) (use S fo xv v0 v1 v2 v3 v4 v5)) := k
theorem good_jnP {τ : Type} {rest : EV_ (τ → Option RT)} {use : EV_ ((τ → Option RT) → Option RT)} (p : PURS n s use) (k : ∀ x : τ, GOOD N n s (fun S fo xv v0 v1 v2 v3 v4 v5 => rest S fo xv v0 v1 v2 v3 v4 v5 x)) : GOOD N n s (fun S fo xv v0 v1 v2 v3 v4 v5 => jn (rest S fo xv v0 v1 v2 v3 v4 v5) (use S fo xv v0 v1 v2 v3 v4 v5)) := by
  obtain ⟨x, hx⟩ := p
  obtain ⟨how, p3, p4, p5, k1, k2⟩ := k x
  exact ⟨how, p3, p4, p5, k1, fun S z hS fo xv v0 v1 v2 v3 v4 v5 r e => (hx S z hS fo xv v0 v1 v2 v3 v4 v5 _).trans (k2 S z hS fo xv v0 v1 v2 v3 v4 v5 r e)⟩
theorem pu_ret {τ : Type} {x : τ} : PURS n s (fun S fo xv v0 v1 v2 v3 v4 v5 j => (j x : Option RT)) := ⟨x, fun _ _ _ _ _ _ _ _ _ _ _ _ => rfl⟩
theorem pu_if {τ : Type} {c : Prop} [Decidable c] {a b : EV_ ((τ → Option RT) → Option RT)} (h1 : c → PURS n s a) (h2 : ¬ c → PURS n s b) : PURS n s (fun S fo xv v0 v1 v2 v3 v4 v5 j => if c then a S fo xv v0 v1 v2 v3 v4 v5 j else b S fo xv v0 v1 v2 v3 v4 v5 j) := by
  by_cases q : c
  · obtain ⟨x, k⟩ := h1 q
    exact ⟨x, fun S z hS fo xv v0 v1 v2 v3 v4 v5 rest => ifS q (k S z hS fo xv v0 v1 v2 v3 v4 v5 rest)⟩
  · obtain ⟨x, k⟩ := h2 q
    exact ⟨x, fun S z hS fo xv v0 v1 v2 v3 v4 v5 rest => ifN q (k S z hS fo xv v0 v1 v2 v3 v4 v5 rest)⟩
theorem pu_bd {τ α : Type} {X : EV_ (Option α)} {f : α → EV_ ((τ → Option RT) → Option RT)} {val : SV → XV → α} (h : ∀ (S : SV) (z : Int), shows s n z S → ∀ (fo : Nat → Int32) (xv : XV) (v0 v1 v2 v3 v4 v5 : SV), X S fo xv v0 v1 v2 v3 v4 v5 = some (val S xv)) (k : PURS n s (fun S fo xv v0 v1 v2 v3 v4 v5 => f (val S xv) S fo xv v0 v1 v2 v3 v4 v5)) : PURS n s (fun S fo xv v0 v1 v2 v3 v4 v5 j => (X S fo xv v0 v1 v2 v3 v4 v5).bind (fun o => f o S fo xv v0 v1 v2 v3 v4 v5 j)) := by
  obtain ⟨x, k⟩ := k
  exact ⟨x, fun S z hS fo xv v0 v1 v2 v3 v4 v5 rest => bdS (h S z hS fo xv v0 v1 v2 v3 v4 v5) (k S z hS fo xv v0 v1 v2 v3 v4 v5 rest)⟩
theorem pu_jn {τ σ : Type} {rest : EV_ (σ → (τ → Option RT) → Option RT)} {use : EV_ ((τ → Option RT) → (σ → Option RT) → Option RT)} (k : PURS n s (fun S fo xv v0 v1 v2 v3 v4 v5 j => use S fo xv v0 v1 v2 v3 v4 v5 j (fun q => rest S fo xv v0 v1 v2 v3 v4 v5 q j))) : PURS n s (fun S fo xv v0 v1 v2 v3 v4 v5 j => jn (fun q => rest S fo xv v0 v1 v2 v3 v4 v5 q j) (use S fo xv v0 v1 v2 v3 v4 v5 j)) := k
def lowv (p m : Int32) : Int32 := (p &&& (2147483647 : Int32)) - (p &&& (2147483647 : Int32)) / m * m
theorem low_ok {p m : Int32} (h : ¬ m = 0) : f_L_low N p m = some (lowv p m) := by
  unfold f_L_low
  rw [gd_pos h]
  rfl
end GD
theorem act_good {N n : Nat} {B : Int} {s : Int → Int} (hN : 1500 < N) (h : INV B n s) (v : Int32) : GOOD N n s (fun S fo xv v0 v1 v2 v3 v4 v5 => f_L_act N fo xv S v0 v1 v2 v3 v4 v5 v) := by
  unfold f_L_act
  refine good_bd (val := fun _ _ => lowv (v >>> ((22 : Int32) &&& 31)) 9) (fun S z hS fo xv v0 v1 v2 v3 v4 v5 => low_ok (by decide)) ?_
  refine good_jnP (by first | exact pu_if (fun _ => pu_ret) (fun _ => pu_ret)) (fun is => ?_)
  refine good_bd (val := fun _ _ => lowv v 24) (fun S z hS fo xv v0 v1 v2 v3 v4 v5 => low_ok (by decide)) ?_
  refine good_if (fun _ => ?_) (fun _ => ?_)
  · refine good_jn ?_
    refine good_if (fun _ => ?_) (fun _ => ?_)
    · refine good_if (fun _ => ?_) (fun _ => ?_)
      · exact ⟨_, _, _, _, (by unfold HW; decide), fun S z hS fo xv v0 v1 v2 v3 v4 v5 r e => bdS e rfl⟩
      refine good_if (fun _ => ?_) (fun _ => ?_)
      · refine good_bd (val := fun _ _ => lowv _ _) (fun S z hS fo xv v0 v1 v2 v3 v4 v5 => low_ok (by decide)) ?_
        refine good_jnP (pu_if (fun _ => pu_ret) (fun _ => pu_ret)) (fun x => ?_)
        exact ⟨_, _, _, _, (by unfold HW; decide), fun S z hS fo xv v0 v1 v2 v3 v4 v5 r e => bdS e rfl⟩
      refine good_if (fun _ => ?_) (fun _ => ?_)
      · exact ⟨_, _, _, _, (by unfold HW; decide), fun S z hS fo xv v0 v1 v2 v3 v4 v5 r e => bdS e rfl⟩
      refine good_if (fun _ => ?_) (fun _ => ?_)
      · exact ⟨_, _, _, _, (by unfold HW; decide), fun S z hS fo xv v0 v1 v2 v3 v4 v5 r e => bdS e rfl⟩
      refine good_if (fun _ => ?_) (fun _ => ?_)
      · refine good_bd (val := fun _ _ => lowv _ _) (fun S z hS fo xv v0 v1 v2 v3 v4 v5 => low_ok (by decide)) ?_
        exact ⟨_, _, _, _, (by unfold HW; decide), fun S z hS fo xv v0 v1 v2 v3 v4 v5 r e => bdS e rfl⟩
      · refine good_bd (val := fun _ _ => lowv _ _) (fun S z hS fo xv v0 v1 v2 v3 v4 v5 => low_ok (by decide)) ?_
        exact ⟨_, _, _, _, (by unfold HW; decide), fun S z hS fo xv v0 v1 v2 v3 v4 v5 r e => bdS e rfl⟩
    · refine good_jn ?_
      refine good_if (fun _ => ?_) (fun _ => ?_)
      · refine good_bd (val := fun _ _ => lowv _ _) (fun S z hS fo xv v0 v1 v2 v3 v4 v5 => low_ok (by decide)) ?_
        exact ⟨_, _, _, _, (by unfold HW; decide), fun S z hS fo xv v0 v1 v2 v3 v4 v5 r e => bdS e rfl⟩
      · refine good_bd (val := fun _ _ => lowv _ _) (fun S z hS fo xv v0 v1 v2 v3 v4 v5 => low_ok (by decide)) ?_
        exact ⟨_, _, _, _, (by unfold HW; decide), fun S z hS fo xv v0 v1 v2 v3 v4 v5 r e => bdS e rfl⟩
  · refine good_bd (val := fun _ _ => i32 (b2i (s 0 = 1))) (fun S z hS fo xv v0 v1 v2 v3 v4 v5 => q_isJackThere hN h hS) ?_
    refine good_jnP (pu_jn (pu_if (fun _ => pu_ret) (fun _ => pu_bd (val := fun _ _ => i32 (n : Int)) (fun S z hS fo xv v0 v1 v2 v3 v4 v5 => q_bowls hN h hS) (pu_bd (val := fun _ _ => i32 (s 60)) (fun S z hS fo xv v0 v1 v2 v3 v4 v5 => q_bowlsOfSide hN h hS) (pu_jn (pu_if (fun _ => pu_ret) (fun _ => pu_bd (val := fun _ _ => i32 (b2i (Burnt s n))) (fun S z hS fo xv v0 v1 v2 v3 v4 v5 => q_isBurnt hN h hS) (pu_if (fun _ => pu_ret) (fun _ => pu_ret))))))))) (fun all => ?_)
    refine good_bd (val := fun _ _ => i32 (b2i (s 0 = 1))) (fun S z hS fo xv v0 v1 v2 v3 v4 v5 => q_isJackThere hN h hS) ?_
    refine good_jn ?_
    refine good_if (fun _ => ?_) (fun _ => ?_)
    · refine good_if (fun _ => ?_) (fun _ => ?_)
      · skip
        refine good_bd (val := fun S xv => (i32 (if s 0 = 1 then s 1 else -9), (xv, S))) (fun S z hS fo xv v0 v1 v2 v3 v4 v5 => lk_jack hN h hS) ?_
        refine good_jn ?_
        try dsimp only
        refine good_if (fun _ => ?_) (fun _ => ?_)
        · skip
          try dsimp only
          refine good_jnP (pu_if (fun _ => pu_jn (pu_if (fun _ => pu_bd (val := fun _ _ => lowv _ _) (fun S z hS fo xv v0 v1 v2 v3 v4 v5 => low_ok (by decide)) pu_ret) (fun _ => pu_bd (val := fun _ _ => lowv _ _) (fun S z hS fo xv v0 v1 v2 v3 v4 v5 => low_ok (by decide)) pu_ret))) (fun _ => pu_bd (val := fun _ _ => lowv _ _) (fun S z hS fo xv v0 v1 v2 v3 v4 v5 => low_ok (by decide)) pu_ret)) (fun x205 => ?_)
          refine good_jnP (pu_if (fun _ => pu_ret) (fun _ => pu_if (fun _ => pu_if (fun _ => pu_ret) (fun _ => pu_ret)) (fun _ => pu_ret))) (fun x243 => ?_)
          refine good_jn (good_jn ?_)
          refine good_if (fun _ => ?_) (fun _ => ?_)
          · skip
            refine good_jnP (pu_if (fun _ => pu_bd (val := fun _ _ => lowv _ _) (fun S z hS fo xv v0 v1 v2 v3 v4 v5 => low_ok (by decide)) pu_ret) (fun _ => pu_jn (pu_if (fun _ => pu_bd (val := fun _ _ => lowv _ _) (fun S z hS fo xv v0 v1 v2 v3 v4 v5 => low_ok (by decide)) pu_ret) (fun _ => pu_bd (val := fun _ _ => lowv _ _) (fun S z hS fo xv v0 v1 v2 v3 v4 v5 => low_ok (by decide)) pu_ret)))) (fun x307 => ?_)
            refine good_jnP (pu_if (fun _ => pu_ret) (fun _ => pu_jn (pu_if (fun _ => pu_bd (val := fun _ _ => lowv _ _) (fun S z hS fo xv v0 v1 v2 v3 v4 v5 => low_ok (by decide)) pu_ret) (fun _ => pu_bd (val := fun _ _ => lowv _ _) (fun S z hS fo xv v0 v1 v2 v3 v4 v5 => low_ok (by decide)) pu_ret)))) (fun x343 => ?_)
            exact ⟨_, _, _, _, (by unfold HW; decide), fun S z hS fo xv v0 v1 v2 v3 v4 v5 r e => bdS e rfl⟩
          refine good_if (fun _ => ?_) (fun _ => ?_)
          · skip
            refine good_jnP (pu_if (fun _ => pu_bd (val := fun _ _ => lowv _ _) (fun S z hS fo xv v0 v1 v2 v3 v4 v5 => low_ok (by decide)) pu_ret) (fun _ => pu_jn (pu_if (fun _ => pu_bd (val := fun _ _ => lowv _ _) (fun S z hS fo xv v0 v1 v2 v3 v4 v5 => low_ok (by decide)) pu_ret) (fun _ => pu_bd (val := fun _ _ => lowv _ _) (fun S z hS fo xv v0 v1 v2 v3 v4 v5 => low_ok (by decide)) pu_ret)))) (fun x307 => ?_)
            refine good_jnP (pu_if (fun _ => pu_ret) (fun _ => pu_jn (pu_if (fun _ => pu_bd (val := fun _ _ => lowv _ _) (fun S z hS fo xv v0 v1 v2 v3 v4 v5 => low_ok (by decide)) pu_ret) (fun _ => pu_bd (val := fun _ _ => lowv _ _) (fun S z hS fo xv v0 v1 v2 v3 v4 v5 => low_ok (by decide)) pu_ret)))) (fun x343 => ?_)
            exact ⟨_, _, _, _, (by unfold HW; decide), fun S z hS fo xv v0 v1 v2 v3 v4 v5 r e => bdS e rfl⟩
          exact ⟨_, _, _, _, (by unfold HW; decide), fun S z hS fo xv v0 v1 v2 v3 v4 v5 r e => bdS e rfl⟩
        · refine good_bd (val := fun S xv => (i32 (if s 0 = 1 then s 1 else -9), (xv, S))) (fun S z hS fo xv v0 v1 v2 v3 v4 v5 => lk_jack hN h hS) ?_
          try dsimp only
          refine good_jnP (pu_if (fun _ => pu_jn (pu_if (fun _ => pu_bd (val := fun _ _ => lowv _ _) (fun S z hS fo xv v0 v1 v2 v3 v4 v5 => low_ok (by decide)) pu_ret) (fun _ => pu_bd (val := fun _ _ => lowv _ _) (fun S z hS fo xv v0 v1 v2 v3 v4 v5 => low_ok (by decide)) pu_ret))) (fun _ => pu_bd (val := fun _ _ => lowv _ _) (fun S z hS fo xv v0 v1 v2 v3 v4 v5 => low_ok (by decide)) pu_ret)) (fun x205 => ?_)
          refine good_jnP (pu_if (fun _ => pu_ret) (fun _ => pu_if (fun _ => pu_if (fun _ => pu_ret) (fun _ => pu_ret)) (fun _ => pu_ret))) (fun x243 => ?_)
          refine good_jn (good_jn ?_)
          refine good_if (fun _ => ?_) (fun _ => ?_)
          · skip
            refine good_jnP (pu_if (fun _ => pu_bd (val := fun _ _ => lowv _ _) (fun S z hS fo xv v0 v1 v2 v3 v4 v5 => low_ok (by decide)) pu_ret) (fun _ => pu_jn (pu_if (fun _ => pu_bd (val := fun _ _ => lowv _ _) (fun S z hS fo xv v0 v1 v2 v3 v4 v5 => low_ok (by decide)) pu_ret) (fun _ => pu_bd (val := fun _ _ => lowv _ _) (fun S z hS fo xv v0 v1 v2 v3 v4 v5 => low_ok (by decide)) pu_ret)))) (fun x307 => ?_)
            refine good_jnP (pu_if (fun _ => pu_ret) (fun _ => pu_jn (pu_if (fun _ => pu_bd (val := fun _ _ => lowv _ _) (fun S z hS fo xv v0 v1 v2 v3 v4 v5 => low_ok (by decide)) pu_ret) (fun _ => pu_bd (val := fun _ _ => lowv _ _) (fun S z hS fo xv v0 v1 v2 v3 v4 v5 => low_ok (by decide)) pu_ret)))) (fun x343 => ?_)
            exact ⟨_, _, _, _, (by unfold HW; decide), fun S z hS fo xv v0 v1 v2 v3 v4 v5 r e => bdS e rfl⟩
          refine good_if (fun _ => ?_) (fun _ => ?_)
          · skip
            refine good_jnP (pu_if (fun _ => pu_bd (val := fun _ _ => lowv _ _) (fun S z hS fo xv v0 v1 v2 v3 v4 v5 => low_ok (by decide)) pu_ret) (fun _ => pu_jn (pu_if (fun _ => pu_bd (val := fun _ _ => lowv _ _) (fun S z hS fo xv v0 v1 v2 v3 v4 v5 => low_ok (by decide)) pu_ret) (fun _ => pu_bd (val := fun _ _ => lowv _ _) (fun S z hS fo xv v0 v1 v2 v3 v4 v5 => low_ok (by decide)) pu_ret)))) (fun x307 => ?_)
            refine good_jnP (pu_if (fun _ => pu_ret) (fun _ => pu_jn (pu_if (fun _ => pu_bd (val := fun _ _ => lowv _ _) (fun S z hS fo xv v0 v1 v2 v3 v4 v5 => low_ok (by decide)) pu_ret) (fun _ => pu_bd (val := fun _ _ => lowv _ _) (fun S z hS fo xv v0 v1 v2 v3 v4 v5 => low_ok (by decide)) pu_ret)))) (fun x343 => ?_)
            exact ⟨_, _, _, _, (by unfold HW; decide), fun S z hS fo xv v0 v1 v2 v3 v4 v5 r e => bdS e rfl⟩
          exact ⟨_, _, _, _, (by unfold HW; decide), fun S z hS fo xv v0 v1 v2 v3 v4 v5 r e => bdS e rfl⟩
      · refine good_bd (val := fun _ _ => i32 (b2i (Over s))) (fun S z hS fo xv v0 v1 v2 v3 v4 v5 => q_isOver hN h hS) ?_
        refine good_jn (good_jn ?_)
        refine good_if (fun _ => ?_) (fun _ => ?_)
        · refine good_bd (val := fun _ _ => lowv _ _) (fun S z hS fo xv v0 v1 v2 v3 v4 v5 => low_ok (by decide)) ?_
          exact ⟨_, _, _, _, (by unfold HW; decide), fun S z hS fo xv v0 v1 v2 v3 v4 v5 r e => bdS e rfl⟩
        refine good_if (fun _ => ?_) (fun _ => ?_)
        · refine good_bd (val := fun _ _ => lowv _ _) (fun S z hS fo xv v0 v1 v2 v3 v4 v5 => low_ok (by decide)) ?_
          exact ⟨_, _, _, _, (by unfold HW; decide), fun S z hS fo xv v0 v1 v2 v3 v4 v5 r e => bdS e rfl⟩
        refine good_bd (val := fun _ _ => lowv _ _) (fun S z hS fo xv v0 v1 v2 v3 v4 v5 => low_ok (by decide)) ?_
        exact ⟨_, _, _, _, (by unfold HW; decide), fun S z hS fo xv v0 v1 v2 v3 v4 v5 r e => bdS e rfl⟩
    · skip
      refine good_bd (val := fun S xv => (i32 (if s 0 = 1 then s 1 else -9), (xv, S))) (fun S z hS fo xv v0 v1 v2 v3 v4 v5 => lk_jack hN h hS) ?_
      refine good_jn ?_
      try dsimp only
      refine good_if (fun _ => ?_) (fun _ => ?_)
      · skip
        try dsimp only
        refine good_jnP (pu_if (fun _ => pu_jn (pu_if (fun _ => pu_bd (val := fun _ _ => lowv _ _) (fun S z hS fo xv v0 v1 v2 v3 v4 v5 => low_ok (by decide)) pu_ret) (fun _ => pu_bd (val := fun _ _ => lowv _ _) (fun S z hS fo xv v0 v1 v2 v3 v4 v5 => low_ok (by decide)) pu_ret))) (fun _ => pu_bd (val := fun _ _ => lowv _ _) (fun S z hS fo xv v0 v1 v2 v3 v4 v5 => low_ok (by decide)) pu_ret)) (fun x205 => ?_)
        refine good_jnP (pu_if (fun _ => pu_ret) (fun _ => pu_if (fun _ => pu_if (fun _ => pu_ret) (fun _ => pu_ret)) (fun _ => pu_ret))) (fun x243 => ?_)
        refine good_jn (good_jn ?_)
        refine good_if (fun _ => ?_) (fun _ => ?_)
        · skip
          refine good_jnP (pu_if (fun _ => pu_bd (val := fun _ _ => lowv _ _) (fun S z hS fo xv v0 v1 v2 v3 v4 v5 => low_ok (by decide)) pu_ret) (fun _ => pu_jn (pu_if (fun _ => pu_bd (val := fun _ _ => lowv _ _) (fun S z hS fo xv v0 v1 v2 v3 v4 v5 => low_ok (by decide)) pu_ret) (fun _ => pu_bd (val := fun _ _ => lowv _ _) (fun S z hS fo xv v0 v1 v2 v3 v4 v5 => low_ok (by decide)) pu_ret)))) (fun x307 => ?_)
          refine good_jnP (pu_if (fun _ => pu_ret) (fun _ => pu_jn (pu_if (fun _ => pu_bd (val := fun _ _ => lowv _ _) (fun S z hS fo xv v0 v1 v2 v3 v4 v5 => low_ok (by decide)) pu_ret) (fun _ => pu_bd (val := fun _ _ => lowv _ _) (fun S z hS fo xv v0 v1 v2 v3 v4 v5 => low_ok (by decide)) pu_ret)))) (fun x343 => ?_)
          exact ⟨_, _, _, _, (by unfold HW; decide), fun S z hS fo xv v0 v1 v2 v3 v4 v5 r e => bdS e rfl⟩
        refine good_if (fun _ => ?_) (fun _ => ?_)
        · skip
          refine good_jnP (pu_if (fun _ => pu_bd (val := fun _ _ => lowv _ _) (fun S z hS fo xv v0 v1 v2 v3 v4 v5 => low_ok (by decide)) pu_ret) (fun _ => pu_jn (pu_if (fun _ => pu_bd (val := fun _ _ => lowv _ _) (fun S z hS fo xv v0 v1 v2 v3 v4 v5 => low_ok (by decide)) pu_ret) (fun _ => pu_bd (val := fun _ _ => lowv _ _) (fun S z hS fo xv v0 v1 v2 v3 v4 v5 => low_ok (by decide)) pu_ret)))) (fun x307 => ?_)
          refine good_jnP (pu_if (fun _ => pu_ret) (fun _ => pu_jn (pu_if (fun _ => pu_bd (val := fun _ _ => lowv _ _) (fun S z hS fo xv v0 v1 v2 v3 v4 v5 => low_ok (by decide)) pu_ret) (fun _ => pu_bd (val := fun _ _ => lowv _ _) (fun S z hS fo xv v0 v1 v2 v3 v4 v5 => low_ok (by decide)) pu_ret)))) (fun x343 => ?_)
          exact ⟨_, _, _, _, (by unfold HW; decide), fun S z hS fo xv v0 v1 v2 v3 v4 v5 r e => bdS e rfl⟩
        exact ⟨_, _, _, _, (by unfold HW; decide), fun S z hS fo xv v0 v1 v2 v3 v4 v5 r e => bdS e rfl⟩
      · refine good_bd (val := fun S xv => (i32 (if s 0 = 1 then s 1 else -9), (xv, S))) (fun S z hS fo xv v0 v1 v2 v3 v4 v5 => lk_jack hN h hS) ?_
        try dsimp only
        refine good_jnP (pu_if (fun _ => pu_jn (pu_if (fun _ => pu_bd (val := fun _ _ => lowv _ _) (fun S z hS fo xv v0 v1 v2 v3 v4 v5 => low_ok (by decide)) pu_ret) (fun _ => pu_bd (val := fun _ _ => lowv _ _) (fun S z hS fo xv v0 v1 v2 v3 v4 v5 => low_ok (by decide)) pu_ret))) (fun _ => pu_bd (val := fun _ _ => lowv _ _) (fun S z hS fo xv v0 v1 v2 v3 v4 v5 => low_ok (by decide)) pu_ret)) (fun x205 => ?_)
        refine good_jnP (pu_if (fun _ => pu_ret) (fun _ => pu_if (fun _ => pu_if (fun _ => pu_ret) (fun _ => pu_ret)) (fun _ => pu_ret))) (fun x243 => ?_)
        refine good_jn (good_jn ?_)
        refine good_if (fun _ => ?_) (fun _ => ?_)
        · skip
          refine good_jnP (pu_if (fun _ => pu_bd (val := fun _ _ => lowv _ _) (fun S z hS fo xv v0 v1 v2 v3 v4 v5 => low_ok (by decide)) pu_ret) (fun _ => pu_jn (pu_if (fun _ => pu_bd (val := fun _ _ => lowv _ _) (fun S z hS fo xv v0 v1 v2 v3 v4 v5 => low_ok (by decide)) pu_ret) (fun _ => pu_bd (val := fun _ _ => lowv _ _) (fun S z hS fo xv v0 v1 v2 v3 v4 v5 => low_ok (by decide)) pu_ret)))) (fun x307 => ?_)
          refine good_jnP (pu_if (fun _ => pu_ret) (fun _ => pu_jn (pu_if (fun _ => pu_bd (val := fun _ _ => lowv _ _) (fun S z hS fo xv v0 v1 v2 v3 v4 v5 => low_ok (by decide)) pu_ret) (fun _ => pu_bd (val := fun _ _ => lowv _ _) (fun S z hS fo xv v0 v1 v2 v3 v4 v5 => low_ok (by decide)) pu_ret)))) (fun x343 => ?_)
          exact ⟨_, _, _, _, (by unfold HW; decide), fun S z hS fo xv v0 v1 v2 v3 v4 v5 r e => bdS e rfl⟩
        refine good_if (fun _ => ?_) (fun _ => ?_)
        · skip
          refine good_jnP (pu_if (fun _ => pu_bd (val := fun _ _ => lowv _ _) (fun S z hS fo xv v0 v1 v2 v3 v4 v5 => low_ok (by decide)) pu_ret) (fun _ => pu_jn (pu_if (fun _ => pu_bd (val := fun _ _ => lowv _ _) (fun S z hS fo xv v0 v1 v2 v3 v4 v5 => low_ok (by decide)) pu_ret) (fun _ => pu_bd (val := fun _ _ => lowv _ _) (fun S z hS fo xv v0 v1 v2 v3 v4 v5 => low_ok (by decide)) pu_ret)))) (fun x307 => ?_)
          refine good_jnP (pu_if (fun _ => pu_ret) (fun _ => pu_jn (pu_if (fun _ => pu_bd (val := fun _ _ => lowv _ _) (fun S z hS fo xv v0 v1 v2 v3 v4 v5 => low_ok (by decide)) pu_ret) (fun _ => pu_bd (val := fun _ _ => lowv _ _) (fun S z hS fo xv v0 v1 v2 v3 v4 v5 => low_ok (by decide)) pu_ret)))) (fun x343 => ?_)
          exact ⟨_, _, _, _, (by unfold HW; decide), fun S z hS fo xv v0 v1 v2 v3 v4 v5 r e => bdS e rfl⟩
        exact ⟨_, _, _, _, (by unfold HW; decide), fun S z hS fo xv v0 v1 v2 v3 v4 v5 r e => bdS e rfl⟩
