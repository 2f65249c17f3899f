/-! the law's turn: P (answer), where what a join is given is known only to exist -/
theorem jnE {τ ρ : Type} {rest : τ → ρ} {use : (τ → ρ) → ρ} {C : τ → Prop} {P : ρ → Prop} (u : ∃ x, C x ∧ ∀ g : τ → ρ, use g = g x) (t : ∀ x, C x → P (rest x)) : P (jn rest use) := by
  obtain ⟨x, c, e⟩ := u
  show P (use rest)
  rw [e]
  exact t x c
theorem bdP {α β : Type} {x : Option α} {f : α → Option β} {a : α} {P : Option β → Prop} (h : x = some a) (k : P (f a)) : P (x.bind f) := by rw [h]; exact k
theorem jnP {τ ρ : Type} {rest : τ → ρ} {use : (τ → ρ) → ρ} {P : ρ → Prop} (k : P (use rest)) : P (jn rest use) := k
theorem ifPS {α : Type} {c : Prop} [Decidable c] {a b : α} {P : α → Prop} (h : c) (k : P a) : P (if c then a else b) := by rw [if_pos h]; exact k
theorem ifPN {α : Type} {c : Prop} [Decidable c] {a b : α} {P : α → Prop} (h : ¬ c) (k : P b) : P (if c then a else b) := by rw [if_neg h]; exact k
theorem lp_ex {σ ρ : Type} {step : σ → (σ → Option ρ) → Option ρ} {o : Option ρ} (J : Nat → σ → Prop) (n : Nat) (h : ∀ j y, j < n → J j y → ∀ k, ∃ y2, J (j + 1) y2 ∧ step y k = k y2) (he : ∀ y, J n y → ∀ k, step y k = o) : ∀ (m N j : Nat) (y : σ), j + m = n → m < N → J j y → lpN step N y = o := by
  intro m
  induction m with
  | zero =>
    intro N j y e hN hj
    obtain ⟨N, rfl⟩ : ∃ M, N = M + 1 := ⟨N - 1, by omega⟩
    have : j = n := by omega
    subst this
    exact he y hj _
  | succ m ih =>
    intro N j y e hN hj
    obtain ⟨N, rfl⟩ : ∃ M, N = M + 1 := ⟨N - 1, by omega⟩
    obtain ⟨y2, a, b⟩ := h j y (by omega) hj (lpN step N)
    show step y _ = o
    rw [b]
    exact ih N (j + 1) y2 (by omega) (by omega) a
theorem ch_uniq {N : Nat} {how p3 p4 p5 q q' : Int32} {S S2 S3 : SV} {xv xv2 : XV} {v0 v1 v2 v3 v4 v5 u0 u1 u2 u3 u4 u5 : SV} (e : f_X5_saveState N xv S v0 v1 v2 v3 v4 v5 = some (xv2, S, u0, u1, u2, u3, u4, u5)) (a : CHok N how p3 p4 p5 S q S2) (b : CHok N how p3 p4 p5 S q' S3) : q = q' ∧ S2 = S3 := by
  have h := (a (fun _ => 0) xv v0 v1 v2 v3 v4 v5 xv2 u0 u1 u2 u3 u4 u5 e).symm.trans (b (fun _ => 0) xv v0 v1 v2 v3 v4 v5 xv2 u0 u1 u2 u3 u4 u5 e)
  have h := Option.some.inj h
  have h1 : upd (fun _ => (0 : Int32)) (0 : Int32).toNatClampNeg q = upd (fun _ => (0 : Int32)) (0 : Int32).toNatClampNeg q' := congrArg (fun r => r.2.1) h
  have h2 : S2 = S3 := congrArg (fun r => r.2.2.2.1) h
  have h3 := congrFun h1 0
  have e0 : ∀ r : Int32, (upd (fun _ => (0 : Int32)) (0 : Int32).toNatClampNeg r) 0 = r := fun r => if_pos rfl
  rw [e0, e0] at h3
  exact ⟨h3, h2⟩
theorem ch_no {N : Nat} {how p3 p4 p5 q c : Int32} {S S2 : SV} {xv xv2 : XV} {v0 v1 v2 v3 v4 v5 u0 u1 u2 u3 u4 u5 : SV} (e : f_X5_saveState N xv S v0 v1 v2 v3 v4 v5 = some (xv2, S, u0, u1, u2, u3, u4, u5)) (a : CHok N how p3 p4 p5 S q S2) (b : CHno N how p3 p4 p5 S c) (hc : c = 2 ∨ c = 3) : False := by
  have h := (a (fun _ => 0) xv v0 v1 v2 v3 v4 v5 xv2 u0 u1 u2 u3 u4 u5 e).symm.trans (b (fun _ => 0) xv v0 v1 v2 v3 v4 v5)
  have h1 : (0 : Int32) = c := congrArg (fun r => r.1) (Option.some.inj h)
  rcases hc with rfl | rfl
  · exact absurd h1 (by decide)
  · exact absurd h1 (by decide)
theorem exZ : EX sZ 0 := by
  obtain ⟨-, -, c⟩ := sZ_v
  have z : ∀ k : Int, 0 ≤ k → k < ((17 : Nat) : Int) → sZ (83 + k) = 0 := fun k x y => c _ (by omega) (by omega)
  refine ex_none (by rw [c 0 (by omega) (by omega)]; omega) ⟨?_, ?_, ?_, ?_, ?_, ?_, fun i x y => ?_⟩
  · rw [c 69 (by omega) (by omega), c 91 (by omega) (by omega)]; omega
  · rw [c 101 (by omega) (by omega), c 102 (by omega) (by omega)]; omega
  · rw [c 70 (by omega) (by omega), c 68 (by omega) (by omega)]; rfl
  · rw [c 68 (by omega) (by omega)]
    exact sumZ_nul z
  · rw [c 65 (by omega) (by omega)]
    exact sumZ_nul fun k x y => by rw [z k x y, Int.mul_zero]
  · rw [c 66 (by omega) (by omega)]
    exact sumZ_nul fun k x y => by rw [z k x y, Int.mul_zero]
  · rw [c 70 (by omega) (by omega)] at y
    omega
theorem rgZ : RG 0 0 xI sI sI sI sI sI sI := ⟨fun _ => 0, fun _ => 0, 0, tI, rfl, ⟨by omega, by omega⟩, ⟨by omega, by omega⟩, fun i a b => by omega⟩
