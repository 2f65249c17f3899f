/-! the law's turn: P (answer), where what a join is given is known only to exist -/
theorem jnE {τ ρ : Type} {rest : τ → ρ} {use : (τ → ρ) → ρ} {C : τ → Prop} {P : ρ → Prop} (u : ∃ x, C x ∧ ∀ g : τ → ρ, use g = g x) (t : ∀ x, C x → P (rest x)) : P (jn rest use) := by
  obtain ⟨x, c, e⟩ := u
  show P (use rest)
  rw [e]
  exact t x c
theorem bdP {α β : Type} {x : Option α} {f : α → Option β} {a : α} {P : Option β → Prop} (h : x = some a) (k : P (f a)) : P (x.bind f) := by rw [h]; exact k
theorem jnP {τ ρ : Type} {rest : τ → ρ} {use : (τ → ρ) → ρ} {P : ρ → Prop} (k : P (use rest)) : P (jn rest use) := k
theorem ifPS {α : Type} {c : Prop} [Decidable c] {a b : α} {P : α → Prop} (h : c) (k : P a) : P (if c then a else b) := by rw [if_pos h]; exact k
theorem ifPN {α : Type} {c : Prop} [Decidable c] {a b : α} {P : α → Prop} (h : ¬ c) (k : P b) : P (if c then a else b) := by rw [if_neg h]; exact k
theorem lp_ex {σ ρ : Type} {step : σ → (σ → Option ρ) → Option ρ} {o : Option ρ} (J : Nat → σ → Prop) (n : Nat) (h : ∀ j y, j < n → J j y → ∃ y2, J (j + 1) y2 ∧ ∀ k, step y k = k y2) (he : ∀ y, J n y → ∀ k, step y k = o) : ∀ (m N j : Nat) (y : σ), j + m = n → m < N → J j y → lpN step N y = o := by
  intro m
  induction m with
  | zero =>
    intro N j y e hN hj
    obtain ⟨N, rfl⟩ : ∃ M, N = M + 1 := ⟨N - 1, by omega⟩
    have : j = n := by omega
    subst this
    exact he y hj _
  | succ m ih =>
    intro N j y e hN hj
    obtain ⟨N, rfl⟩ : ∃ M, N = M + 1 := ⟨N - 1, by omega⟩
    obtain ⟨y2, a, b⟩ := h j y (by omega) hj
    show step y _ = o
    rw [b]
    exact ih N (j + 1) y2 (by omega) (by omega) a
