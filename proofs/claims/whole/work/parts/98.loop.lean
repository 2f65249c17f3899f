/-! the law's loop: it comes to its end -/
theorem iteG {B : Int} {c : Prop} [Decidable c] {a b : Option UT} (h1 : c → GOK B a) (h2 : ¬ c → GOK B b) : GOK B (if c then a else b) := by
  by_cases h : c
  · rw [if_pos h]
    exact h1 h
  · rw [if_neg h]
    exact h2 h
abbrev GIu (B : Int) (u : UT) : Prop := GI B u.2.1 u.2.2.1 u.2.2.2.1 u.2.2.2.2.2.1 u.2.2.2.2.2.2.1 u.2.2.2.2.2.2.2.1 u.2.2.2.2.2.2.2.2.1 u.2.2.2.2.2.2.2.2.2.1 u.2.2.2.2.2.2.2.2.2.2.1 u.2.2.2.2.2.2.2.2.2.2.2.1 u.2.2.2.2.2.2.2.2.2.2.2.2
theorem cases_ok {N L : Nat} {B i : Int} {xs : Nat → Int32} {u : UT} (F : FF N) (hN : 1500 < N) (hu : GIu B u) (hB : B + 1000 ≤ 1000000) (hi : 0 ≤ i) (hiL : i + 4 < L) (hL : L ≤ 2560) : GOK (B + 1000) (f_cases N L xs (i32 i) u) := by
  obtain ⟨fo, mv, xv, nv, tv, w0, w1, v0, v1, v2, v3, v4, v5⟩ := u
  obtain ⟨th, s, as_, ah, sv, sm, sl, kp, bu, le, st, od, om, sp, wr_, sg, on_, tw, t3, pl, fi, be, ha, n, z, os, stk, cd, e1, e2, h1, h2, h3, h4, h5⟩ := hu
  dsimp only at e1 e2 h2 h3 h4
  subst e1 e2
  have G : Gp B z os n s sv sm sl kp bu le stk cd nv w0 w1 v0 v1 v2 v3 v4 v5 := ⟨h1, h2, h3, h4, h5, hB⟩
  unfold f_cases
  refine iteG (fun _ => law_0 hN G hi hiL hL) (fun _ => ?_)
  refine iteG (fun _ => law_1 hN G hi hiL hL) (fun _ => ?_)
  refine iteG (fun _ => law_2 hN G hi hiL hL) (fun _ => ?_)
  refine iteG (fun _ => law_3 hN G hi hiL hL) (fun _ => ?_)
  refine iteG (fun _ => law_4 hN G hi hiL hL) (fun _ => ?_)
  refine iteG (fun _ => law_5 hN G hi hiL hL) (fun _ => ?_)
  refine iteG (fun _ => law_6 hN G hi hiL hL) (fun _ => ?_)
  refine iteG (fun _ => law_7 hN G hi hiL hL) (fun _ => ?_)
  refine iteG (fun _ => law_8 hN G hi hiL hL) (fun _ => ?_)
  refine iteG (fun _ => law_9 hN G hi hiL hL) (fun _ => ?_)
  refine iteG (fun _ => law_10 hN G hi hiL hL) (fun _ => ?_)
  refine iteG (fun _ => law_11 hN G hi hiL hL) (fun _ => ?_)
  refine iteG (fun _ => law_12 hN G hi hiL hL) (fun _ => ?_)
  refine iteG (fun _ => law_13 hN G hi hiL hL) (fun _ => ?_)
  refine iteG (fun _ => law_14 hN G hi hiL hL) (fun _ => ?_)
  refine iteG (fun _ => law_15 hN G hi hiL hL) (fun _ => ?_)
  refine iteG (fun _ => law_16 hN G hi hiL hL) (fun _ => ?_)
  refine iteG (fun _ => law_17 hN G hi hiL hL) (fun _ => ?_)
  refine iteG (fun _ => law_18 hN G hi hiL hL) (fun _ => ?_)
  refine iteG (fun _ => law_19 hN G hi hiL hL) (fun _ => ?_)
  refine iteG (fun _ => law_20 hN G hi hiL hL) (fun _ => ?_)
  refine iteG (fun _ => law_21 hN G hi hiL hL) (fun _ => ?_)
  refine iteG (fun _ => law_22 hN G hi hiL hL) (fun _ => ?_)
  refine iteG (fun _ => law_23 hN G hi hiL hL) (fun _ => ?_)
  refine iteG (fun _ => law_24 hN G hi hiL hL) (fun _ => ?_)
  refine iteG (fun _ => law_25 hN G hi hiL hL) (fun _ => ?_)
  refine iteG (fun _ => law_26 hN G hi hiL hL) (fun _ => ?_)
  refine iteG (fun _ => law_27 hN G hi hiL hL) (fun _ => ?_)
  refine iteG (fun _ => law_28 hN G hi hiL hL) (fun _ => ?_)
  refine iteG (fun _ => law_29 hN G hi hiL hL) (fun _ => ?_)
  refine iteG (fun _ => law_30 hN G hi hiL hL) (fun _ => ?_)
  refine iteG (fun _ => law_31 hN G hi hiL hL) (fun _ => ?_)
  refine iteG (fun _ => law_32 hN G hi hiL hL) (fun _ => ?_)
  refine iteG (fun _ => law_33 hN G hi hiL hL) (fun _ => ?_)
  refine iteG (fun _ => law_34 hN G hi hiL hL) (fun _ => ?_)
  refine iteG (fun _ => law_35 hN G hi hiL hL) (fun _ => ?_)
  refine iteG (fun _ => law_36 hN G hi hiL hL) (fun _ => ?_)
  refine iteG (fun _ => law_37 hN G hi hiL hL) (fun _ => ?_)
  refine iteG (fun _ => law_38 hN G hi hiL hL) (fun _ => ?_)
  refine iteG (fun _ => law_39 hN G hi hiL hL) (fun _ => ?_)
  refine iteG (fun _ => law_40 hN G hi hiL hL) (fun _ => ?_)
  refine iteG (fun _ => law_41 hN G hi hiL hL) (fun _ => ?_)
  refine iteG (fun _ => law_42 hN G hi hiL hL) (fun _ => ?_)
  refine iteG (fun _ => law_43 hN G hi hiL hL) (fun _ => ?_)
  refine iteG (fun _ => law_44 hN G hi hiL hL) (fun _ => ?_)
  refine iteG (fun _ => law_45 hN G hi hiL hL) (fun _ => ?_)
  refine iteG (fun _ => law_46 hN G hi hiL hL) (fun _ => ?_)
  refine iteG (fun _ => law_47 hN G hi hiL hL) (fun _ => ?_)
  refine iteG (fun _ => law_48 hN G hi hiL hL) (fun _ => ?_)
  refine iteG (fun _ => law_49 hN G hi hiL hL) (fun _ => ?_)
  refine iteG (fun _ => law_50 hN G hi hiL hL) (fun _ => ?_)
  refine iteG (fun _ => law_51 hN G hi hiL hL) (fun _ => ?_)
  refine iteG (fun _ => law_52 hN G hi hiL hL) (fun _ => ?_)
  refine iteG (fun _ => law_53 hN G hi hiL hL) (fun _ => ?_)
  refine iteG (fun _ => law_54 hN G hi hiL hL) (fun _ => ?_)
  refine iteG (fun _ => law_55 hN G hi hiL hL) (fun _ => ?_)
  refine iteG (fun _ => law_56 hN G hi hiL hL) (fun _ => ?_)
  refine iteG (fun _ => law_57 hN G hi hiL hL) (fun _ => ?_)
  refine iteG (fun _ => law_58 hN G hi hiL hL) (fun _ => ?_)
  refine iteG (fun _ => law_59 hN G hi hiL hL) (fun _ => ?_)
  refine iteG (fun _ => law_60 hN G hi hiL hL F) (fun _ => ?_)
  refine iteG (fun _ => law_61 hN G hi hiL hL F) (fun _ => ?_)
  exact gok_r G
theorem step_end {N L : Nat} {i : Int} {xs : Nat → Int32} {u : UT} {k : Int32 × UT → Option Unit} (h0 : 0 ≤ i) (h1 : i ≤ 2565) (h : (L : Int) ≤ i + 4) : F_step N L xs (i32 i, u) k = some () := by
  unfold F_step
  refine if_pos ?_
  show Int32.ofNat L - (5 : Int32) < i32 i
  rw [i32_ofNat, l32_5, i32_sub, i32_lt (by omega) (by omega) (by omega) (by omega)]
  omega
theorem step_go {N L : Nat} {i : Int} {xs : Nat → Int32} {u : UT} {k : Int32 × UT → Option Unit} (h0 : 0 ≤ i) (h : i + 4 < (L : Int)) (hL : L ≤ 2560) : F_step N L xs (i32 i, u) k = (f_cases N L xs (i32 i) u).bind (fun u => k (i32 (i + 5), u)) := by
  unfold F_step
  refine (if_neg ?_).trans ?_
  · show ¬ Int32.ofNat L - (5 : Int32) < i32 i
    rw [i32_ofNat, l32_5, i32_sub, i32_lt (by omega) (by omega) (by omega) (by omega)]
    omega
  · rw [← i32_add, ← l32_5]
    exact gd_ix h0 (by omega) (by omega)
theorem loop_ok {N L : Nat} {xs : Nat → Int32} (F : FF N) (hN : 1500 < N) (hL : L ≤ 2560) : ∀ (d M : Nat) (i B : Int) (u : UT), d < M → 0 ≤ i → i ≤ 2565 → (L : Int) - i ≤ 5 * (d : Int) → GIu B u → B + 1000 * (d : Int) ≤ 1000000 → lpN (F_step N L xs) M (i32 i, u) = some () := by
  intro d
  induction d with
  | zero =>
    intro M i B u hM h0 h1 hd _ _
    obtain ⟨M, rfl⟩ : ∃ x, M = x + 1 := ⟨M - 1, by omega⟩
    rw [lpN_s1, step_end h0 h1 (by omega)]
  | succ d ih =>
    intro M i B u hM h0 h1 hd hu hB
    rw [ncS] at hd hB
    obtain ⟨M, rfl⟩ : ∃ x, M = x + 1 := ⟨M - 1, by omega⟩
    by_cases c : i + 4 < (L : Int)
    · obtain ⟨fo, mv, xv, nv, tv, w0, w1, v0, v1, v2, v3, v4, v5, e1, e2⟩ := cases_ok (xs := xs) F hN hu (by omega) h0 c hL
      rw [lpN_s1, step_go h0 c hL, e1, Option.bind_some]
      exact ih M (i + 5) (B + 1000) _ (by omega) (by omega) (by omega) (by omega) e2 (by omega)
    · rw [lpN_s1, step_end h0 h1 (by omega)]
/-- how all begins -/
def sZ : Int → Int := up (up (fun _ => 0) 60 4) 67 21
def pZ : Int → Int := up (up (up (up (up (up (up (up (up (fun _ => 0) 0 (-1)) 1 (-1)) 2 (-1)) 3 (-1)) 4 (-1)) 5 (-1)) 6 (-1)) 7 (-1)) 8 (-1)
theorem mI0_z : mI0 = RZ sZ := by
  have e0 : (fun _ : Nat => (0 : Int32)) = RZ (fun _ => 0) := rfl
  unfold mI0 sZ
  rw [e0]
  simp (maxSteps := 4000000) (disch := omega) only [jn, Option.bind_some, l32_0, l32_1, l32_2, l32_3, l32_4, l32_5, l32_6, l32_7, l32_8, l32_9, l32_10, l32_11, l32_12, l32_13, l32_14, l32_15, l32_16, l32_17, l32_18, l32_19, l32_20, l32_21, l32_22, l32_23, l32_24, l32_25, l32_26, l32_27, l32_28, l32_29, l32_30, l32_31, l32_32, l32_33, l32_34, l32_35, l32_36, l32_37, l32_38, l32_39, l32_40, l32_41, l32_42, l32_43, l32_44, l32_45, l32_46, l32_47, l32_48, l32_49, l32_50, l32_51, l32_52, l32_53, l32_54, l32_55, l32_56, l32_57, l32_58, l32_59, l32_60, l32_61, l32_62, l32_63, l32_64, l32_65, l32_66, l32_67, l32_68, l32_69, l32_70, l32_71, l32_83, l32_91, l32_98, l32_99, l32_100, l32_101, l32_102, l32_103, l32_106, l32_119, l32_126, l32_206, l32_515, l32_618, l32_850, l32_1000, l32_1022, l32_1023, l32_1050, l32_1239, l32_1260, i32_add, i32_sub, i32_mul, i32_neg, ↓reduceIte, ltT, ltF, leT, leF, eqT, eqF, gd_ix, i32_nat, RZ_at, upd_RZ, i32_ofNat]
theorem gI0_z : gI0 = RZ pZ := by
  have e0 : (fun _ : Nat => (0 : Int32)) = RZ (fun _ => 0) := rfl
  unfold gI0 pZ
  rw [e0]
  simp (maxSteps := 4000000) (disch := omega) only [jn, Option.bind_some, l32_0, l32_1, l32_2, l32_3, l32_4, l32_5, l32_6, l32_7, l32_8, l32_9, l32_10, l32_11, l32_12, l32_13, l32_14, l32_15, l32_16, l32_17, l32_18, l32_19, l32_20, l32_21, l32_22, l32_23, l32_24, l32_25, l32_26, l32_27, l32_28, l32_29, l32_30, l32_31, l32_32, l32_33, l32_34, l32_35, l32_36, l32_37, l32_38, l32_39, l32_40, l32_41, l32_42, l32_43, l32_44, l32_45, l32_46, l32_47, l32_48, l32_49, l32_50, l32_51, l32_52, l32_53, l32_54, l32_55, l32_56, l32_57, l32_58, l32_59, l32_60, l32_61, l32_62, l32_63, l32_64, l32_65, l32_66, l32_67, l32_68, l32_69, l32_70, l32_71, l32_83, l32_91, l32_98, l32_99, l32_100, l32_101, l32_102, l32_103, l32_106, l32_119, l32_126, l32_206, l32_515, l32_618, l32_850, l32_1000, l32_1022, l32_1023, l32_1050, l32_1239, l32_1260, i32_add, i32_sub, i32_mul, i32_neg, ↓reduceIte, ltT, ltF, leT, leF, eqT, eqF, gd_ix, i32_nat, RZ_at, upd_RZ, i32_ofNat]
theorem sZ_v : sZ 60 = 4 ∧ sZ 67 = 21 ∧ ∀ j, j ≠ 60 → j ≠ 67 → sZ j = 0 := by
  unfold sZ
  refine ⟨by rw [up_ne (by omega), up_self], up_self _ _ _, fun j a b => by rw [up_ne b, up_ne a]⟩
theorem pZ_v {k : Int} (h0 : 0 ≤ k) (h1 : k < 9) : pZ k = -1 := by
  have : k = 0 ∨ k = 1 ∨ k = 2 ∨ k = 3 ∨ k = 4 ∨ k = 5 ∨ k = 6 ∨ k = 7 ∨ k = 8 := by omega
  rcases this with rfl | rfl | rfl | rfl | rfl | rfl | rfl | rfl | rfl <;> rfl
theorem invZ : INV 0 0 sZ := by
  obtain ⟨a, b, c⟩ := sZ_v
  refine ⟨c 3 (by omega) (by omega), by omega, Or.inl ⟨c 0 (by omega) (by omega), rfl⟩, by rw [a]; omega, Or.inl (c 61 (by omega) (by omega)), by rw [c 62 (by omega) (by omega)]; omega, Or.inl (c 63 (by omega) (by omega)), Or.inl (c 64 (by omega) (by omega)), by rw [b]; omega, by rw [c 70 (by omega) (by omega)]; omega, fun k x y => by rw [c _ (by omega) (by omega)]; omega, fun j hj => by rw [c j (by omega) (by omega)]; omega, by omega⟩
theorem showsZ : shows sZ 0 0 sI := by
  obtain ⟨a, b, c⟩ := sZ_v
  have P1 : ∀ k, Pl sZ k = -1 := fun k => by
    by_cases k8 : k = 8
    · rw [k8, Pl_none (by rw [c 0 (by omega) (by omega)]; omega)]
    · unfold Pl
      rw [if_neg k8, if_neg (fun q => by
        have := c 3 (by omega) (by omega)
        omega)]
  have e : sI = (SK (GK (RZ pZ) (RZ (fun _ => 0)) (RZ (fun _ => 0)) (RZ (fun _ => 0)) (RZ (fun _ => 0)) (RZ (fun _ => 0)) (RZ (fun _ => 0)) (i32 (((0 : Nat) : Int))) (i32 0)) (VK (RZ (fun _ => 0)) (RZ (fun _ => 0)) (RZ (fun _ => 0)) (i32 21) (i32 0) (i32 0) (i32 0) (i32 0) (i32 0) (i32 0) (i32 0)) (i32 4) (i32 0) (i32 0) (i32 0)) := by
    rw [← gI0_z]
    rfl
  rw [e]
  refine shows_mk ⟨fun k x y => ?_, fun k x y => by omega, fun k x y => ?_⟩ ⟨?_, ?_, fun k x y => ?_, fun k x y => ?_⟩ ⟨b.symm, (c 68 (by omega) (by omega)).symm, (c 69 (by omega) (by omega)).symm, (c 70 (by omega) (by omega)).symm, (c 100 (by omega) (by omega)).symm, (c 101 (by omega) (by omega)).symm, (c 102 (by omega) (by omega)).symm, (c 61 (by omega) (by omega)).symm, a.symm, (c 62 (by omega) (by omega)).symm, (c 63 (by omega) (by omega)).symm, (c 64 (by omega) (by omega)).symm⟩
  · rw [pZ_v x y, P1]
  · rw [if_neg (by omega)]
  · rw [c 65 (by omega) (by omega)]
  · rw [c 66 (by omega) (by omega)]
  · rw [c 70 (by omega) (by omega)] at y
    omega
  · rw [c _ (by omega) (by omega)]
theorem mI_z : mI = (MK (i32 0) (RZ sZ) (RZ (fun _ => 0)) (RZ (fun _ => 0)) (RZ (fun _ => 0)) (i32 0) (RZ (fun _ => 0)) (i32 0) (RZ (fun _ => 0)) (i32 0) (i32 0) (RZ (fun _ => 0)) (i32 0) (i32 0) (i32 0) (i32 0) (i32 0) (i32 0) (i32 0) (i32 0) (i32 0) (i32 0) 0) := by
  rw [← mI0_z]
  rfl
theorem uI_ok : GIu 0 uI := by
  refine ⟨0, sZ, fun _ => 0, fun _ => 0, fun _ => 0, 0, fun _ => 0, 0, fun _ => 0, 0, 0, fun _ => 0, 0, 0, 0, 0, 0, 0, 0, 0, 0, 0, 0, 0, 0, 0, fun _ => 0, fun _ => 0, mI_z, rfl, invZ, showsZ, ⟨by omega, by omega, fun i x y => by omega⟩, ⟨Or.inl rfl, Or.inl rfl, rfl, fun q => ?_, fun q => ?_⟩, by omega, fun k x y => by omega⟩
  · have q : (0 : Int) = 1 := q
    omega
  · have q : (0 : Int) = 1 := q
    omega
theorem F_law_of {L : Nat} {xs : Nat → Int32} (F : FF 2000) (hL : L ≤ 2560) : F_law 2000 600 L xs = some () := by
  unfold F_law
  rw [l32_0]
  exact loop_ok F (by omega) hL 512 600 0 0 uI (by omega) (by omega) (by omega) (by omega) uI_ok (by omega)
