/-! the saved states: one more, the latest one back -/
def RG (B sm : Int) (xv : XV) (v0 v1 v2 v3 v4 v5 : SV) : Prop := ∃ (sv stk : Int → Int) (os : Int) (tx : TV), xv = XK (i32 os) (i32 sm) (RZ stk) tx ∧ SAV B sv sm os v0 v1 v2 v3 v4 v5
def TOP (B sm : Int) (s : Int → Int) (xv : XV) (v0 v1 v2 v3 v4 v5 : SV) : Prop := ∃ (sv stk : Int → Int) (os : Int) (tx : TV), xv = XK (i32 os) (i32 sm) (RZ stk) tx ∧ SAV B sv sm os v0 v1 v2 v3 v4 v5 ∧ 0 < sm ∧ ∀ j, 0 ≤ j → j < 103 → rowAt sv (sm - 1) j = s j
section RGS
variable {N n : Nat} {B B2 sm z : Int} {s : Int → Int} {S : SV} {xv : XV} {v0 v1 v2 v3 v4 v5 : SV}
theorem rg_mono (r : RG B sm xv v0 v1 v2 v3 v4 v5) (h : B ≤ B2) (h2 : B2 ≤ 1000000) : RG B2 sm xv v0 v1 v2 v3 v4 v5 := by
  obtain ⟨sv, stk, os, tx, e, k⟩ := r
  exact ⟨sv, stk, os, tx, e, SAV_mono k h h2⟩
theorem rg_sm (r : RG B sm xv v0 v1 v2 v3 v4 v5) : 0 ≤ sm ∧ sm ≤ 6 := by
  obtain ⟨sv, stk, os, tx, e, k⟩ := r
  exact k.2.1
theorem top_rg (r : TOP B sm s xv v0 v1 v2 v3 v4 v5) : RG B sm xv v0 v1 v2 v3 v4 v5 := by
  obtain ⟨sv, stk, os, tx, e, k, -⟩ := r
  exact ⟨sv, stk, os, tx, e, k⟩
theorem rg_saved (r : RG B sm xv v0 v1 v2 v3 v4 v5) : f_X5_savedStates N xv = some (i32 sm) := by
  obtain ⟨sv, stk, os, tx, rfl, k⟩ := r
  unfold f_X5_savedStates
  simp only [X_oldestSaved_k, X_savedCount_k, X_slotsTaken_k, X_text_k, X_set_oldestSaved_k, X_set_savedCount_k, X_set_slotsTaken_k, X_set_text_k]
theorem rg_save (hN : 100 < N) (h : INV B n s) (hS : shows s n z S) (r : RG B sm xv v0 v1 v2 v3 v4 v5) : ∃ (xv2 : XV) (u0 u1 u2 u3 u4 u5 : SV), f_X5_saveState N xv S v0 v1 v2 v3 v4 v5 = some (xv2, S, u0, u1, u2, u3, u4, u5) ∧ TOP B (smN sm) s xv2 u0 u1 u2 u3 u4 u5 := by
  obtain ⟨sv, stk, os, tx, rfl, k⟩ := r
  obtain ⟨os2, u0, u1, u2, u3, u4, u5, e1, e2⟩ := save_x (N := N) (stk := stk) (tx := tx) hN ⟨n, z, h, hS⟩ k
  have hm := k.2.1
  refine ⟨_, u0, u1, u2, u3, u4, u5, e1, svN sv s sm, stk, os2, tx, rfl, e2, ?_, fun j a b => ?_⟩
  · unfold smN
    by_cases c : sm = 6
    · rw [if_pos c]; omega
    · rw [if_neg c]; omega
  · unfold smN svN
    by_cases c : sm = 6
    · rw [if_pos c, if_pos c, rowAt_W a b, if_pos (by omega)]
    · rw [if_neg c, if_neg c, rowAt_W a b, if_pos (by omega)]
theorem top_undo (hN : 1500 < N) (h : INV B n s) (t : TOP B sm s xv v0 v1 v2 v3 v4 v5) : ∃ (xv2 : XV) (T : SV) (y : Int), f_X5_undo N xv S v0 v1 v2 v3 v4 v5 = some (Sum.inr (), (xv2, T, v0, v1, v2, v3, v4, v5)) ∧ shows s n y T ∧ RG B (sm - 1) xv2 v0 v1 v2 v3 v4 v5 := by
  obtain ⟨sv, stk, os, tx, rfl, ⟨ho, hm, hv⟩, h0, ht⟩ := t
  obtain ⟨T, r1, r2⟩ := read6_x (N := N) (S := S) (i := (os + (sm - 1)) % 6) (by omega) (by omega) (hv (sm - 1) (by omega) (by omega))
  have q1 : os + (sm - 1) - (os + (sm - 1)) / 6 * 6 = (os + (sm - 1)) % 6 := by omega
  obtain ⟨n2, y, I2, S2⟩ := rowOK_ext r2 (fun j a b => (ht j a b).symm)
  have en : n2 = n := by
    have a := I2.1
    have b := h.1
    omega
  subst en
  refine ⟨XK (i32 os) (i32 (sm - 1)) (RZ stk) tx, T, y, ?_, S2, sv, stk, os, tx, rfl, ho, by omega, fun i a b => hv i a (by omega)⟩
  unfold f_X5_undo
  simp (maxSteps := 4000000) (disch := omega) only [jn, Option.bind_some, l32_0, l32_1, l32_2, l32_3, l32_4, l32_5, l32_6, l32_7, l32_8, l32_9, l32_10, l32_11, l32_12, l32_13, l32_14, l32_15, l32_16, l32_17, l32_18, l32_19, l32_20, l32_21, l32_22, l32_23, l32_24, l32_25, l32_26, l32_27, l32_28, l32_29, l32_30, l32_31, l32_32, l32_33, l32_34, l32_35, l32_36, l32_37, l32_38, l32_39, l32_40, l32_41, l32_42, l32_43, l32_44, l32_45, l32_46, l32_47, l32_48, l32_49, l32_50, l32_51, l32_52, l32_53, l32_54, l32_55, l32_56, l32_57, l32_58, l32_59, l32_60, l32_61, l32_62, l32_63, l32_64, l32_65, l32_66, l32_67, l32_68, l32_69, l32_70, l32_71, l32_83, l32_91, l32_98, l32_99, l32_100, l32_101, l32_102, l32_103, l32_106, l32_119, l32_126, l32_206, l32_515, l32_618, l32_850, l32_1000, l32_1022, l32_1023, l32_1050, l32_1239, l32_1260, l32_1459, l32_7919, l32_2147483647, i32_add, i32_sub, i32_mul, i32_neg, ↓reduceIte, ltT, ltF, leT, leF, eqT, eqF, gd_ix, i32_nat, RZ_at, upd_RZ, i32_ofNat, X_oldestSaved_k, X_savedCount_k, X_slotsTaken_k, X_text_k, X_set_oldestSaved_k, X_set_savedCount_k, X_set_slotsTaken_k, X_set_text_k, i32_div, q1, r1]
theorem top_undoes (hN : 1500 < N) (h : INV B n s) (t : TOP B sm s xv v0 v1 v2 v3 v4 v5) : ∃ (xv2 : XV) (T : SV) (y : Int), f_L_undoes N xv S v0 v1 v2 v3 v4 v5 = some (i32 (sm - 1), (xv2, T, v0, v1, v2, v3, v4, v5)) ∧ shows s n y T ∧ RG B (sm - 1) xv2 v0 v1 v2 v3 v4 v5 := by
  obtain ⟨xv2, T, y, e1, e2, e3⟩ := top_undo (N := N) (S := S) hN h t
  refine ⟨xv2, T, y, ?_, e2, e3⟩
  unfold f_L_undoes
  exact bdS e1 (excS (bdS (rg_saved e3) rfl))
end RGS
