/-! the law's loop: it comes to its end -/
/-- how all begins -/
def sZ : Int → Int := up (up (fun _ => 0) 60 4) 67 21
def pZ : Int → Int := up (up (up (up (up (up (up (up (up (fun _ => 0) 0 (-1)) 1 (-1)) 2 (-1)) 3 (-1)) 4 (-1)) 5 (-1)) 6 (-1)) 7 (-1)) 8 (-1)
theorem gI0_z : gI0 = RZ pZ := by
  have e0 : (fun _ : Nat => (0 : Int32)) = RZ (fun _ => 0) := rfl
  unfold gI0 pZ
  rw [e0]
  simp (maxSteps := 4000000) (disch := omega) only [jn, Option.bind_some, l32_0, l32_1, l32_2, l32_3, l32_4, l32_5, l32_6, l32_7, l32_8, l32_9, l32_10, l32_11, l32_12, l32_13, l32_14, l32_15, l32_16, l32_17, l32_18, l32_19, l32_20, l32_21, l32_22, l32_23, l32_24, l32_25, l32_26, l32_27, l32_28, l32_29, l32_30, l32_31, l32_32, l32_33, l32_34, l32_35, l32_36, l32_37, l32_38, l32_39, l32_40, l32_41, l32_42, l32_43, l32_44, l32_45, l32_46, l32_47, l32_48, l32_49, l32_50, l32_51, l32_52, l32_53, l32_54, l32_55, l32_56, l32_57, l32_58, l32_59, l32_60, l32_61, l32_62, l32_63, l32_64, l32_65, l32_66, l32_67, l32_68, l32_69, l32_70, l32_71, l32_83, l32_91, l32_98, l32_99, l32_100, l32_101, l32_102, l32_103, l32_106, l32_119, l32_126, l32_206, l32_515, l32_618, l32_850, l32_1000, l32_1022, l32_1023, l32_1050, l32_1239, l32_1260, i32_add, i32_sub, i32_mul, i32_neg, ↓reduceIte, ltT, ltF, leT, leF, eqT, eqF, gd_ix, i32_nat, RZ_at, upd_RZ, i32_ofNat]
theorem sZ_v : sZ 60 = 4 ∧ sZ 67 = 21 ∧ ∀ j, j ≠ 60 → j ≠ 67 → sZ j = 0 := by
  unfold sZ
  refine ⟨by rw [up_ne (by omega), up_self], up_self _ _ _, fun j a b => by rw [up_ne b, up_ne a]⟩
theorem pZ_v {k : Int} (h0 : 0 ≤ k) (h1 : k < 9) : pZ k = -1 := by
  have : k = 0 ∨ k = 1 ∨ k = 2 ∨ k = 3 ∨ k = 4 ∨ k = 5 ∨ k = 6 ∨ k = 7 ∨ k = 8 := by omega
  rcases this with rfl | rfl | rfl | rfl | rfl | rfl | rfl | rfl | rfl <;> rfl
theorem invZ : INV 0 0 sZ := by
  obtain ⟨a, b, c⟩ := sZ_v
  refine ⟨c 3 (by omega) (by omega), by omega, Or.inl ⟨c 0 (by omega) (by omega), rfl⟩, by rw [a]; omega, Or.inl (c 61 (by omega) (by omega)), by rw [c 62 (by omega) (by omega)]; omega, Or.inl (c 63 (by omega) (by omega)), Or.inl (c 64 (by omega) (by omega)), by rw [b]; omega, by rw [c 70 (by omega) (by omega)]; omega, fun k x y => by rw [c _ (by omega) (by omega)]; omega, fun j hj => by rw [c j (by omega) (by omega)]; omega, by omega⟩
theorem showsZ : shows sZ 0 0 sI := by
  obtain ⟨a, b, c⟩ := sZ_v
  have P1 : ∀ k, Pl sZ k = -1 := fun k => by
    by_cases k8 : k = 8
    · rw [k8, Pl_none (by rw [c 0 (by omega) (by omega)]; omega)]
    · unfold Pl
      rw [if_neg k8, if_neg (fun q => by
        have := c 3 (by omega) (by omega)
        omega)]
  have e : sI = (SK (GK (RZ pZ) (RZ (fun _ => 0)) (RZ (fun _ => 0)) (RZ (fun _ => 0)) (RZ (fun _ => 0)) (RZ (fun _ => 0)) (RZ (fun _ => 0)) (i32 (((0 : Nat) : Int))) (i32 0)) (VK (RZ (fun _ => 0)) (RZ (fun _ => 0)) (RZ (fun _ => 0)) (i32 21) (i32 0) (i32 0) (i32 0) (i32 0) (i32 0) (i32 0) (i32 0)) (i32 4) (i32 0) (i32 0) (i32 0)) := by
    rw [← gI0_z]
    rfl
  rw [e]
  refine shows_mk ⟨fun k x y => ?_, fun k x y => by omega, fun k x y => ?_⟩ ⟨?_, ?_, fun k x y => ?_, fun k x y => ?_⟩ ⟨b.symm, (c 68 (by omega) (by omega)).symm, (c 69 (by omega) (by omega)).symm, (c 70 (by omega) (by omega)).symm, (c 100 (by omega) (by omega)).symm, (c 101 (by omega) (by omega)).symm, (c 102 (by omega) (by omega)).symm, (c 61 (by omega) (by omega)).symm, a.symm, (c 62 (by omega) (by omega)).symm, (c 63 (by omega) (by omega)).symm, (c 64 (by omega) (by omega)).symm⟩
  · rw [pZ_v x y, P1]
  · rw [if_neg (by omega)]
  · rw [c 65 (by omega) (by omega)]
  · rw [c 66 (by omega) (by omega)]
  · rw [c 70 (by omega) (by omega)] at y
    omega
  · rw [c _ (by omega) (by omega)]
