/-! written by program from the bytecode: what each method computes, and its contract -/

theorem dX1_startMatch_0 : decode cX1_startMatch 0 = .ok (.aload_n 0, 1) := by decide +kernel
theorem dX1_startMatch_1 : decode cX1_startMatch 1 = .ok (.getfield 9, 3) := by decide +kernel
theorem dX1_startMatch_4 : decode cX1_startMatch 4 = .ok (.iconst 0, 1) := by decide +kernel
theorem dX1_startMatch_5 : decode cX1_startMatch 5 = .ok (.invokestatic 50, 3) := by decide +kernel
theorem dX1_startMatch_8 : decode cX1_startMatch 8 = .ok (.aload_n 0, 1) := by decide +kernel
theorem dX1_startMatch_9 : decode cX1_startMatch 9 = .ok (.getfield 15, 3) := by decide +kernel
theorem dX1_startMatch_12 : decode cX1_startMatch 12 = .ok (.iconst 0, 1) := by decide +kernel
theorem dX1_startMatch_13 : decode cX1_startMatch 13 = .ok (.invokestatic 50, 3) := by decide +kernel
theorem dX1_startMatch_16 : decode cX1_startMatch 16 = .ok (.aload_n 0, 1) := by decide +kernel
theorem dX1_startMatch_17 : decode cX1_startMatch 17 = .ok (.getfield 18, 3) := by decide +kernel
theorem dX1_startMatch_20 : decode cX1_startMatch 20 = .ok (.iconst 0, 1) := by decide +kernel
theorem dX1_startMatch_21 : decode cX1_startMatch 21 = .ok (.invokestatic 50, 3) := by decide +kernel
theorem dX1_startMatch_24 : decode cX1_startMatch 24 = .ok (.aload_n 0, 1) := by decide +kernel
theorem dX1_startMatch_25 : decode cX1_startMatch 25 = .ok (.iload_n 1, 1) := by decide +kernel
theorem dX1_startMatch_26 : decode cX1_startMatch 26 = .ok (.putfield 21, 3) := by decide +kernel
theorem dX1_startMatch_29 : decode cX1_startMatch 29 = .ok (.aload_n 0, 1) := by decide +kernel
theorem dX1_startMatch_30 : decode cX1_startMatch 30 = .ok (.iconst 0, 1) := by decide +kernel
theorem dX1_startMatch_31 : decode cX1_startMatch 31 = .ok (.putfield 25, 3) := by decide +kernel
theorem dX1_startMatch_34 : decode cX1_startMatch 34 = .ok (.aload_n 0, 1) := by decide +kernel
theorem dX1_startMatch_35 : decode cX1_startMatch 35 = .ok (.iconst 0, 1) := by decide +kernel
theorem dX1_startMatch_36 : decode cX1_startMatch 36 = .ok (.putfield 28, 3) := by decide +kernel
theorem dX1_startMatch_39 : decode cX1_startMatch 39 = .ok (.aload_n 0, 1) := by decide +kernel
theorem dX1_startMatch_40 : decode cX1_startMatch 40 = .ok (.iconst 0, 1) := by decide +kernel
theorem dX1_startMatch_41 : decode cX1_startMatch 41 = .ok (.putfield 31, 3) := by decide +kernel
theorem dX1_startMatch_44 : decode cX1_startMatch 44 = .ok (.aload_n 0, 1) := by decide +kernel
theorem dX1_startMatch_45 : decode cX1_startMatch 45 = .ok (.iconst 0, 1) := by decide +kernel
theorem dX1_startMatch_46 : decode cX1_startMatch 46 = .ok (.putfield 34, 3) := by decide +kernel
theorem dX1_startMatch_49 : decode cX1_startMatch 49 = .ok (.aload_n 0, 1) := by decide +kernel
theorem dX1_startMatch_50 : decode cX1_startMatch 50 = .ok (.iconst 0, 1) := by decide +kernel
theorem dX1_startMatch_51 : decode cX1_startMatch 51 = .ok (.putfield 37, 3) := by decide +kernel
theorem dX1_startMatch_54 : decode cX1_startMatch 54 = .ok (.aload_n 0, 1) := by decide +kernel
theorem dX1_startMatch_55 : decode cX1_startMatch 55 = .ok (.iconst 0, 1) := by decide +kernel
theorem dX1_startMatch_56 : decode cX1_startMatch 56 = .ok (.putfield 40, 3) := by decide +kernel
theorem dX1_startMatch_59 : decode cX1_startMatch 59 = .ok (.aload_n 0, 1) := by decide +kernel
theorem dX1_startMatch_60 : decode cX1_startMatch 60 = .ok (.iconst 0, 1) := by decide +kernel
theorem dX1_startMatch_61 : decode cX1_startMatch 61 = .ok (.putfield 43, 3) := by decide +kernel
theorem dX1_startMatch_64 : decode cX1_startMatch 64 = .ok (.return_, 1) := by decide +kernel
def f_X1_startMatch (N : Nat) (v : VV) (p1 : Int32) : Option (VV) :=
  (f_X5_fillAll N 2 (V_points v) (0 : Int32)).bind (fun o1 => (f_X5_fillAll N 12 (V_latest v) (0 : Int32)).bind (fun o3 => (f_X5_fillAll N 17 (V_endsByPoints v) (0 : Int32)).bind (fun o5 => some (V_set_firstSide (V_set_toucherCount (V_set_bowlCount (V_set_backCount (V_set_latestCount (V_set_burntCount (V_set_endCount (V_set_pointsNeeded (V_set_endsByPoints (V_set_latest (V_set_points v o1) o3) o5) p1) (0 : Int32)) (0 : Int32)) (0 : Int32)) (0 : Int32)) (0 : Int32)) (0 : Int32)) (0 : Int32)))))
set_option maxHeartbeats 4000000 in
set_option maxRecDepth 100000 in
theorem met_X1_startMatch (l : Launch) (dC : Nat → ClassId) (dI : Nat → Nat → Nat) (cyI cyO : ClassId) (a : Nat → Nat) (sz : Nat) (N : Nat) (v : VV) (p1 : Int32) (out : VV) (hF : f_X1_startMatch N v p1 = some out) : Met l yX1_startMatch (Cond.code yX1_startMatch cX1_startMatch 2 none :: wT) ({ frames := 1, cells := 0, slots := 0, locals := 22 } : Room) (wWr dC dI cyI cyO [.ref (a 9), .int p1] (cV cyI a v) sz) (va_Qv (fun (u : VV) => u = out) (fun u t => va_P (dC, dI) vwCl (cV cyI a u) t.heap ∧ va_D (va_A (cV cyI a v) sz) (cV cyI a u)) (va_A (cV cyI a v) sz)) 0 0 (va_A (cV cyI a v) sz) := by
  refine Met.ofW (cc := cX1_startMatch) (maxL := 2) (ret := none) (by decide) rfl ?_
  intro p e s m args below meth c s₁ B hml hv
  obtain ⟨rfl, hsz, hP, hK, hD0⟩ := hv
  have hx := B.exec
  have hb := B.bytes
  have hr := B.returns
  have hts0 := atoms_spec (ws := (Cond.code yX1_startMatch cX1_startMatch 2 none :: wT)) B.pre
  have hts := fun w h => hts0 w (List.mem_cons_of_mem _ h)
  clear hts0
  have hown : s.vm.findClass RX1 = some m.cls := findClass_of_methodNamed B.named
  have hlocks := B.notSynchronized
  subst hsz
  have hD := hD0.self (sz := s.heap.size)
  generalize hAe : va_A (cV cyI a v) s.heap.size = A at hD ⊢
  have hA : ∀ q : Nat, s.heap.size ≤ q → A q := fun q h => by rw [← hAe]; exact Or.inr h
  clear hD0
  have hS : va_S A s.heap s.heap [] := va_S.rf
  have hl := lv_entry [.ref (a 9), .int p1] (n := 2) (Nat.le_of_ble_eq_true rfl)
  rw [lg_entry_eq]
  generalize (lg_sl [.ref (a 9), .int p1] ++ List.replicate (2 - (lg_sl [.ref (a 9), .int p1]).length) Slot.unset).toArray = ls at hl ⊢
  have hl : lv_has ls 2 [(0, .ref (a 9)), (1, .int p1)] := hl
  unfold f_X1_startMatch at hF
  refine lv_aload_n hx hb dX1_startMatch_0 rfl (lv_at hl 0 rfl) ?_
  refine va_get (D := (dC, dI)) (ci := 1) (v := .ref (a 10)) (C := RX1) (T := TX1) (N := 11) hx hb hts inX1 hown hK.1 hP 0 rfl rfl 0 (by decide) (hts _ w_fieldLink_X1_9) (fun _ h9 => h9) rfl dX1_startMatch_1 ?_
  refine lv_iconst (v := 0) hx hb dX1_startMatch_4 (by decide) ?_
  obtain ⟨o1, h2, hF⟩ := obd hF
  refine wcWNv (As := [.ref (a 10), .int (0 : Int32)]) (rest := []) (wr := [0, 2, 3].filterMap (fun i => ((cV cyI a v))[i]?)) ⟨hx, hb, hml, hown, hts⟩ (met_X5_fillAll l dC dI cyI cyO (a 10) 2 _ N (V_points v) (0 : Int32) o1 h2) ⟨va_cnB 2 hts (gCode w_code_X5_fillAll) rfl rfl rfl (hK.2 _ n_X1_50) (hts _ w_initialized_X5) (by decide +kernel) ⟨Nat.le_of_ble_eq_true rfl, Nat.le_of_ble_eq_true rfl⟩, hts _ w_static_X5_fillAll, trivial⟩ hP hD hK [1] [0, 2, 3] rfl rfl (by decide) (by decide) (by decide) rfl hl.1 (Nat.le_of_ble_eq_true rfl) dX1_startMatch_5 ⟨Nat.le_of_ble_eq_true rfl, Nat.le_of_ble_eq_true rfl⟩ hS hA (fun u H locs hw hP hD hS => ?_)
  have hw := hw.symm
  subst hw
  have hP := hP.sub (ws' := (cV cyI a (V_set_points v o1))) [0, 3, 1, 2] rfl
  have hD := hD.sub (ws' := (cV cyI a (V_set_points v o1))) [0, 3, 1, 2] (by decide) rfl
  refine lv_aload_n hx hb dX1_startMatch_8 rfl (lv_at hl 0 rfl) ?_
  refine va_get (D := (dC, dI)) (ci := 1) (v := .ref (a 11)) (C := RX1) (T := TX1) (N := 11) hx hb hts inX1 hown hK.1 hP 0 rfl rfl 1 (by decide) (hts _ w_fieldLink_X1_15) (fun _ h9 => h9) rfl dX1_startMatch_9 ?_
  refine lv_iconst (v := 0) hx hb dX1_startMatch_12 (by decide) ?_
  obtain ⟨o3, h4, hF⟩ := obd hF
  refine wcWNv (As := [.ref (a 11), .int (0 : Int32)]) (rest := []) (wr := [0, 1, 3].filterMap (fun i => ((cV cyI a (V_set_points v o1)))[i]?)) ⟨hx, hb, hml, hown, hts⟩ (met_X5_fillAll l dC dI cyI cyO (a 11) 12 _ N (V_latest v) (0 : Int32) o3 h4) ⟨va_cnB 2 hts (gCode w_code_X5_fillAll) rfl rfl rfl (hK.2 _ n_X1_50) (hts _ w_initialized_X5) (by decide +kernel) ⟨Nat.le_of_ble_eq_true rfl, Nat.le_of_ble_eq_true rfl⟩, hts _ w_static_X5_fillAll, trivial⟩ hP hD hK [2] [0, 1, 3] rfl rfl (by decide) (by decide) (by decide) rfl hl.1 (Nat.le_of_ble_eq_true rfl) dX1_startMatch_13 ⟨Nat.le_of_ble_eq_true rfl, Nat.le_of_ble_eq_true rfl⟩ hS hA (fun u H locs hw hP hD hS => ?_)
  have hw := hw.symm
  subst hw
  have hP := hP.sub (ws' := (cV cyI a (V_set_latest (V_set_points v o1) o3))) [0, 1, 3, 2] rfl
  have hD := hD.sub (ws' := (cV cyI a (V_set_latest (V_set_points v o1) o3))) [0, 1, 3, 2] (by decide) rfl
  refine lv_aload_n hx hb dX1_startMatch_16 rfl (lv_at hl 0 rfl) ?_
  refine va_get (D := (dC, dI)) (ci := 1) (v := .ref (a 12)) (C := RX1) (T := TX1) (N := 11) hx hb hts inX1 hown hK.1 hP 0 rfl rfl 2 (by decide) (hts _ w_fieldLink_X1_18) (fun _ h9 => h9) rfl dX1_startMatch_17 ?_
  refine lv_iconst (v := 0) hx hb dX1_startMatch_20 (by decide) ?_
  obtain ⟨o5, h6, hF⟩ := obd hF
  refine wcWNv (As := [.ref (a 12), .int (0 : Int32)]) (rest := []) (wr := [0, 1, 2].filterMap (fun i => ((cV cyI a (V_set_latest (V_set_points v o1) o3)))[i]?)) ⟨hx, hb, hml, hown, hts⟩ (met_X5_fillAll l dC dI cyI cyO (a 12) 17 _ N (V_endsByPoints v) (0 : Int32) o5 h6) ⟨va_cnB 2 hts (gCode w_code_X5_fillAll) rfl rfl rfl (hK.2 _ n_X1_50) (hts _ w_initialized_X5) (by decide +kernel) ⟨Nat.le_of_ble_eq_true rfl, Nat.le_of_ble_eq_true rfl⟩, hts _ w_static_X5_fillAll, trivial⟩ hP hD hK [3] [0, 1, 2] rfl rfl (by decide) (by decide) (by decide) rfl hl.1 (Nat.le_of_ble_eq_true rfl) dX1_startMatch_21 ⟨Nat.le_of_ble_eq_true rfl, Nat.le_of_ble_eq_true rfl⟩ hS hA (fun u H locs hw hP hD hS => ?_)
  have hw := hw.symm
  subst hw
  have hP : va_P (dC, dI) vwCl (cV cyI a (V_set_endsByPoints (V_set_latest (V_set_points v o1) o3) o5)) H := hP
  have hD : va_D A (cV cyI a (V_set_endsByPoints (V_set_latest (V_set_points v o1) o3) o5)) := hD
  refine lv_aload_n hx hb dX1_startMatch_24 rfl (lv_at hl 0 rfl) ?_
  refine lv_iload_n hx hb dX1_startMatch_25 rfl (lv_at hl 1 rfl) ?_
  refine va_put (D := (dC, dI)) (ci := 1) (v := .int p1) (ty := .int) (C := RX1) (T := TX1) (N := 11) hx hb hts inX1 tyX1 tyX1_ok nmX1 hown hK.1 hP hD hS 0 rfl rfl 3 (by decide) (hts _ w_fieldLink_X1_21) (fun _ h9 => h9) rfl (by decide +kernel) rfl rfl (Nat.le_of_ble_eq_true rfl) dX1_startMatch_26 (fun H locs hP hD hS => ?_)
  have hP : va_P (dC, dI) vwCl (cV cyI a (V_set_pointsNeeded (V_set_endsByPoints (V_set_latest (V_set_points v o1) o3) o5) p1)) H := hP
  have hD : va_D A (cV cyI a (V_set_pointsNeeded (V_set_endsByPoints (V_set_latest (V_set_points v o1) o3) o5) p1)) := hD
  refine lv_aload_n hx hb dX1_startMatch_29 rfl (lv_at hl 0 rfl) ?_
  refine lv_iconst (v := 0) hx hb dX1_startMatch_30 (by decide) ?_
  refine va_put (D := (dC, dI)) (ci := 1) (v := .int (0 : Int32)) (ty := .int) (C := RX1) (T := TX1) (N := 11) hx hb hts inX1 tyX1 tyX1_ok nmX1 hown hK.1 hP hD hS 0 rfl rfl 4 (by decide) (hts _ w_fieldLink_X1_25) (fun _ h9 => h9) rfl (by decide +kernel) rfl rfl (Nat.le_of_ble_eq_true rfl) dX1_startMatch_31 (fun H locs hP hD hS => ?_)
  have hP : va_P (dC, dI) vwCl (cV cyI a (V_set_endCount (V_set_pointsNeeded (V_set_endsByPoints (V_set_latest (V_set_points v o1) o3) o5) p1) (0 : Int32))) H := hP
  have hD : va_D A (cV cyI a (V_set_endCount (V_set_pointsNeeded (V_set_endsByPoints (V_set_latest (V_set_points v o1) o3) o5) p1) (0 : Int32))) := hD
  refine lv_aload_n hx hb dX1_startMatch_34 rfl (lv_at hl 0 rfl) ?_
  refine lv_iconst (v := 0) hx hb dX1_startMatch_35 (by decide) ?_
  refine va_put (D := (dC, dI)) (ci := 1) (v := .int (0 : Int32)) (ty := .int) (C := RX1) (T := TX1) (N := 11) hx hb hts inX1 tyX1 tyX1_ok nmX1 hown hK.1 hP hD hS 0 rfl rfl 5 (by decide) (hts _ w_fieldLink_X1_28) (fun _ h9 => h9) rfl (by decide +kernel) rfl rfl (Nat.le_of_ble_eq_true rfl) dX1_startMatch_36 (fun H locs hP hD hS => ?_)
  have hP : va_P (dC, dI) vwCl (cV cyI a (V_set_burntCount (V_set_endCount (V_set_pointsNeeded (V_set_endsByPoints (V_set_latest (V_set_points v o1) o3) o5) p1) (0 : Int32)) (0 : Int32))) H := hP
  have hD : va_D A (cV cyI a (V_set_burntCount (V_set_endCount (V_set_pointsNeeded (V_set_endsByPoints (V_set_latest (V_set_points v o1) o3) o5) p1) (0 : Int32)) (0 : Int32))) := hD
  refine lv_aload_n hx hb dX1_startMatch_39 rfl (lv_at hl 0 rfl) ?_
  refine lv_iconst (v := 0) hx hb dX1_startMatch_40 (by decide) ?_
  refine va_put (D := (dC, dI)) (ci := 1) (v := .int (0 : Int32)) (ty := .int) (C := RX1) (T := TX1) (N := 11) hx hb hts inX1 tyX1 tyX1_ok nmX1 hown hK.1 hP hD hS 0 rfl rfl 6 (by decide) (hts _ w_fieldLink_X1_31) (fun _ h9 => h9) rfl (by decide +kernel) rfl rfl (Nat.le_of_ble_eq_true rfl) dX1_startMatch_41 (fun H locs hP hD hS => ?_)
  have hP : va_P (dC, dI) vwCl (cV cyI a (V_set_latestCount (V_set_burntCount (V_set_endCount (V_set_pointsNeeded (V_set_endsByPoints (V_set_latest (V_set_points v o1) o3) o5) p1) (0 : Int32)) (0 : Int32)) (0 : Int32))) H := hP
  have hD : va_D A (cV cyI a (V_set_latestCount (V_set_burntCount (V_set_endCount (V_set_pointsNeeded (V_set_endsByPoints (V_set_latest (V_set_points v o1) o3) o5) p1) (0 : Int32)) (0 : Int32)) (0 : Int32))) := hD
  refine lv_aload_n hx hb dX1_startMatch_44 rfl (lv_at hl 0 rfl) ?_
  refine lv_iconst (v := 0) hx hb dX1_startMatch_45 (by decide) ?_
  refine va_put (D := (dC, dI)) (ci := 1) (v := .int (0 : Int32)) (ty := .int) (C := RX1) (T := TX1) (N := 11) hx hb hts inX1 tyX1 tyX1_ok nmX1 hown hK.1 hP hD hS 0 rfl rfl 7 (by decide) (hts _ w_fieldLink_X1_34) (fun _ h9 => h9) rfl (by decide +kernel) rfl rfl (Nat.le_of_ble_eq_true rfl) dX1_startMatch_46 (fun H locs hP hD hS => ?_)
  have hP : va_P (dC, dI) vwCl (cV cyI a (V_set_backCount (V_set_latestCount (V_set_burntCount (V_set_endCount (V_set_pointsNeeded (V_set_endsByPoints (V_set_latest (V_set_points v o1) o3) o5) p1) (0 : Int32)) (0 : Int32)) (0 : Int32)) (0 : Int32))) H := hP
  have hD : va_D A (cV cyI a (V_set_backCount (V_set_latestCount (V_set_burntCount (V_set_endCount (V_set_pointsNeeded (V_set_endsByPoints (V_set_latest (V_set_points v o1) o3) o5) p1) (0 : Int32)) (0 : Int32)) (0 : Int32)) (0 : Int32))) := hD
  refine lv_aload_n hx hb dX1_startMatch_49 rfl (lv_at hl 0 rfl) ?_
  refine lv_iconst (v := 0) hx hb dX1_startMatch_50 (by decide) ?_
  refine va_put (D := (dC, dI)) (ci := 1) (v := .int (0 : Int32)) (ty := .int) (C := RX1) (T := TX1) (N := 11) hx hb hts inX1 tyX1 tyX1_ok nmX1 hown hK.1 hP hD hS 0 rfl rfl 8 (by decide) (hts _ w_fieldLink_X1_37) (fun _ h9 => h9) rfl (by decide +kernel) rfl rfl (Nat.le_of_ble_eq_true rfl) dX1_startMatch_51 (fun H locs hP hD hS => ?_)
  have hP : va_P (dC, dI) vwCl (cV cyI a (V_set_bowlCount (V_set_backCount (V_set_latestCount (V_set_burntCount (V_set_endCount (V_set_pointsNeeded (V_set_endsByPoints (V_set_latest (V_set_points v o1) o3) o5) p1) (0 : Int32)) (0 : Int32)) (0 : Int32)) (0 : Int32)) (0 : Int32))) H := hP
  have hD : va_D A (cV cyI a (V_set_bowlCount (V_set_backCount (V_set_latestCount (V_set_burntCount (V_set_endCount (V_set_pointsNeeded (V_set_endsByPoints (V_set_latest (V_set_points v o1) o3) o5) p1) (0 : Int32)) (0 : Int32)) (0 : Int32)) (0 : Int32)) (0 : Int32))) := hD
  refine lv_aload_n hx hb dX1_startMatch_54 rfl (lv_at hl 0 rfl) ?_
  refine lv_iconst (v := 0) hx hb dX1_startMatch_55 (by decide) ?_
  refine va_put (D := (dC, dI)) (ci := 1) (v := .int (0 : Int32)) (ty := .int) (C := RX1) (T := TX1) (N := 11) hx hb hts inX1 tyX1 tyX1_ok nmX1 hown hK.1 hP hD hS 0 rfl rfl 9 (by decide) (hts _ w_fieldLink_X1_40) (fun _ h9 => h9) rfl (by decide +kernel) rfl rfl (Nat.le_of_ble_eq_true rfl) dX1_startMatch_56 (fun H locs hP hD hS => ?_)
  have hP : va_P (dC, dI) vwCl (cV cyI a (V_set_toucherCount (V_set_bowlCount (V_set_backCount (V_set_latestCount (V_set_burntCount (V_set_endCount (V_set_pointsNeeded (V_set_endsByPoints (V_set_latest (V_set_points v o1) o3) o5) p1) (0 : Int32)) (0 : Int32)) (0 : Int32)) (0 : Int32)) (0 : Int32)) (0 : Int32))) H := hP
  have hD : va_D A (cV cyI a (V_set_toucherCount (V_set_bowlCount (V_set_backCount (V_set_latestCount (V_set_burntCount (V_set_endCount (V_set_pointsNeeded (V_set_endsByPoints (V_set_latest (V_set_points v o1) o3) o5) p1) (0 : Int32)) (0 : Int32)) (0 : Int32)) (0 : Int32)) (0 : Int32)) (0 : Int32))) := hD
  refine lv_aload_n hx hb dX1_startMatch_59 rfl (lv_at hl 0 rfl) ?_
  refine lv_iconst (v := 0) hx hb dX1_startMatch_60 (by decide) ?_
  refine va_put (D := (dC, dI)) (ci := 1) (v := .int (0 : Int32)) (ty := .int) (C := RX1) (T := TX1) (N := 11) hx hb hts inX1 tyX1 tyX1_ok nmX1 hown hK.1 hP hD hS 0 rfl rfl 10 (by decide) (hts _ w_fieldLink_X1_43) (fun _ h9 => h9) rfl (by decide +kernel) rfl rfl (Nat.le_of_ble_eq_true rfl) dX1_startMatch_61 (fun H locs hP hD hS => ?_)
  have hP : va_P (dC, dI) vwCl (cV cyI a (V_set_firstSide (V_set_toucherCount (V_set_bowlCount (V_set_backCount (V_set_latestCount (V_set_burntCount (V_set_endCount (V_set_pointsNeeded (V_set_endsByPoints (V_set_latest (V_set_points v o1) o3) o5) p1) (0 : Int32)) (0 : Int32)) (0 : Int32)) (0 : Int32)) (0 : Int32)) (0 : Int32)) (0 : Int32))) H := hP
  have hD : va_D A (cV cyI a (V_set_firstSide (V_set_toucherCount (V_set_bowlCount (V_set_backCount (V_set_latestCount (V_set_burntCount (V_set_endCount (V_set_pointsNeeded (V_set_endsByPoints (V_set_latest (V_set_points v o1) o3) o5) p1) (0 : Int32)) (0 : Int32)) (0 : Int32)) (0 : Int32)) (0 : Int32)) (0 : Int32)) (0 : Int32))) := hD
  exact W.vret hx hb hr (fun t ht hW => ⟨⟨_, rfl, Option.some.inj hF, by rw [ht]; exact hP, hD⟩, hS.F ht⟩) hS.2.2 dX1_startMatch_64
theorem dX1_isWon_0 : decode cX1_isWon 0 = .ok (.aload_n 0, 1) := by decide +kernel
theorem dX1_isWon_1 : decode cX1_isWon 1 = .ok (.getfield 9, 3) := by decide +kernel
theorem dX1_isWon_4 : decode cX1_isWon 4 = .ok (.iconst 0, 1) := by decide +kernel
theorem dX1_isWon_5 : decode cX1_isWon 5 = .ok (.invokestatic 54, 3) := by decide +kernel
theorem dX1_isWon_8 : decode cX1_isWon 8 = .ok (.aload_n 0, 1) := by decide +kernel
theorem dX1_isWon_9 : decode cX1_isWon 9 = .ok (.getfield 21, 3) := by decide +kernel
theorem dX1_isWon_12 : decode cX1_isWon 12 = .ok (.if_icmp .ge 18, 3) := by decide +kernel
theorem dX1_isWon_15 : decode cX1_isWon 15 = .ok (.aload_n 0, 1) := by decide +kernel
theorem dX1_isWon_16 : decode cX1_isWon 16 = .ok (.getfield 9, 3) := by decide +kernel
theorem dX1_isWon_19 : decode cX1_isWon 19 = .ok (.iconst 1, 1) := by decide +kernel
theorem dX1_isWon_20 : decode cX1_isWon 20 = .ok (.invokestatic 54, 3) := by decide +kernel
theorem dX1_isWon_23 : decode cX1_isWon 23 = .ok (.aload_n 0, 1) := by decide +kernel
theorem dX1_isWon_24 : decode cX1_isWon 24 = .ok (.getfield 21, 3) := by decide +kernel
theorem dX1_isWon_27 : decode cX1_isWon 27 = .ok (.if_icmp .lt 7, 3) := by decide +kernel
theorem dX1_isWon_30 : decode cX1_isWon 30 = .ok (.iconst 1, 1) := by decide +kernel
theorem dX1_isWon_31 : decode cX1_isWon 31 = .ok (.goto 4, 3) := by decide +kernel
theorem dX1_isWon_34 : decode cX1_isWon 34 = .ok (.iconst 0, 1) := by decide +kernel
theorem dX1_isWon_35 : decode cX1_isWon 35 = .ok (.ireturn, 1) := by decide +kernel
def f_X1_isWon (N : Nat) (v : VV) : Option (Int32) :=
  (f_X5_at N 2 (V_points v) (0 : Int32)).bind (fun o1 => jn (fun (s35 : Int32) => some s35) (fun (j35 : (Int32) → Option (Int32)) => jn (fun (s30 : Unit) => j35 (1 : Int32)) (fun (j30 : (Unit) → Option (Int32)) => (if (V_pointsNeeded v) ≤ o1 then j30 () else (f_X5_at N 2 (V_points v) (1 : Int32)).bind (fun o4 => (if o4 < (V_pointsNeeded v) then j35 (0 : Int32) else j30 ()))))))
set_option maxHeartbeats 4000000 in
set_option maxRecDepth 100000 in
theorem met_X1_isWon (l : Launch) (dC : Nat → ClassId) (dI : Nat → Nat → Nat) (cyI cyO : ClassId) (a : Nat → Nat) (N : Nat) (v : VV) (out : Int32) (hF : f_X1_isWon N v = some out) : Met l yX1_isWon (Cond.code yX1_isWon cX1_isWon 1 (some .boolean) :: wT) ({ frames := 1, cells := 0, slots := 0, locals := 21 } : Room) (wRd dC dI cyI cyO [.ref (a 9)] (cV cyI a v)) (va_Qi (fun (r : Int32) (_ : Unit) => r = out ∧ b01 r) (fun _ _ => True) wN0) 0 0 wN0 := by
  refine Met.ofW (cc := cX1_isWon) (maxL := 1) (ret := (some .boolean)) (by decide) rfl ?_
  intro p e s m args below meth c s₁ B hml hv
  obtain ⟨rfl, hP, hK⟩ := hv
  have hx := B.exec
  have hb := B.bytes
  have hr := B.returns
  have hts0 := atoms_spec (ws := (Cond.code yX1_isWon cX1_isWon 1 (some .boolean) :: wT)) B.pre
  have hts := fun w h => hts0 w (List.mem_cons_of_mem _ h)
  clear hts0
  have hown : s.vm.findClass RX1 = some m.cls := findClass_of_methodNamed B.named
  have hlocks := B.notSynchronized
  have hS : va_S wN0 s.heap s.heap [] := va_S.rf
  have hl := lv_entry [.ref (a 9)] (n := 1) (Nat.le_of_ble_eq_true rfl)
  rw [lg_entry_eq]
  generalize (lg_sl [.ref (a 9)] ++ List.replicate (1 - (lg_sl [.ref (a 9)]).length) Slot.unset).toArray = ls at hl ⊢
  have hl : lv_has ls 1 [(0, .ref (a 9))] := hl
  unfold f_X1_isWon at hF
  refine lv_aload_n hx hb dX1_isWon_0 rfl (lv_at hl 0 rfl) ?_
  refine va_get (D := (dC, dI)) (ci := 1) (v := .ref (a 10)) (C := RX1) (T := TX1) (N := 11) hx hb hts inX1 hown hK.1 hP 0 rfl rfl 0 (by decide) (hts _ w_fieldLink_X1_9) (fun _ h9 => h9) rfl dX1_isWon_1 ?_
  refine lv_iconst (v := 0) hx hb dX1_isWon_4 (by decide) ?_
  obtain ⟨o1, h2, hF⟩ := obd hF
  refine wcRNi (As := [.ref (a 10), .int (0 : Int32)]) (rest := []) ⟨hx, hb, hml, hown, hts⟩ (met_X5_at l dC dI cyI cyO (a 10) 2 N (V_points v) (0 : Int32) o1 h2) ⟨va_cnB 2 hts (gCode w_code_X5_at) rfl rfl rfl (hK.2 _ n_X1_54) (hts _ w_initialized_X5) (by decide +kernel) ⟨Nat.le_of_ble_eq_true rfl, Nat.le_of_ble_eq_true rfl⟩, hts _ w_static_X5_at, trivial⟩ hP hK [1] rfl rfl hl.1 (Nat.le_of_ble_eq_true rfl) dX1_isWon_5 ⟨Nat.le_of_ble_eq_true rfl, Nat.le_of_ble_eq_true rfl⟩ hS (fun r H locs hw hP hS => ?_)
  have hw := hw.symm
  subst hw
  refine lv_aload_n hx hb dX1_isWon_8 rfl (lv_at hl 0 rfl) ?_
  refine va_get (D := (dC, dI)) (ci := 1) (v := .int (V_pointsNeeded v)) (C := RX1) (T := TX1) (N := 11) hx hb hts inX1 hown hK.1 hP 0 rfl rfl 3 (by decide) (hts _ w_fieldLink_X1_21) (fun _ h9 => h9) rfl dX1_isWon_9 ?_
  obtain ⟨j35, hj35, hF⟩ := jn_use hF
  have hJ35 : ∀ (s35 : Int32) (H : Heap) (locs : List Loc) (ls : Array Slot) (hz_35_s0 : b01 s35), va_P (dC, dI) vwCl (cV cyI a v) H → va_S wN0 s.heap H locs → lv_has ls 1 [] → j35 s35 = some out → W p l e (headSpec (Cond.code yX1_isWon cX1_isWon 1 (some .boolean) :: wT) ({ frames := 1, cells := 0, slots := 0, locals := 21 } : Room)).room s m ([.ref (a 9)] : List Value).toArray below meth c H locs 0 0 (MQ below (va_Qi (fun (r : Int32) (_ : Unit) => r = out ∧ b01 r) (fun _ _ => True) wN0) ([.ref (a 9)] : List Value).toArray s 0 0 wN0) (F0 m 35 ls [.int s35]) := by
    intro s35 H locs ls hz_35_s0 hP hS hl hF
    have hF := (congrFun hj35 s35).symm.trans hF
    exact W.zret (ty := .boolean) (v := s35) hx hb hr (b01_n hz_35_s0) (fun t ht hW => ⟨⟨_, (), rfl, ⟨Option.some.inj hF, hz_35_s0⟩, trivial⟩, hS.F ht⟩) hS.2.2 dX1_isWon_35
  obtain ⟨j30, hj30, hF⟩ := jn_use hF
  have hJ30 : ∀ (s30 : Unit) (H : Heap) (locs : List Loc) (ls : Array Slot), va_P (dC, dI) vwCl (cV cyI a v) H → va_S wN0 s.heap H locs → lv_has ls 1 [] → j30 s30 = some out → W p l e (headSpec (Cond.code yX1_isWon cX1_isWon 1 (some .boolean) :: wT) ({ frames := 1, cells := 0, slots := 0, locals := 21 } : Room)).room s m ([.ref (a 9)] : List Value).toArray below meth c H locs 0 0 (MQ below (va_Qi (fun (r : Int32) (_ : Unit) => r = out ∧ b01 r) (fun _ _ => True) wN0) ([.ref (a 9)] : List Value).toArray s 0 0 wN0) (F0 m 30 ls []) := by
    intro s30 H locs ls hP hS hl hF
    have hF := (congrFun hj30 s30).symm.trans hF
    refine lv_iconst (v := 1) hx hb dX1_isWon_30 (by decide) ?_
    refine lv_goto (tgt := 35) hx hb dX1_isWon_31 (by decide) ?_
    exact hJ35 (1 : Int32) _ _ _ b01_1 hP hS (lv_sub hl [] rfl) hF
  refine lv_icmp_ge (tgt := 30) hx hb dX1_isWon_12 (by decide) (fun c3 => ?_) (fun c3 => ?_)
  · have hF := itp c3 hF
    exact hJ30 () _ _ _ hP hS (lv_sub hl [] rfl) hF
  · have hF := itn c3 hF
    refine lv_aload_n hx hb dX1_isWon_15 rfl (lv_at hl 0 rfl) ?_
    refine va_get (D := (dC, dI)) (ci := 1) (v := .ref (a 10)) (C := RX1) (T := TX1) (N := 11) hx hb hts inX1 hown hK.1 hP 0 rfl rfl 0 (by decide) (hts _ w_fieldLink_X1_9) (fun _ h9 => h9) rfl dX1_isWon_16 ?_
    refine lv_iconst (v := 1) hx hb dX1_isWon_19 (by decide) ?_
    obtain ⟨o4, h5, hF⟩ := obd hF
    refine wcRNi (As := [.ref (a 10), .int (1 : Int32)]) (rest := []) ⟨hx, hb, hml, hown, hts⟩ (met_X5_at l dC dI cyI cyO (a 10) 2 N (V_points v) (1 : Int32) o4 h5) ⟨va_cnB 2 hts (gCode w_code_X5_at) rfl rfl rfl (hK.2 _ n_X1_54) (hts _ w_initialized_X5) (by decide +kernel) ⟨Nat.le_of_ble_eq_true rfl, Nat.le_of_ble_eq_true rfl⟩, hts _ w_static_X5_at, trivial⟩ hP hK [1] rfl rfl hl.1 (Nat.le_of_ble_eq_true rfl) dX1_isWon_20 ⟨Nat.le_of_ble_eq_true rfl, Nat.le_of_ble_eq_true rfl⟩ hS (fun r H locs hw hP hS => ?_)
    have hw := hw.symm
    subst hw
    refine lv_aload_n hx hb dX1_isWon_23 rfl (lv_at hl 0 rfl) ?_
    refine va_get (D := (dC, dI)) (ci := 1) (v := .int (V_pointsNeeded v)) (C := RX1) (T := TX1) (N := 11) hx hb hts inX1 hown hK.1 hP 0 rfl rfl 3 (by decide) (hts _ w_fieldLink_X1_21) (fun _ h9 => h9) rfl dX1_isWon_24 ?_
    refine lv_icmp_lt (tgt := 34) hx hb dX1_isWon_27 (by decide) (fun c6 => ?_) (fun c6 => ?_)
    · have hF := itp c6 hF
      refine lv_iconst (v := 0) hx hb dX1_isWon_34 (by decide) ?_
      exact hJ35 (0 : Int32) _ _ _ b01_0 hP hS (lv_sub hl [] rfl) hF
    · have hF := itn c6 hF
      exact hJ30 () _ _ _ hP hS (lv_sub hl [] rfl) hF
theorem dX1_addPoints_0 : decode cX1_addPoints 0 = .ok (.aload_n 0, 1) := by decide +kernel
theorem dX1_addPoints_1 : decode cX1_addPoints 1 = .ok (.getfield 9, 3) := by decide +kernel
theorem dX1_addPoints_4 : decode cX1_addPoints 4 = .ok (.iload_n 1, 1) := by decide +kernel
theorem dX1_addPoints_5 : decode cX1_addPoints 5 = .ok (.aload_n 0, 1) := by decide +kernel
theorem dX1_addPoints_6 : decode cX1_addPoints 6 = .ok (.getfield 9, 3) := by decide +kernel
theorem dX1_addPoints_9 : decode cX1_addPoints 9 = .ok (.iload_n 1, 1) := by decide +kernel
theorem dX1_addPoints_10 : decode cX1_addPoints 10 = .ok (.invokestatic 54, 3) := by decide +kernel
theorem dX1_addPoints_13 : decode cX1_addPoints 13 = .ok (.iload_n 2, 1) := by decide +kernel
theorem dX1_addPoints_14 : decode cX1_addPoints 14 = .ok (.iadd, 1) := by decide +kernel
theorem dX1_addPoints_15 : decode cX1_addPoints 15 = .ok (.invokestatic 58, 3) := by decide +kernel
theorem dX1_addPoints_18 : decode cX1_addPoints 18 = .ok (.aload_n 0, 1) := by decide +kernel
theorem dX1_addPoints_19 : decode cX1_addPoints 19 = .ok (.iload_n 1, 1) := by decide +kernel
theorem dX1_addPoints_20 : decode cX1_addPoints 20 = .ok (.putfield 43, 3) := by decide +kernel
theorem dX1_addPoints_23 : decode cX1_addPoints 23 = .ok (.return_, 1) := by decide +kernel
def f_X1_addPoints (N : Nat) (v : VV) (p1 : Int32) (p2 : Int32) : Option (VV) :=
  (f_X5_at N 2 (V_points v) p1).bind (fun o1 => (f_X5_put N 2 (V_points v) p1 (o1 + p2)).bind (fun o3 => some (V_set_firstSide (V_set_points v o3) p1)))
set_option maxHeartbeats 4000000 in
set_option maxRecDepth 100000 in
theorem met_X1_addPoints (l : Launch) (dC : Nat → ClassId) (dI : Nat → Nat → Nat) (cyI cyO : ClassId) (a : Nat → Nat) (sz : Nat) (N : Nat) (v : VV) (p1 : Int32) (p2 : Int32) (out : VV) (hF : f_X1_addPoints N v p1 p2 = some out) : Met l yX1_addPoints (Cond.code yX1_addPoints cX1_addPoints 3 none :: wT) ({ frames := 1, cells := 0, slots := 0, locals := 22 } : Room) (wWr dC dI cyI cyO [.ref (a 9), .int p1, .int p2] (cV cyI a v) sz) (va_Qv (fun (u : VV) => u = out) (fun u t => va_P (dC, dI) vwCl (cV cyI a u) t.heap ∧ va_D (va_A (cV cyI a v) sz) (cV cyI a u)) (va_A (cV cyI a v) sz)) 0 0 (va_A (cV cyI a v) sz) := by
  refine Met.ofW (cc := cX1_addPoints) (maxL := 3) (ret := none) (by decide) rfl ?_
  intro p e s m args below meth c s₁ B hml hv
  obtain ⟨rfl, hsz, hP, hK, hD0⟩ := hv
  have hx := B.exec
  have hb := B.bytes
  have hr := B.returns
  have hts0 := atoms_spec (ws := (Cond.code yX1_addPoints cX1_addPoints 3 none :: wT)) B.pre
  have hts := fun w h => hts0 w (List.mem_cons_of_mem _ h)
  clear hts0
  have hown : s.vm.findClass RX1 = some m.cls := findClass_of_methodNamed B.named
  have hlocks := B.notSynchronized
  subst hsz
  have hD := hD0.self (sz := s.heap.size)
  generalize hAe : va_A (cV cyI a v) s.heap.size = A at hD ⊢
  have hA : ∀ q : Nat, s.heap.size ≤ q → A q := fun q h => by rw [← hAe]; exact Or.inr h
  clear hD0
  have hS : va_S A s.heap s.heap [] := va_S.rf
  have hl := lv_entry [.ref (a 9), .int p1, .int p2] (n := 3) (Nat.le_of_ble_eq_true rfl)
  rw [lg_entry_eq]
  generalize (lg_sl [.ref (a 9), .int p1, .int p2] ++ List.replicate (3 - (lg_sl [.ref (a 9), .int p1, .int p2]).length) Slot.unset).toArray = ls at hl ⊢
  have hl : lv_has ls 3 [(0, .ref (a 9)), (1, .int p1), (2, .int p2)] := hl
  unfold f_X1_addPoints at hF
  refine lv_aload_n hx hb dX1_addPoints_0 rfl (lv_at hl 0 rfl) ?_
  refine va_get (D := (dC, dI)) (ci := 1) (v := .ref (a 10)) (C := RX1) (T := TX1) (N := 11) hx hb hts inX1 hown hK.1 hP 0 rfl rfl 0 (by decide) (hts _ w_fieldLink_X1_9) (fun _ h9 => h9) rfl dX1_addPoints_1 ?_
  refine lv_iload_n hx hb dX1_addPoints_4 rfl (lv_at hl 1 rfl) ?_
  refine lv_aload_n hx hb dX1_addPoints_5 rfl (lv_at hl 0 rfl) ?_
  refine va_get (D := (dC, dI)) (ci := 1) (v := .ref (a 10)) (C := RX1) (T := TX1) (N := 11) hx hb hts inX1 hown hK.1 hP 0 rfl rfl 0 (by decide) (hts _ w_fieldLink_X1_9) (fun _ h9 => h9) rfl dX1_addPoints_6 ?_
  refine lv_iload_n hx hb dX1_addPoints_9 rfl (lv_at hl 1 rfl) ?_
  obtain ⟨o1, h2, hF⟩ := obd hF
  refine wcRNi (As := [.ref (a 10), .int p1]) (rest := [.int p1, .ref (a 10)]) ⟨hx, hb, hml, hown, hts⟩ (met_X5_at l dC dI cyI cyO (a 10) 2 N (V_points v) p1 o1 h2) ⟨va_cnB 2 hts (gCode w_code_X5_at) rfl rfl rfl (hK.2 _ n_X1_54) (hts _ w_initialized_X5) (by decide +kernel) ⟨Nat.le_of_ble_eq_true rfl, Nat.le_of_ble_eq_true rfl⟩, hts _ w_static_X5_at, trivial⟩ hP hK [1] rfl rfl hl.1 (Nat.le_of_ble_eq_true rfl) dX1_addPoints_10 ⟨Nat.le_of_ble_eq_true rfl, Nat.le_of_ble_eq_true rfl⟩ hS (fun r H locs hw hP hS => ?_)
  have hw := hw.symm
  subst hw
  refine lv_iload_n hx hb dX1_addPoints_13 rfl (lv_at hl 2 rfl) ?_
  refine lv_iadd hx hb dX1_addPoints_14 ?_
  obtain ⟨o3, h4, hF⟩ := obd hF
  refine wcWNv (As := [.ref (a 10), .int p1, .int (o1 + p2)]) (rest := []) (wr := [0, 2, 3].filterMap (fun i => ((cV cyI a v))[i]?)) ⟨hx, hb, hml, hown, hts⟩ (met_X5_put l dC dI cyI cyO (a 10) 2 _ N (V_points v) p1 (o1 + p2) o3 h4) ⟨va_cnB 3 hts (gCode w_code_X5_put) rfl rfl rfl (hK.2 _ n_X1_58) (hts _ w_initialized_X5) (by decide +kernel) ⟨Nat.le_of_ble_eq_true rfl, Nat.le_of_ble_eq_true rfl⟩, hts _ w_static_X5_put, trivial⟩ hP hD hK [1] [0, 2, 3] rfl rfl (by decide) (by decide) (by decide) rfl hl.1 (Nat.le_of_ble_eq_true rfl) dX1_addPoints_15 ⟨Nat.le_of_ble_eq_true rfl, Nat.le_of_ble_eq_true rfl⟩ hS hA (fun u H locs hw hP hD hS => ?_)
  have hw := hw.symm
  subst hw
  have hP := hP.sub (ws' := (cV cyI a (V_set_points v o3))) [0, 3, 1, 2] rfl
  have hD := hD.sub (ws' := (cV cyI a (V_set_points v o3))) [0, 3, 1, 2] (by decide) rfl
  refine lv_aload_n hx hb dX1_addPoints_18 rfl (lv_at hl 0 rfl) ?_
  refine lv_iload_n hx hb dX1_addPoints_19 rfl (lv_at hl 1 rfl) ?_
  refine va_put (D := (dC, dI)) (ci := 1) (v := .int p1) (ty := .int) (C := RX1) (T := TX1) (N := 11) hx hb hts inX1 tyX1 tyX1_ok nmX1 hown hK.1 hP hD hS 0 rfl rfl 10 (by decide) (hts _ w_fieldLink_X1_43) (fun _ h9 => h9) rfl (by decide +kernel) rfl rfl (Nat.le_of_ble_eq_true rfl) dX1_addPoints_20 (fun H locs hP hD hS => ?_)
  have hP : va_P (dC, dI) vwCl (cV cyI a (V_set_firstSide (V_set_points v o3) p1)) H := hP
  have hD : va_D A (cV cyI a (V_set_firstSide (V_set_points v o3) p1)) := hD
  exact W.vret hx hb hr (fun t ht hW => ⟨⟨_, rfl, Option.some.inj hF, by rw [ht]; exact hP, hD⟩, hS.F ht⟩) hS.2.2 dX1_addPoints_23
theorem dX1_addEnd_0 : decode cX1_addEnd 0 = .ok (.aload_n 0, 1) := by decide +kernel
theorem dX1_addEnd_1 : decode cX1_addEnd 1 = .ok (.dup, 1) := by decide +kernel
theorem dX1_addEnd_2 : decode cX1_addEnd 2 = .ok (.getfield 25, 3) := by decide +kernel
theorem dX1_addEnd_5 : decode cX1_addEnd 5 = .ok (.iconst 1, 1) := by decide +kernel
theorem dX1_addEnd_6 : decode cX1_addEnd 6 = .ok (.iadd, 1) := by decide +kernel
theorem dX1_addEnd_7 : decode cX1_addEnd 7 = .ok (.putfield 25, 3) := by decide +kernel
theorem dX1_addEnd_10 : decode cX1_addEnd 10 = .ok (.aload_n 0, 1) := by decide +kernel
theorem dX1_addEnd_11 : decode cX1_addEnd 11 = .ok (.getfield 18, 3) := by decide +kernel
theorem dX1_addEnd_14 : decode cX1_addEnd 14 = .ok (.iload_n 1, 1) := by decide +kernel
theorem dX1_addEnd_15 : decode cX1_addEnd 15 = .ok (.bipush 8, 2) := by decide +kernel
theorem dX1_addEnd_17 : decode cX1_addEnd 17 = .ok (.iadd, 1) := by decide +kernel
theorem dX1_addEnd_18 : decode cX1_addEnd 18 = .ok (.aload_n 0, 1) := by decide +kernel
theorem dX1_addEnd_19 : decode cX1_addEnd 19 = .ok (.getfield 18, 3) := by decide +kernel
theorem dX1_addEnd_22 : decode cX1_addEnd 22 = .ok (.iload_n 1, 1) := by decide +kernel
theorem dX1_addEnd_23 : decode cX1_addEnd 23 = .ok (.bipush 8, 2) := by decide +kernel
theorem dX1_addEnd_25 : decode cX1_addEnd 25 = .ok (.iadd, 1) := by decide +kernel
theorem dX1_addEnd_26 : decode cX1_addEnd 26 = .ok (.invokestatic 54, 3) := by decide +kernel
theorem dX1_addEnd_29 : decode cX1_addEnd 29 = .ok (.iconst 1, 1) := by decide +kernel
theorem dX1_addEnd_30 : decode cX1_addEnd 30 = .ok (.iadd, 1) := by decide +kernel
theorem dX1_addEnd_31 : decode cX1_addEnd 31 = .ok (.invokestatic 58, 3) := by decide +kernel
theorem dX1_addEnd_34 : decode cX1_addEnd 34 = .ok (.aload_n 0, 1) := by decide +kernel
theorem dX1_addEnd_35 : decode cX1_addEnd 35 = .ok (.getfield 31, 3) := by decide +kernel
theorem dX1_addEnd_38 : decode cX1_addEnd 38 = .ok (.bipush 12, 2) := by decide +kernel
theorem dX1_addEnd_40 : decode cX1_addEnd 40 = .ok (.if_icmp .lt 46, 3) := by decide +kernel
theorem dX1_addEnd_43 : decode cX1_addEnd 43 = .ok (.iconst 1, 1) := by decide +kernel
theorem dX1_addEnd_44 : decode cX1_addEnd 44 = .ok (.istore_n 2, 1) := by decide +kernel
theorem dX1_addEnd_45 : decode cX1_addEnd 45 = .ok (.iload_n 2, 1) := by decide +kernel
theorem dX1_addEnd_46 : decode cX1_addEnd 46 = .ok (.aload_n 0, 1) := by decide +kernel
theorem dX1_addEnd_47 : decode cX1_addEnd 47 = .ok (.getfield 15, 3) := by decide +kernel
theorem dX1_addEnd_50 : decode cX1_addEnd 50 = .ok (.arraylength, 1) := by decide +kernel
theorem dX1_addEnd_51 : decode cX1_addEnd 51 = .ok (.if_icmp .ge 25, 3) := by decide +kernel
theorem dX1_addEnd_54 : decode cX1_addEnd 54 = .ok (.aload_n 0, 1) := by decide +kernel
theorem dX1_addEnd_55 : decode cX1_addEnd 55 = .ok (.getfield 15, 3) := by decide +kernel
theorem dX1_addEnd_58 : decode cX1_addEnd 58 = .ok (.iload_n 2, 1) := by decide +kernel
theorem dX1_addEnd_59 : decode cX1_addEnd 59 = .ok (.iconst 1, 1) := by decide +kernel
theorem dX1_addEnd_60 : decode cX1_addEnd 60 = .ok (.isub, 1) := by decide +kernel
theorem dX1_addEnd_61 : decode cX1_addEnd 61 = .ok (.aload_n 0, 1) := by decide +kernel
theorem dX1_addEnd_62 : decode cX1_addEnd 62 = .ok (.getfield 15, 3) := by decide +kernel
theorem dX1_addEnd_65 : decode cX1_addEnd 65 = .ok (.iload_n 2, 1) := by decide +kernel
theorem dX1_addEnd_66 : decode cX1_addEnd 66 = .ok (.iaload, 1) := by decide +kernel
theorem dX1_addEnd_67 : decode cX1_addEnd 67 = .ok (.invokestatic 58, 3) := by decide +kernel
theorem dX1_addEnd_70 : decode cX1_addEnd 70 = .ok (.iinc 2 1, 3) := by decide +kernel
theorem dX1_addEnd_73 : decode cX1_addEnd 73 = .ok (.goto (-28), 3) := by decide +kernel
theorem dX1_addEnd_76 : decode cX1_addEnd 76 = .ok (.aload_n 0, 1) := by decide +kernel
theorem dX1_addEnd_77 : decode cX1_addEnd 77 = .ok (.dup, 1) := by decide +kernel
theorem dX1_addEnd_78 : decode cX1_addEnd 78 = .ok (.getfield 31, 3) := by decide +kernel
theorem dX1_addEnd_81 : decode cX1_addEnd 81 = .ok (.iconst 1, 1) := by decide +kernel
theorem dX1_addEnd_82 : decode cX1_addEnd 82 = .ok (.isub, 1) := by decide +kernel
theorem dX1_addEnd_83 : decode cX1_addEnd 83 = .ok (.putfield 31, 3) := by decide +kernel
theorem dX1_addEnd_86 : decode cX1_addEnd 86 = .ok (.aload_n 0, 1) := by decide +kernel
theorem dX1_addEnd_87 : decode cX1_addEnd 87 = .ok (.getfield 15, 3) := by decide +kernel
theorem dX1_addEnd_90 : decode cX1_addEnd 90 = .ok (.aload_n 0, 1) := by decide +kernel
theorem dX1_addEnd_91 : decode cX1_addEnd 91 = .ok (.getfield 31, 3) := by decide +kernel
theorem dX1_addEnd_94 : decode cX1_addEnd 94 = .ok (.iload_n 1, 1) := by decide +kernel
theorem dX1_addEnd_95 : decode cX1_addEnd 95 = .ok (.invokestatic 58, 3) := by decide +kernel
theorem dX1_addEnd_98 : decode cX1_addEnd 98 = .ok (.aload_n 0, 1) := by decide +kernel
theorem dX1_addEnd_99 : decode cX1_addEnd 99 = .ok (.dup, 1) := by decide +kernel
theorem dX1_addEnd_100 : decode cX1_addEnd 100 = .ok (.getfield 31, 3) := by decide +kernel
theorem dX1_addEnd_103 : decode cX1_addEnd 103 = .ok (.iconst 1, 1) := by decide +kernel
theorem dX1_addEnd_104 : decode cX1_addEnd 104 = .ok (.iadd, 1) := by decide +kernel
theorem dX1_addEnd_105 : decode cX1_addEnd 105 = .ok (.putfield 31, 3) := by decide +kernel
theorem dX1_addEnd_108 : decode cX1_addEnd 108 = .ok (.return_, 1) := by decide +kernel
def f_X1_addEnd (N : Nat) (v : VV) (p1 : Int32) : Option (VV) :=
  (f_X5_at N 17 (V_endsByPoints v) (p1 + (8 : Int32))).bind (fun o1 => (f_X5_put N 17 (V_endsByPoints v) (p1 + (8 : Int32)) (o1 + (1 : Int32))).bind (fun o3 => jn (fun (s86 : VV) => (f_X5_put N 12 (V_latest s86) (V_latestCount s86) p1).bind (fun o5 => some (V_set_latestCount (V_set_latest s86 o5) ((V_latestCount s86) + (1 : Int32))))) (fun (j86 : (VV) → Option (VV)) => (if (V_latestCount v) < (12 : Int32) then j86 (V_set_endCount (V_set_endsByPoints v o3) ((V_endCount v) + (1 : Int32))) else lpN (fun (s45 : Int32 × VV) (k45 : (Int32 × VV) → Option (VV)) => (if (12 : Int32) ≤ s45.1 then j86 (V_set_latestCount s45.2 ((V_latestCount s45.2) - (1 : Int32))) else gd (ixok s45.1 12) ((f_X5_put N 12 (V_latest s45.2) (s45.1 - (1 : Int32)) ((V_latest s45.2) s45.1.toNatClampNeg)).bind (fun o10 => k45 ((s45.1 + (1 : Int32)), (V_set_latest s45.2 o10)))))) N ((1 : Int32), (V_set_endCount (V_set_endsByPoints v o3) ((V_endCount v) + (1 : Int32))))))))
set_option maxHeartbeats 4000000 in
set_option maxRecDepth 100000 in
theorem met_X1_addEnd (l : Launch) (dC : Nat → ClassId) (dI : Nat → Nat → Nat) (cyI cyO : ClassId) (a : Nat → Nat) (sz : Nat) (N : Nat) (v : VV) (p1 : Int32) (out : VV) (hF : f_X1_addEnd N v p1 = some out) : Met l yX1_addEnd (Cond.code yX1_addEnd cX1_addEnd 3 none :: wT) ({ frames := 1, cells := 0, slots := 0, locals := 22 } : Room) (wWr dC dI cyI cyO [.ref (a 9), .int p1] (cV cyI a v) sz) (va_Qv (fun (u : VV) => u = out) (fun u t => va_P (dC, dI) vwCl (cV cyI a u) t.heap ∧ va_D (va_A (cV cyI a v) sz) (cV cyI a u)) (va_A (cV cyI a v) sz)) 0 0 (va_A (cV cyI a v) sz) := by
  refine Met.ofW (cc := cX1_addEnd) (maxL := 3) (ret := none) (by decide) rfl ?_
  intro p e s m args below meth c s₁ B hml hv
  obtain ⟨rfl, hsz, hP, hK, hD0⟩ := hv
  have hx := B.exec
  have hb := B.bytes
  have hr := B.returns
  have hts0 := atoms_spec (ws := (Cond.code yX1_addEnd cX1_addEnd 3 none :: wT)) B.pre
  have hts := fun w h => hts0 w (List.mem_cons_of_mem _ h)
  clear hts0
  have hown : s.vm.findClass RX1 = some m.cls := findClass_of_methodNamed B.named
  have hlocks := B.notSynchronized
  subst hsz
  have hD := hD0.self (sz := s.heap.size)
  generalize hAe : va_A (cV cyI a v) s.heap.size = A at hD ⊢
  have hA : ∀ q : Nat, s.heap.size ≤ q → A q := fun q h => by rw [← hAe]; exact Or.inr h
  clear hD0
  have hS : va_S A s.heap s.heap [] := va_S.rf
  have hl := lv_entry [.ref (a 9), .int p1] (n := 3) (Nat.le_of_ble_eq_true rfl)
  rw [lg_entry_eq]
  generalize (lg_sl [.ref (a 9), .int p1] ++ List.replicate (3 - (lg_sl [.ref (a 9), .int p1]).length) Slot.unset).toArray = ls at hl ⊢
  have hl : lv_has ls 3 [(0, .ref (a 9)), (1, .int p1)] := hl
  unfold f_X1_addEnd at hF
  refine lv_aload_n hx hb dX1_addEnd_0 rfl (lv_at hl 0 rfl) ?_
  refine lv_dup hx hb dX1_addEnd_1 rfl ?_
  refine va_get (D := (dC, dI)) (ci := 1) (v := .int (V_endCount v)) (C := RX1) (T := TX1) (N := 11) hx hb hts inX1 hown hK.1 hP 0 rfl rfl 4 (by decide) (hts _ w_fieldLink_X1_25) (fun _ h9 => h9) rfl dX1_addEnd_2 ?_
  refine lv_iconst (v := 1) hx hb dX1_addEnd_5 (by decide) ?_
  refine lv_iadd hx hb dX1_addEnd_6 ?_
  refine va_put (D := (dC, dI)) (ci := 1) (v := .int ((V_endCount v) + (1 : Int32))) (ty := .int) (C := RX1) (T := TX1) (N := 11) hx hb hts inX1 tyX1 tyX1_ok nmX1 hown hK.1 hP hD hS 0 rfl rfl 4 (by decide) (hts _ w_fieldLink_X1_25) (fun _ h9 => h9) rfl (by decide +kernel) rfl rfl (Nat.le_of_ble_eq_true rfl) dX1_addEnd_7 (fun H locs hP hD hS => ?_)
  have hP : va_P (dC, dI) vwCl (cV cyI a (V_set_endCount v ((V_endCount v) + (1 : Int32)))) H := hP
  have hD : va_D A (cV cyI a (V_set_endCount v ((V_endCount v) + (1 : Int32)))) := hD
  refine lv_aload_n hx hb dX1_addEnd_10 rfl (lv_at hl 0 rfl) ?_
  refine va_get (D := (dC, dI)) (ci := 1) (v := .ref (a 12)) (C := RX1) (T := TX1) (N := 11) hx hb hts inX1 hown hK.1 hP 0 rfl rfl 2 (by decide) (hts _ w_fieldLink_X1_18) (fun _ h9 => h9) rfl dX1_addEnd_11 ?_
  refine lv_iload_n hx hb dX1_addEnd_14 rfl (lv_at hl 1 rfl) ?_
  refine lv_bipush (v := 8) hx hb dX1_addEnd_15 (by decide) ?_
  refine lv_iadd hx hb dX1_addEnd_17 ?_
  refine lv_aload_n hx hb dX1_addEnd_18 rfl (lv_at hl 0 rfl) ?_
  refine va_get (D := (dC, dI)) (ci := 1) (v := .ref (a 12)) (C := RX1) (T := TX1) (N := 11) hx hb hts inX1 hown hK.1 hP 0 rfl rfl 2 (by decide) (hts _ w_fieldLink_X1_18) (fun _ h9 => h9) rfl dX1_addEnd_19 ?_
  refine lv_iload_n hx hb dX1_addEnd_22 rfl (lv_at hl 1 rfl) ?_
  refine lv_bipush (v := 8) hx hb dX1_addEnd_23 (by decide) ?_
  refine lv_iadd hx hb dX1_addEnd_25 ?_
  obtain ⟨o1, h2, hF⟩ := obd hF
  refine wcRNi (As := [.ref (a 12), .int (p1 + (8 : Int32))]) (rest := [.int (p1 + (8 : Int32)), .ref (a 12)]) ⟨hx, hb, hml, hown, hts⟩ (met_X5_at l dC dI cyI cyO (a 12) 17 N (V_endsByPoints v) (p1 + (8 : Int32)) o1 h2) ⟨va_cnB 2 hts (gCode w_code_X5_at) rfl rfl rfl (hK.2 _ n_X1_54) (hts _ w_initialized_X5) (by decide +kernel) ⟨Nat.le_of_ble_eq_true rfl, Nat.le_of_ble_eq_true rfl⟩, hts _ w_static_X5_at, trivial⟩ hP hK [3] rfl rfl hl.1 (Nat.le_of_ble_eq_true rfl) dX1_addEnd_26 ⟨Nat.le_of_ble_eq_true rfl, Nat.le_of_ble_eq_true rfl⟩ hS (fun r H locs hw hP hS => ?_)
  have hw := hw.symm
  subst hw
  refine lv_iconst (v := 1) hx hb dX1_addEnd_29 (by decide) ?_
  refine lv_iadd hx hb dX1_addEnd_30 ?_
  obtain ⟨o3, h4, hF⟩ := obd hF
  refine wcWNv (As := [.ref (a 12), .int (p1 + (8 : Int32)), .int (o1 + (1 : Int32))]) (rest := []) (wr := [0, 1, 2].filterMap (fun i => ((cV cyI a (V_set_endCount v ((V_endCount v) + (1 : Int32)))))[i]?)) ⟨hx, hb, hml, hown, hts⟩ (met_X5_put l dC dI cyI cyO (a 12) 17 _ N (V_endsByPoints v) (p1 + (8 : Int32)) (o1 + (1 : Int32)) o3 h4) ⟨va_cnB 3 hts (gCode w_code_X5_put) rfl rfl rfl (hK.2 _ n_X1_58) (hts _ w_initialized_X5) (by decide +kernel) ⟨Nat.le_of_ble_eq_true rfl, Nat.le_of_ble_eq_true rfl⟩, hts _ w_static_X5_put, trivial⟩ hP hD hK [3] [0, 1, 2] rfl rfl (by decide) (by decide) (by decide) rfl hl.1 (Nat.le_of_ble_eq_true rfl) dX1_addEnd_31 ⟨Nat.le_of_ble_eq_true rfl, Nat.le_of_ble_eq_true rfl⟩ hS hA (fun u H locs hw hP hD hS => ?_)
  have hw := hw.symm
  subst hw
  have hP : va_P (dC, dI) vwCl (cV cyI a (V_set_endCount (V_set_endsByPoints v o3) ((V_endCount v) + (1 : Int32)))) H := hP
  have hD : va_D A (cV cyI a (V_set_endCount (V_set_endsByPoints v o3) ((V_endCount v) + (1 : Int32)))) := hD
  refine lv_aload_n hx hb dX1_addEnd_34 rfl (lv_at hl 0 rfl) ?_
  refine va_get (D := (dC, dI)) (ci := 1) (v := .int (V_latestCount v)) (C := RX1) (T := TX1) (N := 11) hx hb hts inX1 hown hK.1 hP 0 rfl rfl 6 (by decide) (hts _ w_fieldLink_X1_31) (fun _ h9 => h9) rfl dX1_addEnd_35 ?_
  refine lv_bipush (v := 12) hx hb dX1_addEnd_38 (by decide) ?_
  obtain ⟨j86, hj86, hF⟩ := jn_use hF
  have hJ86 : ∀ (s86 : VV) (H : Heap) (locs : List Loc) (ls : Array Slot), va_P (dC, dI) vwCl (cV cyI a s86) H → va_D A (cV cyI a s86) → va_S A s.heap H locs → lv_has ls 3 [(0, .ref (a 9)), (1, .int p1)] → j86 s86 = some out → W p l e (headSpec (Cond.code yX1_addEnd cX1_addEnd 3 none :: wT) ({ frames := 1, cells := 0, slots := 0, locals := 22 } : Room)).room s m ([.ref (a 9), .int p1] : List Value).toArray below meth c H locs 0 0 (MQ below (va_Qv (fun (u : VV) => u = out) (fun u t => va_P (dC, dI) vwCl (cV cyI a u) t.heap ∧ va_D A (cV cyI a u)) A) ([.ref (a 9), .int p1] : List Value).toArray s 0 0 A) (F0 m 86 ls []) := by
    intro s86 H locs ls hP hD hS hl hF
    have hF := (congrFun hj86 s86).symm.trans hF
    refine lv_aload_n hx hb dX1_addEnd_86 rfl (lv_at hl 0 rfl) ?_
    refine va_get (D := (dC, dI)) (ci := 1) (v := .ref (a 11)) (C := RX1) (T := TX1) (N := 11) hx hb hts inX1 hown hK.1 hP 0 rfl rfl 1 (by decide) (hts _ w_fieldLink_X1_15) (fun _ h9 => h9) rfl dX1_addEnd_87 ?_
    refine lv_aload_n hx hb dX1_addEnd_90 rfl (lv_at hl 0 rfl) ?_
    refine va_get (D := (dC, dI)) (ci := 1) (v := .int (V_latestCount s86)) (C := RX1) (T := TX1) (N := 11) hx hb hts inX1 hown hK.1 hP 0 rfl rfl 6 (by decide) (hts _ w_fieldLink_X1_31) (fun _ h9 => h9) rfl dX1_addEnd_91 ?_
    refine lv_iload_n hx hb dX1_addEnd_94 rfl (lv_at hl 1 rfl) ?_
    obtain ⟨o5, h6, hF⟩ := obd hF
    refine wcWNv (As := [.ref (a 11), .int (V_latestCount s86), .int p1]) (rest := []) (wr := [0, 1, 3].filterMap (fun i => ((cV cyI a s86))[i]?)) ⟨hx, hb, hml, hown, hts⟩ (met_X5_put l dC dI cyI cyO (a 11) 12 _ N (V_latest s86) (V_latestCount s86) p1 o5 h6) ⟨va_cnB 3 hts (gCode w_code_X5_put) rfl rfl rfl (hK.2 _ n_X1_58) (hts _ w_initialized_X5) (by decide +kernel) ⟨Nat.le_of_ble_eq_true rfl, Nat.le_of_ble_eq_true rfl⟩, hts _ w_static_X5_put, trivial⟩ hP hD hK [2] [0, 1, 3] rfl rfl (by decide) (by decide) (by decide) rfl hl.1 (Nat.le_of_ble_eq_true rfl) dX1_addEnd_95 ⟨Nat.le_of_ble_eq_true rfl, Nat.le_of_ble_eq_true rfl⟩ hS hA (fun u H locs hw hP hD hS => ?_)
    have hw := hw.symm
    subst hw
    have hP := hP.sub (ws' := (cV cyI a (V_set_latest s86 o5))) [0, 1, 3, 2] rfl
    have hD := hD.sub (ws' := (cV cyI a (V_set_latest s86 o5))) [0, 1, 3, 2] (by decide) rfl
    refine lv_aload_n hx hb dX1_addEnd_98 rfl (lv_at hl 0 rfl) ?_
    refine lv_dup hx hb dX1_addEnd_99 rfl ?_
    refine va_get (D := (dC, dI)) (ci := 1) (v := .int (V_latestCount s86)) (C := RX1) (T := TX1) (N := 11) hx hb hts inX1 hown hK.1 hP 0 rfl rfl 6 (by decide) (hts _ w_fieldLink_X1_31) (fun _ h9 => h9) rfl dX1_addEnd_100 ?_
    refine lv_iconst (v := 1) hx hb dX1_addEnd_103 (by decide) ?_
    refine lv_iadd hx hb dX1_addEnd_104 ?_
    refine va_put (D := (dC, dI)) (ci := 1) (v := .int ((V_latestCount s86) + (1 : Int32))) (ty := .int) (C := RX1) (T := TX1) (N := 11) hx hb hts inX1 tyX1 tyX1_ok nmX1 hown hK.1 hP hD hS 0 rfl rfl 6 (by decide) (hts _ w_fieldLink_X1_31) (fun _ h9 => h9) rfl (by decide +kernel) rfl rfl (Nat.le_of_ble_eq_true rfl) dX1_addEnd_105 (fun H locs hP hD hS => ?_)
    have hP : va_P (dC, dI) vwCl (cV cyI a (V_set_latestCount (V_set_latest s86 o5) ((V_latestCount s86) + (1 : Int32)))) H := hP
    have hD : va_D A (cV cyI a (V_set_latestCount (V_set_latest s86 o5) ((V_latestCount s86) + (1 : Int32)))) := hD
    exact W.vret hx hb hr (fun t ht hW => ⟨⟨_, rfl, Option.some.inj hF, by rw [ht]; exact hP, hD⟩, hS.F ht⟩) hS.2.2 dX1_addEnd_108
  refine lv_icmp_lt (tgt := 86) hx hb dX1_addEnd_40 (by decide) (fun c7 => ?_) (fun c7 => ?_)
  · have hF := itp c7 hF
    exact hJ86 (V_set_endCount (V_set_endsByPoints v o3) ((V_endCount v) + (1 : Int32))) _ _ _ hP hD hS (lv_sub hl [0, 1] rfl) hF
  · have hF := itn c7 hF
    refine lv_iconst (v := 1) hx hb dX1_addEnd_43 (by decide) ?_
    refine lv_istore_n (lv' := [(2, .int (1 : Int32)), (0, .ref (a 9)), (1, .int p1)]) hx hb dX1_addEnd_44 rfl hl (by decide) rfl (fun ls hl => ?_)
    obtain ⟨st45, hst45, hF⟩ := lpN_use hF
    have hL45 : ∀ (n : Nat) (s45 : Int32 × VV) (H : Heap) (locs : List Loc) (ls : Array Slot), va_P (dC, dI) vwCl (cV cyI a s45.2) H → va_D A (cV cyI a s45.2) → va_S A s.heap H locs → lv_has ls 3 [(0, .ref (a 9)), (1, .int p1), (2, .int s45.1)] → lpN st45 n s45 = some out → W p l e (headSpec (Cond.code yX1_addEnd cX1_addEnd 3 none :: wT) ({ frames := 1, cells := 0, slots := 0, locals := 22 } : Room)).room s m ([.ref (a 9), .int p1] : List Value).toArray below meth c H locs 0 0 (MQ below (va_Qv (fun (u : VV) => u = out) (fun u t => va_P (dC, dI) vwCl (cV cyI a u) t.heap ∧ va_D A (cV cyI a u)) A) ([.ref (a 9), .int p1] : List Value).toArray s 0 0 A) (F0 m 45 ls []) := by
      intro n
      induction n with
      | zero => intro s45 H locs ls hP hD hS hl hF; exact lpN_0 hF
      | succ n ih45 =>
        intro s45 H locs ls hP hD hS hl hF
        have hF := (congrFun (congrFun hst45 s45) (lpN st45 n)).symm.trans (lpN_s hF)
        refine lv_iload_n hx hb dX1_addEnd_45 rfl (lv_at hl 2 rfl) ?_
        refine lv_aload_n hx hb dX1_addEnd_46 rfl (lv_at hl 0 rfl) ?_
        refine va_get (D := (dC, dI)) (ci := 1) (v := .ref (a 11)) (C := RX1) (T := TX1) (N := 11) hx hb hts inX1 hown hK.1 hP 0 rfl rfl 1 (by decide) (hts _ w_fieldLink_X1_15) (fun _ h9 => h9) rfl dX1_addEnd_47 ?_
        refine va_alen hx hb hK.1 hP 2 0 rfl rfl (v := (12 : Int32)) rfl dX1_addEnd_50 ?_
        refine lv_icmp_ge (tgt := 76) hx hb dX1_addEnd_51 (by decide) (fun c8 => ?_) (fun c8 => ?_)
        · have hF := itp c8 hF
          refine lv_aload_n hx hb dX1_addEnd_76 rfl (lv_at hl 0 rfl) ?_
          refine lv_dup hx hb dX1_addEnd_77 rfl ?_
          refine va_get (D := (dC, dI)) (ci := 1) (v := .int (V_latestCount s45.2)) (C := RX1) (T := TX1) (N := 11) hx hb hts inX1 hown hK.1 hP 0 rfl rfl 6 (by decide) (hts _ w_fieldLink_X1_31) (fun _ h9 => h9) rfl dX1_addEnd_78 ?_
          refine lv_iconst (v := 1) hx hb dX1_addEnd_81 (by decide) ?_
          refine lv_isub hx hb dX1_addEnd_82 ?_
          refine va_put (D := (dC, dI)) (ci := 1) (v := .int ((V_latestCount s45.2) - (1 : Int32))) (ty := .int) (C := RX1) (T := TX1) (N := 11) hx hb hts inX1 tyX1 tyX1_ok nmX1 hown hK.1 hP hD hS 0 rfl rfl 6 (by decide) (hts _ w_fieldLink_X1_31) (fun _ h9 => h9) rfl (by decide +kernel) rfl rfl (Nat.le_of_ble_eq_true rfl) dX1_addEnd_83 (fun H locs hP hD hS => ?_)
          have hP : va_P (dC, dI) vwCl (cV cyI a (V_set_latestCount s45.2 ((V_latestCount s45.2) - (1 : Int32)))) H := hP
          have hD : va_D A (cV cyI a (V_set_latestCount s45.2 ((V_latestCount s45.2) - (1 : Int32)))) := hD
          exact hJ86 (V_set_latestCount s45.2 ((V_latestCount s45.2) - (1 : Int32))) _ _ _ hP hD hS (lv_sub hl [0, 1] rfl) hF
        · have hF := itn c8 hF
          refine lv_aload_n hx hb dX1_addEnd_54 rfl (lv_at hl 0 rfl) ?_
          refine va_get (D := (dC, dI)) (ci := 1) (v := .ref (a 11)) (C := RX1) (T := TX1) (N := 11) hx hb hts inX1 hown hK.1 hP 0 rfl rfl 1 (by decide) (hts _ w_fieldLink_X1_15) (fun _ h9 => h9) rfl dX1_addEnd_55 ?_
          refine lv_iload_n hx hb dX1_addEnd_58 rfl (lv_at hl 2 rfl) ?_
          refine lv_iconst (v := 1) hx hb dX1_addEnd_59 (by decide) ?_
          refine lv_isub hx hb dX1_addEnd_60 ?_
          refine lv_aload_n hx hb dX1_addEnd_61 rfl (lv_at hl 0 rfl) ?_
          refine va_get (D := (dC, dI)) (ci := 1) (v := .ref (a 11)) (C := RX1) (T := TX1) (N := 11) hx hb hts inX1 hown hK.1 hP 0 rfl rfl 1 (by decide) (hts _ w_fieldLink_X1_15) (fun _ h9 => h9) rfl dX1_addEnd_62 ?_
          refine lv_iload_n hx hb dX1_addEnd_65 rfl (lv_at hl 2 rfl) ?_
          obtain ⟨hg9, hF⟩ := gd_use hF
          refine va_iald hx hb hK.1 hP 2 0 rfl rfl (i := s45.1) hg9 dX1_addEnd_66 ?_
          obtain ⟨o10, h11, hF⟩ := obd hF
          refine wcWNv (As := [.ref (a 11), .int (s45.1 - (1 : Int32)), .int ((V_latest s45.2) s45.1.toNatClampNeg)]) (rest := []) (wr := [0, 1, 3].filterMap (fun i => ((cV cyI a s45.2))[i]?)) ⟨hx, hb, hml, hown, hts⟩ (met_X5_put l dC dI cyI cyO (a 11) 12 _ N (V_latest s45.2) (s45.1 - (1 : Int32)) ((V_latest s45.2) s45.1.toNatClampNeg) o10 h11) ⟨va_cnB 3 hts (gCode w_code_X5_put) rfl rfl rfl (hK.2 _ n_X1_58) (hts _ w_initialized_X5) (by decide +kernel) ⟨Nat.le_of_ble_eq_true rfl, Nat.le_of_ble_eq_true rfl⟩, hts _ w_static_X5_put, trivial⟩ hP hD hK [2] [0, 1, 3] rfl rfl (by decide) (by decide) (by decide) rfl hl.1 (Nat.le_of_ble_eq_true rfl) dX1_addEnd_67 ⟨Nat.le_of_ble_eq_true rfl, Nat.le_of_ble_eq_true rfl⟩ hS hA (fun u H locs hw hP hD hS => ?_)
          have hw := hw.symm
          subst hw
          have hP := hP.sub (ws' := (cV cyI a (V_set_latest s45.2 o10))) [0, 1, 3, 2] rfl
          have hD := hD.sub (ws' := (cV cyI a (V_set_latest s45.2 o10))) [0, 1, 3, 2] (by decide) rfl
          refine lv_iinc (v := (s45.1 + (1 : Int32))) (lv' := [(2, .int (s45.1 + (1 : Int32))), (0, .ref (a 9)), (1, .int p1)]) hx hb dX1_addEnd_70 hl (k := 2) rfl rfl (by decide) rfl (fun ls hl => ?_)
          refine lv_goto (tgt := 45) hx hb dX1_addEnd_73 (by decide) ?_
          exact ih45 ((s45.1 + (1 : Int32)), (V_set_latest s45.2 o10)) _ _ _ hP hD hS (lv_sub hl [1, 2, 0] rfl) hF
    exact hL45 N ((1 : Int32), (V_set_endCount (V_set_endsByPoints v o3) ((V_endCount v) + (1 : Int32)))) _ _ _ hP hD hS (lv_sub hl [1, 2, 0] rfl) hF
theorem dX1_latestWins_0 : decode cX1_latestWins 0 = .ok (.aload_n 0, 1) := by decide +kernel
theorem dX1_latestWins_1 : decode cX1_latestWins 1 = .ok (.getfield 15, 3) := by decide +kernel
theorem dX1_latestWins_4 : decode cX1_latestWins 4 = .ok (.aload_n 0, 1) := by decide +kernel
theorem dX1_latestWins_5 : decode cX1_latestWins 5 = .ok (.getfield 31, 3) := by decide +kernel
theorem dX1_latestWins_8 : decode cX1_latestWins 8 = .ok (.iconst 1, 1) := by decide +kernel
theorem dX1_latestWins_9 : decode cX1_latestWins 9 = .ok (.isub, 1) := by decide +kernel
theorem dX1_latestWins_10 : decode cX1_latestWins 10 = .ok (.invokestatic 54, 3) := by decide +kernel
theorem dX1_latestWins_13 : decode cX1_latestWins 13 = .ok (.invokestatic 62, 3) := by decide +kernel
theorem dX1_latestWins_16 : decode cX1_latestWins 16 = .ok (.istore_n 1, 1) := by decide +kernel
theorem dX1_latestWins_17 : decode cX1_latestWins 17 = .ok (.iconst 0, 1) := by decide +kernel
theorem dX1_latestWins_18 : decode cX1_latestWins 18 = .ok (.istore_n 2, 1) := by decide +kernel
theorem dX1_latestWins_19 : decode cX1_latestWins 19 = .ok (.iload_n 1, 1) := by decide +kernel
theorem dX1_latestWins_20 : decode cX1_latestWins 20 = .ok (.ifCond .eq 39, 3) := by decide +kernel
theorem dX1_latestWins_23 : decode cX1_latestWins 23 = .ok (.iload_n 2, 1) := by decide +kernel
theorem dX1_latestWins_24 : decode cX1_latestWins 24 = .ok (.aload_n 0, 1) := by decide +kernel
theorem dX1_latestWins_25 : decode cX1_latestWins 25 = .ok (.getfield 31, 3) := by decide +kernel
theorem dX1_latestWins_28 : decode cX1_latestWins 28 = .ok (.if_icmp .ge 31, 3) := by decide +kernel
theorem dX1_latestWins_31 : decode cX1_latestWins 31 = .ok (.aload_n 0, 1) := by decide +kernel
theorem dX1_latestWins_32 : decode cX1_latestWins 32 = .ok (.getfield 15, 3) := by decide +kernel
theorem dX1_latestWins_35 : decode cX1_latestWins 35 = .ok (.aload_n 0, 1) := by decide +kernel
theorem dX1_latestWins_36 : decode cX1_latestWins 36 = .ok (.getfield 31, 3) := by decide +kernel
theorem dX1_latestWins_39 : decode cX1_latestWins 39 = .ok (.iconst 1, 1) := by decide +kernel
theorem dX1_latestWins_40 : decode cX1_latestWins 40 = .ok (.isub, 1) := by decide +kernel
theorem dX1_latestWins_41 : decode cX1_latestWins 41 = .ok (.iload_n 2, 1) := by decide +kernel
theorem dX1_latestWins_42 : decode cX1_latestWins 42 = .ok (.isub, 1) := by decide +kernel
theorem dX1_latestWins_43 : decode cX1_latestWins 43 = .ok (.invokestatic 54, 3) := by decide +kernel
theorem dX1_latestWins_46 : decode cX1_latestWins 46 = .ok (.invokestatic 62, 3) := by decide +kernel
theorem dX1_latestWins_49 : decode cX1_latestWins 49 = .ok (.iload_n 1, 1) := by decide +kernel
theorem dX1_latestWins_50 : decode cX1_latestWins 50 = .ok (.if_icmp .ne 9, 3) := by decide +kernel
theorem dX1_latestWins_53 : decode cX1_latestWins 53 = .ok (.iinc 2 1, 3) := by decide +kernel
theorem dX1_latestWins_56 : decode cX1_latestWins 56 = .ok (.goto (-37), 3) := by decide +kernel
theorem dX1_latestWins_59 : decode cX1_latestWins 59 = .ok (.iload_n 2, 1) := by decide +kernel
theorem dX1_latestWins_60 : decode cX1_latestWins 60 = .ok (.ireturn, 1) := by decide +kernel
def f_X1_latestWins (N : Nat) (v : VV) : Option (Int32) :=
  (f_X5_at N 12 (V_latest v) ((V_latestCount v) - (1 : Int32))).bind (fun o1 => (f_J6_signum_0f7a4 N o1).bind (fun o3 => lpN (fun (s19 : Int32) (k19 : (Int32) → Option (Int32)) => jn (fun (s59 : Unit) => some s19) (fun (j59 : (Unit) → Option (Int32)) => (if o3 = 0 then j59 () else (if (V_latestCount v) ≤ s19 then j59 () else (f_X5_at N 12 (V_latest v) (((V_latestCount v) - (1 : Int32)) - s19)).bind (fun o7 => (f_J6_signum_0f7a4 N o7).bind (fun o9 => (if o9 = o3 then k19 (s19 + (1 : Int32)) else j59 ()))))))) N (0 : Int32)))
set_option maxHeartbeats 4000000 in
set_option maxRecDepth 100000 in
theorem met_X1_latestWins (l : Launch) (dC : Nat → ClassId) (dI : Nat → Nat → Nat) (cyI cyO : ClassId) (a : Nat → Nat) (N : Nat) (v : VV) (out : Int32) (hF : f_X1_latestWins N v = some out) : Met l yX1_latestWins (Cond.code yX1_latestWins cX1_latestWins 3 (some .int) :: wT) ({ frames := 1, cells := 0, slots := 0, locals := 21 } : Room) (wRd dC dI cyI cyO [.ref (a 9)] (cV cyI a v)) (va_Qi (fun (r : Int32) (_ : Unit) => r = out) (fun _ _ => True) wN0) 0 0 wN0 := by
  refine Met.ofW (cc := cX1_latestWins) (maxL := 3) (ret := (some .int)) (by decide) rfl ?_
  intro p e s m args below meth c s₁ B hml hv
  obtain ⟨rfl, hP, hK⟩ := hv
  have hx := B.exec
  have hb := B.bytes
  have hr := B.returns
  have hts0 := atoms_spec (ws := (Cond.code yX1_latestWins cX1_latestWins 3 (some .int) :: wT)) B.pre
  have hts := fun w h => hts0 w (List.mem_cons_of_mem _ h)
  clear hts0
  have hown : s.vm.findClass RX1 = some m.cls := findClass_of_methodNamed B.named
  have hlocks := B.notSynchronized
  have hS : va_S wN0 s.heap s.heap [] := va_S.rf
  have hl := lv_entry [.ref (a 9)] (n := 3) (Nat.le_of_ble_eq_true rfl)
  rw [lg_entry_eq]
  generalize (lg_sl [.ref (a 9)] ++ List.replicate (3 - (lg_sl [.ref (a 9)]).length) Slot.unset).toArray = ls at hl ⊢
  have hl : lv_has ls 3 [(0, .ref (a 9))] := hl
  unfold f_X1_latestWins at hF
  refine lv_aload_n hx hb dX1_latestWins_0 rfl (lv_at hl 0 rfl) ?_
  refine va_get (D := (dC, dI)) (ci := 1) (v := .ref (a 11)) (C := RX1) (T := TX1) (N := 11) hx hb hts inX1 hown hK.1 hP 0 rfl rfl 1 (by decide) (hts _ w_fieldLink_X1_15) (fun _ h9 => h9) rfl dX1_latestWins_1 ?_
  refine lv_aload_n hx hb dX1_latestWins_4 rfl (lv_at hl 0 rfl) ?_
  refine va_get (D := (dC, dI)) (ci := 1) (v := .int (V_latestCount v)) (C := RX1) (T := TX1) (N := 11) hx hb hts inX1 hown hK.1 hP 0 rfl rfl 6 (by decide) (hts _ w_fieldLink_X1_31) (fun _ h9 => h9) rfl dX1_latestWins_5 ?_
  refine lv_iconst (v := 1) hx hb dX1_latestWins_8 (by decide) ?_
  refine lv_isub hx hb dX1_latestWins_9 ?_
  obtain ⟨o1, h2, hF⟩ := obd hF
  refine wcRNi (As := [.ref (a 11), .int ((V_latestCount v) - (1 : Int32))]) (rest := []) ⟨hx, hb, hml, hown, hts⟩ (met_X5_at l dC dI cyI cyO (a 11) 12 N (V_latest v) ((V_latestCount v) - (1 : Int32)) o1 h2) ⟨va_cnB 2 hts (gCode w_code_X5_at) rfl rfl rfl (hK.2 _ n_X1_54) (hts _ w_initialized_X5) (by decide +kernel) ⟨Nat.le_of_ble_eq_true rfl, Nat.le_of_ble_eq_true rfl⟩, hts _ w_static_X5_at, trivial⟩ hP hK [2] rfl rfl hl.1 (Nat.le_of_ble_eq_true rfl) dX1_latestWins_10 ⟨Nat.le_of_ble_eq_true rfl, Nat.le_of_ble_eq_true rfl⟩ hS (fun r H locs hw hP hS => ?_)
  have hw := hw.symm
  subst hw
  obtain ⟨o3, h4, hF⟩ := obd hF
  refine wcRSi (As := [.int o1]) (rest := []) ⟨hx, hb, hml, hown, hts⟩ (met_J6_signum_0f7a4 l dC dI cyI cyO  N  o1 o3 h4) (va_cwS 1 hts (gS w_methodLink_X1_62 w_static_J6_signum_0f7a4 w_initialized_J6 w_code_J6_signum_0f7a4) rfl rfl rfl (by decide +kernel) ⟨Nat.le_of_ble_eq_true rfl, Nat.le_of_ble_eq_true rfl⟩) hP hK [] rfl rfl hl.1 (Nat.le_of_ble_eq_true rfl) dX1_latestWins_13 ⟨Nat.le_of_ble_eq_true rfl, Nat.le_of_ble_eq_true rfl⟩ hS (fun r H locs hw hP hS => ?_)
  have hw := hw.symm
  subst hw
  refine lv_istore_n (lv' := [(1, .int o3), (0, .ref (a 9))]) hx hb dX1_latestWins_16 rfl hl (by decide) rfl (fun ls hl => ?_)
  refine lv_iconst (v := 0) hx hb dX1_latestWins_17 (by decide) ?_
  refine lv_istore_n (lv' := [(2, .int (0 : Int32)), (1, .int o3), (0, .ref (a 9))]) hx hb dX1_latestWins_18 rfl hl (by decide) rfl (fun ls hl => ?_)
  obtain ⟨st19, hst19, hF⟩ := lpN_use hF
  have hL19 : ∀ (n : Nat) (s19 : Int32) (H : Heap) (locs : List Loc) (ls : Array Slot), va_P (dC, dI) vwCl (cV cyI a v) H → va_S wN0 s.heap H locs → lv_has ls 3 [(0, .ref (a 9)), (1, .int o3), (2, .int s19)] → lpN st19 n s19 = some out → W p l e (headSpec (Cond.code yX1_latestWins cX1_latestWins 3 (some .int) :: wT) ({ frames := 1, cells := 0, slots := 0, locals := 21 } : Room)).room s m ([.ref (a 9)] : List Value).toArray below meth c H locs 0 0 (MQ below (va_Qi (fun (r : Int32) (_ : Unit) => r = out) (fun _ _ => True) wN0) ([.ref (a 9)] : List Value).toArray s 0 0 wN0) (F0 m 19 ls []) := by
    intro n
    induction n with
    | zero => intro s19 H locs ls hP hS hl hF; exact lpN_0 hF
    | succ n ih19 =>
      intro s19 H locs ls hP hS hl hF
      have hF := (congrFun (congrFun hst19 s19) (lpN st19 n)).symm.trans (lpN_s hF)
      refine lv_iload_n hx hb dX1_latestWins_19 rfl (lv_at hl 1 rfl) ?_
      obtain ⟨j59, hj59, hF⟩ := jn_use hF
      have hJ59 : ∀ (s59 : Unit) (H : Heap) (locs : List Loc) (ls : Array Slot), va_P (dC, dI) vwCl (cV cyI a v) H → va_S wN0 s.heap H locs → lv_has ls 3 [(2, .int s19)] → j59 s59 = some out → W p l e (headSpec (Cond.code yX1_latestWins cX1_latestWins 3 (some .int) :: wT) ({ frames := 1, cells := 0, slots := 0, locals := 21 } : Room)).room s m ([.ref (a 9)] : List Value).toArray below meth c H locs 0 0 (MQ below (va_Qi (fun (r : Int32) (_ : Unit) => r = out) (fun _ _ => True) wN0) ([.ref (a 9)] : List Value).toArray s 0 0 wN0) (F0 m 59 ls []) := by
        intro s59 H locs ls hP hS hl hF
        have hF := (congrFun hj59 s59).symm.trans hF
        refine lv_iload_n hx hb dX1_latestWins_59 rfl (lv_at hl 0 rfl) ?_
        exact W.iret (v := s19) hx hb hr (fun t ht hW => ⟨⟨_, (), rfl, Option.some.inj hF, trivial⟩, hS.F ht⟩) hS.2.2 dX1_latestWins_60
      refine lv_if_eq (tgt := 59) hx hb dX1_latestWins_20 (by decide) (fun c5 => ?_) (fun c5 => ?_)
      · have hF := itp c5 hF
        exact hJ59 () _ _ _ hP hS (lv_sub hl [2] rfl) hF
      · have hF := itn c5 hF
        refine lv_iload_n hx hb dX1_latestWins_23 rfl (lv_at hl 2 rfl) ?_
        refine lv_aload_n hx hb dX1_latestWins_24 rfl (lv_at hl 0 rfl) ?_
        refine va_get (D := (dC, dI)) (ci := 1) (v := .int (V_latestCount v)) (C := RX1) (T := TX1) (N := 11) hx hb hts inX1 hown hK.1 hP 0 rfl rfl 6 (by decide) (hts _ w_fieldLink_X1_31) (fun _ h9 => h9) rfl dX1_latestWins_25 ?_
        refine lv_icmp_ge (tgt := 59) hx hb dX1_latestWins_28 (by decide) (fun c6 => ?_) (fun c6 => ?_)
        · have hF := itp c6 hF
          exact hJ59 () _ _ _ hP hS (lv_sub hl [2] rfl) hF
        · have hF := itn c6 hF
          refine lv_aload_n hx hb dX1_latestWins_31 rfl (lv_at hl 0 rfl) ?_
          refine va_get (D := (dC, dI)) (ci := 1) (v := .ref (a 11)) (C := RX1) (T := TX1) (N := 11) hx hb hts inX1 hown hK.1 hP 0 rfl rfl 1 (by decide) (hts _ w_fieldLink_X1_15) (fun _ h9 => h9) rfl dX1_latestWins_32 ?_
          refine lv_aload_n hx hb dX1_latestWins_35 rfl (lv_at hl 0 rfl) ?_
          refine va_get (D := (dC, dI)) (ci := 1) (v := .int (V_latestCount v)) (C := RX1) (T := TX1) (N := 11) hx hb hts inX1 hown hK.1 hP 0 rfl rfl 6 (by decide) (hts _ w_fieldLink_X1_31) (fun _ h9 => h9) rfl dX1_latestWins_36 ?_
          refine lv_iconst (v := 1) hx hb dX1_latestWins_39 (by decide) ?_
          refine lv_isub hx hb dX1_latestWins_40 ?_
          refine lv_iload_n hx hb dX1_latestWins_41 rfl (lv_at hl 2 rfl) ?_
          refine lv_isub hx hb dX1_latestWins_42 ?_
          obtain ⟨o7, h8, hF⟩ := obd hF
          refine wcRNi (As := [.ref (a 11), .int (((V_latestCount v) - (1 : Int32)) - s19)]) (rest := []) ⟨hx, hb, hml, hown, hts⟩ (met_X5_at l dC dI cyI cyO (a 11) 12 N (V_latest v) (((V_latestCount v) - (1 : Int32)) - s19) o7 h8) ⟨va_cnB 2 hts (gCode w_code_X5_at) rfl rfl rfl (hK.2 _ n_X1_54) (hts _ w_initialized_X5) (by decide +kernel) ⟨Nat.le_of_ble_eq_true rfl, Nat.le_of_ble_eq_true rfl⟩, hts _ w_static_X5_at, trivial⟩ hP hK [2] rfl rfl hl.1 (Nat.le_of_ble_eq_true rfl) dX1_latestWins_43 ⟨Nat.le_of_ble_eq_true rfl, Nat.le_of_ble_eq_true rfl⟩ hS (fun r H locs hw hP hS => ?_)
          have hw := hw.symm
          subst hw
          obtain ⟨o9, h10, hF⟩ := obd hF
          refine wcRSi (As := [.int o7]) (rest := []) ⟨hx, hb, hml, hown, hts⟩ (met_J6_signum_0f7a4 l dC dI cyI cyO  N  o7 o9 h10) (va_cwS 1 hts (gS w_methodLink_X1_62 w_static_J6_signum_0f7a4 w_initialized_J6 w_code_J6_signum_0f7a4) rfl rfl rfl (by decide +kernel) ⟨Nat.le_of_ble_eq_true rfl, Nat.le_of_ble_eq_true rfl⟩) hP hK [] rfl rfl hl.1 (Nat.le_of_ble_eq_true rfl) dX1_latestWins_46 ⟨Nat.le_of_ble_eq_true rfl, Nat.le_of_ble_eq_true rfl⟩ hS (fun r H locs hw hP hS => ?_)
          have hw := hw.symm
          subst hw
          refine lv_iload_n hx hb dX1_latestWins_49 rfl (lv_at hl 1 rfl) ?_
          refine lv_icmp_ne (tgt := 59) hx hb dX1_latestWins_50 (by decide) (fun c11 => ?_) (fun c11 => ?_)
          · have hF := itn c11 hF
            exact hJ59 () _ _ _ hP hS (lv_sub hl [2] rfl) hF
          · have hF := itp c11 hF
            refine lv_iinc (v := (s19 + (1 : Int32))) (lv' := [(2, .int (s19 + (1 : Int32))), (0, .ref (a 9)), (1, .int o3)]) hx hb dX1_latestWins_53 hl (k := 2) rfl rfl (by decide) rfl (fun ls hl => ?_)
            refine lv_goto (tgt := 19) hx hb dX1_latestWins_56 (by decide) ?_
            exact ih19 (s19 + (1 : Int32)) _ _ _ hP hS (lv_sub hl [1, 2, 0] rfl) hF
  exact hL19 N (0 : Int32) _ _ _ hP hS (lv_sub hl [2, 1, 0] rfl) hF
theorem dX1_mean_0 : decode cX1_mean 0 = .ok (.aload_n 0, 1) := by decide +kernel
theorem dX1_mean_1 : decode cX1_mean 1 = .ok (.getfield 9, 3) := by decide +kernel
theorem dX1_mean_4 : decode cX1_mean 4 = .ok (.iconst 0, 1) := by decide +kernel
theorem dX1_mean_5 : decode cX1_mean 5 = .ok (.invokestatic 54, 3) := by decide +kernel
theorem dX1_mean_8 : decode cX1_mean 8 = .ok (.aload_n 0, 1) := by decide +kernel
theorem dX1_mean_9 : decode cX1_mean 9 = .ok (.getfield 9, 3) := by decide +kernel
theorem dX1_mean_12 : decode cX1_mean 12 = .ok (.iconst 1, 1) := by decide +kernel
theorem dX1_mean_13 : decode cX1_mean 13 = .ok (.invokestatic 54, 3) := by decide +kernel
theorem dX1_mean_16 : decode cX1_mean 16 = .ok (.iadd, 1) := by decide +kernel
theorem dX1_mean_17 : decode cX1_mean 17 = .ok (.istore_n 1, 1) := by decide +kernel
theorem dX1_mean_18 : decode cX1_mean 18 = .ok (.aload_n 0, 1) := by decide +kernel
theorem dX1_mean_19 : decode cX1_mean 19 = .ok (.getfield 25, 3) := by decide +kernel
theorem dX1_mean_22 : decode cX1_mean 22 = .ok (.ifCond .gt 7, 3) := by decide +kernel
theorem dX1_mean_25 : decode cX1_mean 25 = .ok (.dconst 0, 1) := by decide +kernel
theorem dX1_mean_26 : decode cX1_mean 26 = .ok (.goto 11, 3) := by decide +kernel
theorem dX1_mean_29 : decode cX1_mean 29 = .ok (.iload_n 1, 1) := by decide +kernel
theorem dX1_mean_30 : decode cX1_mean 30 = .ok (.i2d, 1) := by decide +kernel
theorem dX1_mean_31 : decode cX1_mean 31 = .ok (.aload_n 0, 1) := by decide +kernel
theorem dX1_mean_32 : decode cX1_mean 32 = .ok (.getfield 25, 3) := by decide +kernel
theorem dX1_mean_35 : decode cX1_mean 35 = .ok (.i2d, 1) := by decide +kernel
theorem dX1_mean_36 : decode cX1_mean 36 = .ok (.ddiv, 1) := by decide +kernel
theorem dX1_mean_37 : decode cX1_mean 37 = .ok (.dreturn, 1) := by decide +kernel
def f_X1_mean (N : Nat) (v : VV) : Option (UInt64) :=
  (f_X5_at N 2 (V_points v) (0 : Int32)).bind (fun o1 => (f_X5_at N 2 (V_points v) (1 : Int32)).bind (fun o3 => jn (fun (s37 : UInt64) => some s37) (fun (j37 : (UInt64) → Option (UInt64)) => (if 0 < (V_endCount v) then gd (nn64 (FP.ddiv (FP.i2d (o1 + o3)) (FP.i2d (V_endCount v)))) (j37 (FP.ddiv (FP.i2d (o1 + o3)) (FP.i2d (V_endCount v)))) else j37 (0 : UInt64)))))
set_option maxHeartbeats 4000000 in
set_option maxRecDepth 100000 in
theorem met_X1_mean (l : Launch) (dC : Nat → ClassId) (dI : Nat → Nat → Nat) (cyI cyO : ClassId) (a : Nat → Nat) (N : Nat) (v : VV) (out : UInt64) (hF : f_X1_mean N v = some out) : Met l yX1_mean (Cond.code yX1_mean cX1_mean 2 (some .double) :: wT) ({ frames := 1, cells := 0, slots := 0, locals := 21 } : Room) (wRd dC dI cyI cyO [.ref (a 9)] (cV cyI a v)) (va_Qd (fun (r : UInt64) (_ : Unit) => r = out) (fun _ _ => True) wN0) 0 0 wN0 := by
  refine Met.ofW (cc := cX1_mean) (maxL := 2) (ret := (some .double)) (by decide) rfl ?_
  intro p e s m args below meth c s₁ B hml hv
  obtain ⟨rfl, hP, hK⟩ := hv
  have hx := B.exec
  have hb := B.bytes
  have hr := B.returns
  have hts0 := atoms_spec (ws := (Cond.code yX1_mean cX1_mean 2 (some .double) :: wT)) B.pre
  have hts := fun w h => hts0 w (List.mem_cons_of_mem _ h)
  clear hts0
  have hown : s.vm.findClass RX1 = some m.cls := findClass_of_methodNamed B.named
  have hlocks := B.notSynchronized
  have hS : va_S wN0 s.heap s.heap [] := va_S.rf
  have hl := lv_entry [.ref (a 9)] (n := 2) (Nat.le_of_ble_eq_true rfl)
  rw [lg_entry_eq]
  generalize (lg_sl [.ref (a 9)] ++ List.replicate (2 - (lg_sl [.ref (a 9)]).length) Slot.unset).toArray = ls at hl ⊢
  have hl : lv_has ls 2 [(0, .ref (a 9))] := hl
  unfold f_X1_mean at hF
  refine lv_aload_n hx hb dX1_mean_0 rfl (lv_at hl 0 rfl) ?_
  refine va_get (D := (dC, dI)) (ci := 1) (v := .ref (a 10)) (C := RX1) (T := TX1) (N := 11) hx hb hts inX1 hown hK.1 hP 0 rfl rfl 0 (by decide) (hts _ w_fieldLink_X1_9) (fun _ h9 => h9) rfl dX1_mean_1 ?_
  refine lv_iconst (v := 0) hx hb dX1_mean_4 (by decide) ?_
  obtain ⟨o1, h2, hF⟩ := obd hF
  refine wcRNi (As := [.ref (a 10), .int (0 : Int32)]) (rest := []) ⟨hx, hb, hml, hown, hts⟩ (met_X5_at l dC dI cyI cyO (a 10) 2 N (V_points v) (0 : Int32) o1 h2) ⟨va_cnB 2 hts (gCode w_code_X5_at) rfl rfl rfl (hK.2 _ n_X1_54) (hts _ w_initialized_X5) (by decide +kernel) ⟨Nat.le_of_ble_eq_true rfl, Nat.le_of_ble_eq_true rfl⟩, hts _ w_static_X5_at, trivial⟩ hP hK [1] rfl rfl hl.1 (Nat.le_of_ble_eq_true rfl) dX1_mean_5 ⟨Nat.le_of_ble_eq_true rfl, Nat.le_of_ble_eq_true rfl⟩ hS (fun r H locs hw hP hS => ?_)
  have hw := hw.symm
  subst hw
  refine lv_aload_n hx hb dX1_mean_8 rfl (lv_at hl 0 rfl) ?_
  refine va_get (D := (dC, dI)) (ci := 1) (v := .ref (a 10)) (C := RX1) (T := TX1) (N := 11) hx hb hts inX1 hown hK.1 hP 0 rfl rfl 0 (by decide) (hts _ w_fieldLink_X1_9) (fun _ h9 => h9) rfl dX1_mean_9 ?_
  refine lv_iconst (v := 1) hx hb dX1_mean_12 (by decide) ?_
  obtain ⟨o3, h4, hF⟩ := obd hF
  refine wcRNi (As := [.ref (a 10), .int (1 : Int32)]) (rest := [.int o1]) ⟨hx, hb, hml, hown, hts⟩ (met_X5_at l dC dI cyI cyO (a 10) 2 N (V_points v) (1 : Int32) o3 h4) ⟨va_cnB 2 hts (gCode w_code_X5_at) rfl rfl rfl (hK.2 _ n_X1_54) (hts _ w_initialized_X5) (by decide +kernel) ⟨Nat.le_of_ble_eq_true rfl, Nat.le_of_ble_eq_true rfl⟩, hts _ w_static_X5_at, trivial⟩ hP hK [1] rfl rfl hl.1 (Nat.le_of_ble_eq_true rfl) dX1_mean_13 ⟨Nat.le_of_ble_eq_true rfl, Nat.le_of_ble_eq_true rfl⟩ hS (fun r H locs hw hP hS => ?_)
  have hw := hw.symm
  subst hw
  refine lv_iadd hx hb dX1_mean_16 ?_
  refine lv_istore_n (lv' := [(1, .int (o1 + o3)), (0, .ref (a 9))]) hx hb dX1_mean_17 rfl hl (by decide) rfl (fun ls hl => ?_)
  refine lv_aload_n hx hb dX1_mean_18 rfl (lv_at hl 1 rfl) ?_
  refine va_get (D := (dC, dI)) (ci := 1) (v := .int (V_endCount v)) (C := RX1) (T := TX1) (N := 11) hx hb hts inX1 hown hK.1 hP 0 rfl rfl 4 (by decide) (hts _ w_fieldLink_X1_25) (fun _ h9 => h9) rfl dX1_mean_19 ?_
  obtain ⟨j37, hj37, hF⟩ := jn_use hF
  have hJ37 : ∀ (s37 : UInt64) (H : Heap) (locs : List Loc) (ls : Array Slot), va_P (dC, dI) vwCl (cV cyI a v) H → va_S wN0 s.heap H locs → lv_has ls 2 [] → j37 s37 = some out → W p l e (headSpec (Cond.code yX1_mean cX1_mean 2 (some .double) :: wT) ({ frames := 1, cells := 0, slots := 0, locals := 21 } : Room)).room s m ([.ref (a 9)] : List Value).toArray below meth c H locs 0 0 (MQ below (va_Qd (fun (r : UInt64) (_ : Unit) => r = out) (fun _ _ => True) wN0) ([.ref (a 9)] : List Value).toArray s 0 0 wN0) (F0 m 37 ls [.double s37]) := by
    intro s37 H locs ls hP hS hl hF
    have hF := (congrFun hj37 s37).symm.trans hF
    exact W.dret (v := s37) hx hb hr (fun t ht hW => ⟨⟨_, (), rfl, Option.some.inj hF, trivial⟩, hS.F ht⟩) hS.2.2 dX1_mean_37
  refine lv_if_gt (tgt := 29) hx hb dX1_mean_22 (by decide) (fun c5 => ?_) (fun c5 => ?_)
  · have hF := itp c5 hF
    refine lv_iload_n hx hb dX1_mean_29 rfl (lv_at hl 0 rfl) ?_
    refine lv_i2d hx hb dX1_mean_30 ?_
    refine lv_aload_n hx hb dX1_mean_31 rfl (lv_at hl 1 rfl) ?_
    refine va_get (D := (dC, dI)) (ci := 1) (v := .int (V_endCount v)) (C := RX1) (T := TX1) (N := 11) hx hb hts inX1 hown hK.1 hP 0 rfl rfl 4 (by decide) (hts _ w_fieldLink_X1_25) (fun _ h9 => h9) rfl dX1_mean_32 ?_
    refine lv_i2d hx hb dX1_mean_35 ?_
    obtain ⟨hg6, hF⟩ := gd_use hF
    refine lv_ddiv hx hb dX1_mean_36 hg6 ?_
    exact hJ37 (FP.ddiv (FP.i2d (o1 + o3)) (FP.i2d (V_endCount v))) _ _ _ hP hS (lv_sub hl [] rfl) hF
  · have hF := itn c5 hF
    refine lv_dconst0 hx hb dX1_mean_25 ?_
    refine lv_goto (tgt := 37) hx hb dX1_mean_26 (by decide) ?_
    exact hJ37 (0 : UInt64) _ _ _ hP hS (lv_sub hl [] rfl) hF
theorem dX1_copyFrom_0 : decode cX1_copyFrom 0 = .ok (.aload_n 1, 1) := by decide +kernel
theorem dX1_copyFrom_1 : decode cX1_copyFrom 1 = .ok (.getfield 9, 3) := by decide +kernel
theorem dX1_copyFrom_4 : decode cX1_copyFrom 4 = .ok (.aload_n 0, 1) := by decide +kernel
theorem dX1_copyFrom_5 : decode cX1_copyFrom 5 = .ok (.getfield 9, 3) := by decide +kernel
theorem dX1_copyFrom_8 : decode cX1_copyFrom 8 = .ok (.invokestatic 46, 3) := by decide +kernel
theorem dX1_copyFrom_11 : decode cX1_copyFrom 11 = .ok (.aload_n 1, 1) := by decide +kernel
theorem dX1_copyFrom_12 : decode cX1_copyFrom 12 = .ok (.getfield 15, 3) := by decide +kernel
theorem dX1_copyFrom_15 : decode cX1_copyFrom 15 = .ok (.aload_n 0, 1) := by decide +kernel
theorem dX1_copyFrom_16 : decode cX1_copyFrom 16 = .ok (.getfield 15, 3) := by decide +kernel
theorem dX1_copyFrom_19 : decode cX1_copyFrom 19 = .ok (.invokestatic 46, 3) := by decide +kernel
theorem dX1_copyFrom_22 : decode cX1_copyFrom 22 = .ok (.aload_n 1, 1) := by decide +kernel
theorem dX1_copyFrom_23 : decode cX1_copyFrom 23 = .ok (.getfield 18, 3) := by decide +kernel
theorem dX1_copyFrom_26 : decode cX1_copyFrom 26 = .ok (.aload_n 0, 1) := by decide +kernel
theorem dX1_copyFrom_27 : decode cX1_copyFrom 27 = .ok (.getfield 18, 3) := by decide +kernel
theorem dX1_copyFrom_30 : decode cX1_copyFrom 30 = .ok (.invokestatic 46, 3) := by decide +kernel
theorem dX1_copyFrom_33 : decode cX1_copyFrom 33 = .ok (.aload_n 0, 1) := by decide +kernel
theorem dX1_copyFrom_34 : decode cX1_copyFrom 34 = .ok (.aload_n 1, 1) := by decide +kernel
theorem dX1_copyFrom_35 : decode cX1_copyFrom 35 = .ok (.getfield 21, 3) := by decide +kernel
theorem dX1_copyFrom_38 : decode cX1_copyFrom 38 = .ok (.putfield 21, 3) := by decide +kernel
theorem dX1_copyFrom_41 : decode cX1_copyFrom 41 = .ok (.aload_n 0, 1) := by decide +kernel
theorem dX1_copyFrom_42 : decode cX1_copyFrom 42 = .ok (.aload_n 1, 1) := by decide +kernel
theorem dX1_copyFrom_43 : decode cX1_copyFrom 43 = .ok (.getfield 25, 3) := by decide +kernel
theorem dX1_copyFrom_46 : decode cX1_copyFrom 46 = .ok (.putfield 25, 3) := by decide +kernel
theorem dX1_copyFrom_49 : decode cX1_copyFrom 49 = .ok (.aload_n 0, 1) := by decide +kernel
theorem dX1_copyFrom_50 : decode cX1_copyFrom 50 = .ok (.aload_n 1, 1) := by decide +kernel
theorem dX1_copyFrom_51 : decode cX1_copyFrom 51 = .ok (.getfield 28, 3) := by decide +kernel
theorem dX1_copyFrom_54 : decode cX1_copyFrom 54 = .ok (.putfield 28, 3) := by decide +kernel
theorem dX1_copyFrom_57 : decode cX1_copyFrom 57 = .ok (.aload_n 0, 1) := by decide +kernel
theorem dX1_copyFrom_58 : decode cX1_copyFrom 58 = .ok (.aload_n 1, 1) := by decide +kernel
theorem dX1_copyFrom_59 : decode cX1_copyFrom 59 = .ok (.getfield 31, 3) := by decide +kernel
theorem dX1_copyFrom_62 : decode cX1_copyFrom 62 = .ok (.putfield 31, 3) := by decide +kernel
theorem dX1_copyFrom_65 : decode cX1_copyFrom 65 = .ok (.aload_n 0, 1) := by decide +kernel
theorem dX1_copyFrom_66 : decode cX1_copyFrom 66 = .ok (.aload_n 1, 1) := by decide +kernel
theorem dX1_copyFrom_67 : decode cX1_copyFrom 67 = .ok (.getfield 34, 3) := by decide +kernel
theorem dX1_copyFrom_70 : decode cX1_copyFrom 70 = .ok (.putfield 34, 3) := by decide +kernel
theorem dX1_copyFrom_73 : decode cX1_copyFrom 73 = .ok (.aload_n 0, 1) := by decide +kernel
theorem dX1_copyFrom_74 : decode cX1_copyFrom 74 = .ok (.aload_n 1, 1) := by decide +kernel
theorem dX1_copyFrom_75 : decode cX1_copyFrom 75 = .ok (.getfield 37, 3) := by decide +kernel
theorem dX1_copyFrom_78 : decode cX1_copyFrom 78 = .ok (.putfield 37, 3) := by decide +kernel
theorem dX1_copyFrom_81 : decode cX1_copyFrom 81 = .ok (.aload_n 0, 1) := by decide +kernel
theorem dX1_copyFrom_82 : decode cX1_copyFrom 82 = .ok (.aload_n 1, 1) := by decide +kernel
theorem dX1_copyFrom_83 : decode cX1_copyFrom 83 = .ok (.getfield 40, 3) := by decide +kernel
theorem dX1_copyFrom_86 : decode cX1_copyFrom 86 = .ok (.putfield 40, 3) := by decide +kernel
theorem dX1_copyFrom_89 : decode cX1_copyFrom 89 = .ok (.aload_n 0, 1) := by decide +kernel
theorem dX1_copyFrom_90 : decode cX1_copyFrom 90 = .ok (.aload_n 1, 1) := by decide +kernel
theorem dX1_copyFrom_91 : decode cX1_copyFrom 91 = .ok (.getfield 43, 3) := by decide +kernel
theorem dX1_copyFrom_94 : decode cX1_copyFrom 94 = .ok (.putfield 43, 3) := by decide +kernel
theorem dX1_copyFrom_97 : decode cX1_copyFrom 97 = .ok (.return_, 1) := by decide +kernel
def f_X1_copyFrom (N : Nat) (v : VV) (w : VV) : Option (VV × VV) :=
  (f_X5_copyAll N 2 2 (V_points w) (V_points v)).bind (fun o1 => (f_X5_copyAll N 12 12 (V_latest w) (V_latest v)).bind (fun o3 => (f_X5_copyAll N 17 17 (V_endsByPoints w) (V_endsByPoints v)).bind (fun o5 => some ((V_set_firstSide (V_set_toucherCount (V_set_bowlCount (V_set_backCount (V_set_latestCount (V_set_burntCount (V_set_endCount (V_set_pointsNeeded (V_set_endsByPoints (V_set_latest (V_set_points v o1.2) o3.2) o5.2) (V_pointsNeeded w)) (V_endCount w)) (V_burntCount w)) (V_latestCount w)) (V_backCount w)) (V_bowlCount w)) (V_toucherCount w)) (V_firstSide w)), (V_set_endsByPoints (V_set_latest (V_set_points w o1.1) o3.1) o5.1)))))
set_option maxHeartbeats 4000000 in
set_option maxRecDepth 100000 in
theorem met_X1_copyFrom (l : Launch) (dC : Nat → ClassId) (dI : Nat → Nat → Nat) (cyI cyO : ClassId) (a : Nat → Nat) (b : Nat → Nat) (sz : Nat) (N : Nat) (v : VV) (w : VV) (out : VV × VV) (hF : f_X1_copyFrom N v w = some out) : Met l yX1_copyFrom (Cond.code yX1_copyFrom cX1_copyFrom 2 none :: wT) ({ frames := 1, cells := 0, slots := 0, locals := 22 } : Room) (wWr dC dI cyI cyO [.ref (a 9), .ref (b 9)] ((cV cyI a v) ++ (cV cyI b w)) sz) (va_Qv (fun (u : VV × VV) => u = out) (fun u t => va_P (dC, dI) vwCl ((cV cyI a u.1) ++ (cV cyI b u.2)) t.heap ∧ va_D (va_A ((cV cyI a v) ++ (cV cyI b w)) sz) ((cV cyI a u.1) ++ (cV cyI b u.2))) (va_A ((cV cyI a v) ++ (cV cyI b w)) sz)) 0 0 (va_A ((cV cyI a v) ++ (cV cyI b w)) sz) := by
  refine Met.ofW (cc := cX1_copyFrom) (maxL := 2) (ret := none) (by decide) rfl ?_
  intro p e s m args below meth c s₁ B hml hv
  obtain ⟨rfl, hsz, hP, hK, hD0⟩ := hv
  have hx := B.exec
  have hb := B.bytes
  have hr := B.returns
  have hts0 := atoms_spec (ws := (Cond.code yX1_copyFrom cX1_copyFrom 2 none :: wT)) B.pre
  have hts := fun w h => hts0 w (List.mem_cons_of_mem _ h)
  clear hts0
  have hown : s.vm.findClass RX1 = some m.cls := findClass_of_methodNamed B.named
  have hlocks := B.notSynchronized
  subst hsz
  have hD := hD0.self (sz := s.heap.size)
  generalize hAe : va_A ((cV cyI a v) ++ (cV cyI b w)) s.heap.size = A at hD ⊢
  have hA : ∀ q : Nat, s.heap.size ≤ q → A q := fun q h => by rw [← hAe]; exact Or.inr h
  clear hD0
  have hS : va_S A s.heap s.heap [] := va_S.rf
  have hl := lv_entry [.ref (a 9), .ref (b 9)] (n := 2) (Nat.le_of_ble_eq_true rfl)
  rw [lg_entry_eq]
  generalize (lg_sl [.ref (a 9), .ref (b 9)] ++ List.replicate (2 - (lg_sl [.ref (a 9), .ref (b 9)]).length) Slot.unset).toArray = ls at hl ⊢
  have hl : lv_has ls 2 [(0, .ref (a 9)), (1, .ref (b 9))] := hl
  unfold f_X1_copyFrom at hF
  refine lv_aload_n hx hb dX1_copyFrom_0 rfl (lv_at hl 1 rfl) ?_
  refine va_get (D := (dC, dI)) (ci := 1) (v := .ref (b 10)) (C := RX1) (T := TX1) (N := 11) hx hb hts inX1 hown hK.1 hP 4 rfl rfl 0 (by decide) (hts _ w_fieldLink_X1_9) (fun _ h9 => h9) rfl dX1_copyFrom_1 ?_
  refine lv_aload_n hx hb dX1_copyFrom_4 rfl (lv_at hl 0 rfl) ?_
  refine va_get (D := (dC, dI)) (ci := 1) (v := .ref (a 10)) (C := RX1) (T := TX1) (N := 11) hx hb hts inX1 hown hK.1 hP 0 rfl rfl 0 (by decide) (hts _ w_fieldLink_X1_9) (fun _ h9 => h9) rfl dX1_copyFrom_5 ?_
  obtain ⟨o1, h2, hF⟩ := obd hF
  refine wcWNv (As := [.ref (b 10), .ref (a 10)]) (rest := []) (wr := [0, 2, 3, 4, 6, 7].filterMap (fun i => (((cV cyI a v) ++ (cV cyI b w)))[i]?)) ⟨hx, hb, hml, hown, hts⟩ (met_X5_copyAll l dC dI cyI cyO (b 10) 2 (a 10) 2 _ N (V_points w) (V_points v)  o1 h2) ⟨va_cnB 2 hts (gCode w_code_X5_copyAll) rfl rfl rfl (hK.2 _ n_X1_46) (hts _ w_initialized_X5) (by decide +kernel) ⟨Nat.le_of_ble_eq_true rfl, Nat.le_of_ble_eq_true rfl⟩, hts _ w_static_X5_copyAll, trivial⟩ hP hD hK [5, 1] [0, 2, 3, 4, 6, 7] rfl rfl (by decide) (by decide) (by decide) rfl hl.1 (Nat.le_of_ble_eq_true rfl) dX1_copyFrom_8 ⟨Nat.le_of_ble_eq_true rfl, Nat.le_of_ble_eq_true rfl⟩ hS hA (fun u H locs hw hP hD hS => ?_)
  have hw := hw.symm
  subst hw
  have hP := hP.sub (ws' := ((cV cyI a (V_set_points v o1.2)) ++ (cV cyI b (V_set_points w o1.1)))) [0, 7, 1, 2, 3, 6, 4, 5] rfl
  have hD := hD.sub (ws' := ((cV cyI a (V_set_points v o1.2)) ++ (cV cyI b (V_set_points w o1.1)))) [0, 7, 1, 2, 3, 6, 4, 5] (by decide) rfl
  refine lv_aload_n hx hb dX1_copyFrom_11 rfl (lv_at hl 1 rfl) ?_
  refine va_get (D := (dC, dI)) (ci := 1) (v := .ref (b 11)) (C := RX1) (T := TX1) (N := 11) hx hb hts inX1 hown hK.1 hP 4 rfl rfl 1 (by decide) (hts _ w_fieldLink_X1_15) (fun _ h9 => h9) rfl dX1_copyFrom_12 ?_
  refine lv_aload_n hx hb dX1_copyFrom_15 rfl (lv_at hl 0 rfl) ?_
  refine va_get (D := (dC, dI)) (ci := 1) (v := .ref (a 11)) (C := RX1) (T := TX1) (N := 11) hx hb hts inX1 hown hK.1 hP 0 rfl rfl 1 (by decide) (hts _ w_fieldLink_X1_15) (fun _ h9 => h9) rfl dX1_copyFrom_16 ?_
  obtain ⟨o3, h4, hF⟩ := obd hF
  refine wcWNv (As := [.ref (b 11), .ref (a 11)]) (rest := []) (wr := [0, 1, 3, 4, 5, 7].filterMap (fun i => (((cV cyI a (V_set_points v o1.2)) ++ (cV cyI b (V_set_points w o1.1))))[i]?)) ⟨hx, hb, hml, hown, hts⟩ (met_X5_copyAll l dC dI cyI cyO (b 11) 12 (a 11) 12 _ N (V_latest w) (V_latest v)  o3 h4) ⟨va_cnB 2 hts (gCode w_code_X5_copyAll) rfl rfl rfl (hK.2 _ n_X1_46) (hts _ w_initialized_X5) (by decide +kernel) ⟨Nat.le_of_ble_eq_true rfl, Nat.le_of_ble_eq_true rfl⟩, hts _ w_static_X5_copyAll, trivial⟩ hP hD hK [6, 2] [0, 1, 3, 4, 5, 7] rfl rfl (by decide) (by decide) (by decide) rfl hl.1 (Nat.le_of_ble_eq_true rfl) dX1_copyFrom_19 ⟨Nat.le_of_ble_eq_true rfl, Nat.le_of_ble_eq_true rfl⟩ hS hA (fun u H locs hw hP hD hS => ?_)
  have hw := hw.symm
  subst hw
  have hP := hP.sub (ws' := ((cV cyI a (V_set_latest (V_set_points v o1.2) o3.2)) ++ (cV cyI b (V_set_latest (V_set_points w o1.1) o3.1)))) [0, 1, 7, 2, 3, 4, 6, 5] rfl
  have hD := hD.sub (ws' := ((cV cyI a (V_set_latest (V_set_points v o1.2) o3.2)) ++ (cV cyI b (V_set_latest (V_set_points w o1.1) o3.1)))) [0, 1, 7, 2, 3, 4, 6, 5] (by decide) rfl
  refine lv_aload_n hx hb dX1_copyFrom_22 rfl (lv_at hl 1 rfl) ?_
  refine va_get (D := (dC, dI)) (ci := 1) (v := .ref (b 12)) (C := RX1) (T := TX1) (N := 11) hx hb hts inX1 hown hK.1 hP 4 rfl rfl 2 (by decide) (hts _ w_fieldLink_X1_18) (fun _ h9 => h9) rfl dX1_copyFrom_23 ?_
  refine lv_aload_n hx hb dX1_copyFrom_26 rfl (lv_at hl 0 rfl) ?_
  refine va_get (D := (dC, dI)) (ci := 1) (v := .ref (a 12)) (C := RX1) (T := TX1) (N := 11) hx hb hts inX1 hown hK.1 hP 0 rfl rfl 2 (by decide) (hts _ w_fieldLink_X1_18) (fun _ h9 => h9) rfl dX1_copyFrom_27 ?_
  obtain ⟨o5, h6, hF⟩ := obd hF
  refine wcWNv (As := [.ref (b 12), .ref (a 12)]) (rest := []) (wr := [0, 1, 2, 4, 5, 6].filterMap (fun i => (((cV cyI a (V_set_latest (V_set_points v o1.2) o3.2)) ++ (cV cyI b (V_set_latest (V_set_points w o1.1) o3.1))))[i]?)) ⟨hx, hb, hml, hown, hts⟩ (met_X5_copyAll l dC dI cyI cyO (b 12) 17 (a 12) 17 _ N (V_endsByPoints w) (V_endsByPoints v)  o5 h6) ⟨va_cnB 2 hts (gCode w_code_X5_copyAll) rfl rfl rfl (hK.2 _ n_X1_46) (hts _ w_initialized_X5) (by decide +kernel) ⟨Nat.le_of_ble_eq_true rfl, Nat.le_of_ble_eq_true rfl⟩, hts _ w_static_X5_copyAll, trivial⟩ hP hD hK [7, 3] [0, 1, 2, 4, 5, 6] rfl rfl (by decide) (by decide) (by decide) rfl hl.1 (Nat.le_of_ble_eq_true rfl) dX1_copyFrom_30 ⟨Nat.le_of_ble_eq_true rfl, Nat.le_of_ble_eq_true rfl⟩ hS hA (fun u H locs hw hP hD hS => ?_)
  have hw := hw.symm
  subst hw
  have hP := hP.sub (ws' := ((cV cyI a (V_set_endsByPoints (V_set_latest (V_set_points v o1.2) o3.2) o5.2)) ++ (cV cyI b (V_set_endsByPoints (V_set_latest (V_set_points w o1.1) o3.1) o5.1)))) [0, 1, 2, 7, 3, 4, 5, 6] rfl
  have hD := hD.sub (ws' := ((cV cyI a (V_set_endsByPoints (V_set_latest (V_set_points v o1.2) o3.2) o5.2)) ++ (cV cyI b (V_set_endsByPoints (V_set_latest (V_set_points w o1.1) o3.1) o5.1)))) [0, 1, 2, 7, 3, 4, 5, 6] (by decide) rfl
  refine lv_aload_n hx hb dX1_copyFrom_33 rfl (lv_at hl 0 rfl) ?_
  refine lv_aload_n hx hb dX1_copyFrom_34 rfl (lv_at hl 1 rfl) ?_
  refine va_get (D := (dC, dI)) (ci := 1) (v := .int (V_pointsNeeded w)) (C := RX1) (T := TX1) (N := 11) hx hb hts inX1 hown hK.1 hP 4 rfl rfl 3 (by decide) (hts _ w_fieldLink_X1_21) (fun _ h9 => h9) rfl dX1_copyFrom_35 ?_
  refine va_put (D := (dC, dI)) (ci := 1) (v := .int (V_pointsNeeded w)) (ty := .int) (C := RX1) (T := TX1) (N := 11) hx hb hts inX1 tyX1 tyX1_ok nmX1 hown hK.1 hP hD hS 0 rfl rfl 3 (by decide) (hts _ w_fieldLink_X1_21) (fun _ h9 => h9) rfl (by decide +kernel) rfl rfl (Nat.le_of_ble_eq_true rfl) dX1_copyFrom_38 (fun H locs hP hD hS => ?_)
  have hP : va_P (dC, dI) vwCl ((cV cyI a (V_set_pointsNeeded (V_set_endsByPoints (V_set_latest (V_set_points v o1.2) o3.2) o5.2) (V_pointsNeeded w))) ++ (cV cyI b (V_set_endsByPoints (V_set_latest (V_set_points w o1.1) o3.1) o5.1))) H := hP
  have hD : va_D A ((cV cyI a (V_set_pointsNeeded (V_set_endsByPoints (V_set_latest (V_set_points v o1.2) o3.2) o5.2) (V_pointsNeeded w))) ++ (cV cyI b (V_set_endsByPoints (V_set_latest (V_set_points w o1.1) o3.1) o5.1))) := hD
  refine lv_aload_n hx hb dX1_copyFrom_41 rfl (lv_at hl 0 rfl) ?_
  refine lv_aload_n hx hb dX1_copyFrom_42 rfl (lv_at hl 1 rfl) ?_
  refine va_get (D := (dC, dI)) (ci := 1) (v := .int (V_endCount w)) (C := RX1) (T := TX1) (N := 11) hx hb hts inX1 hown hK.1 hP 4 rfl rfl 4 (by decide) (hts _ w_fieldLink_X1_25) (fun _ h9 => h9) rfl dX1_copyFrom_43 ?_
  refine va_put (D := (dC, dI)) (ci := 1) (v := .int (V_endCount w)) (ty := .int) (C := RX1) (T := TX1) (N := 11) hx hb hts inX1 tyX1 tyX1_ok nmX1 hown hK.1 hP hD hS 0 rfl rfl 4 (by decide) (hts _ w_fieldLink_X1_25) (fun _ h9 => h9) rfl (by decide +kernel) rfl rfl (Nat.le_of_ble_eq_true rfl) dX1_copyFrom_46 (fun H locs hP hD hS => ?_)
  have hP : va_P (dC, dI) vwCl ((cV cyI a (V_set_endCount (V_set_pointsNeeded (V_set_endsByPoints (V_set_latest (V_set_points v o1.2) o3.2) o5.2) (V_pointsNeeded w)) (V_endCount w))) ++ (cV cyI b (V_set_endsByPoints (V_set_latest (V_set_points w o1.1) o3.1) o5.1))) H := hP
  have hD : va_D A ((cV cyI a (V_set_endCount (V_set_pointsNeeded (V_set_endsByPoints (V_set_latest (V_set_points v o1.2) o3.2) o5.2) (V_pointsNeeded w)) (V_endCount w))) ++ (cV cyI b (V_set_endsByPoints (V_set_latest (V_set_points w o1.1) o3.1) o5.1))) := hD
  refine lv_aload_n hx hb dX1_copyFrom_49 rfl (lv_at hl 0 rfl) ?_
  refine lv_aload_n hx hb dX1_copyFrom_50 rfl (lv_at hl 1 rfl) ?_
  refine va_get (D := (dC, dI)) (ci := 1) (v := .int (V_burntCount w)) (C := RX1) (T := TX1) (N := 11) hx hb hts inX1 hown hK.1 hP 4 rfl rfl 5 (by decide) (hts _ w_fieldLink_X1_28) (fun _ h9 => h9) rfl dX1_copyFrom_51 ?_
  refine va_put (D := (dC, dI)) (ci := 1) (v := .int (V_burntCount w)) (ty := .int) (C := RX1) (T := TX1) (N := 11) hx hb hts inX1 tyX1 tyX1_ok nmX1 hown hK.1 hP hD hS 0 rfl rfl 5 (by decide) (hts _ w_fieldLink_X1_28) (fun _ h9 => h9) rfl (by decide +kernel) rfl rfl (Nat.le_of_ble_eq_true rfl) dX1_copyFrom_54 (fun H locs hP hD hS => ?_)
  have hP : va_P (dC, dI) vwCl ((cV cyI a (V_set_burntCount (V_set_endCount (V_set_pointsNeeded (V_set_endsByPoints (V_set_latest (V_set_points v o1.2) o3.2) o5.2) (V_pointsNeeded w)) (V_endCount w)) (V_burntCount w))) ++ (cV cyI b (V_set_endsByPoints (V_set_latest (V_set_points w o1.1) o3.1) o5.1))) H := hP
  have hD : va_D A ((cV cyI a (V_set_burntCount (V_set_endCount (V_set_pointsNeeded (V_set_endsByPoints (V_set_latest (V_set_points v o1.2) o3.2) o5.2) (V_pointsNeeded w)) (V_endCount w)) (V_burntCount w))) ++ (cV cyI b (V_set_endsByPoints (V_set_latest (V_set_points w o1.1) o3.1) o5.1))) := hD
  refine lv_aload_n hx hb dX1_copyFrom_57 rfl (lv_at hl 0 rfl) ?_
  refine lv_aload_n hx hb dX1_copyFrom_58 rfl (lv_at hl 1 rfl) ?_
  refine va_get (D := (dC, dI)) (ci := 1) (v := .int (V_latestCount w)) (C := RX1) (T := TX1) (N := 11) hx hb hts inX1 hown hK.1 hP 4 rfl rfl 6 (by decide) (hts _ w_fieldLink_X1_31) (fun _ h9 => h9) rfl dX1_copyFrom_59 ?_
  refine va_put (D := (dC, dI)) (ci := 1) (v := .int (V_latestCount w)) (ty := .int) (C := RX1) (T := TX1) (N := 11) hx hb hts inX1 tyX1 tyX1_ok nmX1 hown hK.1 hP hD hS 0 rfl rfl 6 (by decide) (hts _ w_fieldLink_X1_31) (fun _ h9 => h9) rfl (by decide +kernel) rfl rfl (Nat.le_of_ble_eq_true rfl) dX1_copyFrom_62 (fun H locs hP hD hS => ?_)
  have hP : va_P (dC, dI) vwCl ((cV cyI a (V_set_latestCount (V_set_burntCount (V_set_endCount (V_set_pointsNeeded (V_set_endsByPoints (V_set_latest (V_set_points v o1.2) o3.2) o5.2) (V_pointsNeeded w)) (V_endCount w)) (V_burntCount w)) (V_latestCount w))) ++ (cV cyI b (V_set_endsByPoints (V_set_latest (V_set_points w o1.1) o3.1) o5.1))) H := hP
  have hD : va_D A ((cV cyI a (V_set_latestCount (V_set_burntCount (V_set_endCount (V_set_pointsNeeded (V_set_endsByPoints (V_set_latest (V_set_points v o1.2) o3.2) o5.2) (V_pointsNeeded w)) (V_endCount w)) (V_burntCount w)) (V_latestCount w))) ++ (cV cyI b (V_set_endsByPoints (V_set_latest (V_set_points w o1.1) o3.1) o5.1))) := hD
  refine lv_aload_n hx hb dX1_copyFrom_65 rfl (lv_at hl 0 rfl) ?_
  refine lv_aload_n hx hb dX1_copyFrom_66 rfl (lv_at hl 1 rfl) ?_
  refine va_get (D := (dC, dI)) (ci := 1) (v := .int (V_backCount w)) (C := RX1) (T := TX1) (N := 11) hx hb hts inX1 hown hK.1 hP 4 rfl rfl 7 (by decide) (hts _ w_fieldLink_X1_34) (fun _ h9 => h9) rfl dX1_copyFrom_67 ?_
  refine va_put (D := (dC, dI)) (ci := 1) (v := .int (V_backCount w)) (ty := .int) (C := RX1) (T := TX1) (N := 11) hx hb hts inX1 tyX1 tyX1_ok nmX1 hown hK.1 hP hD hS 0 rfl rfl 7 (by decide) (hts _ w_fieldLink_X1_34) (fun _ h9 => h9) rfl (by decide +kernel) rfl rfl (Nat.le_of_ble_eq_true rfl) dX1_copyFrom_70 (fun H locs hP hD hS => ?_)
  have hP : va_P (dC, dI) vwCl ((cV cyI a (V_set_backCount (V_set_latestCount (V_set_burntCount (V_set_endCount (V_set_pointsNeeded (V_set_endsByPoints (V_set_latest (V_set_points v o1.2) o3.2) o5.2) (V_pointsNeeded w)) (V_endCount w)) (V_burntCount w)) (V_latestCount w)) (V_backCount w))) ++ (cV cyI b (V_set_endsByPoints (V_set_latest (V_set_points w o1.1) o3.1) o5.1))) H := hP
  have hD : va_D A ((cV cyI a (V_set_backCount (V_set_latestCount (V_set_burntCount (V_set_endCount (V_set_pointsNeeded (V_set_endsByPoints (V_set_latest (V_set_points v o1.2) o3.2) o5.2) (V_pointsNeeded w)) (V_endCount w)) (V_burntCount w)) (V_latestCount w)) (V_backCount w))) ++ (cV cyI b (V_set_endsByPoints (V_set_latest (V_set_points w o1.1) o3.1) o5.1))) := hD
  refine lv_aload_n hx hb dX1_copyFrom_73 rfl (lv_at hl 0 rfl) ?_
  refine lv_aload_n hx hb dX1_copyFrom_74 rfl (lv_at hl 1 rfl) ?_
  refine va_get (D := (dC, dI)) (ci := 1) (v := .int (V_bowlCount w)) (C := RX1) (T := TX1) (N := 11) hx hb hts inX1 hown hK.1 hP 4 rfl rfl 8 (by decide) (hts _ w_fieldLink_X1_37) (fun _ h9 => h9) rfl dX1_copyFrom_75 ?_
  refine va_put (D := (dC, dI)) (ci := 1) (v := .int (V_bowlCount w)) (ty := .int) (C := RX1) (T := TX1) (N := 11) hx hb hts inX1 tyX1 tyX1_ok nmX1 hown hK.1 hP hD hS 0 rfl rfl 8 (by decide) (hts _ w_fieldLink_X1_37) (fun _ h9 => h9) rfl (by decide +kernel) rfl rfl (Nat.le_of_ble_eq_true rfl) dX1_copyFrom_78 (fun H locs hP hD hS => ?_)
  have hP : va_P (dC, dI) vwCl ((cV cyI a (V_set_bowlCount (V_set_backCount (V_set_latestCount (V_set_burntCount (V_set_endCount (V_set_pointsNeeded (V_set_endsByPoints (V_set_latest (V_set_points v o1.2) o3.2) o5.2) (V_pointsNeeded w)) (V_endCount w)) (V_burntCount w)) (V_latestCount w)) (V_backCount w)) (V_bowlCount w))) ++ (cV cyI b (V_set_endsByPoints (V_set_latest (V_set_points w o1.1) o3.1) o5.1))) H := hP
  have hD : va_D A ((cV cyI a (V_set_bowlCount (V_set_backCount (V_set_latestCount (V_set_burntCount (V_set_endCount (V_set_pointsNeeded (V_set_endsByPoints (V_set_latest (V_set_points v o1.2) o3.2) o5.2) (V_pointsNeeded w)) (V_endCount w)) (V_burntCount w)) (V_latestCount w)) (V_backCount w)) (V_bowlCount w))) ++ (cV cyI b (V_set_endsByPoints (V_set_latest (V_set_points w o1.1) o3.1) o5.1))) := hD
  refine lv_aload_n hx hb dX1_copyFrom_81 rfl (lv_at hl 0 rfl) ?_
  refine lv_aload_n hx hb dX1_copyFrom_82 rfl (lv_at hl 1 rfl) ?_
  refine va_get (D := (dC, dI)) (ci := 1) (v := .int (V_toucherCount w)) (C := RX1) (T := TX1) (N := 11) hx hb hts inX1 hown hK.1 hP 4 rfl rfl 9 (by decide) (hts _ w_fieldLink_X1_40) (fun _ h9 => h9) rfl dX1_copyFrom_83 ?_
  refine va_put (D := (dC, dI)) (ci := 1) (v := .int (V_toucherCount w)) (ty := .int) (C := RX1) (T := TX1) (N := 11) hx hb hts inX1 tyX1 tyX1_ok nmX1 hown hK.1 hP hD hS 0 rfl rfl 9 (by decide) (hts _ w_fieldLink_X1_40) (fun _ h9 => h9) rfl (by decide +kernel) rfl rfl (Nat.le_of_ble_eq_true rfl) dX1_copyFrom_86 (fun H locs hP hD hS => ?_)
  have hP : va_P (dC, dI) vwCl ((cV cyI a (V_set_toucherCount (V_set_bowlCount (V_set_backCount (V_set_latestCount (V_set_burntCount (V_set_endCount (V_set_pointsNeeded (V_set_endsByPoints (V_set_latest (V_set_points v o1.2) o3.2) o5.2) (V_pointsNeeded w)) (V_endCount w)) (V_burntCount w)) (V_latestCount w)) (V_backCount w)) (V_bowlCount w)) (V_toucherCount w))) ++ (cV cyI b (V_set_endsByPoints (V_set_latest (V_set_points w o1.1) o3.1) o5.1))) H := hP
  have hD : va_D A ((cV cyI a (V_set_toucherCount (V_set_bowlCount (V_set_backCount (V_set_latestCount (V_set_burntCount (V_set_endCount (V_set_pointsNeeded (V_set_endsByPoints (V_set_latest (V_set_points v o1.2) o3.2) o5.2) (V_pointsNeeded w)) (V_endCount w)) (V_burntCount w)) (V_latestCount w)) (V_backCount w)) (V_bowlCount w)) (V_toucherCount w))) ++ (cV cyI b (V_set_endsByPoints (V_set_latest (V_set_points w o1.1) o3.1) o5.1))) := hD
  refine lv_aload_n hx hb dX1_copyFrom_89 rfl (lv_at hl 0 rfl) ?_
  refine lv_aload_n hx hb dX1_copyFrom_90 rfl (lv_at hl 1 rfl) ?_
  refine va_get (D := (dC, dI)) (ci := 1) (v := .int (V_firstSide w)) (C := RX1) (T := TX1) (N := 11) hx hb hts inX1 hown hK.1 hP 4 rfl rfl 10 (by decide) (hts _ w_fieldLink_X1_43) (fun _ h9 => h9) rfl dX1_copyFrom_91 ?_
  refine va_put (D := (dC, dI)) (ci := 1) (v := .int (V_firstSide w)) (ty := .int) (C := RX1) (T := TX1) (N := 11) hx hb hts inX1 tyX1 tyX1_ok nmX1 hown hK.1 hP hD hS 0 rfl rfl 10 (by decide) (hts _ w_fieldLink_X1_43) (fun _ h9 => h9) rfl (by decide +kernel) rfl rfl (Nat.le_of_ble_eq_true rfl) dX1_copyFrom_94 (fun H locs hP hD hS => ?_)
  have hP : va_P (dC, dI) vwCl ((cV cyI a (V_set_firstSide (V_set_toucherCount (V_set_bowlCount (V_set_backCount (V_set_latestCount (V_set_burntCount (V_set_endCount (V_set_pointsNeeded (V_set_endsByPoints (V_set_latest (V_set_points v o1.2) o3.2) o5.2) (V_pointsNeeded w)) (V_endCount w)) (V_burntCount w)) (V_latestCount w)) (V_backCount w)) (V_bowlCount w)) (V_toucherCount w)) (V_firstSide w))) ++ (cV cyI b (V_set_endsByPoints (V_set_latest (V_set_points w o1.1) o3.1) o5.1))) H := hP
  have hD : va_D A ((cV cyI a (V_set_firstSide (V_set_toucherCount (V_set_bowlCount (V_set_backCount (V_set_latestCount (V_set_burntCount (V_set_endCount (V_set_pointsNeeded (V_set_endsByPoints (V_set_latest (V_set_points v o1.2) o3.2) o5.2) (V_pointsNeeded w)) (V_endCount w)) (V_burntCount w)) (V_latestCount w)) (V_backCount w)) (V_bowlCount w)) (V_toucherCount w)) (V_firstSide w))) ++ (cV cyI b (V_set_endsByPoints (V_set_latest (V_set_points w o1.1) o3.1) o5.1))) := hD
  exact W.vret hx hb hr (fun t ht hW => ⟨⟨_, rfl, Option.some.inj hF, by rw [ht]; exact hP, hD⟩, hS.F ht⟩) hS.2.2 dX1_copyFrom_97
