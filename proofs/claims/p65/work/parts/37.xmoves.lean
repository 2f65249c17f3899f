/-! written by program from the bytecode: what each method computes, and its contract -/

theorem dX5_undo_0 : decode cX5_undo 0 = .ok (.aload_n 0, 1) := by decide +kernel
theorem dX5_undo_1 : decode cX5_undo 1 = .ok (.getfield 39, 3) := by decide +kernel
theorem dX5_undo_4 : decode cX5_undo 4 = .ok (.ifCond .gt 13, 3) := by decide +kernel
theorem dX5_undo_7 : decode cX5_undo 7 = .ok (.new 60, 3) := by decide +kernel
theorem dX5_undo_10 : decode cX5_undo 10 = .ok (.dup, 1) := by decide +kernel
theorem dX5_undo_11 : decode cX5_undo 11 = .ok (.ldc 204, 2) := by decide +kernel
theorem dX5_undo_13 : decode cX5_undo 13 = .ok (.invokespecial 64, 3) := by decide +kernel
theorem dX5_undo_16 : decode cX5_undo 16 = .ok (.athrow, 1) := by decide +kernel
theorem dX5_undo_17 : decode cX5_undo 17 = .ok (.aload_n 0, 1) := by decide +kernel
theorem dX5_undo_18 : decode cX5_undo 18 = .ok (.dup, 1) := by decide +kernel
theorem dX5_undo_19 : decode cX5_undo 19 = .ok (.getfield 39, 3) := by decide +kernel
theorem dX5_undo_22 : decode cX5_undo 22 = .ok (.iconst 1, 1) := by decide +kernel
theorem dX5_undo_23 : decode cX5_undo 23 = .ok (.isub, 1) := by decide +kernel
theorem dX5_undo_24 : decode cX5_undo 24 = .ok (.putfield 39, 3) := by decide +kernel
theorem dX5_undo_27 : decode cX5_undo 27 = .ok (.aload_n 0, 1) := by decide +kernel
theorem dX5_undo_28 : decode cX5_undo 28 = .ok (.getfield 32, 3) := by decide +kernel
theorem dX5_undo_31 : decode cX5_undo 31 = .ok (.aload_n 0, 1) := by decide +kernel
theorem dX5_undo_32 : decode cX5_undo 32 = .ok (.getfield 35, 3) := by decide +kernel
theorem dX5_undo_35 : decode cX5_undo 35 = .ok (.aload_n 0, 1) := by decide +kernel
theorem dX5_undo_36 : decode cX5_undo 36 = .ok (.getfield 39, 3) := by decide +kernel
theorem dX5_undo_39 : decode cX5_undo 39 = .ok (.iadd, 1) := by decide +kernel
theorem dX5_undo_40 : decode cX5_undo 40 = .ok (.bipush 6, 2) := by decide +kernel
theorem dX5_undo_42 : decode cX5_undo 42 = .ok (.irem, 1) := by decide +kernel
theorem dX5_undo_43 : decode cX5_undo 43 = .ok (.aload_n 0, 1) := by decide +kernel
theorem dX5_undo_44 : decode cX5_undo 44 = .ok (.getfield 12, 3) := by decide +kernel
theorem dX5_undo_47 : decode cX5_undo 47 = .ok (.invokevirtual 201, 3) := by decide +kernel
theorem dX5_undo_50 : decode cX5_undo 50 = .ok (.return_, 1) := by decide +kernel
def f_X5_undo (N : Nat) (xv : XV) (nv : SV) (v0 : SV) (v1 : SV) (v2 : SV) (v3 : SV) (v4 : SV) (v5 : SV) : Option ((Nat ⊕ Unit) × (XV × SV × SV × SV × SV × SV × SV × SV)) :=
  (if 0 < (X_savedCount xv) then (f_X2_read6 N nv v0 v1 v2 v3 v4 v5 (((X_oldestSaved xv) + ((X_savedCount xv) - (1 : Int32))) - ((X_oldestSaved xv) + ((X_savedCount xv) - (1 : Int32))) / (6 : Int32) * (6 : Int32))).bind (fun o2 => some (Sum.inr (), ((X_set_savedCount xv ((X_savedCount xv) - (1 : Int32))), o2.1, o2.2.1, o2.2.2.1, o2.2.2.2.1, o2.2.2.2.2.1, o2.2.2.2.2.2.1, o2.2.2.2.2.2.2))) else some (Sum.inl 1, (xv, nv, v0, v1, v2, v3, v4, v5)))
set_option maxHeartbeats 4000000 in
set_option maxRecDepth 100000 in
theorem met_X5_undo (l : Launch) (z0 : Nat) (hst : l.stackTraces = false) (dC : Nat → ClassId) (dI : Nat → Nat → Nat) (cyI cyO : ClassId) (x : Nat → Nat) (tr : Nat → Nat) (an : Nat → Nat) (b0 : Nat → Nat) (b1 : Nat → Nat) (b2 : Nat → Nat) (b3 : Nat → Nat) (b4 : Nat → Nat) (b5 : Nat → Nat) (fl fs : Nat → Option Nat) (sz : Nat) (N : Nat) (xv : XV) (nv : SV) (v0 : SV) (v1 : SV) (v2 : SV) (v3 : SV) (v4 : SV) (v5 : SV) (hs0 : fs 0 = some (b0 0)) (hs1 : fs 1 = some (b1 0)) (hs2 : fs 2 = some (b2 0)) (hs3 : fs 3 = some (b3 0)) (hs4 : fs 4 = some (b4 0)) (hs5 : fs 5 = some (b5 0)) (out : (Nat ⊕ Unit) × (XV × SV × SV × SV × SV × SV × SV × SV)) (hF : f_X5_undo N xv nv v0 v1 v2 v3 v4 v5 = some out) : vx_Met l yX5_undo (Cond.code yX5_undo cX5_undo 1 none :: wT) ({ frames := 6, cells := 1, slots := 6, locals := 87 } : Room) (wWrX z0 dC dI cyI cyO [.ref (x 0)] (([(cXo x an tr xv), (cH cyO (x 1) (x 2) 2 fl), (cXk cyI x xv), (cH cyO (x 4) (x 5) 6 fs), (cT cyI x (X_text xv)), (cSo an nv), (cG cyI an (S_green nv)), (cV cyI an (S_score nv)), (cS cyI b0 v0), (cS cyI b1 v1), (cS cyI b2 v2), (cS cyI b3 v3), (cS cyI b4 v4), (cS cyI b5 v5)] : List va_W).flatten) sz) (va_Qv (fun (u : XV × SV × SV × SV × SV × SV × SV × SV) => ((Sum.inr () : Nat ⊕ Unit), u) = out) (fun u t => va_P (dC, dI) vwCl (([(cXo x an tr u.1), (cH cyO (x 1) (x 2) 2 fl), (cXk cyI x u.1), (cH cyO (x 4) (x 5) 6 fs), (cT cyI x (X_text u.1)), (cSo an u.2.1), (cG cyI an (S_green u.2.1)), (cV cyI an (S_score u.2.1)), (cS cyI b0 u.2.2.1), (cS cyI b1 u.2.2.2.1), (cS cyI b2 u.2.2.2.2.1), (cS cyI b3 u.2.2.2.2.2.1), (cS cyI b4 u.2.2.2.2.2.2.1), (cS cyI b5 u.2.2.2.2.2.2.2)] : List va_W).flatten) t.heap ∧ va_D (va_A (([(cXo x an tr xv), (cH cyO (x 1) (x 2) 2 fl), (cXk cyI x xv), (cH cyO (x 4) (x 5) 6 fs), (cT cyI x (X_text xv)), (cSo an nv), (cG cyI an (S_green nv)), (cV cyI an (S_score nv)), (cS cyI b0 v0), (cS cyI b1 v1), (cS cyI b2 v2), (cS cyI b3 v3), (cS cyI b4 v4), (cS cyI b5 v5)] : List va_W).flatten) sz) (([(cXo x an tr u.1), (cH cyO (x 1) (x 2) 2 fl), (cXk cyI x u.1), (cH cyO (x 4) (x 5) 6 fs), (cT cyI x (X_text u.1)), (cSo an u.2.1), (cG cyI an (S_green u.2.1)), (cV cyI an (S_score u.2.1)), (cS cyI b0 u.2.2.1), (cS cyI b1 u.2.2.2.1), (cS cyI b2 u.2.2.2.2.1), (cS cyI b3 u.2.2.2.2.2.1), (cS cyI b4 u.2.2.2.2.2.2.1), (cS cyI b5 u.2.2.2.2.2.2.2)] : List va_W).flatten)) (va_A (([(cXo x an tr xv), (cH cyO (x 1) (x 2) 2 fl), (cXk cyI x xv), (cH cyO (x 4) (x 5) 6 fs), (cT cyI x (X_text xv)), (cSo an nv), (cG cyI an (S_green nv)), (cV cyI an (S_score nv)), (cS cyI b0 v0), (cS cyI b1 v1), (cS cyI b2 v2), (cS cyI b3 v3), (cS cyI b4 v4), (cS cyI b5 v5)] : List va_W).flatten) sz)) (xcW dC dI Unit (fun (u : XV × SV × SV × SV × SV × SV × SV × SV) => (([(cXo x an tr u.1), (cH cyO (x 1) (x 2) 2 fl), (cXk cyI x u.1), (cH cyO (x 4) (x 5) 6 fs), (cT cyI x (X_text u.1)), (cSo an u.2.1), (cG cyI an (S_green u.2.1)), (cV cyI an (S_score u.2.1)), (cS cyI b0 u.2.2.1), (cS cyI b1 u.2.2.2.1), (cS cyI b2 u.2.2.2.2.1), (cS cyI b3 u.2.2.2.2.2.1), (cS cyI b4 u.2.2.2.2.2.2.1), (cS cyI b5 u.2.2.2.2.2.2.2)] : List va_W).flatten)) (va_A (([(cXo x an tr xv), (cH cyO (x 1) (x 2) 2 fl), (cXk cyI x xv), (cH cyO (x 4) (x 5) 6 fs), (cT cyI x (X_text xv)), (cSo an nv), (cG cyI an (S_green nv)), (cV cyI an (S_score nv)), (cS cyI b0 v0), (cS cyI b1 v1), (cS cyI b2 v2), (cS cyI b3 v3), (cS cyI b4 v4), (cS cyI b5 v5)] : List va_W).flatten) sz) out) 1 6 (va_A (([(cXo x an tr xv), (cH cyO (x 1) (x 2) 2 fl), (cXk cyI x xv), (cH cyO (x 4) (x 5) 6 fs), (cT cyI x (X_text xv)), (cSo an nv), (cG cyI an (S_green nv)), (cV cyI an (S_score nv)), (cS cyI b0 v0), (cS cyI b1 v1), (cS cyI b2 v2), (cS cyI b3 v3), (cS cyI b4 v4), (cS cyI b5 v5)] : List va_W).flatten) sz) := by
  refine vx_ofW (cc := cX5_undo) (maxL := 1) (ret := none) (by decide) rfl ?_
  intro p e s m args below meth c s₁ B hml htx hv
  obtain ⟨rfl, hsz, hP, hK, hD0, hz0, hZ⟩ := hv
  have hx := B.exec
  have hb := B.bytes
  have hr := B.returns
  have hts0 := atoms_spec (ws := (Cond.code yX5_undo cX5_undo 1 none :: wT)) B.pre
  have hts := fun w h => hts0 w (List.mem_cons_of_mem _ h)
  clear hts0
  have hown : s.vm.findClass RX5 = some m.cls := findClass_of_methodNamed B.named
  have hlocks := B.notSynchronized
  subst hsz
  have hD := hD0.self (sz := s.heap.size)
  have hAz := wA_ge hD0 hz0
  generalize hAe : va_A (([(cXo x an tr xv), (cH cyO (x 1) (x 2) 2 fl), (cXk cyI x xv), (cH cyO (x 4) (x 5) 6 fs), (cT cyI x (X_text xv)), (cSo an nv), (cG cyI an (S_green nv)), (cV cyI an (S_score nv)), (cS cyI b0 v0), (cS cyI b1 v1), (cS cyI b2 v2), (cS cyI b3 v3), (cS cyI b4 v4), (cS cyI b5 v5)] : List va_W).flatten) s.heap.size = A at hD hAz ⊢
  have hA : ∀ q : Nat, s.heap.size ≤ q → A q := fun q h => by rw [← hAe]; exact Or.inr h
  clear hD0
  have hS : va_S A s.heap s.heap [] := va_S.rf
  have hl := lv_entry [.ref (x 0)] (n := 1) (Nat.le_of_ble_eq_true rfl)
  rw [lg_entry_eq]
  generalize (lg_sl [.ref (x 0)] ++ List.replicate (1 - (lg_sl [.ref (x 0)]).length) Slot.unset).toArray = ls at hl ⊢
  have hl : lv_has ls 1 [(0, .ref (x 0))] := hl
  unfold f_X5_undo at hF
  refine lv_aload_n hx hb dX5_undo_0 rfl (lv_at hl 0 rfl) ?_
  refine va_get (D := (dC, dI)) (ci := 5) (v := .int (X_savedCount xv)) (C := RX5) (T := TX5) (N := 8) hx hb hts inX5 hown hK.1 hP 0 rfl rfl 6 (by decide) (hts _ w_fieldLink_X5_39) (fun _ h9 => h9) rfl dX5_undo_1 ?_
  refine lv_if_gt (tgt := 17) hx hb dX5_undo_4 (by decide) (fun c1 => ?_) (fun c1 => ?_)
  · have hF := itp c1 hF
    refine lv_aload_n hx hb dX5_undo_17 rfl (lv_at hl 0 rfl) ?_
    refine lv_dup hx hb dX5_undo_18 rfl ?_
    refine va_get (D := (dC, dI)) (ci := 5) (v := .int (X_savedCount xv)) (C := RX5) (T := TX5) (N := 8) hx hb hts inX5 hown hK.1 hP 0 rfl rfl 6 (by decide) (hts _ w_fieldLink_X5_39) (fun _ h9 => h9) rfl dX5_undo_19 ?_
    refine lv_iconst (v := 1) hx hb dX5_undo_22 (by decide) ?_
    refine lv_isub hx hb dX5_undo_23 ?_
    refine va_put (D := (dC, dI)) (ci := 5) (v := .int ((X_savedCount xv) - (1 : Int32))) (ty := .int) (C := RX5) (T := TX5) (N := 8) hx hb hts inX5 tyX5 tyX5_ok nmX5 hown hK.1 hP hD hS 0 rfl rfl 6 (by decide) (hts _ w_fieldLink_X5_39) (fun _ h9 => h9) rfl (by decide +kernel) rfl rfl (Nat.le_of_ble_eq_true rfl) dX5_undo_24 (fun H locs hP hD hS => ?_)
    have hP : va_P (dC, dI) vwCl (([(cXo x an tr (X_set_savedCount xv ((X_savedCount xv) - (1 : Int32)))), (cH cyO (x 1) (x 2) 2 fl), (cXk cyI x (X_set_savedCount xv ((X_savedCount xv) - (1 : Int32)))), (cH cyO (x 4) (x 5) 6 fs), (cT cyI x (X_text (X_set_savedCount xv ((X_savedCount xv) - (1 : Int32))))), (cSo an nv), (cG cyI an (S_green nv)), (cV cyI an (S_score nv)), (cS cyI b0 v0), (cS cyI b1 v1), (cS cyI b2 v2), (cS cyI b3 v3), (cS cyI b4 v4), (cS cyI b5 v5)] : List va_W).flatten) H := hP
    have hD : va_D A (([(cXo x an tr (X_set_savedCount xv ((X_savedCount xv) - (1 : Int32)))), (cH cyO (x 1) (x 2) 2 fl), (cXk cyI x (X_set_savedCount xv ((X_savedCount xv) - (1 : Int32)))), (cH cyO (x 4) (x 5) 6 fs), (cT cyI x (X_text (X_set_savedCount xv ((X_savedCount xv) - (1 : Int32))))), (cSo an nv), (cG cyI an (S_green nv)), (cV cyI an (S_score nv)), (cS cyI b0 v0), (cS cyI b1 v1), (cS cyI b2 v2), (cS cyI b3 v3), (cS cyI b4 v4), (cS cyI b5 v5)] : List va_W).flatten) := hD
    refine lv_aload_n hx hb dX5_undo_27 rfl (lv_at hl 0 rfl) ?_
    refine va_get (D := (dC, dI)) (ci := 5) (v := .ref (x 4)) (C := RX5) (T := TX5) (N := 8) hx hb hts inX5 hown hK.1 hP 0 rfl rfl 4 (by decide) (hts _ w_fieldLink_X5_32) (fun _ h9 => h9) rfl dX5_undo_28 ?_
    refine lv_aload_n hx hb dX5_undo_31 rfl (lv_at hl 0 rfl) ?_
    refine va_get (D := (dC, dI)) (ci := 5) (v := .int (X_oldestSaved xv)) (C := RX5) (T := TX5) (N := 8) hx hb hts inX5 hown hK.1 hP 0 rfl rfl 5 (by decide) (hts _ w_fieldLink_X5_35) (fun _ h9 => h9) rfl dX5_undo_32 ?_
    refine lv_aload_n hx hb dX5_undo_35 rfl (lv_at hl 0 rfl) ?_
    refine va_get (D := (dC, dI)) (ci := 5) (v := .int ((X_savedCount xv) - (1 : Int32))) (C := RX5) (T := TX5) (N := 8) hx hb hts inX5 hown hK.1 hP 0 rfl rfl 6 (by decide) (hts _ w_fieldLink_X5_39) (fun _ h9 => h9) rfl dX5_undo_36 ?_
    refine lv_iadd hx hb dX5_undo_39 ?_
    refine lv_bipush (v := 6) hx hb dX5_undo_40 (by decide) ?_
    refine lv_irem hx hb dX5_undo_42 (by decide) ?_
    refine lv_aload_n hx hb dX5_undo_43 rfl (lv_at hl 0 rfl) ?_
    refine va_get (D := (dC, dI)) (ci := 5) (v := .ref (an 0)) (C := RX5) (T := TX5) (N := 8) hx hb hts inX5 hown hK.1 hP 0 rfl rfl 0 (by decide) (hts _ w_fieldLink_X5_12) (fun _ h9 => h9) rfl dX5_undo_44 ?_
    obtain ⟨o2, h3, hF⟩ := obd hF
    refine wcPVv (As := [.int (((X_oldestSaved xv) + ((X_savedCount xv) - (1 : Int32))) - ((X_oldestSaved xv) + ((X_savedCount xv) - (1 : Int32))) / (6 : Int32) * (6 : Int32)), .ref (an 0)]) (rest := []) (wr := ([(cXo x an tr (X_set_savedCount xv ((X_savedCount xv) - (1 : Int32)))), (cH cyO (x 1) (x 2) 2 fl), (cXk cyI x (X_set_savedCount xv ((X_savedCount xv) - (1 : Int32)))), (cT cyI x (X_text (X_set_savedCount xv ((X_savedCount xv) - (1 : Int32)))))] : List va_W).flatten) (b := (x 4)) ⟨hx, hb, hml, hown, hts⟩ (met_X2_read6 l dC dI cyI cyO (x 4) (x 5) fs an b0 b1 b2 b3 b4 b5 _ N nv v0 v1 v2 v3 v4 v5 (((X_oldestSaved xv) + ((X_savedCount xv) - (1 : Int32))) - ((X_oldestSaved xv) + ((X_savedCount xv) - (1 : Int32))) / (6 : Int32) * (6 : Int32)) hs0 hs1 hs2 hs3 hs4 hs5 o2 h3) (cwV 2 hts (gV w_methodLink_X5_201 w_instanceMethod_X2_read w_selects_X2_read w_initialized_X2 w_code_X2_read) rfl rfl rfl (by decide +kernel) ⟨Nat.le_of_ble_eq_true rfl, Nat.le_of_ble_eq_true rfl⟩) (va_recv hK.1 hP (ci := 2) (q0 := 4) rfl rfl) hP hD hK (seg_perm (n := 14) (R := [(cXo x an tr (X_set_savedCount xv ((X_savedCount xv) - (1 : Int32)))), (cH cyO (x 1) (x 2) 2 fl), (cXk cyI x (X_set_savedCount xv ((X_savedCount xv) - (1 : Int32)))), (cT cyI x (X_text (X_set_savedCount xv ((X_savedCount xv) - (1 : Int32)))))]) (C := [(cH cyO (x 4) (x 5) 6 fs), (cSo an nv), (cG cyI an (S_green nv)), (cV cyI an (S_score nv)), (cS cyI b0 v0), (cS cyI b1 v1), (cS cyI b2 v2), (cS cyI b3 v3), (cS cyI b4 v4), (cS cyI b5 v5)]) [0, 1, 2, 4] [3, 5, 6, 7, 8, 9, 10, 11, 12, 13] rfl rfl rfl (by decide) rfl) rfl hl.1 (Nat.le_of_ble_eq_true rfl) dX5_undo_47 ⟨Nat.le_of_ble_eq_true rfl, Nat.le_of_ble_eq_true rfl⟩ hS hA (fun u H locs hw hP hD hS => ?_)
    have hw := hw.symm
    subst hw
    have hq := seg_permS (segs := [(cXo x an tr (X_set_savedCount xv ((X_savedCount xv) - (1 : Int32)))), (cH cyO (x 1) (x 2) 2 fl), (cXk cyI x (X_set_savedCount xv ((X_savedCount xv) - (1 : Int32)))), (cH cyO (x 4) (x 5) 6 fs), (cT cyI x (X_text (X_set_savedCount xv ((X_savedCount xv) - (1 : Int32))))), (cSo an o2.1), (cG cyI an (S_green o2.1)), (cV cyI an (S_score o2.1)), (cS cyI b0 o2.2.1), (cS cyI b1 o2.2.2.1), (cS cyI b2 o2.2.2.2.1), (cS cyI b3 o2.2.2.2.2.1), (cS cyI b4 o2.2.2.2.2.2.1), (cS cyI b5 o2.2.2.2.2.2.2)]) (R := [(cXo x an tr (X_set_savedCount xv ((X_savedCount xv) - (1 : Int32)))), (cH cyO (x 1) (x 2) 2 fl), (cXk cyI x (X_set_savedCount xv ((X_savedCount xv) - (1 : Int32)))), (cT cyI x (X_text (X_set_savedCount xv ((X_savedCount xv) - (1 : Int32)))))]) (C := [(cH cyO (x 4) (x 5) 6 fs), (cSo an o2.1), (cG cyI an (S_green o2.1)), (cV cyI an (S_score o2.1)), (cS cyI b0 o2.2.1), (cS cyI b1 o2.2.2.1), (cS cyI b2 o2.2.2.2.1), (cS cyI b3 o2.2.2.2.2.1), (cS cyI b4 o2.2.2.2.2.2.1), (cS cyI b5 o2.2.2.2.2.2.2)]) (n := 14) [0, 1, 2, 4] [3, 5, 6, 7, 8, 9, 10, 11, 12, 13] rfl rfl rfl (by decide)
    have hP : va_P (dC, dI) vwCl (([(cXo x an tr (X_set_savedCount xv ((X_savedCount xv) - (1 : Int32)))), (cH cyO (x 1) (x 2) 2 fl), (cXk cyI x (X_set_savedCount xv ((X_savedCount xv) - (1 : Int32)))), (cH cyO (x 4) (x 5) 6 fs), (cT cyI x (X_text (X_set_savedCount xv ((X_savedCount xv) - (1 : Int32))))), (cSo an o2.1), (cG cyI an (S_green o2.1)), (cV cyI an (S_score o2.1)), (cS cyI b0 o2.2.1), (cS cyI b1 o2.2.2.1), (cS cyI b2 o2.2.2.2.1), (cS cyI b3 o2.2.2.2.2.1), (cS cyI b4 o2.2.2.2.2.2.1), (cS cyI b5 o2.2.2.2.2.2.2)] : List va_W).flatten) H := hP.perm hq
    have hD : va_D A (([(cXo x an tr (X_set_savedCount xv ((X_savedCount xv) - (1 : Int32)))), (cH cyO (x 1) (x 2) 2 fl), (cXk cyI x (X_set_savedCount xv ((X_savedCount xv) - (1 : Int32)))), (cH cyO (x 4) (x 5) 6 fs), (cT cyI x (X_text (X_set_savedCount xv ((X_savedCount xv) - (1 : Int32))))), (cSo an o2.1), (cG cyI an (S_green o2.1)), (cV cyI an (S_score o2.1)), (cS cyI b0 o2.2.1), (cS cyI b1 o2.2.2.1), (cS cyI b2 o2.2.2.2.1), (cS cyI b3 o2.2.2.2.2.1), (cS cyI b4 o2.2.2.2.2.2.1), (cS cyI b5 o2.2.2.2.2.2.2)] : List va_W).flatten) := hD.perm hq
    clear hq
    refine vx_ret ?_
    refine W.widen (k := 1) (n := 6) (Nat.le_of_ble_eq_true rfl) (Nat.le_of_ble_eq_true rfl) ?_
    exact W.vret hx hb hr (fun t ht hW => ⟨⟨_, rfl, Option.some.inj hF, by rw [ht]; exact hP, hD⟩, hS.F ht⟩) hS.2.2 dX5_undo_50
  · have hF := itn c1 hF
    have hF9 : ((Sum.inl 1 : Nat ⊕ Unit), (xv, nv, v0, v1, v2, v3, v4, v5)) = out := Option.some.inj hF
    exact thrW_1 (w1 := fun (u : XV × SV × SV × SV × SV × SV × SV × SV) => (([(cXo x an tr u.1), (cH cyO (x 1) (x 2) 2 fl), (cXk cyI x u.1), (cH cyO (x 4) (x 5) 6 fs), (cT cyI x (X_text u.1)), (cSo an u.2.1), (cG cyI an (S_green u.2.1)), (cV cyI an (S_score u.2.1)), (cS cyI b0 u.2.2.1), (cS cyI b1 u.2.2.2.1), (cS cyI b2 u.2.2.2.2.1), (cS cyI b3 u.2.2.2.2.2.1), (cS cyI b4 u.2.2.2.2.2.2.1), (cS cyI b5 u.2.2.2.2.2.2.2)] : List va_W).flatten)) (v := (xv, nv, v0, v1, v2, v3, v4, v5)) hF9 hP hD hx hb hst (is := 204) (text := "no state is saved") hown hts hZ hAz hS (hl.1.trans hml.symm) (by decide) dX5_undo_7 dX5_undo_10 dX5_undo_11 dX5_undo_13 dX5_undo_16 htx (Nat.le_of_ble_eq_true rfl) (Nat.le_of_ble_eq_true rfl) (Nat.le_of_ble_eq_true rfl) (Nat.le_of_ble_eq_true rfl) hlocks (Nat.le_of_ble_eq_true rfl) (Nat.le_of_ble_eq_true rfl)
