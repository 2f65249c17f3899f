/-! written by program from the bytecode: what each method computes, and its contract -/

theorem dX5_roll_0 : decode cX5_roll 0 = .ok (.iload_n 1, 1) := by decide +kernel
theorem dX5_roll_1 : decode cX5_roll 1 = .ok (.bipush 20, 2) := by decide +kernel
theorem dX5_roll_3 : decode cX5_roll 3 = .ok (.if_icmp .lt 9, 3) := by decide +kernel
theorem dX5_roll_6 : decode cX5_roll 6 = .ok (.iload_n 1, 1) := by decide +kernel
theorem dX5_roll_7 : decode cX5_roll 7 = .ok (.bipush 50, 2) := by decide +kernel
theorem dX5_roll_9 : decode cX5_roll 9 = .ok (.if_icmp .le 13, 3) := by decide +kernel
theorem dX5_roll_12 : decode cX5_roll 12 = .ok (.new 49, 3) := by decide +kernel
theorem dX5_roll_15 : decode cX5_roll 15 = .ok (.dup, 1) := by decide +kernel
theorem dX5_roll_16 : decode cX5_roll 16 = .ok (.ldc 51, 2) := by decide +kernel
theorem dX5_roll_18 : decode cX5_roll 18 = .ok (.invokespecial 53, 3) := by decide +kernel
theorem dX5_roll_21 : decode cX5_roll 21 = .ok (.athrow, 1) := by decide +kernel
theorem dX5_roll_22 : decode cX5_roll 22 = .ok (.aload_n 0, 1) := by decide +kernel
theorem dX5_roll_23 : decode cX5_roll 23 = .ok (.getfield 12, 3) := by decide +kernel
theorem dX5_roll_26 : decode cX5_roll 26 = .ok (.invokevirtual 56, 3) := by decide +kernel
theorem dX5_roll_29 : decode cX5_roll 29 = .ok (.ifCond .ne 13, 3) := by decide +kernel
theorem dX5_roll_32 : decode cX5_roll 32 = .ok (.new 60, 3) := by decide +kernel
theorem dX5_roll_35 : decode cX5_roll 35 = .ok (.dup, 1) := by decide +kernel
theorem dX5_roll_36 : decode cX5_roll 36 = .ok (.ldc 62, 2) := by decide +kernel
theorem dX5_roll_38 : decode cX5_roll 38 = .ok (.invokespecial 64, 3) := by decide +kernel
theorem dX5_roll_41 : decode cX5_roll 41 = .ok (.athrow, 1) := by decide +kernel
theorem dX5_roll_42 : decode cX5_roll 42 = .ok (.aload_n 0, 1) := by decide +kernel
theorem dX5_roll_43 : decode cX5_roll 43 = .ok (.invokevirtual 65, 3) := by decide +kernel
theorem dX5_roll_46 : decode cX5_roll 46 = .ok (.aload_n 0, 1) := by decide +kernel
theorem dX5_roll_47 : decode cX5_roll 47 = .ok (.getfield 12, 3) := by decide +kernel
theorem dX5_roll_50 : decode cX5_roll 50 = .ok (.iload_n 1, 1) := by decide +kernel
theorem dX5_roll_51 : decode cX5_roll 51 = .ok (.invokevirtual 68, 3) := by decide +kernel
theorem dX5_roll_54 : decode cX5_roll 54 = .ok (.aload_n 0, 1) := by decide +kernel
theorem dX5_roll_55 : decode cX5_roll 55 = .ok (.getfield 12, 3) := by decide +kernel
theorem dX5_roll_58 : decode cX5_roll 58 = .ok (.invokevirtual 71, 3) := by decide +kernel
theorem dX5_roll_61 : decode cX5_roll 61 = .ok (.ireturn, 1) := by decide +kernel
def f_X5_roll (N : Nat) (xv : XV) (nv : SV) (v0 : SV) (v1 : SV) (v2 : SV) (v3 : SV) (v4 : SV) (v5 : SV) (p1 : Int32) : Option ((Nat ⊕ Int32) × (XV × SV × SV × SV × SV × SV × SV × SV)) :=
  jn (fun (s12 : Unit) => some (Sum.inl 0, (xv, nv, v0, v1, v2, v3, v4, v5))) (fun (j12 : (Unit) → Option ((Nat ⊕ Int32) × (XV × SV × SV × SV × SV × SV × SV × SV))) => (if p1 < (20 : Int32) then j12 () else (if p1 ≤ (50 : Int32) then (f_X3_canRoll N nv).bind (fun o3 => (if o3 = 0 then some (Sum.inl 1, (xv, nv, v0, v1, v2, v3, v4, v5)) else (f_X5_saveState N xv nv v0 v1 v2 v3 v4 v5).bind (fun o7 => (f_X3_rollJack N o7.2.1 p1).bind (fun o9 => (f_X3_nextSide N o9).bind (fun o11 => some ((Sum.inr o11), (o7.1, o9, o7.2.2.1, o7.2.2.2.1, o7.2.2.2.2.1, o7.2.2.2.2.2.1, o7.2.2.2.2.2.2.1, o7.2.2.2.2.2.2.2))))))) else j12 ())))
set_option maxHeartbeats 4000000 in
set_option maxRecDepth 100000 in
theorem met_X5_roll (l : Launch) (z0 : Nat) (hst : l.stackTraces = false) (dC : Nat → ClassId) (dI : Nat → Nat → Nat) (cyI cyO : ClassId) (x : Nat → Nat) (tr : Nat → Nat) (an : Nat → Nat) (b0 : Nat → Nat) (b1 : Nat → Nat) (b2 : Nat → Nat) (b3 : Nat → Nat) (b4 : Nat → Nat) (b5 : Nat → Nat) (fl fs : Nat → Option Nat) (sz : Nat) (N : Nat) (xv : XV) (nv : SV) (v0 : SV) (v1 : SV) (v2 : SV) (v3 : SV) (v4 : SV) (v5 : SV) (p1 : Int32) (hs0 : fs 0 = some (b0 0)) (hs1 : fs 1 = some (b1 0)) (hs2 : fs 2 = some (b2 0)) (hs3 : fs 3 = some (b3 0)) (hs4 : fs 4 = some (b4 0)) (hs5 : fs 5 = some (b5 0)) (out : (Nat ⊕ Int32) × (XV × SV × SV × SV × SV × SV × SV × SV)) (hF : f_X5_roll N xv nv v0 v1 v2 v3 v4 v5 p1 = some out) : vx_Met l yX5_roll (Cond.code yX5_roll cX5_roll 2 (some .int) :: wT) ({ frames := 6, cells := 1, slots := 6, locals := 107 } : Room) (wWrX z0 dC dI cyI cyO [.ref (x 0), .int p1] (([(cXo x an tr xv), (cH cyO (x 1) (x 2) 2 fl), (cXk cyI x xv), (cH cyO (x 4) (x 5) 6 fs), (cT cyI x (X_text xv)), (cSo an nv), (cG cyI an (S_green nv)), (cV cyI an (S_score nv)), (cS cyI b0 v0), (cS cyI b1 v1), (cS cyI b2 v2), (cS cyI b3 v3), (cS cyI b4 v4), (cS cyI b5 v5)] : List va_W).flatten) sz) (va_Qi (fun (r : Int32) (u : XV × SV × SV × SV × SV × SV × SV × SV) => (Sum.inr r, u) = out) (fun u t => va_P (dC, dI) vwCl (([(cXo x an tr u.1), (cH cyO (x 1) (x 2) 2 fl), (cXk cyI x u.1), (cH cyO (x 4) (x 5) 6 fs), (cT cyI x (X_text u.1)), (cSo an u.2.1), (cG cyI an (S_green u.2.1)), (cV cyI an (S_score u.2.1)), (cS cyI b0 u.2.2.1), (cS cyI b1 u.2.2.2.1), (cS cyI b2 u.2.2.2.2.1), (cS cyI b3 u.2.2.2.2.2.1), (cS cyI b4 u.2.2.2.2.2.2.1), (cS cyI b5 u.2.2.2.2.2.2.2)] : List va_W).flatten) t.heap ∧ va_D (va_A (([(cXo x an tr xv), (cH cyO (x 1) (x 2) 2 fl), (cXk cyI x xv), (cH cyO (x 4) (x 5) 6 fs), (cT cyI x (X_text xv)), (cSo an nv), (cG cyI an (S_green nv)), (cV cyI an (S_score nv)), (cS cyI b0 v0), (cS cyI b1 v1), (cS cyI b2 v2), (cS cyI b3 v3), (cS cyI b4 v4), (cS cyI b5 v5)] : List va_W).flatten) sz) (([(cXo x an tr u.1), (cH cyO (x 1) (x 2) 2 fl), (cXk cyI x u.1), (cH cyO (x 4) (x 5) 6 fs), (cT cyI x (X_text u.1)), (cSo an u.2.1), (cG cyI an (S_green u.2.1)), (cV cyI an (S_score u.2.1)), (cS cyI b0 u.2.2.1), (cS cyI b1 u.2.2.2.1), (cS cyI b2 u.2.2.2.2.1), (cS cyI b3 u.2.2.2.2.2.1), (cS cyI b4 u.2.2.2.2.2.2.1), (cS cyI b5 u.2.2.2.2.2.2.2)] : List va_W).flatten)) (va_A (([(cXo x an tr xv), (cH cyO (x 1) (x 2) 2 fl), (cXk cyI x xv), (cH cyO (x 4) (x 5) 6 fs), (cT cyI x (X_text xv)), (cSo an nv), (cG cyI an (S_green nv)), (cV cyI an (S_score nv)), (cS cyI b0 v0), (cS cyI b1 v1), (cS cyI b2 v2), (cS cyI b3 v3), (cS cyI b4 v4), (cS cyI b5 v5)] : List va_W).flatten) sz)) (xcW dC dI Int32 (fun (u : XV × SV × SV × SV × SV × SV × SV × SV) => (([(cXo x an tr u.1), (cH cyO (x 1) (x 2) 2 fl), (cXk cyI x u.1), (cH cyO (x 4) (x 5) 6 fs), (cT cyI x (X_text u.1)), (cSo an u.2.1), (cG cyI an (S_green u.2.1)), (cV cyI an (S_score u.2.1)), (cS cyI b0 u.2.2.1), (cS cyI b1 u.2.2.2.1), (cS cyI b2 u.2.2.2.2.1), (cS cyI b3 u.2.2.2.2.2.1), (cS cyI b4 u.2.2.2.2.2.2.1), (cS cyI b5 u.2.2.2.2.2.2.2)] : List va_W).flatten)) (va_A (([(cXo x an tr xv), (cH cyO (x 1) (x 2) 2 fl), (cXk cyI x xv), (cH cyO (x 4) (x 5) 6 fs), (cT cyI x (X_text xv)), (cSo an nv), (cG cyI an (S_green nv)), (cV cyI an (S_score nv)), (cS cyI b0 v0), (cS cyI b1 v1), (cS cyI b2 v2), (cS cyI b3 v3), (cS cyI b4 v4), (cS cyI b5 v5)] : List va_W).flatten) sz) out) 1 6 (va_A (([(cXo x an tr xv), (cH cyO (x 1) (x 2) 2 fl), (cXk cyI x xv), (cH cyO (x 4) (x 5) 6 fs), (cT cyI x (X_text xv)), (cSo an nv), (cG cyI an (S_green nv)), (cV cyI an (S_score nv)), (cS cyI b0 v0), (cS cyI b1 v1), (cS cyI b2 v2), (cS cyI b3 v3), (cS cyI b4 v4), (cS cyI b5 v5)] : List va_W).flatten) sz) := by
  refine vx_ofW (cc := cX5_roll) (maxL := 2) (ret := (some .int)) (by decide) rfl ?_
  intro p e s m args below meth c s₁ B hml htx hv
  obtain ⟨rfl, hsz, hP, hK, hD0, hz0, hZ⟩ := hv
  have hx := B.exec
  have hb := B.bytes
  have hr := B.returns
  have hts0 := atoms_spec (ws := (Cond.code yX5_roll cX5_roll 2 (some .int) :: wT)) B.pre
  have hts := fun w h => hts0 w (List.mem_cons_of_mem _ h)
  clear hts0
  have hown : s.vm.findClass RX5 = some m.cls := findClass_of_methodNamed B.named
  have hlocks := B.notSynchronized
  subst hsz
  have hD := hD0.self (sz := s.heap.size)
  have hAz := wA_ge hD0 hz0
  generalize hAe : va_A (([(cXo x an tr xv), (cH cyO (x 1) (x 2) 2 fl), (cXk cyI x xv), (cH cyO (x 4) (x 5) 6 fs), (cT cyI x (X_text xv)), (cSo an nv), (cG cyI an (S_green nv)), (cV cyI an (S_score nv)), (cS cyI b0 v0), (cS cyI b1 v1), (cS cyI b2 v2), (cS cyI b3 v3), (cS cyI b4 v4), (cS cyI b5 v5)] : List va_W).flatten) s.heap.size = A at hD hAz ⊢
  have hA : ∀ q : Nat, s.heap.size ≤ q → A q := fun q h => by rw [← hAe]; exact Or.inr h
  clear hD0
  have hS : va_S A s.heap s.heap [] := va_S.rf
  have hl := lv_entry [.ref (x 0), .int p1] (n := 2) (Nat.le_of_ble_eq_true rfl)
  rw [lg_entry_eq]
  generalize (lg_sl [.ref (x 0), .int p1] ++ List.replicate (2 - (lg_sl [.ref (x 0), .int p1]).length) Slot.unset).toArray = ls at hl ⊢
  have hl : lv_has ls 2 [(0, .ref (x 0)), (1, .int p1)] := hl
  unfold f_X5_roll at hF
  refine lv_iload_n hx hb dX5_roll_0 rfl (lv_at hl 1 rfl) ?_
  refine lv_bipush (v := 20) hx hb dX5_roll_1 (by decide) ?_
  obtain ⟨j12, hj12, hF⟩ := jn_use hF
  have hJ12 : ∀ (s12 : Unit) (H : Heap) (locs : List Loc) (ls : Array Slot), va_P (dC, dI) vwCl (([(cXo x an tr xv), (cH cyO (x 1) (x 2) 2 fl), (cXk cyI x xv), (cH cyO (x 4) (x 5) 6 fs), (cT cyI x (X_text xv)), (cSo an nv), (cG cyI an (S_green nv)), (cV cyI an (S_score nv)), (cS cyI b0 v0), (cS cyI b1 v1), (cS cyI b2 v2), (cS cyI b3 v3), (cS cyI b4 v4), (cS cyI b5 v5)] : List va_W).flatten) H → va_D A (([(cXo x an tr xv), (cH cyO (x 1) (x 2) 2 fl), (cXk cyI x xv), (cH cyO (x 4) (x 5) 6 fs), (cT cyI x (X_text xv)), (cSo an nv), (cG cyI an (S_green nv)), (cV cyI an (S_score nv)), (cS cyI b0 v0), (cS cyI b1 v1), (cS cyI b2 v2), (cS cyI b3 v3), (cS cyI b4 v4), (cS cyI b5 v5)] : List va_W).flatten) → va_S A s.heap H locs → lv_has ls 2 [] → j12 s12 = some out → W p l e (headSpec (Cond.code yX5_roll cX5_roll 2 (some .int) :: wT) ({ frames := 6, cells := 1, slots := 6, locals := 107 } : Room)).room s m ([.ref (x 0), .int p1] : List Value).toArray below meth c H locs 0 0 (vx_MQ below (va_Qi (fun (r : Int32) (u : XV × SV × SV × SV × SV × SV × SV × SV) => (Sum.inr r, u) = out) (fun u t => va_P (dC, dI) vwCl (([(cXo x an tr u.1), (cH cyO (x 1) (x 2) 2 fl), (cXk cyI x u.1), (cH cyO (x 4) (x 5) 6 fs), (cT cyI x (X_text u.1)), (cSo an u.2.1), (cG cyI an (S_green u.2.1)), (cV cyI an (S_score u.2.1)), (cS cyI b0 u.2.2.1), (cS cyI b1 u.2.2.2.1), (cS cyI b2 u.2.2.2.2.1), (cS cyI b3 u.2.2.2.2.2.1), (cS cyI b4 u.2.2.2.2.2.2.1), (cS cyI b5 u.2.2.2.2.2.2.2)] : List va_W).flatten) t.heap ∧ va_D A (([(cXo x an tr u.1), (cH cyO (x 1) (x 2) 2 fl), (cXk cyI x u.1), (cH cyO (x 4) (x 5) 6 fs), (cT cyI x (X_text u.1)), (cSo an u.2.1), (cG cyI an (S_green u.2.1)), (cV cyI an (S_score u.2.1)), (cS cyI b0 u.2.2.1), (cS cyI b1 u.2.2.2.1), (cS cyI b2 u.2.2.2.2.1), (cS cyI b3 u.2.2.2.2.2.1), (cS cyI b4 u.2.2.2.2.2.2.1), (cS cyI b5 u.2.2.2.2.2.2.2)] : List va_W).flatten)) A) (xcW dC dI Int32 (fun (u : XV × SV × SV × SV × SV × SV × SV × SV) => (([(cXo x an tr u.1), (cH cyO (x 1) (x 2) 2 fl), (cXk cyI x u.1), (cH cyO (x 4) (x 5) 6 fs), (cT cyI x (X_text u.1)), (cSo an u.2.1), (cG cyI an (S_green u.2.1)), (cV cyI an (S_score u.2.1)), (cS cyI b0 u.2.2.1), (cS cyI b1 u.2.2.2.1), (cS cyI b2 u.2.2.2.2.1), (cS cyI b3 u.2.2.2.2.2.1), (cS cyI b4 u.2.2.2.2.2.2.1), (cS cyI b5 u.2.2.2.2.2.2.2)] : List va_W).flatten)) A out) ([.ref (x 0), .int p1] : List Value).toArray s 1 6 A) (F0 m 12 ls []) := by
    intro s12 H locs ls hP hD hS hl hF
    have hF := (congrFun hj12 s12).symm.trans hF
    have hF9 : ((Sum.inl 0 : Nat ⊕ Int32), (xv, nv, v0, v1, v2, v3, v4, v5)) = out := Option.some.inj hF
    exact thrW_0 (w1 := fun (u : XV × SV × SV × SV × SV × SV × SV × SV) => (([(cXo x an tr u.1), (cH cyO (x 1) (x 2) 2 fl), (cXk cyI x u.1), (cH cyO (x 4) (x 5) 6 fs), (cT cyI x (X_text u.1)), (cSo an u.2.1), (cG cyI an (S_green u.2.1)), (cV cyI an (S_score u.2.1)), (cS cyI b0 u.2.2.1), (cS cyI b1 u.2.2.2.1), (cS cyI b2 u.2.2.2.2.1), (cS cyI b3 u.2.2.2.2.2.1), (cS cyI b4 u.2.2.2.2.2.2.1), (cS cyI b5 u.2.2.2.2.2.2.2)] : List va_W).flatten)) (v := (xv, nv, v0, v1, v2, v3, v4, v5)) hF9 hP hD hx hb hst (is := 51) (text := "length is out of range") hown hts hZ hAz hS (hl.1.trans hml.symm) (by decide) dX5_roll_12 dX5_roll_15 dX5_roll_16 dX5_roll_18 dX5_roll_21 htx (Nat.le_of_ble_eq_true rfl) (Nat.le_of_ble_eq_true rfl) (Nat.le_of_ble_eq_true rfl) (Nat.le_of_ble_eq_true rfl) hlocks (Nat.le_of_ble_eq_true rfl) (Nat.le_of_ble_eq_true rfl)
  refine lv_icmp_lt (tgt := 12) hx hb dX5_roll_3 (by decide) (fun c1 => ?_) (fun c1 => ?_)
  · have hF := itp c1 hF
    exact hJ12 () _ _ _ hP hD hS (lv_sub hl [] rfl) hF
  · have hF := itn c1 hF
    refine lv_iload_n hx hb dX5_roll_6 rfl (lv_at hl 1 rfl) ?_
    refine lv_bipush (v := 50) hx hb dX5_roll_7 (by decide) ?_
    refine lv_icmp_le (tgt := 22) hx hb dX5_roll_9 (by decide) (fun c2 => ?_) (fun c2 => ?_)
    · have hF := itp c2 hF
      refine lv_aload_n hx hb dX5_roll_22 rfl (lv_at hl 0 rfl) ?_
      refine va_get (D := (dC, dI)) (ci := 5) (v := .ref (an 0)) (C := RX5) (T := TX5) (N := 8) hx hb hts inX5 hown hK.1 hP 0 rfl rfl 0 (by decide) (hts _ w_fieldLink_X5_12) (fun _ h9 => h9) rfl dX5_roll_23 ?_
      obtain ⟨o3, h4, hF⟩ := obd hF
      refine wcRVi (As := []) (rest := []) (b := (an 0)) ⟨hx, hb, hml, hown, hts⟩ (met_X3_canRoll l dC dI cyI cyO an N nv  o3 h4) (cwV 0 hts (gV w_methodLink_X5_56 w_instanceMethod_X3_canRoll w_selects_X3_canRoll w_initialized_X3 w_code_X3_canRoll) rfl rfl rfl (by decide +kernel) ⟨Nat.le_of_ble_eq_true rfl, Nat.le_of_ble_eq_true rfl⟩) (va_recv hK.1 hP (ci := 3) (q0 := 8) rfl rfl) hP hK [8, 9, 10, 11, 12, 13, 14, 15, 16, 17, 18, 19, 20] rfl rfl hl.1 (Nat.le_of_ble_eq_true rfl) dX5_roll_26 ⟨Nat.le_of_ble_eq_true rfl, Nat.le_of_ble_eq_true rfl⟩ hS (fun r H locs hw hP hS => ?_)
      obtain ⟨hw, hz5⟩ := hw
      have hw := hw.symm
      subst hw
      refine lv_if_ne (tgt := 42) hx hb dX5_roll_29 (by decide) (fun c6 => ?_) (fun c6 => ?_)
      · have hF := itn c6 hF
        refine lv_aload_n hx hb dX5_roll_42 rfl (lv_at hl 0 rfl) ?_
        obtain ⟨o7, h8, hF⟩ := obd hF
        refine wcPVv (As := []) (rest := []) (wr := ([] : List va_W).flatten) (b := (x 0)) ⟨hx, hb, hml, hown, hts⟩ (met_X5_saveState l dC dI cyI cyO x tr an b0 b1 b2 b3 b4 b5 fl fs _ N xv nv v0 v1 v2 v3 v4 v5 hs0 hs1 hs2 hs3 hs4 hs5 o7 h8) (cwV 0 hts (gV w_methodLink_X5_65 w_instanceMethod_X5_saveState w_selects_X5_saveState w_initialized_X5 w_code_X5_saveState) rfl rfl rfl (by decide +kernel) ⟨Nat.le_of_ble_eq_true rfl, Nat.le_of_ble_eq_true rfl⟩) (va_recv hK.1 hP (ci := 5) (q0 := 0) rfl rfl) hP hD hK (seg_perm (n := 14) (R := []) (C := [(cXo x an tr xv), (cH cyO (x 1) (x 2) 2 fl), (cXk cyI x xv), (cH cyO (x 4) (x 5) 6 fs), (cT cyI x (X_text xv)), (cSo an nv), (cG cyI an (S_green nv)), (cV cyI an (S_score nv)), (cS cyI b0 v0), (cS cyI b1 v1), (cS cyI b2 v2), (cS cyI b3 v3), (cS cyI b4 v4), (cS cyI b5 v5)]) [] [0, 1, 2, 3, 4, 5, 6, 7, 8, 9, 10, 11, 12, 13] rfl rfl rfl (by decide) rfl) rfl hl.1 (Nat.le_of_ble_eq_true rfl) dX5_roll_43 ⟨Nat.le_of_ble_eq_true rfl, Nat.le_of_ble_eq_true rfl⟩ hS hA (fun u H locs hw hP hD hS => ?_)
        have hw := hw.symm
        subst hw
        have hq := seg_permS (segs := [(cXo x an tr o7.1), (cH cyO (x 1) (x 2) 2 fl), (cXk cyI x o7.1), (cH cyO (x 4) (x 5) 6 fs), (cT cyI x (X_text o7.1)), (cSo an o7.2.1), (cG cyI an (S_green o7.2.1)), (cV cyI an (S_score o7.2.1)), (cS cyI b0 o7.2.2.1), (cS cyI b1 o7.2.2.2.1), (cS cyI b2 o7.2.2.2.2.1), (cS cyI b3 o7.2.2.2.2.2.1), (cS cyI b4 o7.2.2.2.2.2.2.1), (cS cyI b5 o7.2.2.2.2.2.2.2)]) (R := []) (C := [(cXo x an tr o7.1), (cH cyO (x 1) (x 2) 2 fl), (cXk cyI x o7.1), (cH cyO (x 4) (x 5) 6 fs), (cT cyI x (X_text o7.1)), (cSo an o7.2.1), (cG cyI an (S_green o7.2.1)), (cV cyI an (S_score o7.2.1)), (cS cyI b0 o7.2.2.1), (cS cyI b1 o7.2.2.2.1), (cS cyI b2 o7.2.2.2.2.1), (cS cyI b3 o7.2.2.2.2.2.1), (cS cyI b4 o7.2.2.2.2.2.2.1), (cS cyI b5 o7.2.2.2.2.2.2.2)]) (n := 14) [] [0, 1, 2, 3, 4, 5, 6, 7, 8, 9, 10, 11, 12, 13] rfl rfl rfl (by decide)
        have hP : va_P (dC, dI) vwCl (([(cXo x an tr o7.1), (cH cyO (x 1) (x 2) 2 fl), (cXk cyI x o7.1), (cH cyO (x 4) (x 5) 6 fs), (cT cyI x (X_text o7.1)), (cSo an o7.2.1), (cG cyI an (S_green o7.2.1)), (cV cyI an (S_score o7.2.1)), (cS cyI b0 o7.2.2.1), (cS cyI b1 o7.2.2.2.1), (cS cyI b2 o7.2.2.2.2.1), (cS cyI b3 o7.2.2.2.2.2.1), (cS cyI b4 o7.2.2.2.2.2.2.1), (cS cyI b5 o7.2.2.2.2.2.2.2)] : List va_W).flatten) H := hP.perm hq
        have hD : va_D A (([(cXo x an tr o7.1), (cH cyO (x 1) (x 2) 2 fl), (cXk cyI x o7.1), (cH cyO (x 4) (x 5) 6 fs), (cT cyI x (X_text o7.1)), (cSo an o7.2.1), (cG cyI an (S_green o7.2.1)), (cV cyI an (S_score o7.2.1)), (cS cyI b0 o7.2.2.1), (cS cyI b1 o7.2.2.2.1), (cS cyI b2 o7.2.2.2.2.1), (cS cyI b3 o7.2.2.2.2.2.1), (cS cyI b4 o7.2.2.2.2.2.2.1), (cS cyI b5 o7.2.2.2.2.2.2.2)] : List va_W).flatten) := hD.perm hq
        clear hq
        refine lv_aload_n hx hb dX5_roll_46 rfl (lv_at hl 0 rfl) ?_
        refine va_get (D := (dC, dI)) (ci := 5) (v := .ref (an 0)) (C := RX5) (T := TX5) (N := 8) hx hb hts inX5 hown hK.1 hP 0 rfl rfl 0 (by decide) (hts _ w_fieldLink_X5_12) (fun _ h9 => h9) rfl dX5_roll_47 ?_
        refine lv_iload_n hx hb dX5_roll_50 rfl (lv_at hl 1 rfl) ?_
        obtain ⟨o9, h10, hF⟩ := obd hF
        refine wcPVv (As := [.int p1]) (rest := []) (wr := ([(cXo x an tr o7.1), (cH cyO (x 1) (x 2) 2 fl), (cXk cyI x o7.1), (cH cyO (x 4) (x 5) 6 fs), (cT cyI x (X_text o7.1)), (cS cyI b0 o7.2.2.1), (cS cyI b1 o7.2.2.2.1), (cS cyI b2 o7.2.2.2.2.1), (cS cyI b3 o7.2.2.2.2.2.1), (cS cyI b4 o7.2.2.2.2.2.2.1), (cS cyI b5 o7.2.2.2.2.2.2.2)] : List va_W).flatten) (b := (an 0)) ⟨hx, hb, hml, hown, hts⟩ (met_X3_rollJack l dC dI cyI cyO an _ N o7.2.1 p1 o9 h10) (cwV 1 hts (gV w_methodLink_X5_68 w_instanceMethod_X3_rollJack w_selects_X3_rollJack w_initialized_X3 w_code_X3_rollJack) rfl rfl rfl (by decide +kernel) ⟨Nat.le_of_ble_eq_true rfl, Nat.le_of_ble_eq_true rfl⟩) (va_recv hK.1 hP (ci := 3) (q0 := 8) rfl rfl) hP hD hK (seg_perm (n := 14) (R := [(cXo x an tr o7.1), (cH cyO (x 1) (x 2) 2 fl), (cXk cyI x o7.1), (cH cyO (x 4) (x 5) 6 fs), (cT cyI x (X_text o7.1)), (cS cyI b0 o7.2.2.1), (cS cyI b1 o7.2.2.2.1), (cS cyI b2 o7.2.2.2.2.1), (cS cyI b3 o7.2.2.2.2.2.1), (cS cyI b4 o7.2.2.2.2.2.2.1), (cS cyI b5 o7.2.2.2.2.2.2.2)]) (C := [(cSo an o7.2.1), (cG cyI an (S_green o7.2.1)), (cV cyI an (S_score o7.2.1))]) [0, 1, 2, 3, 4, 8, 9, 10, 11, 12, 13] [5, 6, 7] rfl rfl rfl (by decide) rfl) rfl hl.1 (Nat.le_of_ble_eq_true rfl) dX5_roll_51 ⟨Nat.le_of_ble_eq_true rfl, Nat.le_of_ble_eq_true rfl⟩ hS hA (fun u H locs hw hP hD hS => ?_)
        have hw := hw.symm
        subst hw
        have hq := seg_permS (segs := [(cXo x an tr o7.1), (cH cyO (x 1) (x 2) 2 fl), (cXk cyI x o7.1), (cH cyO (x 4) (x 5) 6 fs), (cT cyI x (X_text o7.1)), (cSo an o9), (cG cyI an (S_green o9)), (cV cyI an (S_score o9)), (cS cyI b0 o7.2.2.1), (cS cyI b1 o7.2.2.2.1), (cS cyI b2 o7.2.2.2.2.1), (cS cyI b3 o7.2.2.2.2.2.1), (cS cyI b4 o7.2.2.2.2.2.2.1), (cS cyI b5 o7.2.2.2.2.2.2.2)]) (R := [(cXo x an tr o7.1), (cH cyO (x 1) (x 2) 2 fl), (cXk cyI x o7.1), (cH cyO (x 4) (x 5) 6 fs), (cT cyI x (X_text o7.1)), (cS cyI b0 o7.2.2.1), (cS cyI b1 o7.2.2.2.1), (cS cyI b2 o7.2.2.2.2.1), (cS cyI b3 o7.2.2.2.2.2.1), (cS cyI b4 o7.2.2.2.2.2.2.1), (cS cyI b5 o7.2.2.2.2.2.2.2)]) (C := [(cSo an o9), (cG cyI an (S_green o9)), (cV cyI an (S_score o9))]) (n := 14) [0, 1, 2, 3, 4, 8, 9, 10, 11, 12, 13] [5, 6, 7] rfl rfl rfl (by decide)
        have hP : va_P (dC, dI) vwCl (([(cXo x an tr o7.1), (cH cyO (x 1) (x 2) 2 fl), (cXk cyI x o7.1), (cH cyO (x 4) (x 5) 6 fs), (cT cyI x (X_text o7.1)), (cSo an o9), (cG cyI an (S_green o9)), (cV cyI an (S_score o9)), (cS cyI b0 o7.2.2.1), (cS cyI b1 o7.2.2.2.1), (cS cyI b2 o7.2.2.2.2.1), (cS cyI b3 o7.2.2.2.2.2.1), (cS cyI b4 o7.2.2.2.2.2.2.1), (cS cyI b5 o7.2.2.2.2.2.2.2)] : List va_W).flatten) H := hP.perm hq
        have hD : va_D A (([(cXo x an tr o7.1), (cH cyO (x 1) (x 2) 2 fl), (cXk cyI x o7.1), (cH cyO (x 4) (x 5) 6 fs), (cT cyI x (X_text o7.1)), (cSo an o9), (cG cyI an (S_green o9)), (cV cyI an (S_score o9)), (cS cyI b0 o7.2.2.1), (cS cyI b1 o7.2.2.2.1), (cS cyI b2 o7.2.2.2.2.1), (cS cyI b3 o7.2.2.2.2.2.1), (cS cyI b4 o7.2.2.2.2.2.2.1), (cS cyI b5 o7.2.2.2.2.2.2.2)] : List va_W).flatten) := hD.perm hq
        clear hq
        refine lv_aload_n hx hb dX5_roll_54 rfl (lv_at hl 0 rfl) ?_
        refine va_get (D := (dC, dI)) (ci := 5) (v := .ref (an 0)) (C := RX5) (T := TX5) (N := 8) hx hb hts inX5 hown hK.1 hP 0 rfl rfl 0 (by decide) (hts _ w_fieldLink_X5_12) (fun _ h9 => h9) rfl dX5_roll_55 ?_
        obtain ⟨o11, h12, hF⟩ := obd hF
        refine wcRVi (As := []) (rest := []) (b := (an 0)) ⟨hx, hb, hml, hown, hts⟩ (met_X3_nextSide l dC dI cyI cyO an N o9  o11 h12) (cwV 0 hts (gV w_methodLink_X5_71 w_instanceMethod_X3_nextSide w_selects_X3_nextSide w_initialized_X3 w_code_X3_nextSide) rfl rfl rfl (by decide +kernel) ⟨Nat.le_of_ble_eq_true rfl, Nat.le_of_ble_eq_true rfl⟩) (va_recv hK.1 hP (ci := 3) (q0 := 8) rfl rfl) hP hK [8, 9, 10, 11, 12, 13, 14, 15, 16, 17, 18, 19, 20] rfl rfl hl.1 (Nat.le_of_ble_eq_true rfl) dX5_roll_58 ⟨Nat.le_of_ble_eq_true rfl, Nat.le_of_ble_eq_true rfl⟩ hS (fun r H locs hw hP hS => ?_)
        have hw := hw.symm
        subst hw
        refine vx_ret ?_
        refine W.widen (k := 1) (n := 6) (Nat.le_of_ble_eq_true rfl) (Nat.le_of_ble_eq_true rfl) ?_
        exact W.iret (v := o11) hx hb hr (fun t ht hW => ⟨⟨_, (o7.1, o9, o7.2.2.1, o7.2.2.2.1, o7.2.2.2.2.1, o7.2.2.2.2.2.1, o7.2.2.2.2.2.2.1, o7.2.2.2.2.2.2.2), rfl, Option.some.inj hF, by rw [ht]; exact hP, hD⟩, hS.F ht⟩) hS.2.2 dX5_roll_61
      · have hF := itp c6 hF
        have hF9 : ((Sum.inl 1 : Nat ⊕ Int32), (xv, nv, v0, v1, v2, v3, v4, v5)) = out := Option.some.inj hF
        exact thrW_1 (w1 := fun (u : XV × SV × SV × SV × SV × SV × SV × SV) => (([(cXo x an tr u.1), (cH cyO (x 1) (x 2) 2 fl), (cXk cyI x u.1), (cH cyO (x 4) (x 5) 6 fs), (cT cyI x (X_text u.1)), (cSo an u.2.1), (cG cyI an (S_green u.2.1)), (cV cyI an (S_score u.2.1)), (cS cyI b0 u.2.2.1), (cS cyI b1 u.2.2.2.1), (cS cyI b2 u.2.2.2.2.1), (cS cyI b3 u.2.2.2.2.2.1), (cS cyI b4 u.2.2.2.2.2.2.1), (cS cyI b5 u.2.2.2.2.2.2.2)] : List va_W).flatten)) (v := (xv, nv, v0, v1, v2, v3, v4, v5)) hF9 hP hD hx hb hst (is := 62) (text := "the match is over, or the jack lies") hown hts hZ hAz hS (hl.1.trans hml.symm) (by decide) dX5_roll_32 dX5_roll_35 dX5_roll_36 dX5_roll_38 dX5_roll_41 htx (Nat.le_of_ble_eq_true rfl) (Nat.le_of_ble_eq_true rfl) (Nat.le_of_ble_eq_true rfl) (Nat.le_of_ble_eq_true rfl) hlocks (Nat.le_of_ble_eq_true rfl) (Nat.le_of_ble_eq_true rfl)
    · have hF := itn c2 hF
      exact hJ12 () _ _ _ hP hD hS (lv_sub hl [] rfl) hF
theorem dX5_play_0 : decode cX5_play 0 = .ok (.iload_n 1, 1) := by decide +kernel
theorem dX5_play_1 : decode cX5_play 1 = .ok (.iload_n 2, 1) := by decide +kernel
theorem dX5_play_2 : decode cX5_play 2 = .ok (.iload_n 3, 1) := by decide +kernel
theorem dX5_play_3 : decode cX5_play 3 = .ok (.invokestatic 75, 3) := by decide +kernel
theorem dX5_play_6 : decode cX5_play 6 = .ok (.ifCond .ne 13, 3) := by decide +kernel
theorem dX5_play_9 : decode cX5_play 9 = .ok (.new 49, 3) := by decide +kernel
theorem dX5_play_12 : decode cX5_play 12 = .ok (.dup, 1) := by decide +kernel
theorem dX5_play_13 : decode cX5_play 13 = .ok (.ldc 79, 2) := by decide +kernel
theorem dX5_play_15 : decode cX5_play 15 = .ok (.invokespecial 53, 3) := by decide +kernel
theorem dX5_play_18 : decode cX5_play 18 = .ok (.athrow, 1) := by decide +kernel
theorem dX5_play_19 : decode cX5_play 19 = .ok (.aload_n 0, 1) := by decide +kernel
theorem dX5_play_20 : decode cX5_play 20 = .ok (.getfield 12, 3) := by decide +kernel
theorem dX5_play_23 : decode cX5_play 23 = .ok (.invokevirtual 81, 3) := by decide +kernel
theorem dX5_play_26 : decode cX5_play 26 = .ok (.ifCond .ne 13, 3) := by decide +kernel
theorem dX5_play_29 : decode cX5_play 29 = .ok (.new 60, 3) := by decide +kernel
theorem dX5_play_32 : decode cX5_play 32 = .ok (.dup, 1) := by decide +kernel
theorem dX5_play_33 : decode cX5_play 33 = .ok (.ldc 84, 2) := by decide +kernel
theorem dX5_play_35 : decode cX5_play 35 = .ok (.invokespecial 64, 3) := by decide +kernel
theorem dX5_play_38 : decode cX5_play 38 = .ok (.athrow, 1) := by decide +kernel
theorem dX5_play_39 : decode cX5_play 39 = .ok (.aload_n 0, 1) := by decide +kernel
theorem dX5_play_40 : decode cX5_play 40 = .ok (.invokevirtual 65, 3) := by decide +kernel
theorem dX5_play_43 : decode cX5_play 43 = .ok (.aload_n 0, 1) := by decide +kernel
theorem dX5_play_44 : decode cX5_play 44 = .ok (.getfield 12, 3) := by decide +kernel
theorem dX5_play_47 : decode cX5_play 47 = .ok (.iload_n 1, 1) := by decide +kernel
theorem dX5_play_48 : decode cX5_play 48 = .ok (.iload_n 2, 1) := by decide +kernel
theorem dX5_play_49 : decode cX5_play 49 = .ok (.iload_n 3, 1) := by decide +kernel
theorem dX5_play_50 : decode cX5_play 50 = .ok (.invokevirtual 86, 3) := by decide +kernel
theorem dX5_play_53 : decode cX5_play 53 = .ok (.istore 4, 2) := by decide +kernel
theorem dX5_play_55 : decode cX5_play 55 = .ok (.aload_n 0, 1) := by decide +kernel
theorem dX5_play_56 : decode cX5_play 56 = .ok (.getfield 12, 3) := by decide +kernel
theorem dX5_play_59 : decode cX5_play 59 = .ok (.getfield 90, 3) := by decide +kernel
theorem dX5_play_62 : decode cX5_play 62 = .ok (.iload 4, 2) := by decide +kernel
theorem dX5_play_64 : decode cX5_play 64 = .ok (.invokevirtual 94, 3) := by decide +kernel
theorem dX5_play_67 : decode cX5_play 67 = .ok (.ireturn, 1) := by decide +kernel
def f_X5_play (N : Nat) (xv : XV) (nv : SV) (v0 : SV) (v1 : SV) (v2 : SV) (v3 : SV) (v4 : SV) (v5 : SV) (p1 : Int32) (p2 : Int32) (p3 : Int32) : Option ((Nat ⊕ Int32) × (XV × SV × SV × SV × SV × SV × SV × SV)) :=
  (f_X5_isPlay N p1 p2 p3).bind (fun o1 => (if o1 = 0 then some (Sum.inl 0, (xv, nv, v0, v1, v2, v3, v4, v5)) else (f_X3_canPlay N nv).bind (fun o5 => (if o5 = 0 then some (Sum.inl 1, (xv, nv, v0, v1, v2, v3, v4, v5)) else (f_X5_saveState N xv nv v0 v1 v2 v3 v4 v5).bind (fun o9 => (f_X3_playBowl N o9.2.1 p1 p2 p3).bind (fun o11 => (f_X0_fateOf N (S_green o11.2) o11.1).bind (fun o13 => some ((Sum.inr o13), (o9.1, o11.2, o9.2.2.1, o9.2.2.2.1, o9.2.2.2.2.1, o9.2.2.2.2.2.1, o9.2.2.2.2.2.2.1, o9.2.2.2.2.2.2.2)))))))))
set_option maxHeartbeats 4000000 in
set_option maxRecDepth 100000 in
theorem met_X5_play (l : Launch) (z0 : Nat) (hst : l.stackTraces = false) (dC : Nat → ClassId) (dI : Nat → Nat → Nat) (cyI cyO : ClassId) (x : Nat → Nat) (tr : Nat → Nat) (an : Nat → Nat) (b0 : Nat → Nat) (b1 : Nat → Nat) (b2 : Nat → Nat) (b3 : Nat → Nat) (b4 : Nat → Nat) (b5 : Nat → Nat) (fl fs : Nat → Option Nat) (sz : Nat) (N : Nat) (xv : XV) (nv : SV) (v0 : SV) (v1 : SV) (v2 : SV) (v3 : SV) (v4 : SV) (v5 : SV) (p1 : Int32) (p2 : Int32) (p3 : Int32) (hs0 : fs 0 = some (b0 0)) (hs1 : fs 1 = some (b1 0)) (hs2 : fs 2 = some (b2 0)) (hs3 : fs 3 = some (b3 0)) (hs4 : fs 4 = some (b4 0)) (hs5 : fs 5 = some (b5 0)) (out : (Nat ⊕ Int32) × (XV × SV × SV × SV × SV × SV × SV × SV)) (hF : f_X5_play N xv nv v0 v1 v2 v3 v4 v5 p1 p2 p3 = some out) : vx_Met l yX5_play (Cond.code yX5_play cX5_play 5 (some .int) :: wT) ({ frames := 6, cells := 1, slots := 6, locals := 107 } : Room) (wWrX z0 dC dI cyI cyO [.ref (x 0), .int p1, .int p2, .int p3] (([(cXo x an tr xv), (cH cyO (x 1) (x 2) 2 fl), (cXk cyI x xv), (cH cyO (x 4) (x 5) 6 fs), (cT cyI x (X_text xv)), (cSo an nv), (cG cyI an (S_green nv)), (cV cyI an (S_score nv)), (cS cyI b0 v0), (cS cyI b1 v1), (cS cyI b2 v2), (cS cyI b3 v3), (cS cyI b4 v4), (cS cyI b5 v5)] : List va_W).flatten) sz) (va_Qi (fun (r : Int32) (u : XV × SV × SV × SV × SV × SV × SV × SV) => (Sum.inr r, u) = out) (fun u t => va_P (dC, dI) vwCl (([(cXo x an tr u.1), (cH cyO (x 1) (x 2) 2 fl), (cXk cyI x u.1), (cH cyO (x 4) (x 5) 6 fs), (cT cyI x (X_text u.1)), (cSo an u.2.1), (cG cyI an (S_green u.2.1)), (cV cyI an (S_score u.2.1)), (cS cyI b0 u.2.2.1), (cS cyI b1 u.2.2.2.1), (cS cyI b2 u.2.2.2.2.1), (cS cyI b3 u.2.2.2.2.2.1), (cS cyI b4 u.2.2.2.2.2.2.1), (cS cyI b5 u.2.2.2.2.2.2.2)] : List va_W).flatten) t.heap ∧ va_D (va_A (([(cXo x an tr xv), (cH cyO (x 1) (x 2) 2 fl), (cXk cyI x xv), (cH cyO (x 4) (x 5) 6 fs), (cT cyI x (X_text xv)), (cSo an nv), (cG cyI an (S_green nv)), (cV cyI an (S_score nv)), (cS cyI b0 v0), (cS cyI b1 v1), (cS cyI b2 v2), (cS cyI b3 v3), (cS cyI b4 v4), (cS cyI b5 v5)] : List va_W).flatten) sz) (([(cXo x an tr u.1), (cH cyO (x 1) (x 2) 2 fl), (cXk cyI x u.1), (cH cyO (x 4) (x 5) 6 fs), (cT cyI x (X_text u.1)), (cSo an u.2.1), (cG cyI an (S_green u.2.1)), (cV cyI an (S_score u.2.1)), (cS cyI b0 u.2.2.1), (cS cyI b1 u.2.2.2.1), (cS cyI b2 u.2.2.2.2.1), (cS cyI b3 u.2.2.2.2.2.1), (cS cyI b4 u.2.2.2.2.2.2.1), (cS cyI b5 u.2.2.2.2.2.2.2)] : List va_W).flatten)) (va_A (([(cXo x an tr xv), (cH cyO (x 1) (x 2) 2 fl), (cXk cyI x xv), (cH cyO (x 4) (x 5) 6 fs), (cT cyI x (X_text xv)), (cSo an nv), (cG cyI an (S_green nv)), (cV cyI an (S_score nv)), (cS cyI b0 v0), (cS cyI b1 v1), (cS cyI b2 v2), (cS cyI b3 v3), (cS cyI b4 v4), (cS cyI b5 v5)] : List va_W).flatten) sz)) (xcW dC dI Int32 (fun (u : XV × SV × SV × SV × SV × SV × SV × SV) => (([(cXo x an tr u.1), (cH cyO (x 1) (x 2) 2 fl), (cXk cyI x u.1), (cH cyO (x 4) (x 5) 6 fs), (cT cyI x (X_text u.1)), (cSo an u.2.1), (cG cyI an (S_green u.2.1)), (cV cyI an (S_score u.2.1)), (cS cyI b0 u.2.2.1), (cS cyI b1 u.2.2.2.1), (cS cyI b2 u.2.2.2.2.1), (cS cyI b3 u.2.2.2.2.2.1), (cS cyI b4 u.2.2.2.2.2.2.1), (cS cyI b5 u.2.2.2.2.2.2.2)] : List va_W).flatten)) (va_A (([(cXo x an tr xv), (cH cyO (x 1) (x 2) 2 fl), (cXk cyI x xv), (cH cyO (x 4) (x 5) 6 fs), (cT cyI x (X_text xv)), (cSo an nv), (cG cyI an (S_green nv)), (cV cyI an (S_score nv)), (cS cyI b0 v0), (cS cyI b1 v1), (cS cyI b2 v2), (cS cyI b3 v3), (cS cyI b4 v4), (cS cyI b5 v5)] : List va_W).flatten) sz) out) 1 6 (va_A (([(cXo x an tr xv), (cH cyO (x 1) (x 2) 2 fl), (cXk cyI x xv), (cH cyO (x 4) (x 5) 6 fs), (cT cyI x (X_text xv)), (cSo an nv), (cG cyI an (S_green nv)), (cV cyI an (S_score nv)), (cS cyI b0 v0), (cS cyI b1 v1), (cS cyI b2 v2), (cS cyI b3 v3), (cS cyI b4 v4), (cS cyI b5 v5)] : List va_W).flatten) sz) := by
  refine vx_ofW (cc := cX5_play) (maxL := 5) (ret := (some .int)) (by decide) rfl ?_
  intro p e s m args below meth c s₁ B hml htx hv
  obtain ⟨rfl, hsz, hP, hK, hD0, hz0, hZ⟩ := hv
  have hx := B.exec
  have hb := B.bytes
  have hr := B.returns
  have hts0 := atoms_spec (ws := (Cond.code yX5_play cX5_play 5 (some .int) :: wT)) B.pre
  have hts := fun w h => hts0 w (List.mem_cons_of_mem _ h)
  clear hts0
  have hown : s.vm.findClass RX5 = some m.cls := findClass_of_methodNamed B.named
  have hlocks := B.notSynchronized
  subst hsz
  have hD := hD0.self (sz := s.heap.size)
  have hAz := wA_ge hD0 hz0
  generalize hAe : va_A (([(cXo x an tr xv), (cH cyO (x 1) (x 2) 2 fl), (cXk cyI x xv), (cH cyO (x 4) (x 5) 6 fs), (cT cyI x (X_text xv)), (cSo an nv), (cG cyI an (S_green nv)), (cV cyI an (S_score nv)), (cS cyI b0 v0), (cS cyI b1 v1), (cS cyI b2 v2), (cS cyI b3 v3), (cS cyI b4 v4), (cS cyI b5 v5)] : List va_W).flatten) s.heap.size = A at hD hAz ⊢
  have hA : ∀ q : Nat, s.heap.size ≤ q → A q := fun q h => by rw [← hAe]; exact Or.inr h
  clear hD0
  have hS : va_S A s.heap s.heap [] := va_S.rf
  have hl := lv_entry [.ref (x 0), .int p1, .int p2, .int p3] (n := 5) (Nat.le_of_ble_eq_true rfl)
  rw [lg_entry_eq]
  generalize (lg_sl [.ref (x 0), .int p1, .int p2, .int p3] ++ List.replicate (5 - (lg_sl [.ref (x 0), .int p1, .int p2, .int p3]).length) Slot.unset).toArray = ls at hl ⊢
  have hl : lv_has ls 5 [(0, .ref (x 0)), (1, .int p1), (2, .int p2), (3, .int p3)] := hl
  unfold f_X5_play at hF
  refine lv_iload_n hx hb dX5_play_0 rfl (lv_at hl 1 rfl) ?_
  refine lv_iload_n hx hb dX5_play_1 rfl (lv_at hl 2 rfl) ?_
  refine lv_iload_n hx hb dX5_play_2 rfl (lv_at hl 3 rfl) ?_
  obtain ⟨o1, h2, hF⟩ := obd hF
  refine wcRSi (As := [.int p1, .int p2, .int p3]) (rest := []) ⟨hx, hb, hml, hown, hts⟩ (met_X5_isPlay l dC dI cyI cyO  N  p1 p2 p3 o1 h2) (va_cwS 3 hts (gS w_methodLink_X5_75 w_static_X5_isPlay w_initialized_X5 w_code_X5_isPlay) rfl rfl rfl (by decide +kernel) ⟨Nat.le_of_ble_eq_true rfl, Nat.le_of_ble_eq_true rfl⟩) hP hK [] rfl rfl hl.1 (Nat.le_of_ble_eq_true rfl) dX5_play_3 ⟨Nat.le_of_ble_eq_true rfl, Nat.le_of_ble_eq_true rfl⟩ hS (fun r H locs hw hP hS => ?_)
  obtain ⟨hw, hz3⟩ := hw
  have hw := hw.symm
  subst hw
  refine lv_if_ne (tgt := 19) hx hb dX5_play_6 (by decide) (fun c4 => ?_) (fun c4 => ?_)
  · have hF := itn c4 hF
    refine lv_aload_n hx hb dX5_play_19 rfl (lv_at hl 0 rfl) ?_
    refine va_get (D := (dC, dI)) (ci := 5) (v := .ref (an 0)) (C := RX5) (T := TX5) (N := 8) hx hb hts inX5 hown hK.1 hP 0 rfl rfl 0 (by decide) (hts _ w_fieldLink_X5_12) (fun _ h9 => h9) rfl dX5_play_20 ?_
    obtain ⟨o5, h6, hF⟩ := obd hF
    refine wcRVi (As := []) (rest := []) (b := (an 0)) ⟨hx, hb, hml, hown, hts⟩ (met_X3_canPlay l dC dI cyI cyO an N nv  o5 h6) (cwV 0 hts (gV w_methodLink_X5_81 w_instanceMethod_X3_canPlay w_selects_X3_canPlay w_initialized_X3 w_code_X3_canPlay) rfl rfl rfl (by decide +kernel) ⟨Nat.le_of_ble_eq_true rfl, Nat.le_of_ble_eq_true rfl⟩) (va_recv hK.1 hP (ci := 3) (q0 := 8) rfl rfl) hP hK [8, 9, 10, 11, 12, 13, 14, 15, 16, 17, 18, 19, 20] rfl rfl hl.1 (Nat.le_of_ble_eq_true rfl) dX5_play_23 ⟨Nat.le_of_ble_eq_true rfl, Nat.le_of_ble_eq_true rfl⟩ hS (fun r H locs hw hP hS => ?_)
    obtain ⟨hw, hz7⟩ := hw
    have hw := hw.symm
    subst hw
    refine lv_if_ne (tgt := 39) hx hb dX5_play_26 (by decide) (fun c8 => ?_) (fun c8 => ?_)
    · have hF := itn c8 hF
      refine lv_aload_n hx hb dX5_play_39 rfl (lv_at hl 0 rfl) ?_
      obtain ⟨o9, h10, hF⟩ := obd hF
      refine wcPVv (As := []) (rest := []) (wr := ([] : List va_W).flatten) (b := (x 0)) ⟨hx, hb, hml, hown, hts⟩ (met_X5_saveState l dC dI cyI cyO x tr an b0 b1 b2 b3 b4 b5 fl fs _ N xv nv v0 v1 v2 v3 v4 v5 hs0 hs1 hs2 hs3 hs4 hs5 o9 h10) (cwV 0 hts (gV w_methodLink_X5_65 w_instanceMethod_X5_saveState w_selects_X5_saveState w_initialized_X5 w_code_X5_saveState) rfl rfl rfl (by decide +kernel) ⟨Nat.le_of_ble_eq_true rfl, Nat.le_of_ble_eq_true rfl⟩) (va_recv hK.1 hP (ci := 5) (q0 := 0) rfl rfl) hP hD hK (seg_perm (n := 14) (R := []) (C := [(cXo x an tr xv), (cH cyO (x 1) (x 2) 2 fl), (cXk cyI x xv), (cH cyO (x 4) (x 5) 6 fs), (cT cyI x (X_text xv)), (cSo an nv), (cG cyI an (S_green nv)), (cV cyI an (S_score nv)), (cS cyI b0 v0), (cS cyI b1 v1), (cS cyI b2 v2), (cS cyI b3 v3), (cS cyI b4 v4), (cS cyI b5 v5)]) [] [0, 1, 2, 3, 4, 5, 6, 7, 8, 9, 10, 11, 12, 13] rfl rfl rfl (by decide) rfl) rfl hl.1 (Nat.le_of_ble_eq_true rfl) dX5_play_40 ⟨Nat.le_of_ble_eq_true rfl, Nat.le_of_ble_eq_true rfl⟩ hS hA (fun u H locs hw hP hD hS => ?_)
      have hw := hw.symm
      subst hw
      have hq := seg_permS (segs := [(cXo x an tr o9.1), (cH cyO (x 1) (x 2) 2 fl), (cXk cyI x o9.1), (cH cyO (x 4) (x 5) 6 fs), (cT cyI x (X_text o9.1)), (cSo an o9.2.1), (cG cyI an (S_green o9.2.1)), (cV cyI an (S_score o9.2.1)), (cS cyI b0 o9.2.2.1), (cS cyI b1 o9.2.2.2.1), (cS cyI b2 o9.2.2.2.2.1), (cS cyI b3 o9.2.2.2.2.2.1), (cS cyI b4 o9.2.2.2.2.2.2.1), (cS cyI b5 o9.2.2.2.2.2.2.2)]) (R := []) (C := [(cXo x an tr o9.1), (cH cyO (x 1) (x 2) 2 fl), (cXk cyI x o9.1), (cH cyO (x 4) (x 5) 6 fs), (cT cyI x (X_text o9.1)), (cSo an o9.2.1), (cG cyI an (S_green o9.2.1)), (cV cyI an (S_score o9.2.1)), (cS cyI b0 o9.2.2.1), (cS cyI b1 o9.2.2.2.1), (cS cyI b2 o9.2.2.2.2.1), (cS cyI b3 o9.2.2.2.2.2.1), (cS cyI b4 o9.2.2.2.2.2.2.1), (cS cyI b5 o9.2.2.2.2.2.2.2)]) (n := 14) [] [0, 1, 2, 3, 4, 5, 6, 7, 8, 9, 10, 11, 12, 13] rfl rfl rfl (by decide)
      have hP : va_P (dC, dI) vwCl (([(cXo x an tr o9.1), (cH cyO (x 1) (x 2) 2 fl), (cXk cyI x o9.1), (cH cyO (x 4) (x 5) 6 fs), (cT cyI x (X_text o9.1)), (cSo an o9.2.1), (cG cyI an (S_green o9.2.1)), (cV cyI an (S_score o9.2.1)), (cS cyI b0 o9.2.2.1), (cS cyI b1 o9.2.2.2.1), (cS cyI b2 o9.2.2.2.2.1), (cS cyI b3 o9.2.2.2.2.2.1), (cS cyI b4 o9.2.2.2.2.2.2.1), (cS cyI b5 o9.2.2.2.2.2.2.2)] : List va_W).flatten) H := hP.perm hq
      have hD : va_D A (([(cXo x an tr o9.1), (cH cyO (x 1) (x 2) 2 fl), (cXk cyI x o9.1), (cH cyO (x 4) (x 5) 6 fs), (cT cyI x (X_text o9.1)), (cSo an o9.2.1), (cG cyI an (S_green o9.2.1)), (cV cyI an (S_score o9.2.1)), (cS cyI b0 o9.2.2.1), (cS cyI b1 o9.2.2.2.1), (cS cyI b2 o9.2.2.2.2.1), (cS cyI b3 o9.2.2.2.2.2.1), (cS cyI b4 o9.2.2.2.2.2.2.1), (cS cyI b5 o9.2.2.2.2.2.2.2)] : List va_W).flatten) := hD.perm hq
      clear hq
      refine lv_aload_n hx hb dX5_play_43 rfl (lv_at hl 0 rfl) ?_
      refine va_get (D := (dC, dI)) (ci := 5) (v := .ref (an 0)) (C := RX5) (T := TX5) (N := 8) hx hb hts inX5 hown hK.1 hP 0 rfl rfl 0 (by decide) (hts _ w_fieldLink_X5_12) (fun _ h9 => h9) rfl dX5_play_44 ?_
      refine lv_iload_n hx hb dX5_play_47 rfl (lv_at hl 1 rfl) ?_
      refine lv_iload_n hx hb dX5_play_48 rfl (lv_at hl 2 rfl) ?_
      refine lv_iload_n hx hb dX5_play_49 rfl (lv_at hl 3 rfl) ?_
      obtain ⟨o11, h12, hF⟩ := obd hF
      refine wcPVi (As := [.int p1, .int p2, .int p3]) (rest := []) (wr := ([(cXo x an tr o9.1), (cH cyO (x 1) (x 2) 2 fl), (cXk cyI x o9.1), (cH cyO (x 4) (x 5) 6 fs), (cT cyI x (X_text o9.1)), (cS cyI b0 o9.2.2.1), (cS cyI b1 o9.2.2.2.1), (cS cyI b2 o9.2.2.2.2.1), (cS cyI b3 o9.2.2.2.2.2.1), (cS cyI b4 o9.2.2.2.2.2.2.1), (cS cyI b5 o9.2.2.2.2.2.2.2)] : List va_W).flatten) (b := (an 0)) ⟨hx, hb, hml, hown, hts⟩ (met_X3_playBowl l dC dI cyI cyO an _ N o9.2.1 p1 p2 p3 o11 h12) (cwV 3 hts (gV w_methodLink_X5_86 w_instanceMethod_X3_playBowl w_selects_X3_playBowl w_initialized_X3 w_code_X3_playBowl) rfl rfl rfl (by decide +kernel) ⟨Nat.le_of_ble_eq_true rfl, Nat.le_of_ble_eq_true rfl⟩) (va_recv hK.1 hP (ci := 3) (q0 := 8) rfl rfl) hP hD hK (seg_perm (n := 14) (R := [(cXo x an tr o9.1), (cH cyO (x 1) (x 2) 2 fl), (cXk cyI x o9.1), (cH cyO (x 4) (x 5) 6 fs), (cT cyI x (X_text o9.1)), (cS cyI b0 o9.2.2.1), (cS cyI b1 o9.2.2.2.1), (cS cyI b2 o9.2.2.2.2.1), (cS cyI b3 o9.2.2.2.2.2.1), (cS cyI b4 o9.2.2.2.2.2.2.1), (cS cyI b5 o9.2.2.2.2.2.2.2)]) (C := [(cSo an o9.2.1), (cG cyI an (S_green o9.2.1)), (cV cyI an (S_score o9.2.1))]) [0, 1, 2, 3, 4, 8, 9, 10, 11, 12, 13] [5, 6, 7] rfl rfl rfl (by decide) rfl) rfl hl.1 (Nat.le_of_ble_eq_true rfl) dX5_play_50 ⟨Nat.le_of_ble_eq_true rfl, Nat.le_of_ble_eq_true rfl⟩ hS hA (fun r u H locs hw hP hD hS => ?_)
      obtain rfl : r = o11.1 := congrArg Prod.fst hw
      obtain rfl : u = o11.2 := congrArg Prod.snd hw
      clear hw
      have hq := seg_permS (segs := [(cXo x an tr o9.1), (cH cyO (x 1) (x 2) 2 fl), (cXk cyI x o9.1), (cH cyO (x 4) (x 5) 6 fs), (cT cyI x (X_text o9.1)), (cSo an o11.2), (cG cyI an (S_green o11.2)), (cV cyI an (S_score o11.2)), (cS cyI b0 o9.2.2.1), (cS cyI b1 o9.2.2.2.1), (cS cyI b2 o9.2.2.2.2.1), (cS cyI b3 o9.2.2.2.2.2.1), (cS cyI b4 o9.2.2.2.2.2.2.1), (cS cyI b5 o9.2.2.2.2.2.2.2)]) (R := [(cXo x an tr o9.1), (cH cyO (x 1) (x 2) 2 fl), (cXk cyI x o9.1), (cH cyO (x 4) (x 5) 6 fs), (cT cyI x (X_text o9.1)), (cS cyI b0 o9.2.2.1), (cS cyI b1 o9.2.2.2.1), (cS cyI b2 o9.2.2.2.2.1), (cS cyI b3 o9.2.2.2.2.2.1), (cS cyI b4 o9.2.2.2.2.2.2.1), (cS cyI b5 o9.2.2.2.2.2.2.2)]) (C := [(cSo an o11.2), (cG cyI an (S_green o11.2)), (cV cyI an (S_score o11.2))]) (n := 14) [0, 1, 2, 3, 4, 8, 9, 10, 11, 12, 13] [5, 6, 7] rfl rfl rfl (by decide)
      have hP : va_P (dC, dI) vwCl (([(cXo x an tr o9.1), (cH cyO (x 1) (x 2) 2 fl), (cXk cyI x o9.1), (cH cyO (x 4) (x 5) 6 fs), (cT cyI x (X_text o9.1)), (cSo an o11.2), (cG cyI an (S_green o11.2)), (cV cyI an (S_score o11.2)), (cS cyI b0 o9.2.2.1), (cS cyI b1 o9.2.2.2.1), (cS cyI b2 o9.2.2.2.2.1), (cS cyI b3 o9.2.2.2.2.2.1), (cS cyI b4 o9.2.2.2.2.2.2.1), (cS cyI b5 o9.2.2.2.2.2.2.2)] : List va_W).flatten) H := hP.perm hq
      have hD : va_D A (([(cXo x an tr o9.1), (cH cyO (x 1) (x 2) 2 fl), (cXk cyI x o9.1), (cH cyO (x 4) (x 5) 6 fs), (cT cyI x (X_text o9.1)), (cSo an o11.2), (cG cyI an (S_green o11.2)), (cV cyI an (S_score o11.2)), (cS cyI b0 o9.2.2.1), (cS cyI b1 o9.2.2.2.1), (cS cyI b2 o9.2.2.2.2.1), (cS cyI b3 o9.2.2.2.2.2.1), (cS cyI b4 o9.2.2.2.2.2.2.1), (cS cyI b5 o9.2.2.2.2.2.2.2)] : List va_W).flatten) := hD.perm hq
      clear hq
      refine lv_istore (lv' := [(4, .int o11.1), (0, .ref (x 0)), (1, .int p1), (2, .int p2), (3, .int p3)]) hx hb dX5_play_53 hl (by decide) rfl (fun ls hl => ?_)
      refine lv_aload_n hx hb dX5_play_55 rfl (lv_at hl 1 rfl) ?_
      refine va_get (D := (dC, dI)) (ci := 5) (v := .ref (an 0)) (C := RX5) (T := TX5) (N := 8) hx hb hts inX5 hown hK.1 hP 0 rfl rfl 0 (by decide) (hts _ w_fieldLink_X5_12) (fun _ h9 => h9) rfl dX5_play_56 ?_
      refine va_get (D := (dC, dI)) (ci := 3) (v := .ref (an 1)) (C := RX3) (T := TX3) (N := 6) hx hb hts inX3 hown hK.1 hP 8 rfl rfl 0 (by decide) (hts _ w_fieldLink_X5_90) (fun _ h9 => h9) rfl dX5_play_59 ?_
      refine lv_iload hx hb dX5_play_62 (lv_at hl 0 rfl) ?_
      obtain ⟨o13, h14, hF⟩ := obd hF
      refine wcRVi (As := [.int o11.1]) (rest := []) (b := (an 1)) ⟨hx, hb, hml, hown, hts⟩ (met_X0_fateOf l dC dI cyI cyO an N (S_green o11.2) o11.1 o13 h14) (cwV 1 hts (gV w_methodLink_X5_94 w_instanceMethod_X0_fateOf w_selects_X0_fateOf w_initialized_X0 w_code_X0_fateOf) rfl rfl rfl (by decide +kernel) ⟨Nat.le_of_ble_eq_true rfl, Nat.le_of_ble_eq_true rfl⟩) (va_recv hK.1 hP (ci := 0) (q0 := 9) rfl rfl) hP hK [9, 10, 11, 12, 13, 14, 15, 16] rfl rfl hl.1 (Nat.le_of_ble_eq_true rfl) dX5_play_64 ⟨Nat.le_of_ble_eq_true rfl, Nat.le_of_ble_eq_true rfl⟩ hS (fun r H locs hw hP hS => ?_)
      have hw := hw.symm
      subst hw
      refine vx_ret ?_
      refine W.widen (k := 1) (n := 6) (Nat.le_of_ble_eq_true rfl) (Nat.le_of_ble_eq_true rfl) ?_
      exact W.iret (v := o13) hx hb hr (fun t ht hW => ⟨⟨_, (o9.1, o11.2, o9.2.2.1, o9.2.2.2.1, o9.2.2.2.2.1, o9.2.2.2.2.2.1, o9.2.2.2.2.2.2.1, o9.2.2.2.2.2.2.2), rfl, Option.some.inj hF, by rw [ht]; exact hP, hD⟩, hS.F ht⟩) hS.2.2 dX5_play_67
    · have hF := itp c8 hF
      have hF9 : ((Sum.inl 1 : Nat ⊕ Int32), (xv, nv, v0, v1, v2, v3, v4, v5)) = out := Option.some.inj hF
      exact thrW_1 (w1 := fun (u : XV × SV × SV × SV × SV × SV × SV × SV) => (([(cXo x an tr u.1), (cH cyO (x 1) (x 2) 2 fl), (cXk cyI x u.1), (cH cyO (x 4) (x 5) 6 fs), (cT cyI x (X_text u.1)), (cSo an u.2.1), (cG cyI an (S_green u.2.1)), (cV cyI an (S_score u.2.1)), (cS cyI b0 u.2.2.1), (cS cyI b1 u.2.2.2.1), (cS cyI b2 u.2.2.2.2.1), (cS cyI b3 u.2.2.2.2.2.1), (cS cyI b4 u.2.2.2.2.2.2.1), (cS cyI b5 u.2.2.2.2.2.2.2)] : List va_W).flatten)) (v := (xv, nv, v0, v1, v2, v3, v4, v5)) hF9 hP hD hx hb hst (is := 84) (text := "no bowl can be played") hown hts hZ hAz hS (hl.1.trans hml.symm) (by decide) dX5_play_29 dX5_play_32 dX5_play_33 dX5_play_35 dX5_play_38 htx (Nat.le_of_ble_eq_true rfl) (Nat.le_of_ble_eq_true rfl) (Nat.le_of_ble_eq_true rfl) (Nat.le_of_ble_eq_true rfl) hlocks (Nat.le_of_ble_eq_true rfl) (Nat.le_of_ble_eq_true rfl)
  · have hF := itp c4 hF
    have hF9 : ((Sum.inl 0 : Nat ⊕ Int32), (xv, nv, v0, v1, v2, v3, v4, v5)) = out := Option.some.inj hF
    exact thrW_0 (w1 := fun (u : XV × SV × SV × SV × SV × SV × SV × SV) => (([(cXo x an tr u.1), (cH cyO (x 1) (x 2) 2 fl), (cXk cyI x u.1), (cH cyO (x 4) (x 5) 6 fs), (cT cyI x (X_text u.1)), (cSo an u.2.1), (cG cyI an (S_green u.2.1)), (cV cyI an (S_score u.2.1)), (cS cyI b0 u.2.2.1), (cS cyI b1 u.2.2.2.1), (cS cyI b2 u.2.2.2.2.1), (cS cyI b3 u.2.2.2.2.2.1), (cS cyI b4 u.2.2.2.2.2.2.1), (cS cyI b5 u.2.2.2.2.2.2.2)] : List va_W).flatten)) (v := (xv, nv, v0, v1, v2, v3, v4, v5)) hF9 hP hD hx hb hst (is := 79) (text := "aim, weight or bias is out of range") hown hts hZ hAz hS (hl.1.trans hml.symm) (by decide) dX5_play_9 dX5_play_12 dX5_play_13 dX5_play_15 dX5_play_18 htx (Nat.le_of_ble_eq_true rfl) (Nat.le_of_ble_eq_true rfl) (Nat.le_of_ble_eq_true rfl) (Nat.le_of_ble_eq_true rfl) hlocks (Nat.le_of_ble_eq_true rfl) (Nat.le_of_ble_eq_true rfl)
theorem dX5_count_0 : decode cX5_count 0 = .ok (.aload_n 0, 1) := by decide +kernel
theorem dX5_count_1 : decode cX5_count 1 = .ok (.getfield 12, 3) := by decide +kernel
theorem dX5_count_4 : decode cX5_count 4 = .ok (.invokevirtual 100, 3) := by decide +kernel
theorem dX5_count_7 : decode cX5_count 7 = .ok (.ifCond .ne 13, 3) := by decide +kernel
theorem dX5_count_10 : decode cX5_count 10 = .ok (.new 60, 3) := by decide +kernel
theorem dX5_count_13 : decode cX5_count 13 = .ok (.dup, 1) := by decide +kernel
theorem dX5_count_14 : decode cX5_count 14 = .ok (.ldc 103, 2) := by decide +kernel
theorem dX5_count_16 : decode cX5_count 16 = .ok (.invokespecial 64, 3) := by decide +kernel
theorem dX5_count_19 : decode cX5_count 19 = .ok (.athrow, 1) := by decide +kernel
theorem dX5_count_20 : decode cX5_count 20 = .ok (.aload_n 0, 1) := by decide +kernel
theorem dX5_count_21 : decode cX5_count 21 = .ok (.invokevirtual 65, 3) := by decide +kernel
theorem dX5_count_24 : decode cX5_count 24 = .ok (.aload_n 0, 1) := by decide +kernel
theorem dX5_count_25 : decode cX5_count 25 = .ok (.getfield 12, 3) := by decide +kernel
theorem dX5_count_28 : decode cX5_count 28 = .ok (.invokevirtual 105, 3) := by decide +kernel
theorem dX5_count_31 : decode cX5_count 31 = .ok (.ireturn, 1) := by decide +kernel
def f_X5_count (N : Nat) (xv : XV) (nv : SV) (v0 : SV) (v1 : SV) (v2 : SV) (v3 : SV) (v4 : SV) (v5 : SV) : Option ((Nat ⊕ Int32) × (XV × SV × SV × SV × SV × SV × SV × SV)) :=
  (f_X3_canCount N nv).bind (fun o1 => (if o1 = 0 then some (Sum.inl 1, (xv, nv, v0, v1, v2, v3, v4, v5)) else (f_X5_saveState N xv nv v0 v1 v2 v3 v4 v5).bind (fun o5 => (f_X3_countEnd N o5.2.1).bind (fun o7 => some ((Sum.inr o7.1), (o5.1, o7.2, o5.2.2.1, o5.2.2.2.1, o5.2.2.2.2.1, o5.2.2.2.2.2.1, o5.2.2.2.2.2.2.1, o5.2.2.2.2.2.2.2))))))
set_option maxHeartbeats 4000000 in
set_option maxRecDepth 100000 in
theorem met_X5_count (l : Launch) (z0 : Nat) (hst : l.stackTraces = false) (dC : Nat → ClassId) (dI : Nat → Nat → Nat) (cyI cyO : ClassId) (x : Nat → Nat) (tr : Nat → Nat) (an : Nat → Nat) (b0 : Nat → Nat) (b1 : Nat → Nat) (b2 : Nat → Nat) (b3 : Nat → Nat) (b4 : Nat → Nat) (b5 : Nat → Nat) (fl fs : Nat → Option Nat) (sz : Nat) (N : Nat) (xv : XV) (nv : SV) (v0 : SV) (v1 : SV) (v2 : SV) (v3 : SV) (v4 : SV) (v5 : SV) (hs0 : fs 0 = some (b0 0)) (hs1 : fs 1 = some (b1 0)) (hs2 : fs 2 = some (b2 0)) (hs3 : fs 3 = some (b3 0)) (hs4 : fs 4 = some (b4 0)) (hs5 : fs 5 = some (b5 0)) (out : (Nat ⊕ Int32) × (XV × SV × SV × SV × SV × SV × SV × SV)) (hF : f_X5_count N xv nv v0 v1 v2 v3 v4 v5 = some out) : vx_Met l yX5_count (Cond.code yX5_count cX5_count 1 (some .int) :: wT) ({ frames := 6, cells := 1, slots := 6, locals := 112 } : Room) (wWrX z0 dC dI cyI cyO [.ref (x 0)] (([(cXo x an tr xv), (cH cyO (x 1) (x 2) 2 fl), (cXk cyI x xv), (cH cyO (x 4) (x 5) 6 fs), (cT cyI x (X_text xv)), (cSo an nv), (cG cyI an (S_green nv)), (cV cyI an (S_score nv)), (cS cyI b0 v0), (cS cyI b1 v1), (cS cyI b2 v2), (cS cyI b3 v3), (cS cyI b4 v4), (cS cyI b5 v5)] : List va_W).flatten) sz) (va_Qi (fun (r : Int32) (u : XV × SV × SV × SV × SV × SV × SV × SV) => (Sum.inr r, u) = out) (fun u t => va_P (dC, dI) vwCl (([(cXo x an tr u.1), (cH cyO (x 1) (x 2) 2 fl), (cXk cyI x u.1), (cH cyO (x 4) (x 5) 6 fs), (cT cyI x (X_text u.1)), (cSo an u.2.1), (cG cyI an (S_green u.2.1)), (cV cyI an (S_score u.2.1)), (cS cyI b0 u.2.2.1), (cS cyI b1 u.2.2.2.1), (cS cyI b2 u.2.2.2.2.1), (cS cyI b3 u.2.2.2.2.2.1), (cS cyI b4 u.2.2.2.2.2.2.1), (cS cyI b5 u.2.2.2.2.2.2.2)] : List va_W).flatten) t.heap ∧ va_D (va_A (([(cXo x an tr xv), (cH cyO (x 1) (x 2) 2 fl), (cXk cyI x xv), (cH cyO (x 4) (x 5) 6 fs), (cT cyI x (X_text xv)), (cSo an nv), (cG cyI an (S_green nv)), (cV cyI an (S_score nv)), (cS cyI b0 v0), (cS cyI b1 v1), (cS cyI b2 v2), (cS cyI b3 v3), (cS cyI b4 v4), (cS cyI b5 v5)] : List va_W).flatten) sz) (([(cXo x an tr u.1), (cH cyO (x 1) (x 2) 2 fl), (cXk cyI x u.1), (cH cyO (x 4) (x 5) 6 fs), (cT cyI x (X_text u.1)), (cSo an u.2.1), (cG cyI an (S_green u.2.1)), (cV cyI an (S_score u.2.1)), (cS cyI b0 u.2.2.1), (cS cyI b1 u.2.2.2.1), (cS cyI b2 u.2.2.2.2.1), (cS cyI b3 u.2.2.2.2.2.1), (cS cyI b4 u.2.2.2.2.2.2.1), (cS cyI b5 u.2.2.2.2.2.2.2)] : List va_W).flatten)) (va_A (([(cXo x an tr xv), (cH cyO (x 1) (x 2) 2 fl), (cXk cyI x xv), (cH cyO (x 4) (x 5) 6 fs), (cT cyI x (X_text xv)), (cSo an nv), (cG cyI an (S_green nv)), (cV cyI an (S_score nv)), (cS cyI b0 v0), (cS cyI b1 v1), (cS cyI b2 v2), (cS cyI b3 v3), (cS cyI b4 v4), (cS cyI b5 v5)] : List va_W).flatten) sz)) (xcW dC dI Int32 (fun (u : XV × SV × SV × SV × SV × SV × SV × SV) => (([(cXo x an tr u.1), (cH cyO (x 1) (x 2) 2 fl), (cXk cyI x u.1), (cH cyO (x 4) (x 5) 6 fs), (cT cyI x (X_text u.1)), (cSo an u.2.1), (cG cyI an (S_green u.2.1)), (cV cyI an (S_score u.2.1)), (cS cyI b0 u.2.2.1), (cS cyI b1 u.2.2.2.1), (cS cyI b2 u.2.2.2.2.1), (cS cyI b3 u.2.2.2.2.2.1), (cS cyI b4 u.2.2.2.2.2.2.1), (cS cyI b5 u.2.2.2.2.2.2.2)] : List va_W).flatten)) (va_A (([(cXo x an tr xv), (cH cyO (x 1) (x 2) 2 fl), (cXk cyI x xv), (cH cyO (x 4) (x 5) 6 fs), (cT cyI x (X_text xv)), (cSo an nv), (cG cyI an (S_green nv)), (cV cyI an (S_score nv)), (cS cyI b0 v0), (cS cyI b1 v1), (cS cyI b2 v2), (cS cyI b3 v3), (cS cyI b4 v4), (cS cyI b5 v5)] : List va_W).flatten) sz) out) 1 6 (va_A (([(cXo x an tr xv), (cH cyO (x 1) (x 2) 2 fl), (cXk cyI x xv), (cH cyO (x 4) (x 5) 6 fs), (cT cyI x (X_text xv)), (cSo an nv), (cG cyI an (S_green nv)), (cV cyI an (S_score nv)), (cS cyI b0 v0), (cS cyI b1 v1), (cS cyI b2 v2), (cS cyI b3 v3), (cS cyI b4 v4), (cS cyI b5 v5)] : List va_W).flatten) sz) := by
  refine vx_ofW (cc := cX5_count) (maxL := 1) (ret := (some .int)) (by decide) rfl ?_
  intro p e s m args below meth c s₁ B hml htx hv
  obtain ⟨rfl, hsz, hP, hK, hD0, hz0, hZ⟩ := hv
  have hx := B.exec
  have hb := B.bytes
  have hr := B.returns
  have hts0 := atoms_spec (ws := (Cond.code yX5_count cX5_count 1 (some .int) :: wT)) B.pre
  have hts := fun w h => hts0 w (List.mem_cons_of_mem _ h)
  clear hts0
  have hown : s.vm.findClass RX5 = some m.cls := findClass_of_methodNamed B.named
  have hlocks := B.notSynchronized
  subst hsz
  have hD := hD0.self (sz := s.heap.size)
  have hAz := wA_ge hD0 hz0
  generalize hAe : va_A (([(cXo x an tr xv), (cH cyO (x 1) (x 2) 2 fl), (cXk cyI x xv), (cH cyO (x 4) (x 5) 6 fs), (cT cyI x (X_text xv)), (cSo an nv), (cG cyI an (S_green nv)), (cV cyI an (S_score nv)), (cS cyI b0 v0), (cS cyI b1 v1), (cS cyI b2 v2), (cS cyI b3 v3), (cS cyI b4 v4), (cS cyI b5 v5)] : List va_W).flatten) s.heap.size = A at hD hAz ⊢
  have hA : ∀ q : Nat, s.heap.size ≤ q → A q := fun q h => by rw [← hAe]; exact Or.inr h
  clear hD0
  have hS : va_S A s.heap s.heap [] := va_S.rf
  have hl := lv_entry [.ref (x 0)] (n := 1) (Nat.le_of_ble_eq_true rfl)
  rw [lg_entry_eq]
  generalize (lg_sl [.ref (x 0)] ++ List.replicate (1 - (lg_sl [.ref (x 0)]).length) Slot.unset).toArray = ls at hl ⊢
  have hl : lv_has ls 1 [(0, .ref (x 0))] := hl
  unfold f_X5_count at hF
  refine lv_aload_n hx hb dX5_count_0 rfl (lv_at hl 0 rfl) ?_
  refine va_get (D := (dC, dI)) (ci := 5) (v := .ref (an 0)) (C := RX5) (T := TX5) (N := 8) hx hb hts inX5 hown hK.1 hP 0 rfl rfl 0 (by decide) (hts _ w_fieldLink_X5_12) (fun _ h9 => h9) rfl dX5_count_1 ?_
  obtain ⟨o1, h2, hF⟩ := obd hF
  refine wcRVi (As := []) (rest := []) (b := (an 0)) ⟨hx, hb, hml, hown, hts⟩ (met_X3_canCount l dC dI cyI cyO an N nv  o1 h2) (cwV 0 hts (gV w_methodLink_X5_100 w_instanceMethod_X3_canCount w_selects_X3_canCount w_initialized_X3 w_code_X3_canCount) rfl rfl rfl (by decide +kernel) ⟨Nat.le_of_ble_eq_true rfl, Nat.le_of_ble_eq_true rfl⟩) (va_recv hK.1 hP (ci := 3) (q0 := 8) rfl rfl) hP hK [8, 9, 10, 11, 12, 13, 14, 15, 16, 17, 18, 19, 20] rfl rfl hl.1 (Nat.le_of_ble_eq_true rfl) dX5_count_4 ⟨Nat.le_of_ble_eq_true rfl, Nat.le_of_ble_eq_true rfl⟩ hS (fun r H locs hw hP hS => ?_)
  obtain ⟨hw, hz3⟩ := hw
  have hw := hw.symm
  subst hw
  refine lv_if_ne (tgt := 20) hx hb dX5_count_7 (by decide) (fun c4 => ?_) (fun c4 => ?_)
  · have hF := itn c4 hF
    refine lv_aload_n hx hb dX5_count_20 rfl (lv_at hl 0 rfl) ?_
    obtain ⟨o5, h6, hF⟩ := obd hF
    refine wcPVv (As := []) (rest := []) (wr := ([] : List va_W).flatten) (b := (x 0)) ⟨hx, hb, hml, hown, hts⟩ (met_X5_saveState l dC dI cyI cyO x tr an b0 b1 b2 b3 b4 b5 fl fs _ N xv nv v0 v1 v2 v3 v4 v5 hs0 hs1 hs2 hs3 hs4 hs5 o5 h6) (cwV 0 hts (gV w_methodLink_X5_65 w_instanceMethod_X5_saveState w_selects_X5_saveState w_initialized_X5 w_code_X5_saveState) rfl rfl rfl (by decide +kernel) ⟨Nat.le_of_ble_eq_true rfl, Nat.le_of_ble_eq_true rfl⟩) (va_recv hK.1 hP (ci := 5) (q0 := 0) rfl rfl) hP hD hK (seg_perm (n := 14) (R := []) (C := [(cXo x an tr xv), (cH cyO (x 1) (x 2) 2 fl), (cXk cyI x xv), (cH cyO (x 4) (x 5) 6 fs), (cT cyI x (X_text xv)), (cSo an nv), (cG cyI an (S_green nv)), (cV cyI an (S_score nv)), (cS cyI b0 v0), (cS cyI b1 v1), (cS cyI b2 v2), (cS cyI b3 v3), (cS cyI b4 v4), (cS cyI b5 v5)]) [] [0, 1, 2, 3, 4, 5, 6, 7, 8, 9, 10, 11, 12, 13] rfl rfl rfl (by decide) rfl) rfl hl.1 (Nat.le_of_ble_eq_true rfl) dX5_count_21 ⟨Nat.le_of_ble_eq_true rfl, Nat.le_of_ble_eq_true rfl⟩ hS hA (fun u H locs hw hP hD hS => ?_)
    have hw := hw.symm
    subst hw
    have hq := seg_permS (segs := [(cXo x an tr o5.1), (cH cyO (x 1) (x 2) 2 fl), (cXk cyI x o5.1), (cH cyO (x 4) (x 5) 6 fs), (cT cyI x (X_text o5.1)), (cSo an o5.2.1), (cG cyI an (S_green o5.2.1)), (cV cyI an (S_score o5.2.1)), (cS cyI b0 o5.2.2.1), (cS cyI b1 o5.2.2.2.1), (cS cyI b2 o5.2.2.2.2.1), (cS cyI b3 o5.2.2.2.2.2.1), (cS cyI b4 o5.2.2.2.2.2.2.1), (cS cyI b5 o5.2.2.2.2.2.2.2)]) (R := []) (C := [(cXo x an tr o5.1), (cH cyO (x 1) (x 2) 2 fl), (cXk cyI x o5.1), (cH cyO (x 4) (x 5) 6 fs), (cT cyI x (X_text o5.1)), (cSo an o5.2.1), (cG cyI an (S_green o5.2.1)), (cV cyI an (S_score o5.2.1)), (cS cyI b0 o5.2.2.1), (cS cyI b1 o5.2.2.2.1), (cS cyI b2 o5.2.2.2.2.1), (cS cyI b3 o5.2.2.2.2.2.1), (cS cyI b4 o5.2.2.2.2.2.2.1), (cS cyI b5 o5.2.2.2.2.2.2.2)]) (n := 14) [] [0, 1, 2, 3, 4, 5, 6, 7, 8, 9, 10, 11, 12, 13] rfl rfl rfl (by decide)
    have hP : va_P (dC, dI) vwCl (([(cXo x an tr o5.1), (cH cyO (x 1) (x 2) 2 fl), (cXk cyI x o5.1), (cH cyO (x 4) (x 5) 6 fs), (cT cyI x (X_text o5.1)), (cSo an o5.2.1), (cG cyI an (S_green o5.2.1)), (cV cyI an (S_score o5.2.1)), (cS cyI b0 o5.2.2.1), (cS cyI b1 o5.2.2.2.1), (cS cyI b2 o5.2.2.2.2.1), (cS cyI b3 o5.2.2.2.2.2.1), (cS cyI b4 o5.2.2.2.2.2.2.1), (cS cyI b5 o5.2.2.2.2.2.2.2)] : List va_W).flatten) H := hP.perm hq
    have hD : va_D A (([(cXo x an tr o5.1), (cH cyO (x 1) (x 2) 2 fl), (cXk cyI x o5.1), (cH cyO (x 4) (x 5) 6 fs), (cT cyI x (X_text o5.1)), (cSo an o5.2.1), (cG cyI an (S_green o5.2.1)), (cV cyI an (S_score o5.2.1)), (cS cyI b0 o5.2.2.1), (cS cyI b1 o5.2.2.2.1), (cS cyI b2 o5.2.2.2.2.1), (cS cyI b3 o5.2.2.2.2.2.1), (cS cyI b4 o5.2.2.2.2.2.2.1), (cS cyI b5 o5.2.2.2.2.2.2.2)] : List va_W).flatten) := hD.perm hq
    clear hq
    refine lv_aload_n hx hb dX5_count_24 rfl (lv_at hl 0 rfl) ?_
    refine va_get (D := (dC, dI)) (ci := 5) (v := .ref (an 0)) (C := RX5) (T := TX5) (N := 8) hx hb hts inX5 hown hK.1 hP 0 rfl rfl 0 (by decide) (hts _ w_fieldLink_X5_12) (fun _ h9 => h9) rfl dX5_count_25 ?_
    obtain ⟨o7, h8, hF⟩ := obd hF
    refine wcPVi (As := []) (rest := []) (wr := ([(cXo x an tr o5.1), (cH cyO (x 1) (x 2) 2 fl), (cXk cyI x o5.1), (cH cyO (x 4) (x 5) 6 fs), (cT cyI x (X_text o5.1)), (cS cyI b0 o5.2.2.1), (cS cyI b1 o5.2.2.2.1), (cS cyI b2 o5.2.2.2.2.1), (cS cyI b3 o5.2.2.2.2.2.1), (cS cyI b4 o5.2.2.2.2.2.2.1), (cS cyI b5 o5.2.2.2.2.2.2.2)] : List va_W).flatten) (b := (an 0)) ⟨hx, hb, hml, hown, hts⟩ (met_X3_countEnd l dC dI cyI cyO an _ N o5.2.1  o7 h8) (cwV 0 hts (gV w_methodLink_X5_105 w_instanceMethod_X3_countEnd w_selects_X3_countEnd w_initialized_X3 w_code_X3_countEnd) rfl rfl rfl (by decide +kernel) ⟨Nat.le_of_ble_eq_true rfl, Nat.le_of_ble_eq_true rfl⟩) (va_recv hK.1 hP (ci := 3) (q0 := 8) rfl rfl) hP hD hK (seg_perm (n := 14) (R := [(cXo x an tr o5.1), (cH cyO (x 1) (x 2) 2 fl), (cXk cyI x o5.1), (cH cyO (x 4) (x 5) 6 fs), (cT cyI x (X_text o5.1)), (cS cyI b0 o5.2.2.1), (cS cyI b1 o5.2.2.2.1), (cS cyI b2 o5.2.2.2.2.1), (cS cyI b3 o5.2.2.2.2.2.1), (cS cyI b4 o5.2.2.2.2.2.2.1), (cS cyI b5 o5.2.2.2.2.2.2.2)]) (C := [(cSo an o5.2.1), (cG cyI an (S_green o5.2.1)), (cV cyI an (S_score o5.2.1))]) [0, 1, 2, 3, 4, 8, 9, 10, 11, 12, 13] [5, 6, 7] rfl rfl rfl (by decide) rfl) rfl hl.1 (Nat.le_of_ble_eq_true rfl) dX5_count_28 ⟨Nat.le_of_ble_eq_true rfl, Nat.le_of_ble_eq_true rfl⟩ hS hA (fun r u H locs hw hP hD hS => ?_)
    obtain rfl : r = o7.1 := congrArg Prod.fst hw
    obtain rfl : u = o7.2 := congrArg Prod.snd hw
    clear hw
    have hq := seg_permS (segs := [(cXo x an tr o5.1), (cH cyO (x 1) (x 2) 2 fl), (cXk cyI x o5.1), (cH cyO (x 4) (x 5) 6 fs), (cT cyI x (X_text o5.1)), (cSo an o7.2), (cG cyI an (S_green o7.2)), (cV cyI an (S_score o7.2)), (cS cyI b0 o5.2.2.1), (cS cyI b1 o5.2.2.2.1), (cS cyI b2 o5.2.2.2.2.1), (cS cyI b3 o5.2.2.2.2.2.1), (cS cyI b4 o5.2.2.2.2.2.2.1), (cS cyI b5 o5.2.2.2.2.2.2.2)]) (R := [(cXo x an tr o5.1), (cH cyO (x 1) (x 2) 2 fl), (cXk cyI x o5.1), (cH cyO (x 4) (x 5) 6 fs), (cT cyI x (X_text o5.1)), (cS cyI b0 o5.2.2.1), (cS cyI b1 o5.2.2.2.1), (cS cyI b2 o5.2.2.2.2.1), (cS cyI b3 o5.2.2.2.2.2.1), (cS cyI b4 o5.2.2.2.2.2.2.1), (cS cyI b5 o5.2.2.2.2.2.2.2)]) (C := [(cSo an o7.2), (cG cyI an (S_green o7.2)), (cV cyI an (S_score o7.2))]) (n := 14) [0, 1, 2, 3, 4, 8, 9, 10, 11, 12, 13] [5, 6, 7] rfl rfl rfl (by decide)
    have hP : va_P (dC, dI) vwCl (([(cXo x an tr o5.1), (cH cyO (x 1) (x 2) 2 fl), (cXk cyI x o5.1), (cH cyO (x 4) (x 5) 6 fs), (cT cyI x (X_text o5.1)), (cSo an o7.2), (cG cyI an (S_green o7.2)), (cV cyI an (S_score o7.2)), (cS cyI b0 o5.2.2.1), (cS cyI b1 o5.2.2.2.1), (cS cyI b2 o5.2.2.2.2.1), (cS cyI b3 o5.2.2.2.2.2.1), (cS cyI b4 o5.2.2.2.2.2.2.1), (cS cyI b5 o5.2.2.2.2.2.2.2)] : List va_W).flatten) H := hP.perm hq
    have hD : va_D A (([(cXo x an tr o5.1), (cH cyO (x 1) (x 2) 2 fl), (cXk cyI x o5.1), (cH cyO (x 4) (x 5) 6 fs), (cT cyI x (X_text o5.1)), (cSo an o7.2), (cG cyI an (S_green o7.2)), (cV cyI an (S_score o7.2)), (cS cyI b0 o5.2.2.1), (cS cyI b1 o5.2.2.2.1), (cS cyI b2 o5.2.2.2.2.1), (cS cyI b3 o5.2.2.2.2.2.1), (cS cyI b4 o5.2.2.2.2.2.2.1), (cS cyI b5 o5.2.2.2.2.2.2.2)] : List va_W).flatten) := hD.perm hq
    clear hq
    refine vx_ret ?_
    refine W.widen (k := 1) (n := 6) (Nat.le_of_ble_eq_true rfl) (Nat.le_of_ble_eq_true rfl) ?_
    exact W.iret (v := o7.1) hx hb hr (fun t ht hW => ⟨⟨_, (o5.1, o7.2, o5.2.2.1, o5.2.2.2.1, o5.2.2.2.2.1, o5.2.2.2.2.2.1, o5.2.2.2.2.2.2.1, o5.2.2.2.2.2.2.2), rfl, Option.some.inj hF, by rw [ht]; exact hP, hD⟩, hS.F ht⟩) hS.2.2 dX5_count_31
  · have hF := itp c4 hF
    have hF9 : ((Sum.inl 1 : Nat ⊕ Int32), (xv, nv, v0, v1, v2, v3, v4, v5)) = out := Option.some.inj hF
    exact thrW_1 (w1 := fun (u : XV × SV × SV × SV × SV × SV × SV × SV) => (([(cXo x an tr u.1), (cH cyO (x 1) (x 2) 2 fl), (cXk cyI x u.1), (cH cyO (x 4) (x 5) 6 fs), (cT cyI x (X_text u.1)), (cSo an u.2.1), (cG cyI an (S_green u.2.1)), (cV cyI an (S_score u.2.1)), (cS cyI b0 u.2.2.1), (cS cyI b1 u.2.2.2.1), (cS cyI b2 u.2.2.2.2.1), (cS cyI b3 u.2.2.2.2.2.1), (cS cyI b4 u.2.2.2.2.2.2.1), (cS cyI b5 u.2.2.2.2.2.2.2)] : List va_W).flatten)) (v := (xv, nv, v0, v1, v2, v3, v4, v5)) hF9 hP hD hx hb hst (is := 103) (text := "there is no end to be counted") hown hts hZ hAz hS (hl.1.trans hml.symm) (by decide) dX5_count_10 dX5_count_13 dX5_count_14 dX5_count_16 dX5_count_19 htx (Nat.le_of_ble_eq_true rfl) (Nat.le_of_ble_eq_true rfl) (Nat.le_of_ble_eq_true rfl) (Nat.le_of_ble_eq_true rfl) hlocks (Nat.le_of_ble_eq_true rfl) (Nat.le_of_ble_eq_true rfl)
theorem dX5_begin_0 : decode cX5_begin 0 = .ok (.iload_n 1, 1) := by decide +kernel
theorem dX5_begin_1 : decode cX5_begin 1 = .ok (.iconst 1, 1) := by decide +kernel
theorem dX5_begin_2 : decode cX5_begin 2 = .ok (.if_icmp .lt 9, 3) := by decide +kernel
theorem dX5_begin_5 : decode cX5_begin 5 = .ok (.iload_n 1, 1) := by decide +kernel
theorem dX5_begin_6 : decode cX5_begin 6 = .ok (.bipush 50, 2) := by decide +kernel
theorem dX5_begin_8 : decode cX5_begin 8 = .ok (.if_icmp .le 13, 3) := by decide +kernel
theorem dX5_begin_11 : decode cX5_begin 11 = .ok (.new 49, 3) := by decide +kernel
theorem dX5_begin_14 : decode cX5_begin 14 = .ok (.dup, 1) := by decide +kernel
theorem dX5_begin_15 : decode cX5_begin 15 = .ok (.ldc 108, 2) := by decide +kernel
theorem dX5_begin_17 : decode cX5_begin 17 = .ok (.invokespecial 53, 3) := by decide +kernel
theorem dX5_begin_20 : decode cX5_begin 20 = .ok (.athrow, 1) := by decide +kernel
theorem dX5_begin_21 : decode cX5_begin 21 = .ok (.aload_n 0, 1) := by decide +kernel
theorem dX5_begin_22 : decode cX5_begin 22 = .ok (.invokevirtual 65, 3) := by decide +kernel
theorem dX5_begin_25 : decode cX5_begin 25 = .ok (.aload_n 0, 1) := by decide +kernel
theorem dX5_begin_26 : decode cX5_begin 26 = .ok (.getfield 12, 3) := by decide +kernel
theorem dX5_begin_29 : decode cX5_begin 29 = .ok (.getfield 110, 3) := by decide +kernel
theorem dX5_begin_32 : decode cX5_begin 32 = .ok (.getfield 114, 3) := by decide +kernel
theorem dX5_begin_35 : decode cX5_begin 35 = .ok (.istore_n 2, 1) := by decide +kernel
theorem dX5_begin_36 : decode cX5_begin 36 = .ok (.aload_n 0, 1) := by decide +kernel
theorem dX5_begin_37 : decode cX5_begin 37 = .ok (.getfield 12, 3) := by decide +kernel
theorem dX5_begin_40 : decode cX5_begin 40 = .ok (.getfield 90, 3) := by decide +kernel
theorem dX5_begin_43 : decode cX5_begin 43 = .ok (.invokevirtual 119, 3) := by decide +kernel
theorem dX5_begin_46 : decode cX5_begin 46 = .ok (.aload_n 0, 1) := by decide +kernel
theorem dX5_begin_47 : decode cX5_begin 47 = .ok (.getfield 12, 3) := by decide +kernel
theorem dX5_begin_50 : decode cX5_begin 50 = .ok (.getfield 110, 3) := by decide +kernel
theorem dX5_begin_53 : decode cX5_begin 53 = .ok (.iload_n 1, 1) := by decide +kernel
theorem dX5_begin_54 : decode cX5_begin 54 = .ok (.invokevirtual 122, 3) := by decide +kernel
theorem dX5_begin_57 : decode cX5_begin 57 = .ok (.iload_n 2, 1) := by decide +kernel
theorem dX5_begin_58 : decode cX5_begin 58 = .ok (.ireturn, 1) := by decide +kernel
def f_X5_begin (N : Nat) (xv : XV) (nv : SV) (v0 : SV) (v1 : SV) (v2 : SV) (v3 : SV) (v4 : SV) (v5 : SV) (p1 : Int32) : Option ((Nat ⊕ Int32) × (XV × SV × SV × SV × SV × SV × SV × SV)) :=
  jn (fun (s11 : Unit) => some (Sum.inl 0, (xv, nv, v0, v1, v2, v3, v4, v5))) (fun (j11 : (Unit) → Option ((Nat ⊕ Int32) × (XV × SV × SV × SV × SV × SV × SV × SV))) => (if p1 < (1 : Int32) then j11 () else (if p1 ≤ (50 : Int32) then (f_X5_saveState N xv nv v0 v1 v2 v3 v4 v5).bind (fun o3 => (f_X0_takeAway N (S_green o3.2.1)).bind (fun o5 => (f_X1_startMatch N (S_score o3.2.1) p1).bind (fun o7 => some ((Sum.inr (V_pointsNeeded (S_score o3.2.1))), (o3.1, (S_set_score (S_set_green o3.2.1 o5) o7), o3.2.2.1, o3.2.2.2.1, o3.2.2.2.2.1, o3.2.2.2.2.2.1, o3.2.2.2.2.2.2.1, o3.2.2.2.2.2.2.2))))) else j11 ())))
set_option maxHeartbeats 4000000 in
set_option maxRecDepth 100000 in
theorem met_X5_begin (l : Launch) (z0 : Nat) (hst : l.stackTraces = false) (dC : Nat → ClassId) (dI : Nat → Nat → Nat) (cyI cyO : ClassId) (x : Nat → Nat) (tr : Nat → Nat) (an : Nat → Nat) (b0 : Nat → Nat) (b1 : Nat → Nat) (b2 : Nat → Nat) (b3 : Nat → Nat) (b4 : Nat → Nat) (b5 : Nat → Nat) (fl fs : Nat → Option Nat) (sz : Nat) (N : Nat) (xv : XV) (nv : SV) (v0 : SV) (v1 : SV) (v2 : SV) (v3 : SV) (v4 : SV) (v5 : SV) (p1 : Int32) (hs0 : fs 0 = some (b0 0)) (hs1 : fs 1 = some (b1 0)) (hs2 : fs 2 = some (b2 0)) (hs3 : fs 3 = some (b3 0)) (hs4 : fs 4 = some (b4 0)) (hs5 : fs 5 = some (b5 0)) (out : (Nat ⊕ Int32) × (XV × SV × SV × SV × SV × SV × SV × SV)) (hF : f_X5_begin N xv nv v0 v1 v2 v3 v4 v5 p1 = some out) : vx_Met l yX5_begin (Cond.code yX5_begin cX5_begin 3 (some .int) :: wT) ({ frames := 6, cells := 1, slots := 6, locals := 107 } : Room) (wWrX z0 dC dI cyI cyO [.ref (x 0), .int p1] (([(cXo x an tr xv), (cH cyO (x 1) (x 2) 2 fl), (cXk cyI x xv), (cH cyO (x 4) (x 5) 6 fs), (cT cyI x (X_text xv)), (cSo an nv), (cG cyI an (S_green nv)), (cV cyI an (S_score nv)), (cS cyI b0 v0), (cS cyI b1 v1), (cS cyI b2 v2), (cS cyI b3 v3), (cS cyI b4 v4), (cS cyI b5 v5)] : List va_W).flatten) sz) (va_Qi (fun (r : Int32) (u : XV × SV × SV × SV × SV × SV × SV × SV) => (Sum.inr r, u) = out) (fun u t => va_P (dC, dI) vwCl (([(cXo x an tr u.1), (cH cyO (x 1) (x 2) 2 fl), (cXk cyI x u.1), (cH cyO (x 4) (x 5) 6 fs), (cT cyI x (X_text u.1)), (cSo an u.2.1), (cG cyI an (S_green u.2.1)), (cV cyI an (S_score u.2.1)), (cS cyI b0 u.2.2.1), (cS cyI b1 u.2.2.2.1), (cS cyI b2 u.2.2.2.2.1), (cS cyI b3 u.2.2.2.2.2.1), (cS cyI b4 u.2.2.2.2.2.2.1), (cS cyI b5 u.2.2.2.2.2.2.2)] : List va_W).flatten) t.heap ∧ va_D (va_A (([(cXo x an tr xv), (cH cyO (x 1) (x 2) 2 fl), (cXk cyI x xv), (cH cyO (x 4) (x 5) 6 fs), (cT cyI x (X_text xv)), (cSo an nv), (cG cyI an (S_green nv)), (cV cyI an (S_score nv)), (cS cyI b0 v0), (cS cyI b1 v1), (cS cyI b2 v2), (cS cyI b3 v3), (cS cyI b4 v4), (cS cyI b5 v5)] : List va_W).flatten) sz) (([(cXo x an tr u.1), (cH cyO (x 1) (x 2) 2 fl), (cXk cyI x u.1), (cH cyO (x 4) (x 5) 6 fs), (cT cyI x (X_text u.1)), (cSo an u.2.1), (cG cyI an (S_green u.2.1)), (cV cyI an (S_score u.2.1)), (cS cyI b0 u.2.2.1), (cS cyI b1 u.2.2.2.1), (cS cyI b2 u.2.2.2.2.1), (cS cyI b3 u.2.2.2.2.2.1), (cS cyI b4 u.2.2.2.2.2.2.1), (cS cyI b5 u.2.2.2.2.2.2.2)] : List va_W).flatten)) (va_A (([(cXo x an tr xv), (cH cyO (x 1) (x 2) 2 fl), (cXk cyI x xv), (cH cyO (x 4) (x 5) 6 fs), (cT cyI x (X_text xv)), (cSo an nv), (cG cyI an (S_green nv)), (cV cyI an (S_score nv)), (cS cyI b0 v0), (cS cyI b1 v1), (cS cyI b2 v2), (cS cyI b3 v3), (cS cyI b4 v4), (cS cyI b5 v5)] : List va_W).flatten) sz)) (xcW dC dI Int32 (fun (u : XV × SV × SV × SV × SV × SV × SV × SV) => (([(cXo x an tr u.1), (cH cyO (x 1) (x 2) 2 fl), (cXk cyI x u.1), (cH cyO (x 4) (x 5) 6 fs), (cT cyI x (X_text u.1)), (cSo an u.2.1), (cG cyI an (S_green u.2.1)), (cV cyI an (S_score u.2.1)), (cS cyI b0 u.2.2.1), (cS cyI b1 u.2.2.2.1), (cS cyI b2 u.2.2.2.2.1), (cS cyI b3 u.2.2.2.2.2.1), (cS cyI b4 u.2.2.2.2.2.2.1), (cS cyI b5 u.2.2.2.2.2.2.2)] : List va_W).flatten)) (va_A (([(cXo x an tr xv), (cH cyO (x 1) (x 2) 2 fl), (cXk cyI x xv), (cH cyO (x 4) (x 5) 6 fs), (cT cyI x (X_text xv)), (cSo an nv), (cG cyI an (S_green nv)), (cV cyI an (S_score nv)), (cS cyI b0 v0), (cS cyI b1 v1), (cS cyI b2 v2), (cS cyI b3 v3), (cS cyI b4 v4), (cS cyI b5 v5)] : List va_W).flatten) sz) out) 1 6 (va_A (([(cXo x an tr xv), (cH cyO (x 1) (x 2) 2 fl), (cXk cyI x xv), (cH cyO (x 4) (x 5) 6 fs), (cT cyI x (X_text xv)), (cSo an nv), (cG cyI an (S_green nv)), (cV cyI an (S_score nv)), (cS cyI b0 v0), (cS cyI b1 v1), (cS cyI b2 v2), (cS cyI b3 v3), (cS cyI b4 v4), (cS cyI b5 v5)] : List va_W).flatten) sz) := by
  refine vx_ofW (cc := cX5_begin) (maxL := 3) (ret := (some .int)) (by decide) rfl ?_
  intro p e s m args below meth c s₁ B hml htx hv
  obtain ⟨rfl, hsz, hP, hK, hD0, hz0, hZ⟩ := hv
  have hx := B.exec
  have hb := B.bytes
  have hr := B.returns
  have hts0 := atoms_spec (ws := (Cond.code yX5_begin cX5_begin 3 (some .int) :: wT)) B.pre
  have hts := fun w h => hts0 w (List.mem_cons_of_mem _ h)
  clear hts0
  have hown : s.vm.findClass RX5 = some m.cls := findClass_of_methodNamed B.named
  have hlocks := B.notSynchronized
  subst hsz
  have hD := hD0.self (sz := s.heap.size)
  have hAz := wA_ge hD0 hz0
  generalize hAe : va_A (([(cXo x an tr xv), (cH cyO (x 1) (x 2) 2 fl), (cXk cyI x xv), (cH cyO (x 4) (x 5) 6 fs), (cT cyI x (X_text xv)), (cSo an nv), (cG cyI an (S_green nv)), (cV cyI an (S_score nv)), (cS cyI b0 v0), (cS cyI b1 v1), (cS cyI b2 v2), (cS cyI b3 v3), (cS cyI b4 v4), (cS cyI b5 v5)] : List va_W).flatten) s.heap.size = A at hD hAz ⊢
  have hA : ∀ q : Nat, s.heap.size ≤ q → A q := fun q h => by rw [← hAe]; exact Or.inr h
  clear hD0
  have hS : va_S A s.heap s.heap [] := va_S.rf
  have hl := lv_entry [.ref (x 0), .int p1] (n := 3) (Nat.le_of_ble_eq_true rfl)
  rw [lg_entry_eq]
  generalize (lg_sl [.ref (x 0), .int p1] ++ List.replicate (3 - (lg_sl [.ref (x 0), .int p1]).length) Slot.unset).toArray = ls at hl ⊢
  have hl : lv_has ls 3 [(0, .ref (x 0)), (1, .int p1)] := hl
  unfold f_X5_begin at hF
  refine lv_iload_n hx hb dX5_begin_0 rfl (lv_at hl 1 rfl) ?_
  refine lv_iconst (v := 1) hx hb dX5_begin_1 (by decide) ?_
  obtain ⟨j11, hj11, hF⟩ := jn_use hF
  have hJ11 : ∀ (s11 : Unit) (H : Heap) (locs : List Loc) (ls : Array Slot), va_P (dC, dI) vwCl (([(cXo x an tr xv), (cH cyO (x 1) (x 2) 2 fl), (cXk cyI x xv), (cH cyO (x 4) (x 5) 6 fs), (cT cyI x (X_text xv)), (cSo an nv), (cG cyI an (S_green nv)), (cV cyI an (S_score nv)), (cS cyI b0 v0), (cS cyI b1 v1), (cS cyI b2 v2), (cS cyI b3 v3), (cS cyI b4 v4), (cS cyI b5 v5)] : List va_W).flatten) H → va_D A (([(cXo x an tr xv), (cH cyO (x 1) (x 2) 2 fl), (cXk cyI x xv), (cH cyO (x 4) (x 5) 6 fs), (cT cyI x (X_text xv)), (cSo an nv), (cG cyI an (S_green nv)), (cV cyI an (S_score nv)), (cS cyI b0 v0), (cS cyI b1 v1), (cS cyI b2 v2), (cS cyI b3 v3), (cS cyI b4 v4), (cS cyI b5 v5)] : List va_W).flatten) → va_S A s.heap H locs → lv_has ls 3 [] → j11 s11 = some out → W p l e (headSpec (Cond.code yX5_begin cX5_begin 3 (some .int) :: wT) ({ frames := 6, cells := 1, slots := 6, locals := 107 } : Room)).room s m ([.ref (x 0), .int p1] : List Value).toArray below meth c H locs 0 0 (vx_MQ below (va_Qi (fun (r : Int32) (u : XV × SV × SV × SV × SV × SV × SV × SV) => (Sum.inr r, u) = out) (fun u t => va_P (dC, dI) vwCl (([(cXo x an tr u.1), (cH cyO (x 1) (x 2) 2 fl), (cXk cyI x u.1), (cH cyO (x 4) (x 5) 6 fs), (cT cyI x (X_text u.1)), (cSo an u.2.1), (cG cyI an (S_green u.2.1)), (cV cyI an (S_score u.2.1)), (cS cyI b0 u.2.2.1), (cS cyI b1 u.2.2.2.1), (cS cyI b2 u.2.2.2.2.1), (cS cyI b3 u.2.2.2.2.2.1), (cS cyI b4 u.2.2.2.2.2.2.1), (cS cyI b5 u.2.2.2.2.2.2.2)] : List va_W).flatten) t.heap ∧ va_D A (([(cXo x an tr u.1), (cH cyO (x 1) (x 2) 2 fl), (cXk cyI x u.1), (cH cyO (x 4) (x 5) 6 fs), (cT cyI x (X_text u.1)), (cSo an u.2.1), (cG cyI an (S_green u.2.1)), (cV cyI an (S_score u.2.1)), (cS cyI b0 u.2.2.1), (cS cyI b1 u.2.2.2.1), (cS cyI b2 u.2.2.2.2.1), (cS cyI b3 u.2.2.2.2.2.1), (cS cyI b4 u.2.2.2.2.2.2.1), (cS cyI b5 u.2.2.2.2.2.2.2)] : List va_W).flatten)) A) (xcW dC dI Int32 (fun (u : XV × SV × SV × SV × SV × SV × SV × SV) => (([(cXo x an tr u.1), (cH cyO (x 1) (x 2) 2 fl), (cXk cyI x u.1), (cH cyO (x 4) (x 5) 6 fs), (cT cyI x (X_text u.1)), (cSo an u.2.1), (cG cyI an (S_green u.2.1)), (cV cyI an (S_score u.2.1)), (cS cyI b0 u.2.2.1), (cS cyI b1 u.2.2.2.1), (cS cyI b2 u.2.2.2.2.1), (cS cyI b3 u.2.2.2.2.2.1), (cS cyI b4 u.2.2.2.2.2.2.1), (cS cyI b5 u.2.2.2.2.2.2.2)] : List va_W).flatten)) A out) ([.ref (x 0), .int p1] : List Value).toArray s 1 6 A) (F0 m 11 ls []) := by
    intro s11 H locs ls hP hD hS hl hF
    have hF := (congrFun hj11 s11).symm.trans hF
    have hF9 : ((Sum.inl 0 : Nat ⊕ Int32), (xv, nv, v0, v1, v2, v3, v4, v5)) = out := Option.some.inj hF
    exact thrW_0 (w1 := fun (u : XV × SV × SV × SV × SV × SV × SV × SV) => (([(cXo x an tr u.1), (cH cyO (x 1) (x 2) 2 fl), (cXk cyI x u.1), (cH cyO (x 4) (x 5) 6 fs), (cT cyI x (X_text u.1)), (cSo an u.2.1), (cG cyI an (S_green u.2.1)), (cV cyI an (S_score u.2.1)), (cS cyI b0 u.2.2.1), (cS cyI b1 u.2.2.2.1), (cS cyI b2 u.2.2.2.2.1), (cS cyI b3 u.2.2.2.2.2.1), (cS cyI b4 u.2.2.2.2.2.2.1), (cS cyI b5 u.2.2.2.2.2.2.2)] : List va_W).flatten)) (v := (xv, nv, v0, v1, v2, v3, v4, v5)) hF9 hP hD hx hb hst (is := 108) (text := "points is out of range") hown hts hZ hAz hS (hl.1.trans hml.symm) (by decide) dX5_begin_11 dX5_begin_14 dX5_begin_15 dX5_begin_17 dX5_begin_20 htx (Nat.le_of_ble_eq_true rfl) (Nat.le_of_ble_eq_true rfl) (Nat.le_of_ble_eq_true rfl) (Nat.le_of_ble_eq_true rfl) hlocks (Nat.le_of_ble_eq_true rfl) (Nat.le_of_ble_eq_true rfl)
  refine lv_icmp_lt (tgt := 11) hx hb dX5_begin_2 (by decide) (fun c1 => ?_) (fun c1 => ?_)
  · have hF := itp c1 hF
    exact hJ11 () _ _ _ hP hD hS (lv_sub hl [] rfl) hF
  · have hF := itn c1 hF
    refine lv_iload_n hx hb dX5_begin_5 rfl (lv_at hl 1 rfl) ?_
    refine lv_bipush (v := 50) hx hb dX5_begin_6 (by decide) ?_
    refine lv_icmp_le (tgt := 21) hx hb dX5_begin_8 (by decide) (fun c2 => ?_) (fun c2 => ?_)
    · have hF := itp c2 hF
      refine lv_aload_n hx hb dX5_begin_21 rfl (lv_at hl 0 rfl) ?_
      obtain ⟨o3, h4, hF⟩ := obd hF
      refine wcPVv (As := []) (rest := []) (wr := ([] : List va_W).flatten) (b := (x 0)) ⟨hx, hb, hml, hown, hts⟩ (met_X5_saveState l dC dI cyI cyO x tr an b0 b1 b2 b3 b4 b5 fl fs _ N xv nv v0 v1 v2 v3 v4 v5 hs0 hs1 hs2 hs3 hs4 hs5 o3 h4) (cwV 0 hts (gV w_methodLink_X5_65 w_instanceMethod_X5_saveState w_selects_X5_saveState w_initialized_X5 w_code_X5_saveState) rfl rfl rfl (by decide +kernel) ⟨Nat.le_of_ble_eq_true rfl, Nat.le_of_ble_eq_true rfl⟩) (va_recv hK.1 hP (ci := 5) (q0 := 0) rfl rfl) hP hD hK (seg_perm (n := 14) (R := []) (C := [(cXo x an tr xv), (cH cyO (x 1) (x 2) 2 fl), (cXk cyI x xv), (cH cyO (x 4) (x 5) 6 fs), (cT cyI x (X_text xv)), (cSo an nv), (cG cyI an (S_green nv)), (cV cyI an (S_score nv)), (cS cyI b0 v0), (cS cyI b1 v1), (cS cyI b2 v2), (cS cyI b3 v3), (cS cyI b4 v4), (cS cyI b5 v5)]) [] [0, 1, 2, 3, 4, 5, 6, 7, 8, 9, 10, 11, 12, 13] rfl rfl rfl (by decide) rfl) rfl hl.1 (Nat.le_of_ble_eq_true rfl) dX5_begin_22 ⟨Nat.le_of_ble_eq_true rfl, Nat.le_of_ble_eq_true rfl⟩ hS hA (fun u H locs hw hP hD hS => ?_)
      have hw := hw.symm
      subst hw
      have hq := seg_permS (segs := [(cXo x an tr o3.1), (cH cyO (x 1) (x 2) 2 fl), (cXk cyI x o3.1), (cH cyO (x 4) (x 5) 6 fs), (cT cyI x (X_text o3.1)), (cSo an o3.2.1), (cG cyI an (S_green o3.2.1)), (cV cyI an (S_score o3.2.1)), (cS cyI b0 o3.2.2.1), (cS cyI b1 o3.2.2.2.1), (cS cyI b2 o3.2.2.2.2.1), (cS cyI b3 o3.2.2.2.2.2.1), (cS cyI b4 o3.2.2.2.2.2.2.1), (cS cyI b5 o3.2.2.2.2.2.2.2)]) (R := []) (C := [(cXo x an tr o3.1), (cH cyO (x 1) (x 2) 2 fl), (cXk cyI x o3.1), (cH cyO (x 4) (x 5) 6 fs), (cT cyI x (X_text o3.1)), (cSo an o3.2.1), (cG cyI an (S_green o3.2.1)), (cV cyI an (S_score o3.2.1)), (cS cyI b0 o3.2.2.1), (cS cyI b1 o3.2.2.2.1), (cS cyI b2 o3.2.2.2.2.1), (cS cyI b3 o3.2.2.2.2.2.1), (cS cyI b4 o3.2.2.2.2.2.2.1), (cS cyI b5 o3.2.2.2.2.2.2.2)]) (n := 14) [] [0, 1, 2, 3, 4, 5, 6, 7, 8, 9, 10, 11, 12, 13] rfl rfl rfl (by decide)
      have hP : va_P (dC, dI) vwCl (([(cXo x an tr o3.1), (cH cyO (x 1) (x 2) 2 fl), (cXk cyI x o3.1), (cH cyO (x 4) (x 5) 6 fs), (cT cyI x (X_text o3.1)), (cSo an o3.2.1), (cG cyI an (S_green o3.2.1)), (cV cyI an (S_score o3.2.1)), (cS cyI b0 o3.2.2.1), (cS cyI b1 o3.2.2.2.1), (cS cyI b2 o3.2.2.2.2.1), (cS cyI b3 o3.2.2.2.2.2.1), (cS cyI b4 o3.2.2.2.2.2.2.1), (cS cyI b5 o3.2.2.2.2.2.2.2)] : List va_W).flatten) H := hP.perm hq
      have hD : va_D A (([(cXo x an tr o3.1), (cH cyO (x 1) (x 2) 2 fl), (cXk cyI x o3.1), (cH cyO (x 4) (x 5) 6 fs), (cT cyI x (X_text o3.1)), (cSo an o3.2.1), (cG cyI an (S_green o3.2.1)), (cV cyI an (S_score o3.2.1)), (cS cyI b0 o3.2.2.1), (cS cyI b1 o3.2.2.2.1), (cS cyI b2 o3.2.2.2.2.1), (cS cyI b3 o3.2.2.2.2.2.1), (cS cyI b4 o3.2.2.2.2.2.2.1), (cS cyI b5 o3.2.2.2.2.2.2.2)] : List va_W).flatten) := hD.perm hq
      clear hq
      refine lv_aload_n hx hb dX5_begin_25 rfl (lv_at hl 0 rfl) ?_
      refine va_get (D := (dC, dI)) (ci := 5) (v := .ref (an 0)) (C := RX5) (T := TX5) (N := 8) hx hb hts inX5 hown hK.1 hP 0 rfl rfl 0 (by decide) (hts _ w_fieldLink_X5_12) (fun _ h9 => h9) rfl dX5_begin_26 ?_
      refine va_get (D := (dC, dI)) (ci := 3) (v := .ref (an 9)) (C := RX3) (T := TX3) (N := 6) hx hb hts inX3 hown hK.1 hP 8 rfl rfl 1 (by decide) (hts _ w_fieldLink_X5_110) (fun _ h9 => h9) rfl dX5_begin_29 ?_
      refine va_get (D := (dC, dI)) (ci := 1) (v := .int (V_pointsNeeded (S_score o3.2.1))) (C := RX1) (T := TX1) (N := 11) hx hb hts inX1 hown hK.1 hP 17 rfl rfl 3 (by decide) (hts _ w_fieldLink_X5_114) (fun _ h9 => h9) rfl dX5_begin_32 ?_
      refine lv_istore_n (lv' := [(2, .int (V_pointsNeeded (S_score o3.2.1))), (0, .ref (x 0)), (1, .int p1)]) hx hb dX5_begin_35 rfl hl (by decide) rfl (fun ls hl => ?_)
      refine lv_aload_n hx hb dX5_begin_36 rfl (lv_at hl 1 rfl) ?_
      refine va_get (D := (dC, dI)) (ci := 5) (v := .ref (an 0)) (C := RX5) (T := TX5) (N := 8) hx hb hts inX5 hown hK.1 hP 0 rfl rfl 0 (by decide) (hts _ w_fieldLink_X5_12) (fun _ h9 => h9) rfl dX5_begin_37 ?_
      refine va_get (D := (dC, dI)) (ci := 3) (v := .ref (an 1)) (C := RX3) (T := TX3) (N := 6) hx hb hts inX3 hown hK.1 hP 8 rfl rfl 0 (by decide) (hts _ w_fieldLink_X5_90) (fun _ h9 => h9) rfl dX5_begin_40 ?_
      obtain ⟨o5, h6, hF⟩ := obd hF
      refine wcPVv (As := []) (rest := []) (wr := ([(cXo x an tr o3.1), (cH cyO (x 1) (x 2) 2 fl), (cXk cyI x o3.1), (cH cyO (x 4) (x 5) 6 fs), (cT cyI x (X_text o3.1)), (cSo an o3.2.1), (cV cyI an (S_score o3.2.1)), (cS cyI b0 o3.2.2.1), (cS cyI b1 o3.2.2.2.1), (cS cyI b2 o3.2.2.2.2.1), (cS cyI b3 o3.2.2.2.2.2.1), (cS cyI b4 o3.2.2.2.2.2.2.1), (cS cyI b5 o3.2.2.2.2.2.2.2)] : List va_W).flatten) (b := (an 1)) ⟨hx, hb, hml, hown, hts⟩ (met_X0_takeAway l dC dI cyI cyO an _ N (S_green o3.2.1)  o5 h6) (cwV 0 hts (gV w_methodLink_X5_119 w_instanceMethod_X0_takeAway w_selects_X0_takeAway w_initialized_X0 w_code_X0_takeAway) rfl rfl rfl (by decide +kernel) ⟨Nat.le_of_ble_eq_true rfl, Nat.le_of_ble_eq_true rfl⟩) (va_recv hK.1 hP (ci := 0) (q0 := 9) rfl rfl) hP hD hK (seg_perm (n := 14) (R := [(cXo x an tr o3.1), (cH cyO (x 1) (x 2) 2 fl), (cXk cyI x o3.1), (cH cyO (x 4) (x 5) 6 fs), (cT cyI x (X_text o3.1)), (cSo an o3.2.1), (cV cyI an (S_score o3.2.1)), (cS cyI b0 o3.2.2.1), (cS cyI b1 o3.2.2.2.1), (cS cyI b2 o3.2.2.2.2.1), (cS cyI b3 o3.2.2.2.2.2.1), (cS cyI b4 o3.2.2.2.2.2.2.1), (cS cyI b5 o3.2.2.2.2.2.2.2)]) (C := [(cG cyI an (S_green o3.2.1))]) [0, 1, 2, 3, 4, 5, 7, 8, 9, 10, 11, 12, 13] [6] rfl rfl rfl (by decide) rfl) rfl hl.1 (Nat.le_of_ble_eq_true rfl) dX5_begin_43 ⟨Nat.le_of_ble_eq_true rfl, Nat.le_of_ble_eq_true rfl⟩ hS hA (fun u H locs hw hP hD hS => ?_)
      have hw := hw.symm
      subst hw
      have hq := seg_permS (segs := [(cXo x an tr o3.1), (cH cyO (x 1) (x 2) 2 fl), (cXk cyI x o3.1), (cH cyO (x 4) (x 5) 6 fs), (cT cyI x (X_text o3.1)), (cSo an (S_set_green o3.2.1 o5)), (cG cyI an (S_green (S_set_green o3.2.1 o5))), (cV cyI an (S_score (S_set_green o3.2.1 o5))), (cS cyI b0 o3.2.2.1), (cS cyI b1 o3.2.2.2.1), (cS cyI b2 o3.2.2.2.2.1), (cS cyI b3 o3.2.2.2.2.2.1), (cS cyI b4 o3.2.2.2.2.2.2.1), (cS cyI b5 o3.2.2.2.2.2.2.2)]) (R := [(cXo x an tr o3.1), (cH cyO (x 1) (x 2) 2 fl), (cXk cyI x o3.1), (cH cyO (x 4) (x 5) 6 fs), (cT cyI x (X_text o3.1)), (cSo an o3.2.1), (cV cyI an (S_score o3.2.1)), (cS cyI b0 o3.2.2.1), (cS cyI b1 o3.2.2.2.1), (cS cyI b2 o3.2.2.2.2.1), (cS cyI b3 o3.2.2.2.2.2.1), (cS cyI b4 o3.2.2.2.2.2.2.1), (cS cyI b5 o3.2.2.2.2.2.2.2)]) (C := [(cG cyI an (S_green (S_set_green o3.2.1 o5)))]) (n := 14) [0, 1, 2, 3, 4, 5, 7, 8, 9, 10, 11, 12, 13] [6] rfl rfl rfl (by decide)
      have hP : va_P (dC, dI) vwCl (([(cXo x an tr o3.1), (cH cyO (x 1) (x 2) 2 fl), (cXk cyI x o3.1), (cH cyO (x 4) (x 5) 6 fs), (cT cyI x (X_text o3.1)), (cSo an (S_set_green o3.2.1 o5)), (cG cyI an (S_green (S_set_green o3.2.1 o5))), (cV cyI an (S_score (S_set_green o3.2.1 o5))), (cS cyI b0 o3.2.2.1), (cS cyI b1 o3.2.2.2.1), (cS cyI b2 o3.2.2.2.2.1), (cS cyI b3 o3.2.2.2.2.2.1), (cS cyI b4 o3.2.2.2.2.2.2.1), (cS cyI b5 o3.2.2.2.2.2.2.2)] : List va_W).flatten) H := hP.perm hq
      have hD : va_D A (([(cXo x an tr o3.1), (cH cyO (x 1) (x 2) 2 fl), (cXk cyI x o3.1), (cH cyO (x 4) (x 5) 6 fs), (cT cyI x (X_text o3.1)), (cSo an (S_set_green o3.2.1 o5)), (cG cyI an (S_green (S_set_green o3.2.1 o5))), (cV cyI an (S_score (S_set_green o3.2.1 o5))), (cS cyI b0 o3.2.2.1), (cS cyI b1 o3.2.2.2.1), (cS cyI b2 o3.2.2.2.2.1), (cS cyI b3 o3.2.2.2.2.2.1), (cS cyI b4 o3.2.2.2.2.2.2.1), (cS cyI b5 o3.2.2.2.2.2.2.2)] : List va_W).flatten) := hD.perm hq
      clear hq
      refine lv_aload_n hx hb dX5_begin_46 rfl (lv_at hl 1 rfl) ?_
      refine va_get (D := (dC, dI)) (ci := 5) (v := .ref (an 0)) (C := RX5) (T := TX5) (N := 8) hx hb hts inX5 hown hK.1 hP 0 rfl rfl 0 (by decide) (hts _ w_fieldLink_X5_12) (fun _ h9 => h9) rfl dX5_begin_47 ?_
      refine va_get (D := (dC, dI)) (ci := 3) (v := .ref (an 9)) (C := RX3) (T := TX3) (N := 6) hx hb hts inX3 hown hK.1 hP 8 rfl rfl 1 (by decide) (hts _ w_fieldLink_X5_110) (fun _ h9 => h9) rfl dX5_begin_50 ?_
      refine lv_iload_n hx hb dX5_begin_53 rfl (lv_at hl 2 rfl) ?_
      obtain ⟨o7, h8, hF⟩ := obd hF
      refine wcPVv (As := [.int p1]) (rest := []) (wr := ([(cXo x an tr o3.1), (cH cyO (x 1) (x 2) 2 fl), (cXk cyI x o3.1), (cH cyO (x 4) (x 5) 6 fs), (cT cyI x (X_text o3.1)), (cSo an (S_set_green o3.2.1 o5)), (cG cyI an (S_green (S_set_green o3.2.1 o5))), (cS cyI b0 o3.2.2.1), (cS cyI b1 o3.2.2.2.1), (cS cyI b2 o3.2.2.2.2.1), (cS cyI b3 o3.2.2.2.2.2.1), (cS cyI b4 o3.2.2.2.2.2.2.1), (cS cyI b5 o3.2.2.2.2.2.2.2)] : List va_W).flatten) (b := (an 9)) ⟨hx, hb, hml, hown, hts⟩ (met_X1_startMatch l dC dI cyI cyO an _ N (S_score o3.2.1) p1 o7 h8) (cwV 1 hts (gV w_methodLink_X5_122 w_instanceMethod_X1_startMatch w_selects_X1_startMatch w_initialized_X1 w_code_X1_startMatch) rfl rfl rfl (by decide +kernel) ⟨Nat.le_of_ble_eq_true rfl, Nat.le_of_ble_eq_true rfl⟩) (va_recv hK.1 hP (ci := 1) (q0 := 17) rfl rfl) hP hD hK (seg_perm (n := 14) (R := [(cXo x an tr o3.1), (cH cyO (x 1) (x 2) 2 fl), (cXk cyI x o3.1), (cH cyO (x 4) (x 5) 6 fs), (cT cyI x (X_text o3.1)), (cSo an (S_set_green o3.2.1 o5)), (cG cyI an (S_green (S_set_green o3.2.1 o5))), (cS cyI b0 o3.2.2.1), (cS cyI b1 o3.2.2.2.1), (cS cyI b2 o3.2.2.2.2.1), (cS cyI b3 o3.2.2.2.2.2.1), (cS cyI b4 o3.2.2.2.2.2.2.1), (cS cyI b5 o3.2.2.2.2.2.2.2)]) (C := [(cV cyI an (S_score (S_set_green o3.2.1 o5)))]) [0, 1, 2, 3, 4, 5, 6, 8, 9, 10, 11, 12, 13] [7] rfl rfl rfl (by decide) rfl) rfl hl.1 (Nat.le_of_ble_eq_true rfl) dX5_begin_54 ⟨Nat.le_of_ble_eq_true rfl, Nat.le_of_ble_eq_true rfl⟩ hS hA (fun u H locs hw hP hD hS => ?_)
      have hw := hw.symm
      subst hw
      have hq := seg_permS (segs := [(cXo x an tr o3.1), (cH cyO (x 1) (x 2) 2 fl), (cXk cyI x o3.1), (cH cyO (x 4) (x 5) 6 fs), (cT cyI x (X_text o3.1)), (cSo an (S_set_score (S_set_green o3.2.1 o5) o7)), (cG cyI an (S_green (S_set_score (S_set_green o3.2.1 o5) o7))), (cV cyI an (S_score (S_set_score (S_set_green o3.2.1 o5) o7))), (cS cyI b0 o3.2.2.1), (cS cyI b1 o3.2.2.2.1), (cS cyI b2 o3.2.2.2.2.1), (cS cyI b3 o3.2.2.2.2.2.1), (cS cyI b4 o3.2.2.2.2.2.2.1), (cS cyI b5 o3.2.2.2.2.2.2.2)]) (R := [(cXo x an tr o3.1), (cH cyO (x 1) (x 2) 2 fl), (cXk cyI x o3.1), (cH cyO (x 4) (x 5) 6 fs), (cT cyI x (X_text o3.1)), (cSo an (S_set_green o3.2.1 o5)), (cG cyI an (S_green (S_set_green o3.2.1 o5))), (cS cyI b0 o3.2.2.1), (cS cyI b1 o3.2.2.2.1), (cS cyI b2 o3.2.2.2.2.1), (cS cyI b3 o3.2.2.2.2.2.1), (cS cyI b4 o3.2.2.2.2.2.2.1), (cS cyI b5 o3.2.2.2.2.2.2.2)]) (C := [(cV cyI an (S_score (S_set_score (S_set_green o3.2.1 o5) o7)))]) (n := 14) [0, 1, 2, 3, 4, 5, 6, 8, 9, 10, 11, 12, 13] [7] rfl rfl rfl (by decide)
      have hP : va_P (dC, dI) vwCl (([(cXo x an tr o3.1), (cH cyO (x 1) (x 2) 2 fl), (cXk cyI x o3.1), (cH cyO (x 4) (x 5) 6 fs), (cT cyI x (X_text o3.1)), (cSo an (S_set_score (S_set_green o3.2.1 o5) o7)), (cG cyI an (S_green (S_set_score (S_set_green o3.2.1 o5) o7))), (cV cyI an (S_score (S_set_score (S_set_green o3.2.1 o5) o7))), (cS cyI b0 o3.2.2.1), (cS cyI b1 o3.2.2.2.1), (cS cyI b2 o3.2.2.2.2.1), (cS cyI b3 o3.2.2.2.2.2.1), (cS cyI b4 o3.2.2.2.2.2.2.1), (cS cyI b5 o3.2.2.2.2.2.2.2)] : List va_W).flatten) H := hP.perm hq
      have hD : va_D A (([(cXo x an tr o3.1), (cH cyO (x 1) (x 2) 2 fl), (cXk cyI x o3.1), (cH cyO (x 4) (x 5) 6 fs), (cT cyI x (X_text o3.1)), (cSo an (S_set_score (S_set_green o3.2.1 o5) o7)), (cG cyI an (S_green (S_set_score (S_set_green o3.2.1 o5) o7))), (cV cyI an (S_score (S_set_score (S_set_green o3.2.1 o5) o7))), (cS cyI b0 o3.2.2.1), (cS cyI b1 o3.2.2.2.1), (cS cyI b2 o3.2.2.2.2.1), (cS cyI b3 o3.2.2.2.2.2.1), (cS cyI b4 o3.2.2.2.2.2.2.1), (cS cyI b5 o3.2.2.2.2.2.2.2)] : List va_W).flatten) := hD.perm hq
      clear hq
      refine lv_iload_n hx hb dX5_begin_57 rfl (lv_at hl 0 rfl) ?_
      refine vx_ret ?_
      refine W.widen (k := 1) (n := 6) (Nat.le_of_ble_eq_true rfl) (Nat.le_of_ble_eq_true rfl) ?_
      exact W.iret (v := (V_pointsNeeded (S_score o3.2.1))) hx hb hr (fun t ht hW => ⟨⟨_, (o3.1, (S_set_score (S_set_green o3.2.1 o5) o7), o3.2.2.1, o3.2.2.2.1, o3.2.2.2.2.1, o3.2.2.2.2.2.1, o3.2.2.2.2.2.2.1, o3.2.2.2.2.2.2.2), rfl, Option.some.inj hF, by rw [ht]; exact hP, hD⟩, hS.F ht⟩) hS.2.2 dX5_begin_58
    · have hF := itn c2 hF
      exact hJ11 () _ _ _ hP hD hS (lv_sub hl [] rfl) hF
theorem dX5_changeBowls_0 : decode cX5_changeBowls 0 = .ok (.iload_n 1, 1) := by decide +kernel
theorem dX5_changeBowls_1 : decode cX5_changeBowls 1 = .ok (.iconst 1, 1) := by decide +kernel
theorem dX5_changeBowls_2 : decode cX5_changeBowls 2 = .ok (.if_icmp .lt 8, 3) := by decide +kernel
theorem dX5_changeBowls_5 : decode cX5_changeBowls 5 = .ok (.iload_n 1, 1) := by decide +kernel
theorem dX5_changeBowls_6 : decode cX5_changeBowls 6 = .ok (.iconst 4, 1) := by decide +kernel
theorem dX5_changeBowls_7 : decode cX5_changeBowls 7 = .ok (.if_icmp .le 13, 3) := by decide +kernel
theorem dX5_changeBowls_10 : decode cX5_changeBowls 10 = .ok (.new 49, 3) := by decide +kernel
theorem dX5_changeBowls_13 : decode cX5_changeBowls 13 = .ok (.dup, 1) := by decide +kernel
theorem dX5_changeBowls_14 : decode cX5_changeBowls 14 = .ok (.ldc 125, 2) := by decide +kernel
theorem dX5_changeBowls_16 : decode cX5_changeBowls 16 = .ok (.invokespecial 53, 3) := by decide +kernel
theorem dX5_changeBowls_19 : decode cX5_changeBowls 19 = .ok (.athrow, 1) := by decide +kernel
theorem dX5_changeBowls_20 : decode cX5_changeBowls 20 = .ok (.aload_n 0, 1) := by decide +kernel
theorem dX5_changeBowls_21 : decode cX5_changeBowls 21 = .ok (.getfield 12, 3) := by decide +kernel
theorem dX5_changeBowls_24 : decode cX5_changeBowls 24 = .ok (.getfield 90, 3) := by decide +kernel
theorem dX5_changeBowls_27 : decode cX5_changeBowls 27 = .ok (.invokevirtual 127, 3) := by decide +kernel
theorem dX5_changeBowls_30 : decode cX5_changeBowls 30 = .ok (.ifCond .eq 13, 3) := by decide +kernel
theorem dX5_changeBowls_33 : decode cX5_changeBowls 33 = .ok (.new 60, 3) := by decide +kernel
theorem dX5_changeBowls_36 : decode cX5_changeBowls 36 = .ok (.dup, 1) := by decide +kernel
theorem dX5_changeBowls_37 : decode cX5_changeBowls 37 = .ok (.ldc 130, 2) := by decide +kernel
theorem dX5_changeBowls_39 : decode cX5_changeBowls 39 = .ok (.invokespecial 64, 3) := by decide +kernel
theorem dX5_changeBowls_42 : decode cX5_changeBowls 42 = .ok (.athrow, 1) := by decide +kernel
theorem dX5_changeBowls_43 : decode cX5_changeBowls 43 = .ok (.aload_n 0, 1) := by decide +kernel
theorem dX5_changeBowls_44 : decode cX5_changeBowls 44 = .ok (.invokevirtual 65, 3) := by decide +kernel
theorem dX5_changeBowls_47 : decode cX5_changeBowls 47 = .ok (.aload_n 0, 1) := by decide +kernel
theorem dX5_changeBowls_48 : decode cX5_changeBowls 48 = .ok (.getfield 12, 3) := by decide +kernel
theorem dX5_changeBowls_51 : decode cX5_changeBowls 51 = .ok (.getfield 132, 3) := by decide +kernel
theorem dX5_changeBowls_54 : decode cX5_changeBowls 54 = .ok (.istore_n 2, 1) := by decide +kernel
theorem dX5_changeBowls_55 : decode cX5_changeBowls 55 = .ok (.aload_n 0, 1) := by decide +kernel
theorem dX5_changeBowls_56 : decode cX5_changeBowls 56 = .ok (.getfield 12, 3) := by decide +kernel
theorem dX5_changeBowls_59 : decode cX5_changeBowls 59 = .ok (.iload_n 1, 1) := by decide +kernel
theorem dX5_changeBowls_60 : decode cX5_changeBowls 60 = .ok (.putfield 132, 3) := by decide +kernel
theorem dX5_changeBowls_63 : decode cX5_changeBowls 63 = .ok (.iload_n 2, 1) := by decide +kernel
theorem dX5_changeBowls_64 : decode cX5_changeBowls 64 = .ok (.ireturn, 1) := by decide +kernel
def f_X5_changeBowls (N : Nat) (xv : XV) (nv : SV) (v0 : SV) (v1 : SV) (v2 : SV) (v3 : SV) (v4 : SV) (v5 : SV) (p1 : Int32) : Option ((Nat ⊕ Int32) × (XV × SV × SV × SV × SV × SV × SV × SV)) :=
  jn (fun (s10 : Unit) => some (Sum.inl 0, (xv, nv, v0, v1, v2, v3, v4, v5))) (fun (j10 : (Unit) → Option ((Nat ⊕ Int32) × (XV × SV × SV × SV × SV × SV × SV × SV))) => (if p1 < (1 : Int32) then j10 () else (if p1 ≤ (4 : Int32) then (f_X0_hasJack N (S_green nv)).bind (fun o3 => (if o3 = 0 then (f_X5_saveState N xv nv v0 v1 v2 v3 v4 v5).bind (fun o7 => some ((Sum.inr (S_bowlsEach o7.2.1)), (o7.1, (S_set_bowlsEach o7.2.1 p1), o7.2.2.1, o7.2.2.2.1, o7.2.2.2.2.1, o7.2.2.2.2.2.1, o7.2.2.2.2.2.2.1, o7.2.2.2.2.2.2.2))) else some (Sum.inl 1, (xv, nv, v0, v1, v2, v3, v4, v5)))) else j10 ())))
set_option maxHeartbeats 4000000 in
set_option maxRecDepth 100000 in
theorem met_X5_changeBowls (l : Launch) (z0 : Nat) (hst : l.stackTraces = false) (dC : Nat → ClassId) (dI : Nat → Nat → Nat) (cyI cyO : ClassId) (x : Nat → Nat) (tr : Nat → Nat) (an : Nat → Nat) (b0 : Nat → Nat) (b1 : Nat → Nat) (b2 : Nat → Nat) (b3 : Nat → Nat) (b4 : Nat → Nat) (b5 : Nat → Nat) (fl fs : Nat → Option Nat) (sz : Nat) (N : Nat) (xv : XV) (nv : SV) (v0 : SV) (v1 : SV) (v2 : SV) (v3 : SV) (v4 : SV) (v5 : SV) (p1 : Int32) (hs0 : fs 0 = some (b0 0)) (hs1 : fs 1 = some (b1 0)) (hs2 : fs 2 = some (b2 0)) (hs3 : fs 3 = some (b3 0)) (hs4 : fs 4 = some (b4 0)) (hs5 : fs 5 = some (b5 0)) (out : (Nat ⊕ Int32) × (XV × SV × SV × SV × SV × SV × SV × SV)) (hF : f_X5_changeBowls N xv nv v0 v1 v2 v3 v4 v5 p1 = some out) : vx_Met l yX5_changeBowls (Cond.code yX5_changeBowls cX5_changeBowls 3 (some .int) :: wT) ({ frames := 6, cells := 1, slots := 6, locals := 107 } : Room) (wWrX z0 dC dI cyI cyO [.ref (x 0), .int p1] (([(cXo x an tr xv), (cH cyO (x 1) (x 2) 2 fl), (cXk cyI x xv), (cH cyO (x 4) (x 5) 6 fs), (cT cyI x (X_text xv)), (cSo an nv), (cG cyI an (S_green nv)), (cV cyI an (S_score nv)), (cS cyI b0 v0), (cS cyI b1 v1), (cS cyI b2 v2), (cS cyI b3 v3), (cS cyI b4 v4), (cS cyI b5 v5)] : List va_W).flatten) sz) (va_Qi (fun (r : Int32) (u : XV × SV × SV × SV × SV × SV × SV × SV) => (Sum.inr r, u) = out) (fun u t => va_P (dC, dI) vwCl (([(cXo x an tr u.1), (cH cyO (x 1) (x 2) 2 fl), (cXk cyI x u.1), (cH cyO (x 4) (x 5) 6 fs), (cT cyI x (X_text u.1)), (cSo an u.2.1), (cG cyI an (S_green u.2.1)), (cV cyI an (S_score u.2.1)), (cS cyI b0 u.2.2.1), (cS cyI b1 u.2.2.2.1), (cS cyI b2 u.2.2.2.2.1), (cS cyI b3 u.2.2.2.2.2.1), (cS cyI b4 u.2.2.2.2.2.2.1), (cS cyI b5 u.2.2.2.2.2.2.2)] : List va_W).flatten) t.heap ∧ va_D (va_A (([(cXo x an tr xv), (cH cyO (x 1) (x 2) 2 fl), (cXk cyI x xv), (cH cyO (x 4) (x 5) 6 fs), (cT cyI x (X_text xv)), (cSo an nv), (cG cyI an (S_green nv)), (cV cyI an (S_score nv)), (cS cyI b0 v0), (cS cyI b1 v1), (cS cyI b2 v2), (cS cyI b3 v3), (cS cyI b4 v4), (cS cyI b5 v5)] : List va_W).flatten) sz) (([(cXo x an tr u.1), (cH cyO (x 1) (x 2) 2 fl), (cXk cyI x u.1), (cH cyO (x 4) (x 5) 6 fs), (cT cyI x (X_text u.1)), (cSo an u.2.1), (cG cyI an (S_green u.2.1)), (cV cyI an (S_score u.2.1)), (cS cyI b0 u.2.2.1), (cS cyI b1 u.2.2.2.1), (cS cyI b2 u.2.2.2.2.1), (cS cyI b3 u.2.2.2.2.2.1), (cS cyI b4 u.2.2.2.2.2.2.1), (cS cyI b5 u.2.2.2.2.2.2.2)] : List va_W).flatten)) (va_A (([(cXo x an tr xv), (cH cyO (x 1) (x 2) 2 fl), (cXk cyI x xv), (cH cyO (x 4) (x 5) 6 fs), (cT cyI x (X_text xv)), (cSo an nv), (cG cyI an (S_green nv)), (cV cyI an (S_score nv)), (cS cyI b0 v0), (cS cyI b1 v1), (cS cyI b2 v2), (cS cyI b3 v3), (cS cyI b4 v4), (cS cyI b5 v5)] : List va_W).flatten) sz)) (xcW dC dI Int32 (fun (u : XV × SV × SV × SV × SV × SV × SV × SV) => (([(cXo x an tr u.1), (cH cyO (x 1) (x 2) 2 fl), (cXk cyI x u.1), (cH cyO (x 4) (x 5) 6 fs), (cT cyI x (X_text u.1)), (cSo an u.2.1), (cG cyI an (S_green u.2.1)), (cV cyI an (S_score u.2.1)), (cS cyI b0 u.2.2.1), (cS cyI b1 u.2.2.2.1), (cS cyI b2 u.2.2.2.2.1), (cS cyI b3 u.2.2.2.2.2.1), (cS cyI b4 u.2.2.2.2.2.2.1), (cS cyI b5 u.2.2.2.2.2.2.2)] : List va_W).flatten)) (va_A (([(cXo x an tr xv), (cH cyO (x 1) (x 2) 2 fl), (cXk cyI x xv), (cH cyO (x 4) (x 5) 6 fs), (cT cyI x (X_text xv)), (cSo an nv), (cG cyI an (S_green nv)), (cV cyI an (S_score nv)), (cS cyI b0 v0), (cS cyI b1 v1), (cS cyI b2 v2), (cS cyI b3 v3), (cS cyI b4 v4), (cS cyI b5 v5)] : List va_W).flatten) sz) out) 1 6 (va_A (([(cXo x an tr xv), (cH cyO (x 1) (x 2) 2 fl), (cXk cyI x xv), (cH cyO (x 4) (x 5) 6 fs), (cT cyI x (X_text xv)), (cSo an nv), (cG cyI an (S_green nv)), (cV cyI an (S_score nv)), (cS cyI b0 v0), (cS cyI b1 v1), (cS cyI b2 v2), (cS cyI b3 v3), (cS cyI b4 v4), (cS cyI b5 v5)] : List va_W).flatten) sz) := by
  refine vx_ofW (cc := cX5_changeBowls) (maxL := 3) (ret := (some .int)) (by decide) rfl ?_
  intro p e s m args below meth c s₁ B hml htx hv
  obtain ⟨rfl, hsz, hP, hK, hD0, hz0, hZ⟩ := hv
  have hx := B.exec
  have hb := B.bytes
  have hr := B.returns
  have hts0 := atoms_spec (ws := (Cond.code yX5_changeBowls cX5_changeBowls 3 (some .int) :: wT)) B.pre
  have hts := fun w h => hts0 w (List.mem_cons_of_mem _ h)
  clear hts0
  have hown : s.vm.findClass RX5 = some m.cls := findClass_of_methodNamed B.named
  have hlocks := B.notSynchronized
  subst hsz
  have hD := hD0.self (sz := s.heap.size)
  have hAz := wA_ge hD0 hz0
  generalize hAe : va_A (([(cXo x an tr xv), (cH cyO (x 1) (x 2) 2 fl), (cXk cyI x xv), (cH cyO (x 4) (x 5) 6 fs), (cT cyI x (X_text xv)), (cSo an nv), (cG cyI an (S_green nv)), (cV cyI an (S_score nv)), (cS cyI b0 v0), (cS cyI b1 v1), (cS cyI b2 v2), (cS cyI b3 v3), (cS cyI b4 v4), (cS cyI b5 v5)] : List va_W).flatten) s.heap.size = A at hD hAz ⊢
  have hA : ∀ q : Nat, s.heap.size ≤ q → A q := fun q h => by rw [← hAe]; exact Or.inr h
  clear hD0
  have hS : va_S A s.heap s.heap [] := va_S.rf
  have hl := lv_entry [.ref (x 0), .int p1] (n := 3) (Nat.le_of_ble_eq_true rfl)
  rw [lg_entry_eq]
  generalize (lg_sl [.ref (x 0), .int p1] ++ List.replicate (3 - (lg_sl [.ref (x 0), .int p1]).length) Slot.unset).toArray = ls at hl ⊢
  have hl : lv_has ls 3 [(0, .ref (x 0)), (1, .int p1)] := hl
  unfold f_X5_changeBowls at hF
  refine lv_iload_n hx hb dX5_changeBowls_0 rfl (lv_at hl 1 rfl) ?_
  refine lv_iconst (v := 1) hx hb dX5_changeBowls_1 (by decide) ?_
  obtain ⟨j10, hj10, hF⟩ := jn_use hF
  have hJ10 : ∀ (s10 : Unit) (H : Heap) (locs : List Loc) (ls : Array Slot), va_P (dC, dI) vwCl (([(cXo x an tr xv), (cH cyO (x 1) (x 2) 2 fl), (cXk cyI x xv), (cH cyO (x 4) (x 5) 6 fs), (cT cyI x (X_text xv)), (cSo an nv), (cG cyI an (S_green nv)), (cV cyI an (S_score nv)), (cS cyI b0 v0), (cS cyI b1 v1), (cS cyI b2 v2), (cS cyI b3 v3), (cS cyI b4 v4), (cS cyI b5 v5)] : List va_W).flatten) H → va_D A (([(cXo x an tr xv), (cH cyO (x 1) (x 2) 2 fl), (cXk cyI x xv), (cH cyO (x 4) (x 5) 6 fs), (cT cyI x (X_text xv)), (cSo an nv), (cG cyI an (S_green nv)), (cV cyI an (S_score nv)), (cS cyI b0 v0), (cS cyI b1 v1), (cS cyI b2 v2), (cS cyI b3 v3), (cS cyI b4 v4), (cS cyI b5 v5)] : List va_W).flatten) → va_S A s.heap H locs → lv_has ls 3 [] → j10 s10 = some out → W p l e (headSpec (Cond.code yX5_changeBowls cX5_changeBowls 3 (some .int) :: wT) ({ frames := 6, cells := 1, slots := 6, locals := 107 } : Room)).room s m ([.ref (x 0), .int p1] : List Value).toArray below meth c H locs 0 0 (vx_MQ below (va_Qi (fun (r : Int32) (u : XV × SV × SV × SV × SV × SV × SV × SV) => (Sum.inr r, u) = out) (fun u t => va_P (dC, dI) vwCl (([(cXo x an tr u.1), (cH cyO (x 1) (x 2) 2 fl), (cXk cyI x u.1), (cH cyO (x 4) (x 5) 6 fs), (cT cyI x (X_text u.1)), (cSo an u.2.1), (cG cyI an (S_green u.2.1)), (cV cyI an (S_score u.2.1)), (cS cyI b0 u.2.2.1), (cS cyI b1 u.2.2.2.1), (cS cyI b2 u.2.2.2.2.1), (cS cyI b3 u.2.2.2.2.2.1), (cS cyI b4 u.2.2.2.2.2.2.1), (cS cyI b5 u.2.2.2.2.2.2.2)] : List va_W).flatten) t.heap ∧ va_D A (([(cXo x an tr u.1), (cH cyO (x 1) (x 2) 2 fl), (cXk cyI x u.1), (cH cyO (x 4) (x 5) 6 fs), (cT cyI x (X_text u.1)), (cSo an u.2.1), (cG cyI an (S_green u.2.1)), (cV cyI an (S_score u.2.1)), (cS cyI b0 u.2.2.1), (cS cyI b1 u.2.2.2.1), (cS cyI b2 u.2.2.2.2.1), (cS cyI b3 u.2.2.2.2.2.1), (cS cyI b4 u.2.2.2.2.2.2.1), (cS cyI b5 u.2.2.2.2.2.2.2)] : List va_W).flatten)) A) (xcW dC dI Int32 (fun (u : XV × SV × SV × SV × SV × SV × SV × SV) => (([(cXo x an tr u.1), (cH cyO (x 1) (x 2) 2 fl), (cXk cyI x u.1), (cH cyO (x 4) (x 5) 6 fs), (cT cyI x (X_text u.1)), (cSo an u.2.1), (cG cyI an (S_green u.2.1)), (cV cyI an (S_score u.2.1)), (cS cyI b0 u.2.2.1), (cS cyI b1 u.2.2.2.1), (cS cyI b2 u.2.2.2.2.1), (cS cyI b3 u.2.2.2.2.2.1), (cS cyI b4 u.2.2.2.2.2.2.1), (cS cyI b5 u.2.2.2.2.2.2.2)] : List va_W).flatten)) A out) ([.ref (x 0), .int p1] : List Value).toArray s 1 6 A) (F0 m 10 ls []) := by
    intro s10 H locs ls hP hD hS hl hF
    have hF := (congrFun hj10 s10).symm.trans hF
    have hF9 : ((Sum.inl 0 : Nat ⊕ Int32), (xv, nv, v0, v1, v2, v3, v4, v5)) = out := Option.some.inj hF
    exact thrW_0 (w1 := fun (u : XV × SV × SV × SV × SV × SV × SV × SV) => (([(cXo x an tr u.1), (cH cyO (x 1) (x 2) 2 fl), (cXk cyI x u.1), (cH cyO (x 4) (x 5) 6 fs), (cT cyI x (X_text u.1)), (cSo an u.2.1), (cG cyI an (S_green u.2.1)), (cV cyI an (S_score u.2.1)), (cS cyI b0 u.2.2.1), (cS cyI b1 u.2.2.2.1), (cS cyI b2 u.2.2.2.2.1), (cS cyI b3 u.2.2.2.2.2.1), (cS cyI b4 u.2.2.2.2.2.2.1), (cS cyI b5 u.2.2.2.2.2.2.2)] : List va_W).flatten)) (v := (xv, nv, v0, v1, v2, v3, v4, v5)) hF9 hP hD hx hb hst (is := 125) (text := "bowls is out of range") hown hts hZ hAz hS (hl.1.trans hml.symm) (by decide) dX5_changeBowls_10 dX5_changeBowls_13 dX5_changeBowls_14 dX5_changeBowls_16 dX5_changeBowls_19 htx (Nat.le_of_ble_eq_true rfl) (Nat.le_of_ble_eq_true rfl) (Nat.le_of_ble_eq_true rfl) (Nat.le_of_ble_eq_true rfl) hlocks (Nat.le_of_ble_eq_true rfl) (Nat.le_of_ble_eq_true rfl)
  refine lv_icmp_lt (tgt := 10) hx hb dX5_changeBowls_2 (by decide) (fun c1 => ?_) (fun c1 => ?_)
  · have hF := itp c1 hF
    exact hJ10 () _ _ _ hP hD hS (lv_sub hl [] rfl) hF
  · have hF := itn c1 hF
    refine lv_iload_n hx hb dX5_changeBowls_5 rfl (lv_at hl 1 rfl) ?_
    refine lv_iconst (v := 4) hx hb dX5_changeBowls_6 (by decide) ?_
    refine lv_icmp_le (tgt := 20) hx hb dX5_changeBowls_7 (by decide) (fun c2 => ?_) (fun c2 => ?_)
    · have hF := itp c2 hF
      refine lv_aload_n hx hb dX5_changeBowls_20 rfl (lv_at hl 0 rfl) ?_
      refine va_get (D := (dC, dI)) (ci := 5) (v := .ref (an 0)) (C := RX5) (T := TX5) (N := 8) hx hb hts inX5 hown hK.1 hP 0 rfl rfl 0 (by decide) (hts _ w_fieldLink_X5_12) (fun _ h9 => h9) rfl dX5_changeBowls_21 ?_
      refine va_get (D := (dC, dI)) (ci := 3) (v := .ref (an 1)) (C := RX3) (T := TX3) (N := 6) hx hb hts inX3 hown hK.1 hP 8 rfl rfl 0 (by decide) (hts _ w_fieldLink_X5_90) (fun _ h9 => h9) rfl dX5_changeBowls_24 ?_
      obtain ⟨o3, h4, hF⟩ := obd hF
      refine wcRVi (As := []) (rest := []) (b := (an 1)) ⟨hx, hb, hml, hown, hts⟩ (met_X0_hasJack l dC dI cyI cyO an N (S_green nv)  o3 h4) (cwV 0 hts (gV w_methodLink_X5_127 w_instanceMethod_X0_hasJack w_selects_X0_hasJack w_initialized_X0 w_code_X0_hasJack) rfl rfl rfl (by decide +kernel) ⟨Nat.le_of_ble_eq_true rfl, Nat.le_of_ble_eq_true rfl⟩) (va_recv hK.1 hP (ci := 0) (q0 := 9) rfl rfl) hP hK [9, 10, 11, 12, 13, 14, 15, 16] rfl rfl hl.1 (Nat.le_of_ble_eq_true rfl) dX5_changeBowls_27 ⟨Nat.le_of_ble_eq_true rfl, Nat.le_of_ble_eq_true rfl⟩ hS (fun r H locs hw hP hS => ?_)
      obtain ⟨hw, hz5⟩ := hw
      have hw := hw.symm
      subst hw
      refine lv_if_eq (tgt := 43) hx hb dX5_changeBowls_30 (by decide) (fun c6 => ?_) (fun c6 => ?_)
      · have hF := itp c6 hF
        refine lv_aload_n hx hb dX5_changeBowls_43 rfl (lv_at hl 0 rfl) ?_
        obtain ⟨o7, h8, hF⟩ := obd hF
        refine wcPVv (As := []) (rest := []) (wr := ([] : List va_W).flatten) (b := (x 0)) ⟨hx, hb, hml, hown, hts⟩ (met_X5_saveState l dC dI cyI cyO x tr an b0 b1 b2 b3 b4 b5 fl fs _ N xv nv v0 v1 v2 v3 v4 v5 hs0 hs1 hs2 hs3 hs4 hs5 o7 h8) (cwV 0 hts (gV w_methodLink_X5_65 w_instanceMethod_X5_saveState w_selects_X5_saveState w_initialized_X5 w_code_X5_saveState) rfl rfl rfl (by decide +kernel) ⟨Nat.le_of_ble_eq_true rfl, Nat.le_of_ble_eq_true rfl⟩) (va_recv hK.1 hP (ci := 5) (q0 := 0) rfl rfl) hP hD hK (seg_perm (n := 14) (R := []) (C := [(cXo x an tr xv), (cH cyO (x 1) (x 2) 2 fl), (cXk cyI x xv), (cH cyO (x 4) (x 5) 6 fs), (cT cyI x (X_text xv)), (cSo an nv), (cG cyI an (S_green nv)), (cV cyI an (S_score nv)), (cS cyI b0 v0), (cS cyI b1 v1), (cS cyI b2 v2), (cS cyI b3 v3), (cS cyI b4 v4), (cS cyI b5 v5)]) [] [0, 1, 2, 3, 4, 5, 6, 7, 8, 9, 10, 11, 12, 13] rfl rfl rfl (by decide) rfl) rfl hl.1 (Nat.le_of_ble_eq_true rfl) dX5_changeBowls_44 ⟨Nat.le_of_ble_eq_true rfl, Nat.le_of_ble_eq_true rfl⟩ hS hA (fun u H locs hw hP hD hS => ?_)
        have hw := hw.symm
        subst hw
        have hq := seg_permS (segs := [(cXo x an tr o7.1), (cH cyO (x 1) (x 2) 2 fl), (cXk cyI x o7.1), (cH cyO (x 4) (x 5) 6 fs), (cT cyI x (X_text o7.1)), (cSo an o7.2.1), (cG cyI an (S_green o7.2.1)), (cV cyI an (S_score o7.2.1)), (cS cyI b0 o7.2.2.1), (cS cyI b1 o7.2.2.2.1), (cS cyI b2 o7.2.2.2.2.1), (cS cyI b3 o7.2.2.2.2.2.1), (cS cyI b4 o7.2.2.2.2.2.2.1), (cS cyI b5 o7.2.2.2.2.2.2.2)]) (R := []) (C := [(cXo x an tr o7.1), (cH cyO (x 1) (x 2) 2 fl), (cXk cyI x o7.1), (cH cyO (x 4) (x 5) 6 fs), (cT cyI x (X_text o7.1)), (cSo an o7.2.1), (cG cyI an (S_green o7.2.1)), (cV cyI an (S_score o7.2.1)), (cS cyI b0 o7.2.2.1), (cS cyI b1 o7.2.2.2.1), (cS cyI b2 o7.2.2.2.2.1), (cS cyI b3 o7.2.2.2.2.2.1), (cS cyI b4 o7.2.2.2.2.2.2.1), (cS cyI b5 o7.2.2.2.2.2.2.2)]) (n := 14) [] [0, 1, 2, 3, 4, 5, 6, 7, 8, 9, 10, 11, 12, 13] rfl rfl rfl (by decide)
        have hP : va_P (dC, dI) vwCl (([(cXo x an tr o7.1), (cH cyO (x 1) (x 2) 2 fl), (cXk cyI x o7.1), (cH cyO (x 4) (x 5) 6 fs), (cT cyI x (X_text o7.1)), (cSo an o7.2.1), (cG cyI an (S_green o7.2.1)), (cV cyI an (S_score o7.2.1)), (cS cyI b0 o7.2.2.1), (cS cyI b1 o7.2.2.2.1), (cS cyI b2 o7.2.2.2.2.1), (cS cyI b3 o7.2.2.2.2.2.1), (cS cyI b4 o7.2.2.2.2.2.2.1), (cS cyI b5 o7.2.2.2.2.2.2.2)] : List va_W).flatten) H := hP.perm hq
        have hD : va_D A (([(cXo x an tr o7.1), (cH cyO (x 1) (x 2) 2 fl), (cXk cyI x o7.1), (cH cyO (x 4) (x 5) 6 fs), (cT cyI x (X_text o7.1)), (cSo an o7.2.1), (cG cyI an (S_green o7.2.1)), (cV cyI an (S_score o7.2.1)), (cS cyI b0 o7.2.2.1), (cS cyI b1 o7.2.2.2.1), (cS cyI b2 o7.2.2.2.2.1), (cS cyI b3 o7.2.2.2.2.2.1), (cS cyI b4 o7.2.2.2.2.2.2.1), (cS cyI b5 o7.2.2.2.2.2.2.2)] : List va_W).flatten) := hD.perm hq
        clear hq
        refine lv_aload_n hx hb dX5_changeBowls_47 rfl (lv_at hl 0 rfl) ?_
        refine va_get (D := (dC, dI)) (ci := 5) (v := .ref (an 0)) (C := RX5) (T := TX5) (N := 8) hx hb hts inX5 hown hK.1 hP 0 rfl rfl 0 (by decide) (hts _ w_fieldLink_X5_12) (fun _ h9 => h9) rfl dX5_changeBowls_48 ?_
        refine va_get (D := (dC, dI)) (ci := 3) (v := .int (S_bowlsEach o7.2.1)) (C := RX3) (T := TX3) (N := 6) hx hb hts inX3 hown hK.1 hP 8 rfl rfl 2 (by decide) (hts _ w_fieldLink_X5_132) (fun _ h9 => h9) rfl dX5_changeBowls_51 ?_
        refine lv_istore_n (lv' := [(2, .int (S_bowlsEach o7.2.1)), (0, .ref (x 0)), (1, .int p1)]) hx hb dX5_changeBowls_54 rfl hl (by decide) rfl (fun ls hl => ?_)
        refine lv_aload_n hx hb dX5_changeBowls_55 rfl (lv_at hl 1 rfl) ?_
        refine va_get (D := (dC, dI)) (ci := 5) (v := .ref (an 0)) (C := RX5) (T := TX5) (N := 8) hx hb hts inX5 hown hK.1 hP 0 rfl rfl 0 (by decide) (hts _ w_fieldLink_X5_12) (fun _ h9 => h9) rfl dX5_changeBowls_56 ?_
        refine lv_iload_n hx hb dX5_changeBowls_59 rfl (lv_at hl 2 rfl) ?_
        refine va_put (D := (dC, dI)) (ci := 3) (v := .int p1) (ty := .int) (C := RX3) (T := TX3) (N := 6) hx hb hts inX3 tyX3 tyX3_ok nmX3 hown hK.1 hP hD hS 8 rfl rfl 2 (by decide) (hts _ w_fieldLink_X5_132) (fun _ h9 => h9) rfl (by decide +kernel) rfl rfl (Nat.le_of_ble_eq_true rfl) dX5_changeBowls_60 (fun H locs hP hD hS => ?_)
        have hP : va_P (dC, dI) vwCl (([(cXo x an tr o7.1), (cH cyO (x 1) (x 2) 2 fl), (cXk cyI x o7.1), (cH cyO (x 4) (x 5) 6 fs), (cT cyI x (X_text o7.1)), (cSo an (S_set_bowlsEach o7.2.1 p1)), (cG cyI an (S_green (S_set_bowlsEach o7.2.1 p1))), (cV cyI an (S_score (S_set_bowlsEach o7.2.1 p1))), (cS cyI b0 o7.2.2.1), (cS cyI b1 o7.2.2.2.1), (cS cyI b2 o7.2.2.2.2.1), (cS cyI b3 o7.2.2.2.2.2.1), (cS cyI b4 o7.2.2.2.2.2.2.1), (cS cyI b5 o7.2.2.2.2.2.2.2)] : List va_W).flatten) H := hP
        have hD : va_D A (([(cXo x an tr o7.1), (cH cyO (x 1) (x 2) 2 fl), (cXk cyI x o7.1), (cH cyO (x 4) (x 5) 6 fs), (cT cyI x (X_text o7.1)), (cSo an (S_set_bowlsEach o7.2.1 p1)), (cG cyI an (S_green (S_set_bowlsEach o7.2.1 p1))), (cV cyI an (S_score (S_set_bowlsEach o7.2.1 p1))), (cS cyI b0 o7.2.2.1), (cS cyI b1 o7.2.2.2.1), (cS cyI b2 o7.2.2.2.2.1), (cS cyI b3 o7.2.2.2.2.2.1), (cS cyI b4 o7.2.2.2.2.2.2.1), (cS cyI b5 o7.2.2.2.2.2.2.2)] : List va_W).flatten) := hD
        refine lv_iload_n hx hb dX5_changeBowls_63 rfl (lv_at hl 0 rfl) ?_
        refine vx_ret ?_
        refine W.widen (k := 1) (n := 6) (Nat.le_of_ble_eq_true rfl) (Nat.le_of_ble_eq_true rfl) ?_
        exact W.iret (v := (S_bowlsEach o7.2.1)) hx hb hr (fun t ht hW => ⟨⟨_, (o7.1, (S_set_bowlsEach o7.2.1 p1), o7.2.2.1, o7.2.2.2.1, o7.2.2.2.2.1, o7.2.2.2.2.2.1, o7.2.2.2.2.2.2.1, o7.2.2.2.2.2.2.2), rfl, Option.some.inj hF, by rw [ht]; exact hP, hD⟩, hS.F ht⟩) hS.2.2 dX5_changeBowls_64
      · have hF := itn c6 hF
        have hF9 : ((Sum.inl 1 : Nat ⊕ Int32), (xv, nv, v0, v1, v2, v3, v4, v5)) = out := Option.some.inj hF
        exact thrW_1 (w1 := fun (u : XV × SV × SV × SV × SV × SV × SV × SV) => (([(cXo x an tr u.1), (cH cyO (x 1) (x 2) 2 fl), (cXk cyI x u.1), (cH cyO (x 4) (x 5) 6 fs), (cT cyI x (X_text u.1)), (cSo an u.2.1), (cG cyI an (S_green u.2.1)), (cV cyI an (S_score u.2.1)), (cS cyI b0 u.2.2.1), (cS cyI b1 u.2.2.2.1), (cS cyI b2 u.2.2.2.2.1), (cS cyI b3 u.2.2.2.2.2.1), (cS cyI b4 u.2.2.2.2.2.2.1), (cS cyI b5 u.2.2.2.2.2.2.2)] : List va_W).flatten)) (v := (xv, nv, v0, v1, v2, v3, v4, v5)) hF9 hP hD hx hb hst (is := 130) (text := "the jack lies") hown hts hZ hAz hS (hl.1.trans hml.symm) (by decide) dX5_changeBowls_33 dX5_changeBowls_36 dX5_changeBowls_37 dX5_changeBowls_39 dX5_changeBowls_42 htx (Nat.le_of_ble_eq_true rfl) (Nat.le_of_ble_eq_true rfl) (Nat.le_of_ble_eq_true rfl) (Nat.le_of_ble_eq_true rfl) hlocks (Nat.le_of_ble_eq_true rfl) (Nat.le_of_ble_eq_true rfl)
    · have hF := itn c2 hF
      exact hJ10 () _ _ _ hP hD hS (lv_sub hl [] rfl) hF
theorem dX5_changeWind_0 : decode cX5_changeWind 0 = .ok (.iload_n 1, 1) := by decide +kernel
theorem dX5_changeWind_1 : decode cX5_changeWind 1 = .ok (.bipush (-5), 2) := by decide +kernel
theorem dX5_changeWind_3 : decode cX5_changeWind 3 = .ok (.if_icmp .lt 8, 3) := by decide +kernel
theorem dX5_changeWind_6 : decode cX5_changeWind 6 = .ok (.iload_n 1, 1) := by decide +kernel
theorem dX5_changeWind_7 : decode cX5_changeWind 7 = .ok (.iconst 5, 1) := by decide +kernel
theorem dX5_changeWind_8 : decode cX5_changeWind 8 = .ok (.if_icmp .le 13, 3) := by decide +kernel
theorem dX5_changeWind_11 : decode cX5_changeWind 11 = .ok (.new 49, 3) := by decide +kernel
theorem dX5_changeWind_14 : decode cX5_changeWind 14 = .ok (.dup, 1) := by decide +kernel
theorem dX5_changeWind_15 : decode cX5_changeWind 15 = .ok (.ldc 135, 2) := by decide +kernel
theorem dX5_changeWind_17 : decode cX5_changeWind 17 = .ok (.invokespecial 53, 3) := by decide +kernel
theorem dX5_changeWind_20 : decode cX5_changeWind 20 = .ok (.athrow, 1) := by decide +kernel
theorem dX5_changeWind_21 : decode cX5_changeWind 21 = .ok (.aload_n 0, 1) := by decide +kernel
theorem dX5_changeWind_22 : decode cX5_changeWind 22 = .ok (.invokevirtual 65, 3) := by decide +kernel
theorem dX5_changeWind_25 : decode cX5_changeWind 25 = .ok (.aload_n 0, 1) := by decide +kernel
theorem dX5_changeWind_26 : decode cX5_changeWind 26 = .ok (.getfield 12, 3) := by decide +kernel
theorem dX5_changeWind_29 : decode cX5_changeWind 29 = .ok (.getfield 137, 3) := by decide +kernel
theorem dX5_changeWind_32 : decode cX5_changeWind 32 = .ok (.istore_n 2, 1) := by decide +kernel
theorem dX5_changeWind_33 : decode cX5_changeWind 33 = .ok (.aload_n 0, 1) := by decide +kernel
theorem dX5_changeWind_34 : decode cX5_changeWind 34 = .ok (.getfield 12, 3) := by decide +kernel
theorem dX5_changeWind_37 : decode cX5_changeWind 37 = .ok (.iload_n 1, 1) := by decide +kernel
theorem dX5_changeWind_38 : decode cX5_changeWind 38 = .ok (.putfield 137, 3) := by decide +kernel
theorem dX5_changeWind_41 : decode cX5_changeWind 41 = .ok (.iload_n 2, 1) := by decide +kernel
theorem dX5_changeWind_42 : decode cX5_changeWind 42 = .ok (.ireturn, 1) := by decide +kernel
def f_X5_changeWind (N : Nat) (xv : XV) (nv : SV) (v0 : SV) (v1 : SV) (v2 : SV) (v3 : SV) (v4 : SV) (v5 : SV) (p1 : Int32) : Option ((Nat ⊕ Int32) × (XV × SV × SV × SV × SV × SV × SV × SV)) :=
  jn (fun (s11 : Unit) => some (Sum.inl 0, (xv, nv, v0, v1, v2, v3, v4, v5))) (fun (j11 : (Unit) → Option ((Nat ⊕ Int32) × (XV × SV × SV × SV × SV × SV × SV × SV))) => (if p1 < (-5 : Int32) then j11 () else (if p1 ≤ (5 : Int32) then (f_X5_saveState N xv nv v0 v1 v2 v3 v4 v5).bind (fun o3 => some ((Sum.inr (S_blowing o3.2.1)), (o3.1, (S_set_blowing o3.2.1 p1), o3.2.2.1, o3.2.2.2.1, o3.2.2.2.2.1, o3.2.2.2.2.2.1, o3.2.2.2.2.2.2.1, o3.2.2.2.2.2.2.2))) else j11 ())))
set_option maxHeartbeats 4000000 in
set_option maxRecDepth 100000 in
theorem met_X5_changeWind (l : Launch) (z0 : Nat) (hst : l.stackTraces = false) (dC : Nat → ClassId) (dI : Nat → Nat → Nat) (cyI cyO : ClassId) (x : Nat → Nat) (tr : Nat → Nat) (an : Nat → Nat) (b0 : Nat → Nat) (b1 : Nat → Nat) (b2 : Nat → Nat) (b3 : Nat → Nat) (b4 : Nat → Nat) (b5 : Nat → Nat) (fl fs : Nat → Option Nat) (sz : Nat) (N : Nat) (xv : XV) (nv : SV) (v0 : SV) (v1 : SV) (v2 : SV) (v3 : SV) (v4 : SV) (v5 : SV) (p1 : Int32) (hs0 : fs 0 = some (b0 0)) (hs1 : fs 1 = some (b1 0)) (hs2 : fs 2 = some (b2 0)) (hs3 : fs 3 = some (b3 0)) (hs4 : fs 4 = some (b4 0)) (hs5 : fs 5 = some (b5 0)) (out : (Nat ⊕ Int32) × (XV × SV × SV × SV × SV × SV × SV × SV)) (hF : f_X5_changeWind N xv nv v0 v1 v2 v3 v4 v5 p1 = some out) : vx_Met l yX5_changeWind (Cond.code yX5_changeWind cX5_changeWind 3 (some .int) :: wT) ({ frames := 6, cells := 1, slots := 6, locals := 107 } : Room) (wWrX z0 dC dI cyI cyO [.ref (x 0), .int p1] (([(cXo x an tr xv), (cH cyO (x 1) (x 2) 2 fl), (cXk cyI x xv), (cH cyO (x 4) (x 5) 6 fs), (cT cyI x (X_text xv)), (cSo an nv), (cG cyI an (S_green nv)), (cV cyI an (S_score nv)), (cS cyI b0 v0), (cS cyI b1 v1), (cS cyI b2 v2), (cS cyI b3 v3), (cS cyI b4 v4), (cS cyI b5 v5)] : List va_W).flatten) sz) (va_Qi (fun (r : Int32) (u : XV × SV × SV × SV × SV × SV × SV × SV) => (Sum.inr r, u) = out) (fun u t => va_P (dC, dI) vwCl (([(cXo x an tr u.1), (cH cyO (x 1) (x 2) 2 fl), (cXk cyI x u.1), (cH cyO (x 4) (x 5) 6 fs), (cT cyI x (X_text u.1)), (cSo an u.2.1), (cG cyI an (S_green u.2.1)), (cV cyI an (S_score u.2.1)), (cS cyI b0 u.2.2.1), (cS cyI b1 u.2.2.2.1), (cS cyI b2 u.2.2.2.2.1), (cS cyI b3 u.2.2.2.2.2.1), (cS cyI b4 u.2.2.2.2.2.2.1), (cS cyI b5 u.2.2.2.2.2.2.2)] : List va_W).flatten) t.heap ∧ va_D (va_A (([(cXo x an tr xv), (cH cyO (x 1) (x 2) 2 fl), (cXk cyI x xv), (cH cyO (x 4) (x 5) 6 fs), (cT cyI x (X_text xv)), (cSo an nv), (cG cyI an (S_green nv)), (cV cyI an (S_score nv)), (cS cyI b0 v0), (cS cyI b1 v1), (cS cyI b2 v2), (cS cyI b3 v3), (cS cyI b4 v4), (cS cyI b5 v5)] : List va_W).flatten) sz) (([(cXo x an tr u.1), (cH cyO (x 1) (x 2) 2 fl), (cXk cyI x u.1), (cH cyO (x 4) (x 5) 6 fs), (cT cyI x (X_text u.1)), (cSo an u.2.1), (cG cyI an (S_green u.2.1)), (cV cyI an (S_score u.2.1)), (cS cyI b0 u.2.2.1), (cS cyI b1 u.2.2.2.1), (cS cyI b2 u.2.2.2.2.1), (cS cyI b3 u.2.2.2.2.2.1), (cS cyI b4 u.2.2.2.2.2.2.1), (cS cyI b5 u.2.2.2.2.2.2.2)] : List va_W).flatten)) (va_A (([(cXo x an tr xv), (cH cyO (x 1) (x 2) 2 fl), (cXk cyI x xv), (cH cyO (x 4) (x 5) 6 fs), (cT cyI x (X_text xv)), (cSo an nv), (cG cyI an (S_green nv)), (cV cyI an (S_score nv)), (cS cyI b0 v0), (cS cyI b1 v1), (cS cyI b2 v2), (cS cyI b3 v3), (cS cyI b4 v4), (cS cyI b5 v5)] : List va_W).flatten) sz)) (xcW dC dI Int32 (fun (u : XV × SV × SV × SV × SV × SV × SV × SV) => (([(cXo x an tr u.1), (cH cyO (x 1) (x 2) 2 fl), (cXk cyI x u.1), (cH cyO (x 4) (x 5) 6 fs), (cT cyI x (X_text u.1)), (cSo an u.2.1), (cG cyI an (S_green u.2.1)), (cV cyI an (S_score u.2.1)), (cS cyI b0 u.2.2.1), (cS cyI b1 u.2.2.2.1), (cS cyI b2 u.2.2.2.2.1), (cS cyI b3 u.2.2.2.2.2.1), (cS cyI b4 u.2.2.2.2.2.2.1), (cS cyI b5 u.2.2.2.2.2.2.2)] : List va_W).flatten)) (va_A (([(cXo x an tr xv), (cH cyO (x 1) (x 2) 2 fl), (cXk cyI x xv), (cH cyO (x 4) (x 5) 6 fs), (cT cyI x (X_text xv)), (cSo an nv), (cG cyI an (S_green nv)), (cV cyI an (S_score nv)), (cS cyI b0 v0), (cS cyI b1 v1), (cS cyI b2 v2), (cS cyI b3 v3), (cS cyI b4 v4), (cS cyI b5 v5)] : List va_W).flatten) sz) out) 1 6 (va_A (([(cXo x an tr xv), (cH cyO (x 1) (x 2) 2 fl), (cXk cyI x xv), (cH cyO (x 4) (x 5) 6 fs), (cT cyI x (X_text xv)), (cSo an nv), (cG cyI an (S_green nv)), (cV cyI an (S_score nv)), (cS cyI b0 v0), (cS cyI b1 v1), (cS cyI b2 v2), (cS cyI b3 v3), (cS cyI b4 v4), (cS cyI b5 v5)] : List va_W).flatten) sz) := by
  refine vx_ofW (cc := cX5_changeWind) (maxL := 3) (ret := (some .int)) (by decide) rfl ?_
  intro p e s m args below meth c s₁ B hml htx hv
  obtain ⟨rfl, hsz, hP, hK, hD0, hz0, hZ⟩ := hv
  have hx := B.exec
  have hb := B.bytes
  have hr := B.returns
  have hts0 := atoms_spec (ws := (Cond.code yX5_changeWind cX5_changeWind 3 (some .int) :: wT)) B.pre
  have hts := fun w h => hts0 w (List.mem_cons_of_mem _ h)
  clear hts0
  have hown : s.vm.findClass RX5 = some m.cls := findClass_of_methodNamed B.named
  have hlocks := B.notSynchronized
  subst hsz
  have hD := hD0.self (sz := s.heap.size)
  have hAz := wA_ge hD0 hz0
  generalize hAe : va_A (([(cXo x an tr xv), (cH cyO (x 1) (x 2) 2 fl), (cXk cyI x xv), (cH cyO (x 4) (x 5) 6 fs), (cT cyI x (X_text xv)), (cSo an nv), (cG cyI an (S_green nv)), (cV cyI an (S_score nv)), (cS cyI b0 v0), (cS cyI b1 v1), (cS cyI b2 v2), (cS cyI b3 v3), (cS cyI b4 v4), (cS cyI b5 v5)] : List va_W).flatten) s.heap.size = A at hD hAz ⊢
  have hA : ∀ q : Nat, s.heap.size ≤ q → A q := fun q h => by rw [← hAe]; exact Or.inr h
  clear hD0
  have hS : va_S A s.heap s.heap [] := va_S.rf
  have hl := lv_entry [.ref (x 0), .int p1] (n := 3) (Nat.le_of_ble_eq_true rfl)
  rw [lg_entry_eq]
  generalize (lg_sl [.ref (x 0), .int p1] ++ List.replicate (3 - (lg_sl [.ref (x 0), .int p1]).length) Slot.unset).toArray = ls at hl ⊢
  have hl : lv_has ls 3 [(0, .ref (x 0)), (1, .int p1)] := hl
  unfold f_X5_changeWind at hF
  refine lv_iload_n hx hb dX5_changeWind_0 rfl (lv_at hl 1 rfl) ?_
  refine lv_bipush (v := -5) hx hb dX5_changeWind_1 (by decide) ?_
  obtain ⟨j11, hj11, hF⟩ := jn_use hF
  have hJ11 : ∀ (s11 : Unit) (H : Heap) (locs : List Loc) (ls : Array Slot), va_P (dC, dI) vwCl (([(cXo x an tr xv), (cH cyO (x 1) (x 2) 2 fl), (cXk cyI x xv), (cH cyO (x 4) (x 5) 6 fs), (cT cyI x (X_text xv)), (cSo an nv), (cG cyI an (S_green nv)), (cV cyI an (S_score nv)), (cS cyI b0 v0), (cS cyI b1 v1), (cS cyI b2 v2), (cS cyI b3 v3), (cS cyI b4 v4), (cS cyI b5 v5)] : List va_W).flatten) H → va_D A (([(cXo x an tr xv), (cH cyO (x 1) (x 2) 2 fl), (cXk cyI x xv), (cH cyO (x 4) (x 5) 6 fs), (cT cyI x (X_text xv)), (cSo an nv), (cG cyI an (S_green nv)), (cV cyI an (S_score nv)), (cS cyI b0 v0), (cS cyI b1 v1), (cS cyI b2 v2), (cS cyI b3 v3), (cS cyI b4 v4), (cS cyI b5 v5)] : List va_W).flatten) → va_S A s.heap H locs → lv_has ls 3 [] → j11 s11 = some out → W p l e (headSpec (Cond.code yX5_changeWind cX5_changeWind 3 (some .int) :: wT) ({ frames := 6, cells := 1, slots := 6, locals := 107 } : Room)).room s m ([.ref (x 0), .int p1] : List Value).toArray below meth c H locs 0 0 (vx_MQ below (va_Qi (fun (r : Int32) (u : XV × SV × SV × SV × SV × SV × SV × SV) => (Sum.inr r, u) = out) (fun u t => va_P (dC, dI) vwCl (([(cXo x an tr u.1), (cH cyO (x 1) (x 2) 2 fl), (cXk cyI x u.1), (cH cyO (x 4) (x 5) 6 fs), (cT cyI x (X_text u.1)), (cSo an u.2.1), (cG cyI an (S_green u.2.1)), (cV cyI an (S_score u.2.1)), (cS cyI b0 u.2.2.1), (cS cyI b1 u.2.2.2.1), (cS cyI b2 u.2.2.2.2.1), (cS cyI b3 u.2.2.2.2.2.1), (cS cyI b4 u.2.2.2.2.2.2.1), (cS cyI b5 u.2.2.2.2.2.2.2)] : List va_W).flatten) t.heap ∧ va_D A (([(cXo x an tr u.1), (cH cyO (x 1) (x 2) 2 fl), (cXk cyI x u.1), (cH cyO (x 4) (x 5) 6 fs), (cT cyI x (X_text u.1)), (cSo an u.2.1), (cG cyI an (S_green u.2.1)), (cV cyI an (S_score u.2.1)), (cS cyI b0 u.2.2.1), (cS cyI b1 u.2.2.2.1), (cS cyI b2 u.2.2.2.2.1), (cS cyI b3 u.2.2.2.2.2.1), (cS cyI b4 u.2.2.2.2.2.2.1), (cS cyI b5 u.2.2.2.2.2.2.2)] : List va_W).flatten)) A) (xcW dC dI Int32 (fun (u : XV × SV × SV × SV × SV × SV × SV × SV) => (([(cXo x an tr u.1), (cH cyO (x 1) (x 2) 2 fl), (cXk cyI x u.1), (cH cyO (x 4) (x 5) 6 fs), (cT cyI x (X_text u.1)), (cSo an u.2.1), (cG cyI an (S_green u.2.1)), (cV cyI an (S_score u.2.1)), (cS cyI b0 u.2.2.1), (cS cyI b1 u.2.2.2.1), (cS cyI b2 u.2.2.2.2.1), (cS cyI b3 u.2.2.2.2.2.1), (cS cyI b4 u.2.2.2.2.2.2.1), (cS cyI b5 u.2.2.2.2.2.2.2)] : List va_W).flatten)) A out) ([.ref (x 0), .int p1] : List Value).toArray s 1 6 A) (F0 m 11 ls []) := by
    intro s11 H locs ls hP hD hS hl hF
    have hF := (congrFun hj11 s11).symm.trans hF
    have hF9 : ((Sum.inl 0 : Nat ⊕ Int32), (xv, nv, v0, v1, v2, v3, v4, v5)) = out := Option.some.inj hF
    exact thrW_0 (w1 := fun (u : XV × SV × SV × SV × SV × SV × SV × SV) => (([(cXo x an tr u.1), (cH cyO (x 1) (x 2) 2 fl), (cXk cyI x u.1), (cH cyO (x 4) (x 5) 6 fs), (cT cyI x (X_text u.1)), (cSo an u.2.1), (cG cyI an (S_green u.2.1)), (cV cyI an (S_score u.2.1)), (cS cyI b0 u.2.2.1), (cS cyI b1 u.2.2.2.1), (cS cyI b2 u.2.2.2.2.1), (cS cyI b3 u.2.2.2.2.2.1), (cS cyI b4 u.2.2.2.2.2.2.1), (cS cyI b5 u.2.2.2.2.2.2.2)] : List va_W).flatten)) (v := (xv, nv, v0, v1, v2, v3, v4, v5)) hF9 hP hD hx hb hst (is := 135) (text := "wind is out of range") hown hts hZ hAz hS (hl.1.trans hml.symm) (by decide) dX5_changeWind_11 dX5_changeWind_14 dX5_changeWind_15 dX5_changeWind_17 dX5_changeWind_20 htx (Nat.le_of_ble_eq_true rfl) (Nat.le_of_ble_eq_true rfl) (Nat.le_of_ble_eq_true rfl) (Nat.le_of_ble_eq_true rfl) hlocks (Nat.le_of_ble_eq_true rfl) (Nat.le_of_ble_eq_true rfl)
  refine lv_icmp_lt (tgt := 11) hx hb dX5_changeWind_3 (by decide) (fun c1 => ?_) (fun c1 => ?_)
  · have hF := itp c1 hF
    exact hJ11 () _ _ _ hP hD hS (lv_sub hl [] rfl) hF
  · have hF := itn c1 hF
    refine lv_iload_n hx hb dX5_changeWind_6 rfl (lv_at hl 1 rfl) ?_
    refine lv_iconst (v := 5) hx hb dX5_changeWind_7 (by decide) ?_
    refine lv_icmp_le (tgt := 21) hx hb dX5_changeWind_8 (by decide) (fun c2 => ?_) (fun c2 => ?_)
    · have hF := itp c2 hF
      refine lv_aload_n hx hb dX5_changeWind_21 rfl (lv_at hl 0 rfl) ?_
      obtain ⟨o3, h4, hF⟩ := obd hF
      refine wcPVv (As := []) (rest := []) (wr := ([] : List va_W).flatten) (b := (x 0)) ⟨hx, hb, hml, hown, hts⟩ (met_X5_saveState l dC dI cyI cyO x tr an b0 b1 b2 b3 b4 b5 fl fs _ N xv nv v0 v1 v2 v3 v4 v5 hs0 hs1 hs2 hs3 hs4 hs5 o3 h4) (cwV 0 hts (gV w_methodLink_X5_65 w_instanceMethod_X5_saveState w_selects_X5_saveState w_initialized_X5 w_code_X5_saveState) rfl rfl rfl (by decide +kernel) ⟨Nat.le_of_ble_eq_true rfl, Nat.le_of_ble_eq_true rfl⟩) (va_recv hK.1 hP (ci := 5) (q0 := 0) rfl rfl) hP hD hK (seg_perm (n := 14) (R := []) (C := [(cXo x an tr xv), (cH cyO (x 1) (x 2) 2 fl), (cXk cyI x xv), (cH cyO (x 4) (x 5) 6 fs), (cT cyI x (X_text xv)), (cSo an nv), (cG cyI an (S_green nv)), (cV cyI an (S_score nv)), (cS cyI b0 v0), (cS cyI b1 v1), (cS cyI b2 v2), (cS cyI b3 v3), (cS cyI b4 v4), (cS cyI b5 v5)]) [] [0, 1, 2, 3, 4, 5, 6, 7, 8, 9, 10, 11, 12, 13] rfl rfl rfl (by decide) rfl) rfl hl.1 (Nat.le_of_ble_eq_true rfl) dX5_changeWind_22 ⟨Nat.le_of_ble_eq_true rfl, Nat.le_of_ble_eq_true rfl⟩ hS hA (fun u H locs hw hP hD hS => ?_)
      have hw := hw.symm
      subst hw
      have hq := seg_permS (segs := [(cXo x an tr o3.1), (cH cyO (x 1) (x 2) 2 fl), (cXk cyI x o3.1), (cH cyO (x 4) (x 5) 6 fs), (cT cyI x (X_text o3.1)), (cSo an o3.2.1), (cG cyI an (S_green o3.2.1)), (cV cyI an (S_score o3.2.1)), (cS cyI b0 o3.2.2.1), (cS cyI b1 o3.2.2.2.1), (cS cyI b2 o3.2.2.2.2.1), (cS cyI b3 o3.2.2.2.2.2.1), (cS cyI b4 o3.2.2.2.2.2.2.1), (cS cyI b5 o3.2.2.2.2.2.2.2)]) (R := []) (C := [(cXo x an tr o3.1), (cH cyO (x 1) (x 2) 2 fl), (cXk cyI x o3.1), (cH cyO (x 4) (x 5) 6 fs), (cT cyI x (X_text o3.1)), (cSo an o3.2.1), (cG cyI an (S_green o3.2.1)), (cV cyI an (S_score o3.2.1)), (cS cyI b0 o3.2.2.1), (cS cyI b1 o3.2.2.2.1), (cS cyI b2 o3.2.2.2.2.1), (cS cyI b3 o3.2.2.2.2.2.1), (cS cyI b4 o3.2.2.2.2.2.2.1), (cS cyI b5 o3.2.2.2.2.2.2.2)]) (n := 14) [] [0, 1, 2, 3, 4, 5, 6, 7, 8, 9, 10, 11, 12, 13] rfl rfl rfl (by decide)
      have hP : va_P (dC, dI) vwCl (([(cXo x an tr o3.1), (cH cyO (x 1) (x 2) 2 fl), (cXk cyI x o3.1), (cH cyO (x 4) (x 5) 6 fs), (cT cyI x (X_text o3.1)), (cSo an o3.2.1), (cG cyI an (S_green o3.2.1)), (cV cyI an (S_score o3.2.1)), (cS cyI b0 o3.2.2.1), (cS cyI b1 o3.2.2.2.1), (cS cyI b2 o3.2.2.2.2.1), (cS cyI b3 o3.2.2.2.2.2.1), (cS cyI b4 o3.2.2.2.2.2.2.1), (cS cyI b5 o3.2.2.2.2.2.2.2)] : List va_W).flatten) H := hP.perm hq
      have hD : va_D A (([(cXo x an tr o3.1), (cH cyO (x 1) (x 2) 2 fl), (cXk cyI x o3.1), (cH cyO (x 4) (x 5) 6 fs), (cT cyI x (X_text o3.1)), (cSo an o3.2.1), (cG cyI an (S_green o3.2.1)), (cV cyI an (S_score o3.2.1)), (cS cyI b0 o3.2.2.1), (cS cyI b1 o3.2.2.2.1), (cS cyI b2 o3.2.2.2.2.1), (cS cyI b3 o3.2.2.2.2.2.1), (cS cyI b4 o3.2.2.2.2.2.2.1), (cS cyI b5 o3.2.2.2.2.2.2.2)] : List va_W).flatten) := hD.perm hq
      clear hq
      refine lv_aload_n hx hb dX5_changeWind_25 rfl (lv_at hl 0 rfl) ?_
      refine va_get (D := (dC, dI)) (ci := 5) (v := .ref (an 0)) (C := RX5) (T := TX5) (N := 8) hx hb hts inX5 hown hK.1 hP 0 rfl rfl 0 (by decide) (hts _ w_fieldLink_X5_12) (fun _ h9 => h9) rfl dX5_changeWind_26 ?_
      refine va_get (D := (dC, dI)) (ci := 3) (v := .int (S_blowing o3.2.1)) (C := RX3) (T := TX3) (N := 6) hx hb hts inX3 hown hK.1 hP 8 rfl rfl 3 (by decide) (hts _ w_fieldLink_X5_137) (fun _ h9 => h9) rfl dX5_changeWind_29 ?_
      refine lv_istore_n (lv' := [(2, .int (S_blowing o3.2.1)), (0, .ref (x 0)), (1, .int p1)]) hx hb dX5_changeWind_32 rfl hl (by decide) rfl (fun ls hl => ?_)
      refine lv_aload_n hx hb dX5_changeWind_33 rfl (lv_at hl 1 rfl) ?_
      refine va_get (D := (dC, dI)) (ci := 5) (v := .ref (an 0)) (C := RX5) (T := TX5) (N := 8) hx hb hts inX5 hown hK.1 hP 0 rfl rfl 0 (by decide) (hts _ w_fieldLink_X5_12) (fun _ h9 => h9) rfl dX5_changeWind_34 ?_
      refine lv_iload_n hx hb dX5_changeWind_37 rfl (lv_at hl 2 rfl) ?_
      refine va_put (D := (dC, dI)) (ci := 3) (v := .int p1) (ty := .int) (C := RX3) (T := TX3) (N := 6) hx hb hts inX3 tyX3 tyX3_ok nmX3 hown hK.1 hP hD hS 8 rfl rfl 3 (by decide) (hts _ w_fieldLink_X5_137) (fun _ h9 => h9) rfl (by decide +kernel) rfl rfl (Nat.le_of_ble_eq_true rfl) dX5_changeWind_38 (fun H locs hP hD hS => ?_)
      have hP : va_P (dC, dI) vwCl (([(cXo x an tr o3.1), (cH cyO (x 1) (x 2) 2 fl), (cXk cyI x o3.1), (cH cyO (x 4) (x 5) 6 fs), (cT cyI x (X_text o3.1)), (cSo an (S_set_blowing o3.2.1 p1)), (cG cyI an (S_green (S_set_blowing o3.2.1 p1))), (cV cyI an (S_score (S_set_blowing o3.2.1 p1))), (cS cyI b0 o3.2.2.1), (cS cyI b1 o3.2.2.2.1), (cS cyI b2 o3.2.2.2.2.1), (cS cyI b3 o3.2.2.2.2.2.1), (cS cyI b4 o3.2.2.2.2.2.2.1), (cS cyI b5 o3.2.2.2.2.2.2.2)] : List va_W).flatten) H := hP
      have hD : va_D A (([(cXo x an tr o3.1), (cH cyO (x 1) (x 2) 2 fl), (cXk cyI x o3.1), (cH cyO (x 4) (x 5) 6 fs), (cT cyI x (X_text o3.1)), (cSo an (S_set_blowing o3.2.1 p1)), (cG cyI an (S_green (S_set_blowing o3.2.1 p1))), (cV cyI an (S_score (S_set_blowing o3.2.1 p1))), (cS cyI b0 o3.2.2.1), (cS cyI b1 o3.2.2.2.1), (cS cyI b2 o3.2.2.2.2.1), (cS cyI b3 o3.2.2.2.2.2.1), (cS cyI b4 o3.2.2.2.2.2.2.1), (cS cyI b5 o3.2.2.2.2.2.2.2)] : List va_W).flatten) := hD
      refine lv_iload_n hx hb dX5_changeWind_41 rfl (lv_at hl 0 rfl) ?_
      refine vx_ret ?_
      refine W.widen (k := 1) (n := 6) (Nat.le_of_ble_eq_true rfl) (Nat.le_of_ble_eq_true rfl) ?_
      exact W.iret (v := (S_blowing o3.2.1)) hx hb hr (fun t ht hW => ⟨⟨_, (o3.1, (S_set_blowing o3.2.1 p1), o3.2.2.1, o3.2.2.2.1, o3.2.2.2.2.1, o3.2.2.2.2.2.1, o3.2.2.2.2.2.2.1, o3.2.2.2.2.2.2.2), rfl, Option.some.inj hF, by rw [ht]; exact hP, hD⟩, hS.F ht⟩) hS.2.2 dX5_changeWind_42
    · have hF := itn c2 hF
      exact hJ11 () _ _ _ hP hD hS (lv_sub hl [] rfl) hF
theorem dX5_turnBack_0 : decode cX5_turnBack 0 = .ok (.aload_n 0, 1) := by decide +kernel
theorem dX5_turnBack_1 : decode cX5_turnBack 1 = .ok (.invokevirtual 65, 3) := by decide +kernel
theorem dX5_turnBack_4 : decode cX5_turnBack 4 = .ok (.aload_n 0, 1) := by decide +kernel
theorem dX5_turnBack_5 : decode cX5_turnBack 5 = .ok (.getfield 12, 3) := by decide +kernel
theorem dX5_turnBack_8 : decode cX5_turnBack 8 = .ok (.aload_n 0, 1) := by decide +kernel
theorem dX5_turnBack_9 : decode cX5_turnBack 9 = .ok (.getfield 12, 3) := by decide +kernel
theorem dX5_turnBack_12 : decode cX5_turnBack 12 = .ok (.getfield 140, 3) := by decide +kernel
theorem dX5_turnBack_15 : decode cX5_turnBack 15 = .ok (.ifCond .ne 7, 3) := by decide +kernel
theorem dX5_turnBack_18 : decode cX5_turnBack 18 = .ok (.iconst 1, 1) := by decide +kernel
theorem dX5_turnBack_19 : decode cX5_turnBack 19 = .ok (.goto 4, 3) := by decide +kernel
theorem dX5_turnBack_22 : decode cX5_turnBack 22 = .ok (.iconst 0, 1) := by decide +kernel
theorem dX5_turnBack_23 : decode cX5_turnBack 23 = .ok (.putfield 140, 3) := by decide +kernel
theorem dX5_turnBack_26 : decode cX5_turnBack 26 = .ok (.aload_n 0, 1) := by decide +kernel
theorem dX5_turnBack_27 : decode cX5_turnBack 27 = .ok (.getfield 12, 3) := by decide +kernel
theorem dX5_turnBack_30 : decode cX5_turnBack 30 = .ok (.invokevirtual 144, 3) := by decide +kernel
theorem dX5_turnBack_33 : decode cX5_turnBack 33 = .ok (.aload_n 0, 1) := by decide +kernel
theorem dX5_turnBack_34 : decode cX5_turnBack 34 = .ok (.getfield 12, 3) := by decide +kernel
theorem dX5_turnBack_37 : decode cX5_turnBack 37 = .ok (.getfield 140, 3) := by decide +kernel
theorem dX5_turnBack_40 : decode cX5_turnBack 40 = .ok (.ireturn, 1) := by decide +kernel
def f_X5_turnBack (N : Nat) (xv : XV) (nv : SV) (v0 : SV) (v1 : SV) (v2 : SV) (v3 : SV) (v4 : SV) (v5 : SV) : Option (Int32 × (XV × SV × SV × SV × SV × SV × SV × SV)) :=
  (f_X5_saveState N xv nv v0 v1 v2 v3 v4 v5).bind (fun o1 => jn (fun (s23 : Int32) => (f_X3_rescueJack N (S_set_jackGoesBack o1.2.1 s23)).bind (fun o3 => gd (b01 (S_jackGoesBack o3)) (some ((S_jackGoesBack o3), (o1.1, o3, o1.2.2.1, o1.2.2.2.1, o1.2.2.2.2.1, o1.2.2.2.2.2.1, o1.2.2.2.2.2.2.1, o1.2.2.2.2.2.2.2))))) (fun (j23 : (Int32) → Option (Int32 × (XV × SV × SV × SV × SV × SV × SV × SV))) => (if (S_jackGoesBack o1.2.1) = 0 then j23 (1 : Int32) else j23 (0 : Int32))))
set_option maxHeartbeats 4000000 in
set_option maxRecDepth 100000 in
theorem met_X5_turnBack (l : Launch) (dC : Nat → ClassId) (dI : Nat → Nat → Nat) (cyI cyO : ClassId) (x : Nat → Nat) (tr : Nat → Nat) (an : Nat → Nat) (b0 : Nat → Nat) (b1 : Nat → Nat) (b2 : Nat → Nat) (b3 : Nat → Nat) (b4 : Nat → Nat) (b5 : Nat → Nat) (fl fs : Nat → Option Nat) (sz : Nat) (N : Nat) (xv : XV) (nv : SV) (v0 : SV) (v1 : SV) (v2 : SV) (v3 : SV) (v4 : SV) (v5 : SV) (hs0 : fs 0 = some (b0 0)) (hs1 : fs 1 = some (b1 0)) (hs2 : fs 2 = some (b2 0)) (hs3 : fs 3 = some (b3 0)) (hs4 : fs 4 = some (b4 0)) (hs5 : fs 5 = some (b5 0)) (out : Int32 × (XV × SV × SV × SV × SV × SV × SV × SV)) (hF : f_X5_turnBack N xv nv v0 v1 v2 v3 v4 v5 = some out) : Met l yX5_turnBack (Cond.code yX5_turnBack cX5_turnBack 1 (some .boolean) :: wT) ({ frames := 5, cells := 0, slots := 0, locals := 107 } : Room) (wWr dC dI cyI cyO [.ref (x 0)] (([(cXo x an tr xv), (cH cyO (x 1) (x 2) 2 fl), (cXk cyI x xv), (cH cyO (x 4) (x 5) 6 fs), (cT cyI x (X_text xv)), (cSo an nv), (cG cyI an (S_green nv)), (cV cyI an (S_score nv)), (cS cyI b0 v0), (cS cyI b1 v1), (cS cyI b2 v2), (cS cyI b3 v3), (cS cyI b4 v4), (cS cyI b5 v5)] : List va_W).flatten) sz) (va_Qi (fun (r : Int32) (u : XV × SV × SV × SV × SV × SV × SV × SV) => (r, u) = out ∧ b01 r) (fun u t => va_P (dC, dI) vwCl (([(cXo x an tr u.1), (cH cyO (x 1) (x 2) 2 fl), (cXk cyI x u.1), (cH cyO (x 4) (x 5) 6 fs), (cT cyI x (X_text u.1)), (cSo an u.2.1), (cG cyI an (S_green u.2.1)), (cV cyI an (S_score u.2.1)), (cS cyI b0 u.2.2.1), (cS cyI b1 u.2.2.2.1), (cS cyI b2 u.2.2.2.2.1), (cS cyI b3 u.2.2.2.2.2.1), (cS cyI b4 u.2.2.2.2.2.2.1), (cS cyI b5 u.2.2.2.2.2.2.2)] : List va_W).flatten) t.heap ∧ va_D (va_A (([(cXo x an tr xv), (cH cyO (x 1) (x 2) 2 fl), (cXk cyI x xv), (cH cyO (x 4) (x 5) 6 fs), (cT cyI x (X_text xv)), (cSo an nv), (cG cyI an (S_green nv)), (cV cyI an (S_score nv)), (cS cyI b0 v0), (cS cyI b1 v1), (cS cyI b2 v2), (cS cyI b3 v3), (cS cyI b4 v4), (cS cyI b5 v5)] : List va_W).flatten) sz) (([(cXo x an tr u.1), (cH cyO (x 1) (x 2) 2 fl), (cXk cyI x u.1), (cH cyO (x 4) (x 5) 6 fs), (cT cyI x (X_text u.1)), (cSo an u.2.1), (cG cyI an (S_green u.2.1)), (cV cyI an (S_score u.2.1)), (cS cyI b0 u.2.2.1), (cS cyI b1 u.2.2.2.1), (cS cyI b2 u.2.2.2.2.1), (cS cyI b3 u.2.2.2.2.2.1), (cS cyI b4 u.2.2.2.2.2.2.1), (cS cyI b5 u.2.2.2.2.2.2.2)] : List va_W).flatten)) (va_A (([(cXo x an tr xv), (cH cyO (x 1) (x 2) 2 fl), (cXk cyI x xv), (cH cyO (x 4) (x 5) 6 fs), (cT cyI x (X_text xv)), (cSo an nv), (cG cyI an (S_green nv)), (cV cyI an (S_score nv)), (cS cyI b0 v0), (cS cyI b1 v1), (cS cyI b2 v2), (cS cyI b3 v3), (cS cyI b4 v4), (cS cyI b5 v5)] : List va_W).flatten) sz)) 0 0 (va_A (([(cXo x an tr xv), (cH cyO (x 1) (x 2) 2 fl), (cXk cyI x xv), (cH cyO (x 4) (x 5) 6 fs), (cT cyI x (X_text xv)), (cSo an nv), (cG cyI an (S_green nv)), (cV cyI an (S_score nv)), (cS cyI b0 v0), (cS cyI b1 v1), (cS cyI b2 v2), (cS cyI b3 v3), (cS cyI b4 v4), (cS cyI b5 v5)] : List va_W).flatten) sz) := by
  refine Met.ofW (cc := cX5_turnBack) (maxL := 1) (ret := (some .boolean)) (by decide) rfl ?_
  intro p e s m args below meth c s₁ B hml hv
  obtain ⟨rfl, hsz, hP, hK, hD0⟩ := hv
  have hx := B.exec
  have hb := B.bytes
  have hr := B.returns
  have hts0 := atoms_spec (ws := (Cond.code yX5_turnBack cX5_turnBack 1 (some .boolean) :: wT)) B.pre
  have hts := fun w h => hts0 w (List.mem_cons_of_mem _ h)
  clear hts0
  have hown : s.vm.findClass RX5 = some m.cls := findClass_of_methodNamed B.named
  have hlocks := B.notSynchronized
  subst hsz
  have hD := hD0.self (sz := s.heap.size)
  generalize hAe : va_A (([(cXo x an tr xv), (cH cyO (x 1) (x 2) 2 fl), (cXk cyI x xv), (cH cyO (x 4) (x 5) 6 fs), (cT cyI x (X_text xv)), (cSo an nv), (cG cyI an (S_green nv)), (cV cyI an (S_score nv)), (cS cyI b0 v0), (cS cyI b1 v1), (cS cyI b2 v2), (cS cyI b3 v3), (cS cyI b4 v4), (cS cyI b5 v5)] : List va_W).flatten) s.heap.size = A at hD ⊢
  have hA : ∀ q : Nat, s.heap.size ≤ q → A q := fun q h => by rw [← hAe]; exact Or.inr h
  clear hD0
  have hS : va_S A s.heap s.heap [] := va_S.rf
  have hl := lv_entry [.ref (x 0)] (n := 1) (Nat.le_of_ble_eq_true rfl)
  rw [lg_entry_eq]
  generalize (lg_sl [.ref (x 0)] ++ List.replicate (1 - (lg_sl [.ref (x 0)]).length) Slot.unset).toArray = ls at hl ⊢
  have hl : lv_has ls 1 [(0, .ref (x 0))] := hl
  unfold f_X5_turnBack at hF
  refine lv_aload_n hx hb dX5_turnBack_0 rfl (lv_at hl 0 rfl) ?_
  obtain ⟨o1, h2, hF⟩ := obd hF
  refine wcPVv (As := []) (rest := []) (wr := ([] : List va_W).flatten) (b := (x 0)) ⟨hx, hb, hml, hown, hts⟩ (met_X5_saveState l dC dI cyI cyO x tr an b0 b1 b2 b3 b4 b5 fl fs _ N xv nv v0 v1 v2 v3 v4 v5 hs0 hs1 hs2 hs3 hs4 hs5 o1 h2) (cwV 0 hts (gV w_methodLink_X5_65 w_instanceMethod_X5_saveState w_selects_X5_saveState w_initialized_X5 w_code_X5_saveState) rfl rfl rfl (by decide +kernel) ⟨Nat.le_of_ble_eq_true rfl, Nat.le_of_ble_eq_true rfl⟩) (va_recv hK.1 hP (ci := 5) (q0 := 0) rfl rfl) hP hD hK (seg_perm (n := 14) (R := []) (C := [(cXo x an tr xv), (cH cyO (x 1) (x 2) 2 fl), (cXk cyI x xv), (cH cyO (x 4) (x 5) 6 fs), (cT cyI x (X_text xv)), (cSo an nv), (cG cyI an (S_green nv)), (cV cyI an (S_score nv)), (cS cyI b0 v0), (cS cyI b1 v1), (cS cyI b2 v2), (cS cyI b3 v3), (cS cyI b4 v4), (cS cyI b5 v5)]) [] [0, 1, 2, 3, 4, 5, 6, 7, 8, 9, 10, 11, 12, 13] rfl rfl rfl (by decide) rfl) rfl hl.1 (Nat.le_of_ble_eq_true rfl) dX5_turnBack_1 ⟨Nat.le_of_ble_eq_true rfl, Nat.le_of_ble_eq_true rfl⟩ hS hA (fun u H locs hw hP hD hS => ?_)
  have hw := hw.symm
  subst hw
  have hq := seg_permS (segs := [(cXo x an tr o1.1), (cH cyO (x 1) (x 2) 2 fl), (cXk cyI x o1.1), (cH cyO (x 4) (x 5) 6 fs), (cT cyI x (X_text o1.1)), (cSo an o1.2.1), (cG cyI an (S_green o1.2.1)), (cV cyI an (S_score o1.2.1)), (cS cyI b0 o1.2.2.1), (cS cyI b1 o1.2.2.2.1), (cS cyI b2 o1.2.2.2.2.1), (cS cyI b3 o1.2.2.2.2.2.1), (cS cyI b4 o1.2.2.2.2.2.2.1), (cS cyI b5 o1.2.2.2.2.2.2.2)]) (R := []) (C := [(cXo x an tr o1.1), (cH cyO (x 1) (x 2) 2 fl), (cXk cyI x o1.1), (cH cyO (x 4) (x 5) 6 fs), (cT cyI x (X_text o1.1)), (cSo an o1.2.1), (cG cyI an (S_green o1.2.1)), (cV cyI an (S_score o1.2.1)), (cS cyI b0 o1.2.2.1), (cS cyI b1 o1.2.2.2.1), (cS cyI b2 o1.2.2.2.2.1), (cS cyI b3 o1.2.2.2.2.2.1), (cS cyI b4 o1.2.2.2.2.2.2.1), (cS cyI b5 o1.2.2.2.2.2.2.2)]) (n := 14) [] [0, 1, 2, 3, 4, 5, 6, 7, 8, 9, 10, 11, 12, 13] rfl rfl rfl (by decide)
  have hP : va_P (dC, dI) vwCl (([(cXo x an tr o1.1), (cH cyO (x 1) (x 2) 2 fl), (cXk cyI x o1.1), (cH cyO (x 4) (x 5) 6 fs), (cT cyI x (X_text o1.1)), (cSo an o1.2.1), (cG cyI an (S_green o1.2.1)), (cV cyI an (S_score o1.2.1)), (cS cyI b0 o1.2.2.1), (cS cyI b1 o1.2.2.2.1), (cS cyI b2 o1.2.2.2.2.1), (cS cyI b3 o1.2.2.2.2.2.1), (cS cyI b4 o1.2.2.2.2.2.2.1), (cS cyI b5 o1.2.2.2.2.2.2.2)] : List va_W).flatten) H := hP.perm hq
  have hD : va_D A (([(cXo x an tr o1.1), (cH cyO (x 1) (x 2) 2 fl), (cXk cyI x o1.1), (cH cyO (x 4) (x 5) 6 fs), (cT cyI x (X_text o1.1)), (cSo an o1.2.1), (cG cyI an (S_green o1.2.1)), (cV cyI an (S_score o1.2.1)), (cS cyI b0 o1.2.2.1), (cS cyI b1 o1.2.2.2.1), (cS cyI b2 o1.2.2.2.2.1), (cS cyI b3 o1.2.2.2.2.2.1), (cS cyI b4 o1.2.2.2.2.2.2.1), (cS cyI b5 o1.2.2.2.2.2.2.2)] : List va_W).flatten) := hD.perm hq
  clear hq
  refine lv_aload_n hx hb dX5_turnBack_4 rfl (lv_at hl 0 rfl) ?_
  refine va_get (D := (dC, dI)) (ci := 5) (v := .ref (an 0)) (C := RX5) (T := TX5) (N := 8) hx hb hts inX5 hown hK.1 hP 0 rfl rfl 0 (by decide) (hts _ w_fieldLink_X5_12) (fun _ h9 => h9) rfl dX5_turnBack_5 ?_
  refine lv_aload_n hx hb dX5_turnBack_8 rfl (lv_at hl 0 rfl) ?_
  refine va_get (D := (dC, dI)) (ci := 5) (v := .ref (an 0)) (C := RX5) (T := TX5) (N := 8) hx hb hts inX5 hown hK.1 hP 0 rfl rfl 0 (by decide) (hts _ w_fieldLink_X5_12) (fun _ h9 => h9) rfl dX5_turnBack_9 ?_
  refine va_get (D := (dC, dI)) (ci := 3) (v := .int (S_jackGoesBack o1.2.1)) (C := RX3) (T := TX3) (N := 6) hx hb hts inX3 hown hK.1 hP 8 rfl rfl 4 (by decide) (hts _ w_fieldLink_X5_140) (fun _ h9 => h9) rfl dX5_turnBack_12 ?_
  obtain ⟨j23, hj23, hF⟩ := jn_use hF
  have hJ23 : ∀ (s23 : Int32) (H : Heap) (locs : List Loc) (ls : Array Slot) (hz_23_s1 : b01 s23), va_P (dC, dI) vwCl (([(cXo x an tr o1.1), (cH cyO (x 1) (x 2) 2 fl), (cXk cyI x o1.1), (cH cyO (x 4) (x 5) 6 fs), (cT cyI x (X_text o1.1)), (cSo an o1.2.1), (cG cyI an (S_green o1.2.1)), (cV cyI an (S_score o1.2.1)), (cS cyI b0 o1.2.2.1), (cS cyI b1 o1.2.2.2.1), (cS cyI b2 o1.2.2.2.2.1), (cS cyI b3 o1.2.2.2.2.2.1), (cS cyI b4 o1.2.2.2.2.2.2.1), (cS cyI b5 o1.2.2.2.2.2.2.2)] : List va_W).flatten) H → va_D A (([(cXo x an tr o1.1), (cH cyO (x 1) (x 2) 2 fl), (cXk cyI x o1.1), (cH cyO (x 4) (x 5) 6 fs), (cT cyI x (X_text o1.1)), (cSo an o1.2.1), (cG cyI an (S_green o1.2.1)), (cV cyI an (S_score o1.2.1)), (cS cyI b0 o1.2.2.1), (cS cyI b1 o1.2.2.2.1), (cS cyI b2 o1.2.2.2.2.1), (cS cyI b3 o1.2.2.2.2.2.1), (cS cyI b4 o1.2.2.2.2.2.2.1), (cS cyI b5 o1.2.2.2.2.2.2.2)] : List va_W).flatten) → va_S A s.heap H locs → lv_has ls 1 [(0, .ref (x 0))] → j23 s23 = some out → W p l e (headSpec (Cond.code yX5_turnBack cX5_turnBack 1 (some .boolean) :: wT) ({ frames := 5, cells := 0, slots := 0, locals := 107 } : Room)).room s m ([.ref (x 0)] : List Value).toArray below meth c H locs 0 0 (MQ below (va_Qi (fun (r : Int32) (u : XV × SV × SV × SV × SV × SV × SV × SV) => (r, u) = out ∧ b01 r) (fun u t => va_P (dC, dI) vwCl (([(cXo x an tr u.1), (cH cyO (x 1) (x 2) 2 fl), (cXk cyI x u.1), (cH cyO (x 4) (x 5) 6 fs), (cT cyI x (X_text u.1)), (cSo an u.2.1), (cG cyI an (S_green u.2.1)), (cV cyI an (S_score u.2.1)), (cS cyI b0 u.2.2.1), (cS cyI b1 u.2.2.2.1), (cS cyI b2 u.2.2.2.2.1), (cS cyI b3 u.2.2.2.2.2.1), (cS cyI b4 u.2.2.2.2.2.2.1), (cS cyI b5 u.2.2.2.2.2.2.2)] : List va_W).flatten) t.heap ∧ va_D A (([(cXo x an tr u.1), (cH cyO (x 1) (x 2) 2 fl), (cXk cyI x u.1), (cH cyO (x 4) (x 5) 6 fs), (cT cyI x (X_text u.1)), (cSo an u.2.1), (cG cyI an (S_green u.2.1)), (cV cyI an (S_score u.2.1)), (cS cyI b0 u.2.2.1), (cS cyI b1 u.2.2.2.1), (cS cyI b2 u.2.2.2.2.1), (cS cyI b3 u.2.2.2.2.2.1), (cS cyI b4 u.2.2.2.2.2.2.1), (cS cyI b5 u.2.2.2.2.2.2.2)] : List va_W).flatten)) A) ([.ref (x 0)] : List Value).toArray s 0 0 A) (F0 m 23 ls [.int s23, .ref (an 0)]) := by
    intro s23 H locs ls hz_23_s1 hP hD hS hl hF
    have hF := (congrFun hj23 s23).symm.trans hF
    refine va_put (D := (dC, dI)) (ci := 3) (v := .int s23) (ty := .boolean) (C := RX3) (T := TX3) (N := 6) hx hb hts inX3 tyX3 tyX3_ok nmX3 hown hK.1 hP hD hS 8 rfl rfl 4 (by decide) (hts _ w_fieldLink_X5_140) (fun _ h9 => h9) rfl (by decide +kernel) (b01_n hz_23_s1) (b01_f hz_23_s1) (Nat.le_of_ble_eq_true rfl) dX5_turnBack_23 (fun H locs hP hD hS => ?_)
    have hP : va_P (dC, dI) vwCl (([(cXo x an tr o1.1), (cH cyO (x 1) (x 2) 2 fl), (cXk cyI x o1.1), (cH cyO (x 4) (x 5) 6 fs), (cT cyI x (X_text o1.1)), (cSo an (S_set_jackGoesBack o1.2.1 s23)), (cG cyI an (S_green (S_set_jackGoesBack o1.2.1 s23))), (cV cyI an (S_score (S_set_jackGoesBack o1.2.1 s23))), (cS cyI b0 o1.2.2.1), (cS cyI b1 o1.2.2.2.1), (cS cyI b2 o1.2.2.2.2.1), (cS cyI b3 o1.2.2.2.2.2.1), (cS cyI b4 o1.2.2.2.2.2.2.1), (cS cyI b5 o1.2.2.2.2.2.2.2)] : List va_W).flatten) H := hP
    have hD : va_D A (([(cXo x an tr o1.1), (cH cyO (x 1) (x 2) 2 fl), (cXk cyI x o1.1), (cH cyO (x 4) (x 5) 6 fs), (cT cyI x (X_text o1.1)), (cSo an (S_set_jackGoesBack o1.2.1 s23)), (cG cyI an (S_green (S_set_jackGoesBack o1.2.1 s23))), (cV cyI an (S_score (S_set_jackGoesBack o1.2.1 s23))), (cS cyI b0 o1.2.2.1), (cS cyI b1 o1.2.2.2.1), (cS cyI b2 o1.2.2.2.2.1), (cS cyI b3 o1.2.2.2.2.2.1), (cS cyI b4 o1.2.2.2.2.2.2.1), (cS cyI b5 o1.2.2.2.2.2.2.2)] : List va_W).flatten) := hD
    refine lv_aload_n hx hb dX5_turnBack_26 rfl (lv_at hl 0 rfl) ?_
    refine va_get (D := (dC, dI)) (ci := 5) (v := .ref (an 0)) (C := RX5) (T := TX5) (N := 8) hx hb hts inX5 hown hK.1 hP 0 rfl rfl 0 (by decide) (hts _ w_fieldLink_X5_12) (fun _ h9 => h9) rfl dX5_turnBack_27 ?_
    obtain ⟨o3, h4, hF⟩ := obd hF
    refine wcPVv (As := []) (rest := []) (wr := ([(cXo x an tr o1.1), (cH cyO (x 1) (x 2) 2 fl), (cXk cyI x o1.1), (cH cyO (x 4) (x 5) 6 fs), (cT cyI x (X_text o1.1)), (cS cyI b0 o1.2.2.1), (cS cyI b1 o1.2.2.2.1), (cS cyI b2 o1.2.2.2.2.1), (cS cyI b3 o1.2.2.2.2.2.1), (cS cyI b4 o1.2.2.2.2.2.2.1), (cS cyI b5 o1.2.2.2.2.2.2.2)] : List va_W).flatten) (b := (an 0)) ⟨hx, hb, hml, hown, hts⟩ (met_X3_rescueJack l dC dI cyI cyO an _ N (S_set_jackGoesBack o1.2.1 s23)  o3 h4) (cwV 0 hts (gV w_methodLink_X5_144 w_instanceMethod_X3_rescueJack w_selects_X3_rescueJack w_initialized_X3 w_code_X3_rescueJack) rfl rfl rfl (by decide +kernel) ⟨Nat.le_of_ble_eq_true rfl, Nat.le_of_ble_eq_true rfl⟩) (va_recv hK.1 hP (ci := 3) (q0 := 8) rfl rfl) hP hD hK (seg_perm (n := 14) (R := [(cXo x an tr o1.1), (cH cyO (x 1) (x 2) 2 fl), (cXk cyI x o1.1), (cH cyO (x 4) (x 5) 6 fs), (cT cyI x (X_text o1.1)), (cS cyI b0 o1.2.2.1), (cS cyI b1 o1.2.2.2.1), (cS cyI b2 o1.2.2.2.2.1), (cS cyI b3 o1.2.2.2.2.2.1), (cS cyI b4 o1.2.2.2.2.2.2.1), (cS cyI b5 o1.2.2.2.2.2.2.2)]) (C := [(cSo an (S_set_jackGoesBack o1.2.1 s23)), (cG cyI an (S_green (S_set_jackGoesBack o1.2.1 s23))), (cV cyI an (S_score (S_set_jackGoesBack o1.2.1 s23)))]) [0, 1, 2, 3, 4, 8, 9, 10, 11, 12, 13] [5, 6, 7] rfl rfl rfl (by decide) rfl) rfl hl.1 (Nat.le_of_ble_eq_true rfl) dX5_turnBack_30 ⟨Nat.le_of_ble_eq_true rfl, Nat.le_of_ble_eq_true rfl⟩ hS hA (fun u H locs hw hP hD hS => ?_)
    have hw := hw.symm
    subst hw
    have hq := seg_permS (segs := [(cXo x an tr o1.1), (cH cyO (x 1) (x 2) 2 fl), (cXk cyI x o1.1), (cH cyO (x 4) (x 5) 6 fs), (cT cyI x (X_text o1.1)), (cSo an o3), (cG cyI an (S_green o3)), (cV cyI an (S_score o3)), (cS cyI b0 o1.2.2.1), (cS cyI b1 o1.2.2.2.1), (cS cyI b2 o1.2.2.2.2.1), (cS cyI b3 o1.2.2.2.2.2.1), (cS cyI b4 o1.2.2.2.2.2.2.1), (cS cyI b5 o1.2.2.2.2.2.2.2)]) (R := [(cXo x an tr o1.1), (cH cyO (x 1) (x 2) 2 fl), (cXk cyI x o1.1), (cH cyO (x 4) (x 5) 6 fs), (cT cyI x (X_text o1.1)), (cS cyI b0 o1.2.2.1), (cS cyI b1 o1.2.2.2.1), (cS cyI b2 o1.2.2.2.2.1), (cS cyI b3 o1.2.2.2.2.2.1), (cS cyI b4 o1.2.2.2.2.2.2.1), (cS cyI b5 o1.2.2.2.2.2.2.2)]) (C := [(cSo an o3), (cG cyI an (S_green o3)), (cV cyI an (S_score o3))]) (n := 14) [0, 1, 2, 3, 4, 8, 9, 10, 11, 12, 13] [5, 6, 7] rfl rfl rfl (by decide)
    have hP : va_P (dC, dI) vwCl (([(cXo x an tr o1.1), (cH cyO (x 1) (x 2) 2 fl), (cXk cyI x o1.1), (cH cyO (x 4) (x 5) 6 fs), (cT cyI x (X_text o1.1)), (cSo an o3), (cG cyI an (S_green o3)), (cV cyI an (S_score o3)), (cS cyI b0 o1.2.2.1), (cS cyI b1 o1.2.2.2.1), (cS cyI b2 o1.2.2.2.2.1), (cS cyI b3 o1.2.2.2.2.2.1), (cS cyI b4 o1.2.2.2.2.2.2.1), (cS cyI b5 o1.2.2.2.2.2.2.2)] : List va_W).flatten) H := hP.perm hq
    have hD : va_D A (([(cXo x an tr o1.1), (cH cyO (x 1) (x 2) 2 fl), (cXk cyI x o1.1), (cH cyO (x 4) (x 5) 6 fs), (cT cyI x (X_text o1.1)), (cSo an o3), (cG cyI an (S_green o3)), (cV cyI an (S_score o3)), (cS cyI b0 o1.2.2.1), (cS cyI b1 o1.2.2.2.1), (cS cyI b2 o1.2.2.2.2.1), (cS cyI b3 o1.2.2.2.2.2.1), (cS cyI b4 o1.2.2.2.2.2.2.1), (cS cyI b5 o1.2.2.2.2.2.2.2)] : List va_W).flatten) := hD.perm hq
    clear hq
    refine lv_aload_n hx hb dX5_turnBack_33 rfl (lv_at hl 0 rfl) ?_
    refine va_get (D := (dC, dI)) (ci := 5) (v := .ref (an 0)) (C := RX5) (T := TX5) (N := 8) hx hb hts inX5 hown hK.1 hP 0 rfl rfl 0 (by decide) (hts _ w_fieldLink_X5_12) (fun _ h9 => h9) rfl dX5_turnBack_34 ?_
    refine va_get (D := (dC, dI)) (ci := 3) (v := .int (S_jackGoesBack o3)) (C := RX3) (T := TX3) (N := 6) hx hb hts inX3 hown hK.1 hP 8 rfl rfl 4 (by decide) (hts _ w_fieldLink_X5_140) (fun _ h9 => h9) rfl dX5_turnBack_37 ?_
    obtain ⟨hz5, hF⟩ := gd_use hF
    exact W.zret (ty := .boolean) (v := (S_jackGoesBack o3)) hx hb hr (b01_n hz5) (fun t ht hW => ⟨⟨_, (o1.1, o3, o1.2.2.1, o1.2.2.2.1, o1.2.2.2.2.1, o1.2.2.2.2.2.1, o1.2.2.2.2.2.2.1, o1.2.2.2.2.2.2.2), rfl, ⟨Option.some.inj hF, hz5⟩, by rw [ht]; exact hP, hD⟩, hS.F ht⟩) hS.2.2 dX5_turnBack_40
  refine lv_if_ne (tgt := 22) hx hb dX5_turnBack_15 (by decide) (fun c6 => ?_) (fun c6 => ?_)
  · have hF := itn c6 hF
    refine lv_iconst (v := 0) hx hb dX5_turnBack_22 (by decide) ?_
    exact hJ23 (0 : Int32) _ _ _ b01_0 hP hD hS (lv_sub hl [0] rfl) hF
  · have hF := itp c6 hF
    refine lv_iconst (v := 1) hx hb dX5_turnBack_18 (by decide) ?_
    refine lv_goto (tgt := 23) hx hb dX5_turnBack_19 (by decide) ?_
    exact hJ23 (1 : Int32) _ _ _ b01_1 hP hD hS (lv_sub hl [0] rfl) hF
theorem dX5_turnTwice_0 : decode cX5_turnTwice 0 = .ok (.aload_n 0, 1) := by decide +kernel
theorem dX5_turnTwice_1 : decode cX5_turnTwice 1 = .ok (.invokevirtual 65, 3) := by decide +kernel
theorem dX5_turnTwice_4 : decode cX5_turnTwice 4 = .ok (.aload_n 0, 1) := by decide +kernel
theorem dX5_turnTwice_5 : decode cX5_turnTwice 5 = .ok (.getfield 12, 3) := by decide +kernel
theorem dX5_turnTwice_8 : decode cX5_turnTwice 8 = .ok (.aload_n 0, 1) := by decide +kernel
theorem dX5_turnTwice_9 : decode cX5_turnTwice 9 = .ok (.getfield 12, 3) := by decide +kernel
theorem dX5_turnTwice_12 : decode cX5_turnTwice 12 = .ok (.getfield 147, 3) := by decide +kernel
theorem dX5_turnTwice_15 : decode cX5_turnTwice 15 = .ok (.ifCond .ne 7, 3) := by decide +kernel
theorem dX5_turnTwice_18 : decode cX5_turnTwice 18 = .ok (.iconst 1, 1) := by decide +kernel
theorem dX5_turnTwice_19 : decode cX5_turnTwice 19 = .ok (.goto 4, 3) := by decide +kernel
theorem dX5_turnTwice_22 : decode cX5_turnTwice 22 = .ok (.iconst 0, 1) := by decide +kernel
theorem dX5_turnTwice_23 : decode cX5_turnTwice 23 = .ok (.putfield 147, 3) := by decide +kernel
theorem dX5_turnTwice_26 : decode cX5_turnTwice 26 = .ok (.aload_n 0, 1) := by decide +kernel
theorem dX5_turnTwice_27 : decode cX5_turnTwice 27 = .ok (.getfield 12, 3) := by decide +kernel
theorem dX5_turnTwice_30 : decode cX5_turnTwice 30 = .ok (.getfield 147, 3) := by decide +kernel
theorem dX5_turnTwice_33 : decode cX5_turnTwice 33 = .ok (.ireturn, 1) := by decide +kernel
def f_X5_turnTwice (N : Nat) (xv : XV) (nv : SV) (v0 : SV) (v1 : SV) (v2 : SV) (v3 : SV) (v4 : SV) (v5 : SV) : Option (Int32 × (XV × SV × SV × SV × SV × SV × SV × SV)) :=
  (f_X5_saveState N xv nv v0 v1 v2 v3 v4 v5).bind (fun o1 => jn (fun (s23 : Int32) => some (s23, (o1.1, (S_set_touchersTwice o1.2.1 s23), o1.2.2.1, o1.2.2.2.1, o1.2.2.2.2.1, o1.2.2.2.2.2.1, o1.2.2.2.2.2.2.1, o1.2.2.2.2.2.2.2))) (fun (j23 : (Int32) → Option (Int32 × (XV × SV × SV × SV × SV × SV × SV × SV))) => (if (S_touchersTwice o1.2.1) = 0 then j23 (1 : Int32) else j23 (0 : Int32))))
set_option maxHeartbeats 4000000 in
set_option maxRecDepth 100000 in
theorem met_X5_turnTwice (l : Launch) (dC : Nat → ClassId) (dI : Nat → Nat → Nat) (cyI cyO : ClassId) (x : Nat → Nat) (tr : Nat → Nat) (an : Nat → Nat) (b0 : Nat → Nat) (b1 : Nat → Nat) (b2 : Nat → Nat) (b3 : Nat → Nat) (b4 : Nat → Nat) (b5 : Nat → Nat) (fl fs : Nat → Option Nat) (sz : Nat) (N : Nat) (xv : XV) (nv : SV) (v0 : SV) (v1 : SV) (v2 : SV) (v3 : SV) (v4 : SV) (v5 : SV) (hs0 : fs 0 = some (b0 0)) (hs1 : fs 1 = some (b1 0)) (hs2 : fs 2 = some (b2 0)) (hs3 : fs 3 = some (b3 0)) (hs4 : fs 4 = some (b4 0)) (hs5 : fs 5 = some (b5 0)) (out : Int32 × (XV × SV × SV × SV × SV × SV × SV × SV)) (hF : f_X5_turnTwice N xv nv v0 v1 v2 v3 v4 v5 = some out) : Met l yX5_turnTwice (Cond.code yX5_turnTwice cX5_turnTwice 1 (some .boolean) :: wT) ({ frames := 5, cells := 0, slots := 0, locals := 107 } : Room) (wWr dC dI cyI cyO [.ref (x 0)] (([(cXo x an tr xv), (cH cyO (x 1) (x 2) 2 fl), (cXk cyI x xv), (cH cyO (x 4) (x 5) 6 fs), (cT cyI x (X_text xv)), (cSo an nv), (cG cyI an (S_green nv)), (cV cyI an (S_score nv)), (cS cyI b0 v0), (cS cyI b1 v1), (cS cyI b2 v2), (cS cyI b3 v3), (cS cyI b4 v4), (cS cyI b5 v5)] : List va_W).flatten) sz) (va_Qi (fun (r : Int32) (u : XV × SV × SV × SV × SV × SV × SV × SV) => (r, u) = out ∧ b01 r) (fun u t => va_P (dC, dI) vwCl (([(cXo x an tr u.1), (cH cyO (x 1) (x 2) 2 fl), (cXk cyI x u.1), (cH cyO (x 4) (x 5) 6 fs), (cT cyI x (X_text u.1)), (cSo an u.2.1), (cG cyI an (S_green u.2.1)), (cV cyI an (S_score u.2.1)), (cS cyI b0 u.2.2.1), (cS cyI b1 u.2.2.2.1), (cS cyI b2 u.2.2.2.2.1), (cS cyI b3 u.2.2.2.2.2.1), (cS cyI b4 u.2.2.2.2.2.2.1), (cS cyI b5 u.2.2.2.2.2.2.2)] : List va_W).flatten) t.heap ∧ va_D (va_A (([(cXo x an tr xv), (cH cyO (x 1) (x 2) 2 fl), (cXk cyI x xv), (cH cyO (x 4) (x 5) 6 fs), (cT cyI x (X_text xv)), (cSo an nv), (cG cyI an (S_green nv)), (cV cyI an (S_score nv)), (cS cyI b0 v0), (cS cyI b1 v1), (cS cyI b2 v2), (cS cyI b3 v3), (cS cyI b4 v4), (cS cyI b5 v5)] : List va_W).flatten) sz) (([(cXo x an tr u.1), (cH cyO (x 1) (x 2) 2 fl), (cXk cyI x u.1), (cH cyO (x 4) (x 5) 6 fs), (cT cyI x (X_text u.1)), (cSo an u.2.1), (cG cyI an (S_green u.2.1)), (cV cyI an (S_score u.2.1)), (cS cyI b0 u.2.2.1), (cS cyI b1 u.2.2.2.1), (cS cyI b2 u.2.2.2.2.1), (cS cyI b3 u.2.2.2.2.2.1), (cS cyI b4 u.2.2.2.2.2.2.1), (cS cyI b5 u.2.2.2.2.2.2.2)] : List va_W).flatten)) (va_A (([(cXo x an tr xv), (cH cyO (x 1) (x 2) 2 fl), (cXk cyI x xv), (cH cyO (x 4) (x 5) 6 fs), (cT cyI x (X_text xv)), (cSo an nv), (cG cyI an (S_green nv)), (cV cyI an (S_score nv)), (cS cyI b0 v0), (cS cyI b1 v1), (cS cyI b2 v2), (cS cyI b3 v3), (cS cyI b4 v4), (cS cyI b5 v5)] : List va_W).flatten) sz)) 0 0 (va_A (([(cXo x an tr xv), (cH cyO (x 1) (x 2) 2 fl), (cXk cyI x xv), (cH cyO (x 4) (x 5) 6 fs), (cT cyI x (X_text xv)), (cSo an nv), (cG cyI an (S_green nv)), (cV cyI an (S_score nv)), (cS cyI b0 v0), (cS cyI b1 v1), (cS cyI b2 v2), (cS cyI b3 v3), (cS cyI b4 v4), (cS cyI b5 v5)] : List va_W).flatten) sz) := by
  refine Met.ofW (cc := cX5_turnTwice) (maxL := 1) (ret := (some .boolean)) (by decide) rfl ?_
  intro p e s m args below meth c s₁ B hml hv
  obtain ⟨rfl, hsz, hP, hK, hD0⟩ := hv
  have hx := B.exec
  have hb := B.bytes
  have hr := B.returns
  have hts0 := atoms_spec (ws := (Cond.code yX5_turnTwice cX5_turnTwice 1 (some .boolean) :: wT)) B.pre
  have hts := fun w h => hts0 w (List.mem_cons_of_mem _ h)
  clear hts0
  have hown : s.vm.findClass RX5 = some m.cls := findClass_of_methodNamed B.named
  have hlocks := B.notSynchronized
  subst hsz
  have hD := hD0.self (sz := s.heap.size)
  generalize hAe : va_A (([(cXo x an tr xv), (cH cyO (x 1) (x 2) 2 fl), (cXk cyI x xv), (cH cyO (x 4) (x 5) 6 fs), (cT cyI x (X_text xv)), (cSo an nv), (cG cyI an (S_green nv)), (cV cyI an (S_score nv)), (cS cyI b0 v0), (cS cyI b1 v1), (cS cyI b2 v2), (cS cyI b3 v3), (cS cyI b4 v4), (cS cyI b5 v5)] : List va_W).flatten) s.heap.size = A at hD ⊢
  have hA : ∀ q : Nat, s.heap.size ≤ q → A q := fun q h => by rw [← hAe]; exact Or.inr h
  clear hD0
  have hS : va_S A s.heap s.heap [] := va_S.rf
  have hl := lv_entry [.ref (x 0)] (n := 1) (Nat.le_of_ble_eq_true rfl)
  rw [lg_entry_eq]
  generalize (lg_sl [.ref (x 0)] ++ List.replicate (1 - (lg_sl [.ref (x 0)]).length) Slot.unset).toArray = ls at hl ⊢
  have hl : lv_has ls 1 [(0, .ref (x 0))] := hl
  unfold f_X5_turnTwice at hF
  refine lv_aload_n hx hb dX5_turnTwice_0 rfl (lv_at hl 0 rfl) ?_
  obtain ⟨o1, h2, hF⟩ := obd hF
  refine wcPVv (As := []) (rest := []) (wr := ([] : List va_W).flatten) (b := (x 0)) ⟨hx, hb, hml, hown, hts⟩ (met_X5_saveState l dC dI cyI cyO x tr an b0 b1 b2 b3 b4 b5 fl fs _ N xv nv v0 v1 v2 v3 v4 v5 hs0 hs1 hs2 hs3 hs4 hs5 o1 h2) (cwV 0 hts (gV w_methodLink_X5_65 w_instanceMethod_X5_saveState w_selects_X5_saveState w_initialized_X5 w_code_X5_saveState) rfl rfl rfl (by decide +kernel) ⟨Nat.le_of_ble_eq_true rfl, Nat.le_of_ble_eq_true rfl⟩) (va_recv hK.1 hP (ci := 5) (q0 := 0) rfl rfl) hP hD hK (seg_perm (n := 14) (R := []) (C := [(cXo x an tr xv), (cH cyO (x 1) (x 2) 2 fl), (cXk cyI x xv), (cH cyO (x 4) (x 5) 6 fs), (cT cyI x (X_text xv)), (cSo an nv), (cG cyI an (S_green nv)), (cV cyI an (S_score nv)), (cS cyI b0 v0), (cS cyI b1 v1), (cS cyI b2 v2), (cS cyI b3 v3), (cS cyI b4 v4), (cS cyI b5 v5)]) [] [0, 1, 2, 3, 4, 5, 6, 7, 8, 9, 10, 11, 12, 13] rfl rfl rfl (by decide) rfl) rfl hl.1 (Nat.le_of_ble_eq_true rfl) dX5_turnTwice_1 ⟨Nat.le_of_ble_eq_true rfl, Nat.le_of_ble_eq_true rfl⟩ hS hA (fun u H locs hw hP hD hS => ?_)
  have hw := hw.symm
  subst hw
  have hq := seg_permS (segs := [(cXo x an tr o1.1), (cH cyO (x 1) (x 2) 2 fl), (cXk cyI x o1.1), (cH cyO (x 4) (x 5) 6 fs), (cT cyI x (X_text o1.1)), (cSo an o1.2.1), (cG cyI an (S_green o1.2.1)), (cV cyI an (S_score o1.2.1)), (cS cyI b0 o1.2.2.1), (cS cyI b1 o1.2.2.2.1), (cS cyI b2 o1.2.2.2.2.1), (cS cyI b3 o1.2.2.2.2.2.1), (cS cyI b4 o1.2.2.2.2.2.2.1), (cS cyI b5 o1.2.2.2.2.2.2.2)]) (R := []) (C := [(cXo x an tr o1.1), (cH cyO (x 1) (x 2) 2 fl), (cXk cyI x o1.1), (cH cyO (x 4) (x 5) 6 fs), (cT cyI x (X_text o1.1)), (cSo an o1.2.1), (cG cyI an (S_green o1.2.1)), (cV cyI an (S_score o1.2.1)), (cS cyI b0 o1.2.2.1), (cS cyI b1 o1.2.2.2.1), (cS cyI b2 o1.2.2.2.2.1), (cS cyI b3 o1.2.2.2.2.2.1), (cS cyI b4 o1.2.2.2.2.2.2.1), (cS cyI b5 o1.2.2.2.2.2.2.2)]) (n := 14) [] [0, 1, 2, 3, 4, 5, 6, 7, 8, 9, 10, 11, 12, 13] rfl rfl rfl (by decide)
  have hP : va_P (dC, dI) vwCl (([(cXo x an tr o1.1), (cH cyO (x 1) (x 2) 2 fl), (cXk cyI x o1.1), (cH cyO (x 4) (x 5) 6 fs), (cT cyI x (X_text o1.1)), (cSo an o1.2.1), (cG cyI an (S_green o1.2.1)), (cV cyI an (S_score o1.2.1)), (cS cyI b0 o1.2.2.1), (cS cyI b1 o1.2.2.2.1), (cS cyI b2 o1.2.2.2.2.1), (cS cyI b3 o1.2.2.2.2.2.1), (cS cyI b4 o1.2.2.2.2.2.2.1), (cS cyI b5 o1.2.2.2.2.2.2.2)] : List va_W).flatten) H := hP.perm hq
  have hD : va_D A (([(cXo x an tr o1.1), (cH cyO (x 1) (x 2) 2 fl), (cXk cyI x o1.1), (cH cyO (x 4) (x 5) 6 fs), (cT cyI x (X_text o1.1)), (cSo an o1.2.1), (cG cyI an (S_green o1.2.1)), (cV cyI an (S_score o1.2.1)), (cS cyI b0 o1.2.2.1), (cS cyI b1 o1.2.2.2.1), (cS cyI b2 o1.2.2.2.2.1), (cS cyI b3 o1.2.2.2.2.2.1), (cS cyI b4 o1.2.2.2.2.2.2.1), (cS cyI b5 o1.2.2.2.2.2.2.2)] : List va_W).flatten) := hD.perm hq
  clear hq
  refine lv_aload_n hx hb dX5_turnTwice_4 rfl (lv_at hl 0 rfl) ?_
  refine va_get (D := (dC, dI)) (ci := 5) (v := .ref (an 0)) (C := RX5) (T := TX5) (N := 8) hx hb hts inX5 hown hK.1 hP 0 rfl rfl 0 (by decide) (hts _ w_fieldLink_X5_12) (fun _ h9 => h9) rfl dX5_turnTwice_5 ?_
  refine lv_aload_n hx hb dX5_turnTwice_8 rfl (lv_at hl 0 rfl) ?_
  refine va_get (D := (dC, dI)) (ci := 5) (v := .ref (an 0)) (C := RX5) (T := TX5) (N := 8) hx hb hts inX5 hown hK.1 hP 0 rfl rfl 0 (by decide) (hts _ w_fieldLink_X5_12) (fun _ h9 => h9) rfl dX5_turnTwice_9 ?_
  refine va_get (D := (dC, dI)) (ci := 3) (v := .int (S_touchersTwice o1.2.1)) (C := RX3) (T := TX3) (N := 6) hx hb hts inX3 hown hK.1 hP 8 rfl rfl 5 (by decide) (hts _ w_fieldLink_X5_147) (fun _ h9 => h9) rfl dX5_turnTwice_12 ?_
  obtain ⟨j23, hj23, hF⟩ := jn_use hF
  have hJ23 : ∀ (s23 : Int32) (H : Heap) (locs : List Loc) (ls : Array Slot) (hz_23_s1 : b01 s23), va_P (dC, dI) vwCl (([(cXo x an tr o1.1), (cH cyO (x 1) (x 2) 2 fl), (cXk cyI x o1.1), (cH cyO (x 4) (x 5) 6 fs), (cT cyI x (X_text o1.1)), (cSo an o1.2.1), (cG cyI an (S_green o1.2.1)), (cV cyI an (S_score o1.2.1)), (cS cyI b0 o1.2.2.1), (cS cyI b1 o1.2.2.2.1), (cS cyI b2 o1.2.2.2.2.1), (cS cyI b3 o1.2.2.2.2.2.1), (cS cyI b4 o1.2.2.2.2.2.2.1), (cS cyI b5 o1.2.2.2.2.2.2.2)] : List va_W).flatten) H → va_D A (([(cXo x an tr o1.1), (cH cyO (x 1) (x 2) 2 fl), (cXk cyI x o1.1), (cH cyO (x 4) (x 5) 6 fs), (cT cyI x (X_text o1.1)), (cSo an o1.2.1), (cG cyI an (S_green o1.2.1)), (cV cyI an (S_score o1.2.1)), (cS cyI b0 o1.2.2.1), (cS cyI b1 o1.2.2.2.1), (cS cyI b2 o1.2.2.2.2.1), (cS cyI b3 o1.2.2.2.2.2.1), (cS cyI b4 o1.2.2.2.2.2.2.1), (cS cyI b5 o1.2.2.2.2.2.2.2)] : List va_W).flatten) → va_S A s.heap H locs → lv_has ls 1 [(0, .ref (x 0))] → j23 s23 = some out → W p l e (headSpec (Cond.code yX5_turnTwice cX5_turnTwice 1 (some .boolean) :: wT) ({ frames := 5, cells := 0, slots := 0, locals := 107 } : Room)).room s m ([.ref (x 0)] : List Value).toArray below meth c H locs 0 0 (MQ below (va_Qi (fun (r : Int32) (u : XV × SV × SV × SV × SV × SV × SV × SV) => (r, u) = out ∧ b01 r) (fun u t => va_P (dC, dI) vwCl (([(cXo x an tr u.1), (cH cyO (x 1) (x 2) 2 fl), (cXk cyI x u.1), (cH cyO (x 4) (x 5) 6 fs), (cT cyI x (X_text u.1)), (cSo an u.2.1), (cG cyI an (S_green u.2.1)), (cV cyI an (S_score u.2.1)), (cS cyI b0 u.2.2.1), (cS cyI b1 u.2.2.2.1), (cS cyI b2 u.2.2.2.2.1), (cS cyI b3 u.2.2.2.2.2.1), (cS cyI b4 u.2.2.2.2.2.2.1), (cS cyI b5 u.2.2.2.2.2.2.2)] : List va_W).flatten) t.heap ∧ va_D A (([(cXo x an tr u.1), (cH cyO (x 1) (x 2) 2 fl), (cXk cyI x u.1), (cH cyO (x 4) (x 5) 6 fs), (cT cyI x (X_text u.1)), (cSo an u.2.1), (cG cyI an (S_green u.2.1)), (cV cyI an (S_score u.2.1)), (cS cyI b0 u.2.2.1), (cS cyI b1 u.2.2.2.1), (cS cyI b2 u.2.2.2.2.1), (cS cyI b3 u.2.2.2.2.2.1), (cS cyI b4 u.2.2.2.2.2.2.1), (cS cyI b5 u.2.2.2.2.2.2.2)] : List va_W).flatten)) A) ([.ref (x 0)] : List Value).toArray s 0 0 A) (F0 m 23 ls [.int s23, .ref (an 0)]) := by
    intro s23 H locs ls hz_23_s1 hP hD hS hl hF
    have hF := (congrFun hj23 s23).symm.trans hF
    refine va_put (D := (dC, dI)) (ci := 3) (v := .int s23) (ty := .boolean) (C := RX3) (T := TX3) (N := 6) hx hb hts inX3 tyX3 tyX3_ok nmX3 hown hK.1 hP hD hS 8 rfl rfl 5 (by decide) (hts _ w_fieldLink_X5_147) (fun _ h9 => h9) rfl (by decide +kernel) (b01_n hz_23_s1) (b01_f hz_23_s1) (Nat.le_of_ble_eq_true rfl) dX5_turnTwice_23 (fun H locs hP hD hS => ?_)
    have hP : va_P (dC, dI) vwCl (([(cXo x an tr o1.1), (cH cyO (x 1) (x 2) 2 fl), (cXk cyI x o1.1), (cH cyO (x 4) (x 5) 6 fs), (cT cyI x (X_text o1.1)), (cSo an (S_set_touchersTwice o1.2.1 s23)), (cG cyI an (S_green (S_set_touchersTwice o1.2.1 s23))), (cV cyI an (S_score (S_set_touchersTwice o1.2.1 s23))), (cS cyI b0 o1.2.2.1), (cS cyI b1 o1.2.2.2.1), (cS cyI b2 o1.2.2.2.2.1), (cS cyI b3 o1.2.2.2.2.2.1), (cS cyI b4 o1.2.2.2.2.2.2.1), (cS cyI b5 o1.2.2.2.2.2.2.2)] : List va_W).flatten) H := hP
    have hD : va_D A (([(cXo x an tr o1.1), (cH cyO (x 1) (x 2) 2 fl), (cXk cyI x o1.1), (cH cyO (x 4) (x 5) 6 fs), (cT cyI x (X_text o1.1)), (cSo an (S_set_touchersTwice o1.2.1 s23)), (cG cyI an (S_green (S_set_touchersTwice o1.2.1 s23))), (cV cyI an (S_score (S_set_touchersTwice o1.2.1 s23))), (cS cyI b0 o1.2.2.1), (cS cyI b1 o1.2.2.2.1), (cS cyI b2 o1.2.2.2.2.1), (cS cyI b3 o1.2.2.2.2.2.1), (cS cyI b4 o1.2.2.2.2.2.2.1), (cS cyI b5 o1.2.2.2.2.2.2.2)] : List va_W).flatten) := hD
    refine lv_aload_n hx hb dX5_turnTwice_26 rfl (lv_at hl 0 rfl) ?_
    refine va_get (D := (dC, dI)) (ci := 5) (v := .ref (an 0)) (C := RX5) (T := TX5) (N := 8) hx hb hts inX5 hown hK.1 hP 0 rfl rfl 0 (by decide) (hts _ w_fieldLink_X5_12) (fun _ h9 => h9) rfl dX5_turnTwice_27 ?_
    refine va_get (D := (dC, dI)) (ci := 3) (v := .int s23) (C := RX3) (T := TX3) (N := 6) hx hb hts inX3 hown hK.1 hP 8 rfl rfl 5 (by decide) (hts _ w_fieldLink_X5_147) (fun _ h9 => h9) rfl dX5_turnTwice_30 ?_
    exact W.zret (ty := .boolean) (v := s23) hx hb hr (b01_n hz_23_s1) (fun t ht hW => ⟨⟨_, (o1.1, (S_set_touchersTwice o1.2.1 s23), o1.2.2.1, o1.2.2.2.1, o1.2.2.2.2.1, o1.2.2.2.2.2.1, o1.2.2.2.2.2.2.1, o1.2.2.2.2.2.2.2), rfl, ⟨Option.some.inj hF, hz_23_s1⟩, by rw [ht]; exact hP, hD⟩, hS.F ht⟩) hS.2.2 dX5_turnTwice_33
  refine lv_if_ne (tgt := 22) hx hb dX5_turnTwice_15 (by decide) (fun c3 => ?_) (fun c3 => ?_)
  · have hF := itn c3 hF
    refine lv_iconst (v := 0) hx hb dX5_turnTwice_22 (by decide) ?_
    exact hJ23 (0 : Int32) _ _ _ b01_0 hP hD hS (lv_sub hl [0] rfl) hF
  · have hF := itp c3 hF
    refine lv_iconst (v := 1) hx hb dX5_turnTwice_18 (by decide) ?_
    refine lv_goto (tgt := 23) hx hb dX5_turnTwice_19 (by decide) ?_
    exact hJ23 (1 : Int32) _ _ _ b01_1 hP hD hS (lv_sub hl [0] rfl) hF
