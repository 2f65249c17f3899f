/-! written by program from the bytecode: what each method computes, and its contract -/

theorem dX0_apart_0 : decode cX0_apart 0 = .ok (.iload_n 0, 1) := by decide +kernel
theorem dX0_apart_1 : decode cX0_apart 1 = .ok (.bipush 21, 2) := by decide +kernel
theorem dX0_apart_3 : decode cX0_apart 3 = .ok (.idiv, 1) := by decide +kernel
theorem dX0_apart_4 : decode cX0_apart 4 = .ok (.iload_n 1, 1) := by decide +kernel
theorem dX0_apart_5 : decode cX0_apart 5 = .ok (.bipush 21, 2) := by decide +kernel
theorem dX0_apart_7 : decode cX0_apart 7 = .ok (.idiv, 1) := by decide +kernel
theorem dX0_apart_8 : decode cX0_apart 8 = .ok (.isub, 1) := by decide +kernel
theorem dX0_apart_9 : decode cX0_apart 9 = .ok (.istore_n 2, 1) := by decide +kernel
theorem dX0_apart_10 : decode cX0_apart 10 = .ok (.iload_n 0, 1) := by decide +kernel
theorem dX0_apart_11 : decode cX0_apart 11 = .ok (.bipush 21, 2) := by decide +kernel
theorem dX0_apart_13 : decode cX0_apart 13 = .ok (.irem, 1) := by decide +kernel
theorem dX0_apart_14 : decode cX0_apart 14 = .ok (.iload_n 1, 1) := by decide +kernel
theorem dX0_apart_15 : decode cX0_apart 15 = .ok (.bipush 21, 2) := by decide +kernel
theorem dX0_apart_17 : decode cX0_apart 17 = .ok (.irem, 1) := by decide +kernel
theorem dX0_apart_18 : decode cX0_apart 18 = .ok (.isub, 1) := by decide +kernel
theorem dX0_apart_19 : decode cX0_apart 19 = .ok (.istore_n 3, 1) := by decide +kernel
theorem dX0_apart_20 : decode cX0_apart 20 = .ok (.iload_n 2, 1) := by decide +kernel
theorem dX0_apart_21 : decode cX0_apart 21 = .ok (.iload_n 2, 1) := by decide +kernel
theorem dX0_apart_22 : decode cX0_apart 22 = .ok (.imul, 1) := by decide +kernel
theorem dX0_apart_23 : decode cX0_apart 23 = .ok (.iload_n 3, 1) := by decide +kernel
theorem dX0_apart_24 : decode cX0_apart 24 = .ok (.iload_n 3, 1) := by decide +kernel
theorem dX0_apart_25 : decode cX0_apart 25 = .ok (.imul, 1) := by decide +kernel
theorem dX0_apart_26 : decode cX0_apart 26 = .ok (.iadd, 1) := by decide +kernel
theorem dX0_apart_27 : decode cX0_apart 27 = .ok (.ireturn, 1) := by decide +kernel
def f_X0_apart (N : Nat) (p1 : Int32) (p2 : Int32) : Option (Int32) :=
  some ((((p1 / (21 : Int32)) - (p2 / (21 : Int32))) * ((p1 / (21 : Int32)) - (p2 / (21 : Int32)))) + (((p1 - p1 / (21 : Int32) * (21 : Int32)) - (p2 - p2 / (21 : Int32) * (21 : Int32))) * ((p1 - p1 / (21 : Int32) * (21 : Int32)) - (p2 - p2 / (21 : Int32) * (21 : Int32)))))
set_option maxHeartbeats 4000000 in
set_option maxRecDepth 100000 in
theorem met_X0_apart (l : Launch) (dC : Nat → ClassId) (dI : Nat → Nat → Nat) (cyI cyO : ClassId)  (N : Nat) (p1 : Int32) (p2 : Int32) (out : Int32) (hF : f_X0_apart N p1 p2 = some out) : Met l yX0_apart (Cond.code yX0_apart cX0_apart 4 (some .int) :: wT) ({ frames := 0, cells := 0, slots := 0, locals := 0 } : Room) (wRd dC dI cyI cyO [.int p1, .int p2] ([] : va_W)) (va_Qi (fun (r : Int32) (_ : Unit) => r = out) (fun _ _ => True) wN0) 0 0 wN0 := by
  refine Met.ofW (cc := cX0_apart) (maxL := 4) (ret := (some .int)) (by decide) rfl ?_
  intro p e s m args below meth c s₁ B hml hv
  obtain ⟨rfl, hP, hK⟩ := hv
  have hx := B.exec
  have hb := B.bytes
  have hr := B.returns
  have hts0 := atoms_spec (ws := (Cond.code yX0_apart cX0_apart 4 (some .int) :: wT)) B.pre
  have hts := fun w h => hts0 w (List.mem_cons_of_mem _ h)
  clear hts0
  have hown : s.vm.findClass RX0 = some m.cls := findClass_of_methodNamed B.named
  have hlocks := B.notSynchronized
  have hS : va_S wN0 s.heap s.heap [] := va_S.rf
  have hl := lv_entry [.int p1, .int p2] (n := 4) (Nat.le_of_ble_eq_true rfl)
  rw [lg_entry_eq]
  generalize (lg_sl [.int p1, .int p2] ++ List.replicate (4 - (lg_sl [.int p1, .int p2]).length) Slot.unset).toArray = ls at hl ⊢
  have hl : lv_has ls 4 [(0, .int p1), (1, .int p2)] := hl
  unfold f_X0_apart at hF
  refine lv_iload_n hx hb dX0_apart_0 rfl (lv_at hl 0 rfl) ?_
  refine lv_bipush (v := 21) hx hb dX0_apart_1 (by decide) ?_
  refine lv_idiv hx hb dX0_apart_3 (by decide) ?_
  refine lv_iload_n hx hb dX0_apart_4 rfl (lv_at hl 1 rfl) ?_
  refine lv_bipush (v := 21) hx hb dX0_apart_5 (by decide) ?_
  refine lv_idiv hx hb dX0_apart_7 (by decide) ?_
  refine lv_isub hx hb dX0_apart_8 ?_
  refine lv_istore_n (lv' := [(2, .int ((p1 / (21 : Int32)) - (p2 / (21 : Int32)))), (0, .int p1), (1, .int p2)]) hx hb dX0_apart_9 rfl hl (by decide) rfl (fun ls hl => ?_)
  refine lv_iload_n hx hb dX0_apart_10 rfl (lv_at hl 1 rfl) ?_
  refine lv_bipush (v := 21) hx hb dX0_apart_11 (by decide) ?_
  refine lv_irem hx hb dX0_apart_13 (by decide) ?_
  refine lv_iload_n hx hb dX0_apart_14 rfl (lv_at hl 2 rfl) ?_
  refine lv_bipush (v := 21) hx hb dX0_apart_15 (by decide) ?_
  refine lv_irem hx hb dX0_apart_17 (by decide) ?_
  refine lv_isub hx hb dX0_apart_18 ?_
  refine lv_istore_n (lv' := [(3, .int ((p1 - p1 / (21 : Int32) * (21 : Int32)) - (p2 - p2 / (21 : Int32) * (21 : Int32)))), (2, .int ((p1 / (21 : Int32)) - (p2 / (21 : Int32)))), (0, .int p1), (1, .int p2)]) hx hb dX0_apart_19 rfl hl (by decide) rfl (fun ls hl => ?_)
  refine lv_iload_n hx hb dX0_apart_20 rfl (lv_at hl 1 rfl) ?_
  refine lv_iload_n hx hb dX0_apart_21 rfl (lv_at hl 1 rfl) ?_
  refine lv_imul hx hb dX0_apart_22 ?_
  refine lv_iload_n hx hb dX0_apart_23 rfl (lv_at hl 0 rfl) ?_
  refine lv_iload_n hx hb dX0_apart_24 rfl (lv_at hl 0 rfl) ?_
  refine lv_imul hx hb dX0_apart_25 ?_
  refine lv_iadd hx hb dX0_apart_26 ?_
  exact W.iret (v := ((((p1 / (21 : Int32)) - (p2 / (21 : Int32))) * ((p1 / (21 : Int32)) - (p2 / (21 : Int32)))) + (((p1 - p1 / (21 : Int32) * (21 : Int32)) - (p2 - p2 / (21 : Int32) * (21 : Int32))) * ((p1 - p1 / (21 : Int32) * (21 : Int32)) - (p2 - p2 / (21 : Int32) * (21 : Int32)))))) hx hb hr (fun t ht hW => ⟨⟨_, (), rfl, Option.some.inj hF, trivial⟩, hS.F ht⟩) hS.2.2 dX0_apart_27
theorem dX0_placeOf_0 : decode cX0_placeOf 0 = .ok (.iload_n 1, 1) := by decide +kernel
theorem dX0_placeOf_1 : decode cX0_placeOf 1 = .ok (.ifCond .lt 21, 3) := by decide +kernel
theorem dX0_placeOf_4 : decode cX0_placeOf 4 = .ok (.iload_n 1, 1) := by decide +kernel
theorem dX0_placeOf_5 : decode cX0_placeOf 5 = .ok (.aload_n 0, 1) := by decide +kernel
theorem dX0_placeOf_6 : decode cX0_placeOf 6 = .ok (.getfield 9, 3) := by decide +kernel
theorem dX0_placeOf_9 : decode cX0_placeOf 9 = .ok (.arraylength, 1) := by decide +kernel
theorem dX0_placeOf_10 : decode cX0_placeOf 10 = .ok (.if_icmp .ge 12, 3) := by decide +kernel
theorem dX0_placeOf_13 : decode cX0_placeOf 13 = .ok (.aload_n 0, 1) := by decide +kernel
theorem dX0_placeOf_14 : decode cX0_placeOf 14 = .ok (.getfield 9, 3) := by decide +kernel
theorem dX0_placeOf_17 : decode cX0_placeOf 17 = .ok (.iload_n 1, 1) := by decide +kernel
theorem dX0_placeOf_18 : decode cX0_placeOf 18 = .ok (.iaload, 1) := by decide +kernel
theorem dX0_placeOf_19 : decode cX0_placeOf 19 = .ok (.goto 4, 3) := by decide +kernel
theorem dX0_placeOf_22 : decode cX0_placeOf 22 = .ok (.iconst (-1), 1) := by decide +kernel
theorem dX0_placeOf_23 : decode cX0_placeOf 23 = .ok (.ireturn, 1) := by decide +kernel
def f_X0_placeOf (N : Nat) (g : GV) (p1 : Int32) : Option (Int32) :=
  jn (fun (s23 : Int32) => some s23) (fun (j23 : (Int32) → Option (Int32)) => jn (fun (s22 : Unit) => j23 (-1 : Int32)) (fun (j22 : (Unit) → Option (Int32)) => (if p1 < 0 then j22 () else (if (9 : Int32) ≤ p1 then j22 () else gd (ixok p1 9) (j23 ((G_places g) p1.toNatClampNeg))))))
set_option maxHeartbeats 4000000 in
set_option maxRecDepth 100000 in
theorem met_X0_placeOf (l : Launch) (dC : Nat → ClassId) (dI : Nat → Nat → Nat) (cyI cyO : ClassId) (a : Nat → Nat) (N : Nat) (g : GV) (p1 : Int32) (out : Int32) (hF : f_X0_placeOf N g p1 = some out) : Met l yX0_placeOf (Cond.code yX0_placeOf cX0_placeOf 2 (some .int) :: wT) ({ frames := 0, cells := 0, slots := 0, locals := 0 } : Room) (wRd dC dI cyI cyO [.ref (a 1), .int p1] (cG cyI a g)) (va_Qi (fun (r : Int32) (_ : Unit) => r = out) (fun _ _ => True) wN0) 0 0 wN0 := by
  refine Met.ofW (cc := cX0_placeOf) (maxL := 2) (ret := (some .int)) (by decide) rfl ?_
  intro p e s m args below meth c s₁ B hml hv
  obtain ⟨rfl, hP, hK⟩ := hv
  have hx := B.exec
  have hb := B.bytes
  have hr := B.returns
  have hts0 := atoms_spec (ws := (Cond.code yX0_placeOf cX0_placeOf 2 (some .int) :: wT)) B.pre
  have hts := fun w h => hts0 w (List.mem_cons_of_mem _ h)
  clear hts0
  have hown : s.vm.findClass RX0 = some m.cls := findClass_of_methodNamed B.named
  have hlocks := B.notSynchronized
  have hS : va_S wN0 s.heap s.heap [] := va_S.rf
  have hl := lv_entry [.ref (a 1), .int p1] (n := 2) (Nat.le_of_ble_eq_true rfl)
  rw [lg_entry_eq]
  generalize (lg_sl [.ref (a 1), .int p1] ++ List.replicate (2 - (lg_sl [.ref (a 1), .int p1]).length) Slot.unset).toArray = ls at hl ⊢
  have hl : lv_has ls 2 [(0, .ref (a 1)), (1, .int p1)] := hl
  unfold f_X0_placeOf at hF
  refine lv_iload_n hx hb dX0_placeOf_0 rfl (lv_at hl 1 rfl) ?_
  obtain ⟨j23, hj23, hF⟩ := jn_use hF
  have hJ23 : ∀ (s23 : Int32) (H : Heap) (locs : List Loc) (ls : Array Slot), va_P (dC, dI) vwCl (cG cyI a g) H → va_S wN0 s.heap H locs → lv_has ls 2 [] → j23 s23 = some out → W p l e (headSpec (Cond.code yX0_placeOf cX0_placeOf 2 (some .int) :: wT) ({ frames := 0, cells := 0, slots := 0, locals := 0 } : Room)).room s m ([.ref (a 1), .int p1] : List Value).toArray below meth c H locs 0 0 (MQ below (va_Qi (fun (r : Int32) (_ : Unit) => r = out) (fun _ _ => True) wN0) ([.ref (a 1), .int p1] : List Value).toArray s 0 0 wN0) (F0 m 23 ls [.int s23]) := by
    intro s23 H locs ls hP hS hl hF
    have hF := (congrFun hj23 s23).symm.trans hF
    exact W.iret (v := s23) hx hb hr (fun t ht hW => ⟨⟨_, (), rfl, Option.some.inj hF, trivial⟩, hS.F ht⟩) hS.2.2 dX0_placeOf_23
  obtain ⟨j22, hj22, hF⟩ := jn_use hF
  have hJ22 : ∀ (s22 : Unit) (H : Heap) (locs : List Loc) (ls : Array Slot), va_P (dC, dI) vwCl (cG cyI a g) H → va_S wN0 s.heap H locs → lv_has ls 2 [] → j22 s22 = some out → W p l e (headSpec (Cond.code yX0_placeOf cX0_placeOf 2 (some .int) :: wT) ({ frames := 0, cells := 0, slots := 0, locals := 0 } : Room)).room s m ([.ref (a 1), .int p1] : List Value).toArray below meth c H locs 0 0 (MQ below (va_Qi (fun (r : Int32) (_ : Unit) => r = out) (fun _ _ => True) wN0) ([.ref (a 1), .int p1] : List Value).toArray s 0 0 wN0) (F0 m 22 ls []) := by
    intro s22 H locs ls hP hS hl hF
    have hF := (congrFun hj22 s22).symm.trans hF
    refine lv_iconst (v := -1) hx hb dX0_placeOf_22 (by decide) ?_
    exact hJ23 (-1 : Int32) _ _ _ hP hS (lv_sub hl [] rfl) hF
  refine lv_if_lt (tgt := 22) hx hb dX0_placeOf_1 (by decide) (fun c1 => ?_) (fun c1 => ?_)
  · have hF := itp c1 hF
    exact hJ22 () _ _ _ hP hS (lv_sub hl [] rfl) hF
  · have hF := itn c1 hF
    refine lv_iload_n hx hb dX0_placeOf_4 rfl (lv_at hl 1 rfl) ?_
    refine lv_aload_n hx hb dX0_placeOf_5 rfl (lv_at hl 0 rfl) ?_
    refine va_get (D := (dC, dI)) (ci := 0) (v := .ref (a 2)) (C := RX0) (T := TX0) (N := 9) hx hb hts inX0 hown hK.1 hP 0 rfl rfl 0 (by decide) (hts _ w_fieldLink_X0_9) (fun _ h9 => h9) rfl dX0_placeOf_6 ?_
    refine va_alen hx hb hK.1 hP 1 0 rfl rfl (v := (9 : Int32)) rfl dX0_placeOf_9 ?_
    refine lv_icmp_ge (tgt := 22) hx hb dX0_placeOf_10 (by decide) (fun c2 => ?_) (fun c2 => ?_)
    · have hF := itp c2 hF
      exact hJ22 () _ _ _ hP hS (lv_sub hl [] rfl) hF
    · have hF := itn c2 hF
      refine lv_aload_n hx hb dX0_placeOf_13 rfl (lv_at hl 0 rfl) ?_
      refine va_get (D := (dC, dI)) (ci := 0) (v := .ref (a 2)) (C := RX0) (T := TX0) (N := 9) hx hb hts inX0 hown hK.1 hP 0 rfl rfl 0 (by decide) (hts _ w_fieldLink_X0_9) (fun _ h9 => h9) rfl dX0_placeOf_14 ?_
      refine lv_iload_n hx hb dX0_placeOf_17 rfl (lv_at hl 1 rfl) ?_
      obtain ⟨hg3, hF⟩ := gd_use hF
      refine va_iald hx hb hK.1 hP 1 0 rfl rfl (i := p1) hg3 dX0_placeOf_18 ?_
      refine lv_goto (tgt := 23) hx hb dX0_placeOf_19 (by decide) ?_
      exact hJ23 ((G_places g) p1.toNatClampNeg) _ _ _ hP hS (lv_sub hl [] rfl) hF
theorem dX0_isAlive_0 : decode cX0_isAlive 0 = .ok (.aload_n 0, 1) := by decide +kernel
theorem dX0_isAlive_1 : decode cX0_isAlive 1 = .ok (.iload_n 1, 1) := by decide +kernel
theorem dX0_isAlive_2 : decode cX0_isAlive 2 = .ok (.invokevirtual 52, 3) := by decide +kernel
theorem dX0_isAlive_5 : decode cX0_isAlive 5 = .ok (.iconst (-1), 1) := by decide +kernel
theorem dX0_isAlive_6 : decode cX0_isAlive 6 = .ok (.if_icmp .eq 7, 3) := by decide +kernel
theorem dX0_isAlive_9 : decode cX0_isAlive 9 = .ok (.iconst 1, 1) := by decide +kernel
theorem dX0_isAlive_10 : decode cX0_isAlive 10 = .ok (.goto 4, 3) := by decide +kernel
theorem dX0_isAlive_13 : decode cX0_isAlive 13 = .ok (.iconst 0, 1) := by decide +kernel
theorem dX0_isAlive_14 : decode cX0_isAlive 14 = .ok (.ireturn, 1) := by decide +kernel
def f_X0_isAlive (N : Nat) (g : GV) (p1 : Int32) : Option (Int32) :=
  (f_X0_placeOf N g p1).bind (fun o1 => jn (fun (s14 : Int32) => some s14) (fun (j14 : (Int32) → Option (Int32)) => (if o1 = (-1 : Int32) then j14 (0 : Int32) else j14 (1 : Int32))))
set_option maxHeartbeats 4000000 in
set_option maxRecDepth 100000 in
theorem met_X0_isAlive (l : Launch) (dC : Nat → ClassId) (dI : Nat → Nat → Nat) (cyI cyO : ClassId) (a : Nat → Nat) (N : Nat) (g : GV) (p1 : Int32) (out : Int32) (hF : f_X0_isAlive N g p1 = some out) : Met l yX0_isAlive (Cond.code yX0_isAlive cX0_isAlive 2 (some .boolean) :: wT) ({ frames := 1, cells := 0, slots := 0, locals := 21 } : Room) (wRd dC dI cyI cyO [.ref (a 1), .int p1] (cG cyI a g)) (va_Qi (fun (r : Int32) (_ : Unit) => r = out ∧ b01 r) (fun _ _ => True) wN0) 0 0 wN0 := by
  refine Met.ofW (cc := cX0_isAlive) (maxL := 2) (ret := (some .boolean)) (by decide) rfl ?_
  intro p e s m args below meth c s₁ B hml hv
  obtain ⟨rfl, hP, hK⟩ := hv
  have hx := B.exec
  have hb := B.bytes
  have hr := B.returns
  have hts0 := atoms_spec (ws := (Cond.code yX0_isAlive cX0_isAlive 2 (some .boolean) :: wT)) B.pre
  have hts := fun w h => hts0 w (List.mem_cons_of_mem _ h)
  clear hts0
  have hown : s.vm.findClass RX0 = some m.cls := findClass_of_methodNamed B.named
  have hlocks := B.notSynchronized
  have hS : va_S wN0 s.heap s.heap [] := va_S.rf
  have hl := lv_entry [.ref (a 1), .int p1] (n := 2) (Nat.le_of_ble_eq_true rfl)
  rw [lg_entry_eq]
  generalize (lg_sl [.ref (a 1), .int p1] ++ List.replicate (2 - (lg_sl [.ref (a 1), .int p1]).length) Slot.unset).toArray = ls at hl ⊢
  have hl : lv_has ls 2 [(0, .ref (a 1)), (1, .int p1)] := hl
  unfold f_X0_isAlive at hF
  refine lv_aload_n hx hb dX0_isAlive_0 rfl (lv_at hl 0 rfl) ?_
  refine lv_iload_n hx hb dX0_isAlive_1 rfl (lv_at hl 1 rfl) ?_
  obtain ⟨o1, h2, hF⟩ := obd hF
  refine wcRVi (As := [.int p1]) (rest := []) (b := (a 1)) ⟨hx, hb, hml, hown, hts⟩ (met_X0_placeOf l dC dI cyI cyO a N g p1 o1 h2) (cwV 1 hts (gV w_methodLink_X0_52 w_instanceMethod_X0_placeOf w_selects_X0_placeOf w_initialized_X0 w_code_X0_placeOf) rfl rfl rfl (by decide +kernel) ⟨Nat.le_of_ble_eq_true rfl, Nat.le_of_ble_eq_true rfl⟩) (va_recv hK.1 hP (ci := 0) (q0 := 0) rfl rfl) hP hK [0, 1, 2, 3, 4, 5, 6, 7] rfl rfl hl.1 (Nat.le_of_ble_eq_true rfl) dX0_isAlive_2 ⟨Nat.le_of_ble_eq_true rfl, Nat.le_of_ble_eq_true rfl⟩ hS (fun r H locs hw hP hS => ?_)
  have hw := hw.symm
  subst hw
  refine lv_iconst (v := -1) hx hb dX0_isAlive_5 (by decide) ?_
  obtain ⟨j14, hj14, hF⟩ := jn_use hF
  have hJ14 : ∀ (s14 : Int32) (H : Heap) (locs : List Loc) (ls : Array Slot) (hz_14_s0 : b01 s14), va_P (dC, dI) vwCl (cG cyI a g) H → va_S wN0 s.heap H locs → lv_has ls 2 [] → j14 s14 = some out → W p l e (headSpec (Cond.code yX0_isAlive cX0_isAlive 2 (some .boolean) :: wT) ({ frames := 1, cells := 0, slots := 0, locals := 21 } : Room)).room s m ([.ref (a 1), .int p1] : List Value).toArray below meth c H locs 0 0 (MQ below (va_Qi (fun (r : Int32) (_ : Unit) => r = out ∧ b01 r) (fun _ _ => True) wN0) ([.ref (a 1), .int p1] : List Value).toArray s 0 0 wN0) (F0 m 14 ls [.int s14]) := by
    intro s14 H locs ls hz_14_s0 hP hS hl hF
    have hF := (congrFun hj14 s14).symm.trans hF
    exact W.zret (ty := .boolean) (v := s14) hx hb hr (b01_n hz_14_s0) (fun t ht hW => ⟨⟨_, (), rfl, ⟨Option.some.inj hF, hz_14_s0⟩, trivial⟩, hS.F ht⟩) hS.2.2 dX0_isAlive_14
  refine lv_icmp_eq (tgt := 13) hx hb dX0_isAlive_6 (by decide) (fun c3 => ?_) (fun c3 => ?_)
  · have hF := itp c3 hF
    refine lv_iconst (v := 0) hx hb dX0_isAlive_13 (by decide) ?_
    exact hJ14 (0 : Int32) _ _ _ b01_0 hP hS (lv_sub hl [] rfl) hF
  · have hF := itn c3 hF
    refine lv_iconst (v := 1) hx hb dX0_isAlive_9 (by decide) ?_
    refine lv_goto (tgt := 14) hx hb dX0_isAlive_10 (by decide) ?_
    exact hJ14 (1 : Int32) _ _ _ b01_1 hP hS (lv_sub hl [] rfl) hF
theorem dX0_hasJack_0 : decode cX0_hasJack 0 = .ok (.aload_n 0, 1) := by decide +kernel
theorem dX0_hasJack_1 : decode cX0_hasJack 1 = .ok (.bipush 8, 2) := by decide +kernel
theorem dX0_hasJack_3 : decode cX0_hasJack 3 = .ok (.invokevirtual 48, 3) := by decide +kernel
theorem dX0_hasJack_6 : decode cX0_hasJack 6 = .ok (.ireturn, 1) := by decide +kernel
def f_X0_hasJack (N : Nat) (g : GV) : Option (Int32) :=
  (f_X0_isAlive N g (8 : Int32)).bind (fun o1 => some o1)
set_option maxHeartbeats 4000000 in
set_option maxRecDepth 100000 in
theorem met_X0_hasJack (l : Launch) (dC : Nat → ClassId) (dI : Nat → Nat → Nat) (cyI cyO : ClassId) (a : Nat → Nat) (N : Nat) (g : GV) (out : Int32) (hF : f_X0_hasJack N g = some out) : Met l yX0_hasJack (Cond.code yX0_hasJack cX0_hasJack 1 (some .boolean) :: wT) ({ frames := 2, cells := 0, slots := 0, locals := 42 } : Room) (wRd dC dI cyI cyO [.ref (a 1)] (cG cyI a g)) (va_Qi (fun (r : Int32) (_ : Unit) => r = out ∧ b01 r) (fun _ _ => True) wN0) 0 0 wN0 := by
  refine Met.ofW (cc := cX0_hasJack) (maxL := 1) (ret := (some .boolean)) (by decide) rfl ?_
  intro p e s m args below meth c s₁ B hml hv
  obtain ⟨rfl, hP, hK⟩ := hv
  have hx := B.exec
  have hb := B.bytes
  have hr := B.returns
  have hts0 := atoms_spec (ws := (Cond.code yX0_hasJack cX0_hasJack 1 (some .boolean) :: wT)) B.pre
  have hts := fun w h => hts0 w (List.mem_cons_of_mem _ h)
  clear hts0
  have hown : s.vm.findClass RX0 = some m.cls := findClass_of_methodNamed B.named
  have hlocks := B.notSynchronized
  have hS : va_S wN0 s.heap s.heap [] := va_S.rf
  have hl := lv_entry [.ref (a 1)] (n := 1) (Nat.le_of_ble_eq_true rfl)
  rw [lg_entry_eq]
  generalize (lg_sl [.ref (a 1)] ++ List.replicate (1 - (lg_sl [.ref (a 1)]).length) Slot.unset).toArray = ls at hl ⊢
  have hl : lv_has ls 1 [(0, .ref (a 1))] := hl
  unfold f_X0_hasJack at hF
  refine lv_aload_n hx hb dX0_hasJack_0 rfl (lv_at hl 0 rfl) ?_
  refine lv_bipush (v := 8) hx hb dX0_hasJack_1 (by decide) ?_
  obtain ⟨o1, h2, hF⟩ := obd hF
  refine wcRVi (As := [.int (8 : Int32)]) (rest := []) (b := (a 1)) ⟨hx, hb, hml, hown, hts⟩ (met_X0_isAlive l dC dI cyI cyO a N g (8 : Int32) o1 h2) (cwV 1 hts (gV w_methodLink_X0_48 w_instanceMethod_X0_isAlive w_selects_X0_isAlive w_initialized_X0 w_code_X0_isAlive) rfl rfl rfl (by decide +kernel) ⟨Nat.le_of_ble_eq_true rfl, Nat.le_of_ble_eq_true rfl⟩) (va_recv hK.1 hP (ci := 0) (q0 := 0) rfl rfl) hP hK [0, 1, 2, 3, 4, 5, 6, 7] rfl rfl hl.1 (Nat.le_of_ble_eq_true rfl) dX0_hasJack_3 ⟨Nat.le_of_ble_eq_true rfl, Nat.le_of_ble_eq_true rfl⟩ hS (fun r H locs hw hP hS => ?_)
  obtain ⟨hw, hz3⟩ := hw
  have hw := hw.symm
  subst hw
  exact W.zret (ty := .boolean) (v := o1) hx hb hr (b01_n hz3) (fun t ht hW => ⟨⟨_, (), rfl, ⟨Option.some.inj hF, hz3⟩, trivial⟩, hS.F ht⟩) hS.2.2 dX0_hasJack_6
theorem dX0_fateOf_0 : decode cX0_fateOf 0 = .ok (.aload_n 0, 1) := by decide +kernel
theorem dX0_fateOf_1 : decode cX0_fateOf 1 = .ok (.iload_n 1, 1) := by decide +kernel
theorem dX0_fateOf_2 : decode cX0_fateOf 2 = .ok (.invokevirtual 52, 3) := by decide +kernel
theorem dX0_fateOf_5 : decode cX0_fateOf 5 = .ok (.istore_n 2, 1) := by decide +kernel
theorem dX0_fateOf_6 : decode cX0_fateOf 6 = .ok (.iload_n 2, 1) := by decide +kernel
theorem dX0_fateOf_7 : decode cX0_fateOf 7 = .ok (.iconst (-1), 1) := by decide +kernel
theorem dX0_fateOf_8 : decode cX0_fateOf 8 = .ok (.if_icmp .ne 5, 3) := by decide +kernel
theorem dX0_fateOf_11 : decode cX0_fateOf 11 = .ok (.iconst 2, 1) := by decide +kernel
theorem dX0_fateOf_12 : decode cX0_fateOf 12 = .ok (.ireturn, 1) := by decide +kernel
theorem dX0_fateOf_13 : decode cX0_fateOf 13 = .ok (.iload_n 2, 1) := by decide +kernel
theorem dX0_fateOf_14 : decode cX0_fateOf 14 = .ok (.sipush 1260, 3) := by decide +kernel
theorem dX0_fateOf_17 : decode cX0_fateOf 17 = .ok (.if_icmp .lt 7, 3) := by decide +kernel
theorem dX0_fateOf_20 : decode cX0_fateOf 20 = .ok (.iconst 1, 1) := by decide +kernel
theorem dX0_fateOf_21 : decode cX0_fateOf 21 = .ok (.goto 4, 3) := by decide +kernel
theorem dX0_fateOf_24 : decode cX0_fateOf 24 = .ok (.iconst 0, 1) := by decide +kernel
theorem dX0_fateOf_25 : decode cX0_fateOf 25 = .ok (.ireturn, 1) := by decide +kernel
def f_X0_fateOf (N : Nat) (g : GV) (p1 : Int32) : Option (Int32) :=
  (f_X0_placeOf N g p1).bind (fun o1 => (if o1 = (-1 : Int32) then some (2 : Int32) else jn (fun (s25 : Int32) => some s25) (fun (j25 : (Int32) → Option (Int32)) => (if o1 < (1260 : Int32) then j25 (0 : Int32) else j25 (1 : Int32)))))
set_option maxHeartbeats 4000000 in
set_option maxRecDepth 100000 in
theorem met_X0_fateOf (l : Launch) (dC : Nat → ClassId) (dI : Nat → Nat → Nat) (cyI cyO : ClassId) (a : Nat → Nat) (N : Nat) (g : GV) (p1 : Int32) (out : Int32) (hF : f_X0_fateOf N g p1 = some out) : Met l yX0_fateOf (Cond.code yX0_fateOf cX0_fateOf 3 (some .int) :: wT) ({ frames := 1, cells := 0, slots := 0, locals := 21 } : Room) (wRd dC dI cyI cyO [.ref (a 1), .int p1] (cG cyI a g)) (va_Qi (fun (r : Int32) (_ : Unit) => r = out) (fun _ _ => True) wN0) 0 0 wN0 := by
  refine Met.ofW (cc := cX0_fateOf) (maxL := 3) (ret := (some .int)) (by decide) rfl ?_
  intro p e s m args below meth c s₁ B hml hv
  obtain ⟨rfl, hP, hK⟩ := hv
  have hx := B.exec
  have hb := B.bytes
  have hr := B.returns
  have hts0 := atoms_spec (ws := (Cond.code yX0_fateOf cX0_fateOf 3 (some .int) :: wT)) B.pre
  have hts := fun w h => hts0 w (List.mem_cons_of_mem _ h)
  clear hts0
  have hown : s.vm.findClass RX0 = some m.cls := findClass_of_methodNamed B.named
  have hlocks := B.notSynchronized
  have hS : va_S wN0 s.heap s.heap [] := va_S.rf
  have hl := lv_entry [.ref (a 1), .int p1] (n := 3) (Nat.le_of_ble_eq_true rfl)
  rw [lg_entry_eq]
  generalize (lg_sl [.ref (a 1), .int p1] ++ List.replicate (3 - (lg_sl [.ref (a 1), .int p1]).length) Slot.unset).toArray = ls at hl ⊢
  have hl : lv_has ls 3 [(0, .ref (a 1)), (1, .int p1)] := hl
  unfold f_X0_fateOf at hF
  refine lv_aload_n hx hb dX0_fateOf_0 rfl (lv_at hl 0 rfl) ?_
  refine lv_iload_n hx hb dX0_fateOf_1 rfl (lv_at hl 1 rfl) ?_
  obtain ⟨o1, h2, hF⟩ := obd hF
  refine wcRVi (As := [.int p1]) (rest := []) (b := (a 1)) ⟨hx, hb, hml, hown, hts⟩ (met_X0_placeOf l dC dI cyI cyO a N g p1 o1 h2) (cwV 1 hts (gV w_methodLink_X0_52 w_instanceMethod_X0_placeOf w_selects_X0_placeOf w_initialized_X0 w_code_X0_placeOf) rfl rfl rfl (by decide +kernel) ⟨Nat.le_of_ble_eq_true rfl, Nat.le_of_ble_eq_true rfl⟩) (va_recv hK.1 hP (ci := 0) (q0 := 0) rfl rfl) hP hK [0, 1, 2, 3, 4, 5, 6, 7] rfl rfl hl.1 (Nat.le_of_ble_eq_true rfl) dX0_fateOf_2 ⟨Nat.le_of_ble_eq_true rfl, Nat.le_of_ble_eq_true rfl⟩ hS (fun r H locs hw hP hS => ?_)
  have hw := hw.symm
  subst hw
  refine lv_istore_n (lv' := [(2, .int o1), (0, .ref (a 1)), (1, .int p1)]) hx hb dX0_fateOf_5 rfl hl (by decide) rfl (fun ls hl => ?_)
  refine lv_iload_n hx hb dX0_fateOf_6 rfl (lv_at hl 0 rfl) ?_
  refine lv_iconst (v := -1) hx hb dX0_fateOf_7 (by decide) ?_
  refine lv_icmp_ne (tgt := 13) hx hb dX0_fateOf_8 (by decide) (fun c3 => ?_) (fun c3 => ?_)
  · have hF := itn c3 hF
    refine lv_iload_n hx hb dX0_fateOf_13 rfl (lv_at hl 0 rfl) ?_
    refine lv_sipush (v := 1260) hx hb dX0_fateOf_14 (by decide) ?_
    obtain ⟨j25, hj25, hF⟩ := jn_use hF
    have hJ25 : ∀ (s25 : Int32) (H : Heap) (locs : List Loc) (ls : Array Slot) (hz_25_s0 : b01 s25), va_P (dC, dI) vwCl (cG cyI a g) H → va_S wN0 s.heap H locs → lv_has ls 3 [] → j25 s25 = some out → W p l e (headSpec (Cond.code yX0_fateOf cX0_fateOf 3 (some .int) :: wT) ({ frames := 1, cells := 0, slots := 0, locals := 21 } : Room)).room s m ([.ref (a 1), .int p1] : List Value).toArray below meth c H locs 0 0 (MQ below (va_Qi (fun (r : Int32) (_ : Unit) => r = out) (fun _ _ => True) wN0) ([.ref (a 1), .int p1] : List Value).toArray s 0 0 wN0) (F0 m 25 ls [.int s25]) := by
      intro s25 H locs ls hz_25_s0 hP hS hl hF
      have hF := (congrFun hj25 s25).symm.trans hF
      exact W.iret (v := s25) hx hb hr (fun t ht hW => ⟨⟨_, (), rfl, Option.some.inj hF, trivial⟩, hS.F ht⟩) hS.2.2 dX0_fateOf_25
    refine lv_icmp_lt (tgt := 24) hx hb dX0_fateOf_17 (by decide) (fun c4 => ?_) (fun c4 => ?_)
    · have hF := itp c4 hF
      refine lv_iconst (v := 0) hx hb dX0_fateOf_24 (by decide) ?_
      exact hJ25 (0 : Int32) _ _ _ b01_0 hP hS (lv_sub hl [] rfl) hF
    · have hF := itn c4 hF
      refine lv_iconst (v := 1) hx hb dX0_fateOf_20 (by decide) ?_
      refine lv_goto (tgt := 25) hx hb dX0_fateOf_21 (by decide) ?_
      exact hJ25 (1 : Int32) _ _ _ b01_1 hP hS (lv_sub hl [] rfl) hF
  · have hF := itp c3 hF
    refine lv_iconst (v := 2) hx hb dX0_fateOf_11 (by decide) ?_
    exact W.iret (v := (2 : Int32)) hx hb hr (fun t ht hW => ⟨⟨_, (), rfl, Option.some.inj hF, trivial⟩, hS.F ht⟩) hS.2.2 dX0_fateOf_12
theorem dX0_hasToucher_0 : decode cX0_hasToucher 0 = .ok (.aload_n 0, 1) := by decide +kernel
theorem dX0_hasToucher_1 : decode cX0_hasToucher 1 = .ok (.getfield 27, 3) := by decide +kernel
theorem dX0_hasToucher_4 : decode cX0_hasToucher 4 = .ok (.astore_n 1, 1) := by decide +kernel
theorem dX0_hasToucher_5 : decode cX0_hasToucher 5 = .ok (.aload_n 1, 1) := by decide +kernel
theorem dX0_hasToucher_6 : decode cX0_hasToucher 6 = .ok (.arraylength, 1) := by decide +kernel
theorem dX0_hasToucher_7 : decode cX0_hasToucher 7 = .ok (.istore_n 2, 1) := by decide +kernel
theorem dX0_hasToucher_8 : decode cX0_hasToucher 8 = .ok (.iconst 0, 1) := by decide +kernel
theorem dX0_hasToucher_9 : decode cX0_hasToucher 9 = .ok (.istore_n 3, 1) := by decide +kernel
theorem dX0_hasToucher_10 : decode cX0_hasToucher 10 = .ok (.iload_n 3, 1) := by decide +kernel
theorem dX0_hasToucher_11 : decode cX0_hasToucher 11 = .ok (.iload_n 2, 1) := by decide +kernel
theorem dX0_hasToucher_12 : decode cX0_hasToucher 12 = .ok (.if_icmp .ge 22, 3) := by decide +kernel
theorem dX0_hasToucher_15 : decode cX0_hasToucher 15 = .ok (.aload_n 1, 1) := by decide +kernel
theorem dX0_hasToucher_16 : decode cX0_hasToucher 16 = .ok (.iload_n 3, 1) := by decide +kernel
theorem dX0_hasToucher_17 : decode cX0_hasToucher 17 = .ok (.iaload, 1) := by decide +kernel
theorem dX0_hasToucher_18 : decode cX0_hasToucher 18 = .ok (.istore 4, 2) := by decide +kernel
theorem dX0_hasToucher_20 : decode cX0_hasToucher 20 = .ok (.iload 4, 2) := by decide +kernel
theorem dX0_hasToucher_22 : decode cX0_hasToucher 22 = .ok (.iconst 1, 1) := by decide +kernel
theorem dX0_hasToucher_23 : decode cX0_hasToucher 23 = .ok (.if_icmp .ne 5, 3) := by decide +kernel
theorem dX0_hasToucher_26 : decode cX0_hasToucher 26 = .ok (.iconst 1, 1) := by decide +kernel
theorem dX0_hasToucher_27 : decode cX0_hasToucher 27 = .ok (.ireturn, 1) := by decide +kernel
theorem dX0_hasToucher_28 : decode cX0_hasToucher 28 = .ok (.iinc 3 1, 3) := by decide +kernel
theorem dX0_hasToucher_31 : decode cX0_hasToucher 31 = .ok (.goto (-21), 3) := by decide +kernel
theorem dX0_hasToucher_34 : decode cX0_hasToucher 34 = .ok (.iconst 0, 1) := by decide +kernel
theorem dX0_hasToucher_35 : decode cX0_hasToucher 35 = .ok (.ireturn, 1) := by decide +kernel
def f_X0_hasToucher (N : Nat) (g : GV) : Option (Int32) :=
  lpN (fun (s10 : Int32) (k10 : (Int32) → Option (Int32)) => (if (8 : Int32) ≤ s10 then some (0 : Int32) else gd (ixok s10 8) ((if ((G_touched g) s10.toNatClampNeg) = (1 : Int32) then some (1 : Int32) else k10 (s10 + (1 : Int32)))))) N (0 : Int32)
set_option maxHeartbeats 4000000 in
set_option maxRecDepth 100000 in
theorem met_X0_hasToucher (l : Launch) (dC : Nat → ClassId) (dI : Nat → Nat → Nat) (cyI cyO : ClassId) (a : Nat → Nat) (N : Nat) (g : GV) (out : Int32) (hF : f_X0_hasToucher N g = some out) : Met l yX0_hasToucher (Cond.code yX0_hasToucher cX0_hasToucher 5 (some .boolean) :: wT) ({ frames := 0, cells := 0, slots := 0, locals := 0 } : Room) (wRd dC dI cyI cyO [.ref (a 1)] (cG cyI a g)) (va_Qi (fun (r : Int32) (_ : Unit) => r = out ∧ b01 r) (fun _ _ => True) wN0) 0 0 wN0 := by
  refine Met.ofW (cc := cX0_hasToucher) (maxL := 5) (ret := (some .boolean)) (by decide) rfl ?_
  intro p e s m args below meth c s₁ B hml hv
  obtain ⟨rfl, hP, hK⟩ := hv
  have hx := B.exec
  have hb := B.bytes
  have hr := B.returns
  have hts0 := atoms_spec (ws := (Cond.code yX0_hasToucher cX0_hasToucher 5 (some .boolean) :: wT)) B.pre
  have hts := fun w h => hts0 w (List.mem_cons_of_mem _ h)
  clear hts0
  have hown : s.vm.findClass RX0 = some m.cls := findClass_of_methodNamed B.named
  have hlocks := B.notSynchronized
  have hS : va_S wN0 s.heap s.heap [] := va_S.rf
  have hl := lv_entry [.ref (a 1)] (n := 5) (Nat.le_of_ble_eq_true rfl)
  rw [lg_entry_eq]
  generalize (lg_sl [.ref (a 1)] ++ List.replicate (5 - (lg_sl [.ref (a 1)]).length) Slot.unset).toArray = ls at hl ⊢
  have hl : lv_has ls 5 [(0, .ref (a 1))] := hl
  unfold f_X0_hasToucher at hF
  refine lv_aload_n hx hb dX0_hasToucher_0 rfl (lv_at hl 0 rfl) ?_
  refine va_get (D := (dC, dI)) (ci := 0) (v := .ref (a 7)) (C := RX0) (T := TX0) (N := 9) hx hb hts inX0 hown hK.1 hP 0 rfl rfl 5 (by decide) (hts _ w_fieldLink_X0_27) (fun _ h9 => h9) rfl dX0_hasToucher_1 ?_
  refine lv_astore_n (lv' := [(1, .ref (a 7)), (0, .ref (a 1))]) hx hb dX0_hasToucher_4 rfl hl (by decide) rfl (fun ls hl => ?_)
  refine lv_aload_n hx hb dX0_hasToucher_5 rfl (lv_at hl 0 rfl) ?_
  refine va_alen hx hb hK.1 hP 6 0 rfl rfl (v := (8 : Int32)) rfl dX0_hasToucher_6 ?_
  refine lv_istore_n (lv' := [(2, .int (8 : Int32)), (1, .ref (a 7)), (0, .ref (a 1))]) hx hb dX0_hasToucher_7 rfl hl (by decide) rfl (fun ls hl => ?_)
  refine lv_iconst (v := 0) hx hb dX0_hasToucher_8 (by decide) ?_
  refine lv_istore_n (lv' := [(3, .int (0 : Int32)), (2, .int (8 : Int32)), (1, .ref (a 7)), (0, .ref (a 1))]) hx hb dX0_hasToucher_9 rfl hl (by decide) rfl (fun ls hl => ?_)
  obtain ⟨st10, hst10, hF⟩ := lpN_use hF
  have hL10 : ∀ (n : Nat) (s10 : Int32) (H : Heap) (locs : List Loc) (ls : Array Slot), va_P (dC, dI) vwCl (cG cyI a g) H → va_S wN0 s.heap H locs → lv_has ls 5 [(1, .ref (a 7)), (2, .int (8 : Int32)), (3, .int s10)] → lpN st10 n s10 = some out → W p l e (headSpec (Cond.code yX0_hasToucher cX0_hasToucher 5 (some .boolean) :: wT) ({ frames := 0, cells := 0, slots := 0, locals := 0 } : Room)).room s m ([.ref (a 1)] : List Value).toArray below meth c H locs 0 0 (MQ below (va_Qi (fun (r : Int32) (_ : Unit) => r = out ∧ b01 r) (fun _ _ => True) wN0) ([.ref (a 1)] : List Value).toArray s 0 0 wN0) (F0 m 10 ls []) := by
    intro n
    induction n with
    | zero => intro s10 H locs ls hP hS hl hF; exact lpN_0 hF
    | succ n ih10 =>
      intro s10 H locs ls hP hS hl hF
      have hF := (congrFun (congrFun hst10 s10) (lpN st10 n)).symm.trans (lpN_s hF)
      refine lv_iload_n hx hb dX0_hasToucher_10 rfl (lv_at hl 2 rfl) ?_
      refine lv_iload_n hx hb dX0_hasToucher_11 rfl (lv_at hl 1 rfl) ?_
      refine lv_icmp_ge (tgt := 34) hx hb dX0_hasToucher_12 (by decide) (fun c1 => ?_) (fun c1 => ?_)
      · have hF := itp c1 hF
        refine lv_iconst (v := 0) hx hb dX0_hasToucher_34 (by decide) ?_
        exact W.zret (ty := .boolean) (v := (0 : Int32)) hx hb hr (b01_n b01_0) (fun t ht hW => ⟨⟨_, (), rfl, ⟨Option.some.inj hF, b01_0⟩, trivial⟩, hS.F ht⟩) hS.2.2 dX0_hasToucher_35
      · have hF := itn c1 hF
        refine lv_aload_n hx hb dX0_hasToucher_15 rfl (lv_at hl 0 rfl) ?_
        refine lv_iload_n hx hb dX0_hasToucher_16 rfl (lv_at hl 2 rfl) ?_
        obtain ⟨hg2, hF⟩ := gd_use hF
        refine va_iald hx hb hK.1 hP 6 0 rfl rfl (i := s10) hg2 dX0_hasToucher_17 ?_
        refine lv_istore (lv' := [(4, .int ((G_touched g) s10.toNatClampNeg)), (1, .ref (a 7)), (2, .int (8 : Int32)), (3, .int s10)]) hx hb dX0_hasToucher_18 hl (by decide) rfl (fun ls hl => ?_)
        refine lv_iload hx hb dX0_hasToucher_20 (lv_at hl 0 rfl) ?_
        refine lv_iconst (v := 1) hx hb dX0_hasToucher_22 (by decide) ?_
        refine lv_icmp_ne (tgt := 28) hx hb dX0_hasToucher_23 (by decide) (fun c3 => ?_) (fun c3 => ?_)
        · have hF := itn c3 hF
          refine lv_iinc (v := (s10 + (1 : Int32))) (lv' := [(3, .int (s10 + (1 : Int32))), (4, .int ((G_touched g) s10.toNatClampNeg)), (1, .ref (a 7)), (2, .int (8 : Int32))]) hx hb dX0_hasToucher_28 hl (k := 3) rfl rfl (by decide) rfl (fun ls hl => ?_)
          refine lv_goto (tgt := 10) hx hb dX0_hasToucher_31 (by decide) ?_
          exact ih10 (s10 + (1 : Int32)) _ _ _ hP hS (lv_sub hl [2, 3, 0] rfl) hF
        · have hF := itp c3 hF
          refine lv_iconst (v := 1) hx hb dX0_hasToucher_26 (by decide) ?_
          exact W.zret (ty := .boolean) (v := (1 : Int32)) hx hb hr (b01_n b01_1) (fun t ht hW => ⟨⟨_, (), rfl, ⟨Option.some.inj hF, b01_1⟩, trivial⟩, hS.F ht⟩) hS.2.2 dX0_hasToucher_27
  exact hL10 N (0 : Int32) _ _ _ hP hS (lv_sub hl [2, 1, 0] rfl) hF
theorem dX0_isJackLost_0 : decode cX0_isJackLost 0 = .ok (.aload_n 0, 1) := by decide +kernel
theorem dX0_isJackLost_1 : decode cX0_isJackLost 1 = .ok (.bipush 8, 2) := by decide +kernel
theorem dX0_isJackLost_3 : decode cX0_isJackLost 3 = .ok (.invokevirtual 52, 3) := by decide +kernel
theorem dX0_isJackLost_6 : decode cX0_isJackLost 6 = .ok (.sipush 1260, 3) := by decide +kernel
theorem dX0_isJackLost_9 : decode cX0_isJackLost 9 = .ok (.if_icmp .lt 14, 3) := by decide +kernel
theorem dX0_isJackLost_12 : decode cX0_isJackLost 12 = .ok (.aload_n 0, 1) := by decide +kernel
theorem dX0_isJackLost_13 : decode cX0_isJackLost 13 = .ok (.invokevirtual 56, 3) := by decide +kernel
theorem dX0_isJackLost_16 : decode cX0_isJackLost 16 = .ok (.ifCond .ne 7, 3) := by decide +kernel
theorem dX0_isJackLost_19 : decode cX0_isJackLost 19 = .ok (.iconst 1, 1) := by decide +kernel
theorem dX0_isJackLost_20 : decode cX0_isJackLost 20 = .ok (.goto 4, 3) := by decide +kernel
theorem dX0_isJackLost_23 : decode cX0_isJackLost 23 = .ok (.iconst 0, 1) := by decide +kernel
theorem dX0_isJackLost_24 : decode cX0_isJackLost 24 = .ok (.ireturn, 1) := by decide +kernel
def f_X0_isJackLost (N : Nat) (g : GV) : Option (Int32) :=
  (f_X0_placeOf N g (8 : Int32)).bind (fun o1 => jn (fun (s24 : Int32) => some s24) (fun (j24 : (Int32) → Option (Int32)) => jn (fun (s23 : Unit) => j24 (0 : Int32)) (fun (j23 : (Unit) → Option (Int32)) => (if o1 < (1260 : Int32) then j23 () else (f_X0_hasToucher N g).bind (fun o4 => (if o4 = 0 then j24 (1 : Int32) else j23 ()))))))
set_option maxHeartbeats 4000000 in
set_option maxRecDepth 100000 in
theorem met_X0_isJackLost (l : Launch) (dC : Nat → ClassId) (dI : Nat → Nat → Nat) (cyI cyO : ClassId) (a : Nat → Nat) (N : Nat) (g : GV) (out : Int32) (hF : f_X0_isJackLost N g = some out) : Met l yX0_isJackLost (Cond.code yX0_isJackLost cX0_isJackLost 1 (some .boolean) :: wT) ({ frames := 1, cells := 0, slots := 0, locals := 24 } : Room) (wRd dC dI cyI cyO [.ref (a 1)] (cG cyI a g)) (va_Qi (fun (r : Int32) (_ : Unit) => r = out ∧ b01 r) (fun _ _ => True) wN0) 0 0 wN0 := by
  refine Met.ofW (cc := cX0_isJackLost) (maxL := 1) (ret := (some .boolean)) (by decide) rfl ?_
  intro p e s m args below meth c s₁ B hml hv
  obtain ⟨rfl, hP, hK⟩ := hv
  have hx := B.exec
  have hb := B.bytes
  have hr := B.returns
  have hts0 := atoms_spec (ws := (Cond.code yX0_isJackLost cX0_isJackLost 1 (some .boolean) :: wT)) B.pre
  have hts := fun w h => hts0 w (List.mem_cons_of_mem _ h)
  clear hts0
  have hown : s.vm.findClass RX0 = some m.cls := findClass_of_methodNamed B.named
  have hlocks := B.notSynchronized
  have hS : va_S wN0 s.heap s.heap [] := va_S.rf
  have hl := lv_entry [.ref (a 1)] (n := 1) (Nat.le_of_ble_eq_true rfl)
  rw [lg_entry_eq]
  generalize (lg_sl [.ref (a 1)] ++ List.replicate (1 - (lg_sl [.ref (a 1)]).length) Slot.unset).toArray = ls at hl ⊢
  have hl : lv_has ls 1 [(0, .ref (a 1))] := hl
  unfold f_X0_isJackLost at hF
  refine lv_aload_n hx hb dX0_isJackLost_0 rfl (lv_at hl 0 rfl) ?_
  refine lv_bipush (v := 8) hx hb dX0_isJackLost_1 (by decide) ?_
  obtain ⟨o1, h2, hF⟩ := obd hF
  refine wcRVi (As := [.int (8 : Int32)]) (rest := []) (b := (a 1)) ⟨hx, hb, hml, hown, hts⟩ (met_X0_placeOf l dC dI cyI cyO a N g (8 : Int32) o1 h2) (cwV 1 hts (gV w_methodLink_X0_52 w_instanceMethod_X0_placeOf w_selects_X0_placeOf w_initialized_X0 w_code_X0_placeOf) rfl rfl rfl (by decide +kernel) ⟨Nat.le_of_ble_eq_true rfl, Nat.le_of_ble_eq_true rfl⟩) (va_recv hK.1 hP (ci := 0) (q0 := 0) rfl rfl) hP hK [0, 1, 2, 3, 4, 5, 6, 7] rfl rfl hl.1 (Nat.le_of_ble_eq_true rfl) dX0_isJackLost_3 ⟨Nat.le_of_ble_eq_true rfl, Nat.le_of_ble_eq_true rfl⟩ hS (fun r H locs hw hP hS => ?_)
  have hw := hw.symm
  subst hw
  refine lv_sipush (v := 1260) hx hb dX0_isJackLost_6 (by decide) ?_
  obtain ⟨j24, hj24, hF⟩ := jn_use hF
  have hJ24 : ∀ (s24 : Int32) (H : Heap) (locs : List Loc) (ls : Array Slot) (hz_24_s0 : b01 s24), va_P (dC, dI) vwCl (cG cyI a g) H → va_S wN0 s.heap H locs → lv_has ls 1 [] → j24 s24 = some out → W p l e (headSpec (Cond.code yX0_isJackLost cX0_isJackLost 1 (some .boolean) :: wT) ({ frames := 1, cells := 0, slots := 0, locals := 24 } : Room)).room s m ([.ref (a 1)] : List Value).toArray below meth c H locs 0 0 (MQ below (va_Qi (fun (r : Int32) (_ : Unit) => r = out ∧ b01 r) (fun _ _ => True) wN0) ([.ref (a 1)] : List Value).toArray s 0 0 wN0) (F0 m 24 ls [.int s24]) := by
    intro s24 H locs ls hz_24_s0 hP hS hl hF
    have hF := (congrFun hj24 s24).symm.trans hF
    exact W.zret (ty := .boolean) (v := s24) hx hb hr (b01_n hz_24_s0) (fun t ht hW => ⟨⟨_, (), rfl, ⟨Option.some.inj hF, hz_24_s0⟩, trivial⟩, hS.F ht⟩) hS.2.2 dX0_isJackLost_24
  obtain ⟨j23, hj23, hF⟩ := jn_use hF
  have hJ23 : ∀ (s23 : Unit) (H : Heap) (locs : List Loc) (ls : Array Slot), va_P (dC, dI) vwCl (cG cyI a g) H → va_S wN0 s.heap H locs → lv_has ls 1 [] → j23 s23 = some out → W p l e (headSpec (Cond.code yX0_isJackLost cX0_isJackLost 1 (some .boolean) :: wT) ({ frames := 1, cells := 0, slots := 0, locals := 24 } : Room)).room s m ([.ref (a 1)] : List Value).toArray below meth c H locs 0 0 (MQ below (va_Qi (fun (r : Int32) (_ : Unit) => r = out ∧ b01 r) (fun _ _ => True) wN0) ([.ref (a 1)] : List Value).toArray s 0 0 wN0) (F0 m 23 ls []) := by
    intro s23 H locs ls hP hS hl hF
    have hF := (congrFun hj23 s23).symm.trans hF
    refine lv_iconst (v := 0) hx hb dX0_isJackLost_23 (by decide) ?_
    exact hJ24 (0 : Int32) _ _ _ b01_0 hP hS (lv_sub hl [] rfl) hF
  refine lv_icmp_lt (tgt := 23) hx hb dX0_isJackLost_9 (by decide) (fun c3 => ?_) (fun c3 => ?_)
  · have hF := itp c3 hF
    exact hJ23 () _ _ _ hP hS (lv_sub hl [] rfl) hF
  · have hF := itn c3 hF
    refine lv_aload_n hx hb dX0_isJackLost_12 rfl (lv_at hl 0 rfl) ?_
    obtain ⟨o4, h5, hF⟩ := obd hF
    refine wcRVi (As := []) (rest := []) (b := (a 1)) ⟨hx, hb, hml, hown, hts⟩ (met_X0_hasToucher l dC dI cyI cyO a N g  o4 h5) (cwV 0 hts (gV w_methodLink_X0_56 w_instanceMethod_X0_hasToucher w_selects_X0_hasToucher w_initialized_X0 w_code_X0_hasToucher) rfl rfl rfl (by decide +kernel) ⟨Nat.le_of_ble_eq_true rfl, Nat.le_of_ble_eq_true rfl⟩) (va_recv hK.1 hP (ci := 0) (q0 := 0) rfl rfl) hP hK [0, 1, 2, 3, 4, 5, 6, 7] rfl rfl hl.1 (Nat.le_of_ble_eq_true rfl) dX0_isJackLost_13 ⟨Nat.le_of_ble_eq_true rfl, Nat.le_of_ble_eq_true rfl⟩ hS (fun r H locs hw hP hS => ?_)
    obtain ⟨hw, hz6⟩ := hw
    have hw := hw.symm
    subst hw
    refine lv_if_ne (tgt := 23) hx hb dX0_isJackLost_16 (by decide) (fun c7 => ?_) (fun c7 => ?_)
    · have hF := itn c7 hF
      exact hJ23 () _ _ _ hP hS (lv_sub hl [] rfl) hF
    · have hF := itp c7 hF
      refine lv_iconst (v := 1) hx hb dX0_isJackLost_19 (by decide) ?_
      refine lv_goto (tgt := 24) hx hb dX0_isJackLost_20 (by decide) ?_
      exact hJ24 (1 : Int32) _ _ _ b01_1 hP hS (lv_sub hl [] rfl) hF
theorem dX0_thingAt_0 : decode cX0_thingAt 0 = .ok (.iconst 0, 1) := by decide +kernel
theorem dX0_thingAt_1 : decode cX0_thingAt 1 = .ok (.istore_n 2, 1) := by decide +kernel
theorem dX0_thingAt_2 : decode cX0_thingAt 2 = .ok (.iload_n 2, 1) := by decide +kernel
theorem dX0_thingAt_3 : decode cX0_thingAt 3 = .ok (.aload_n 0, 1) := by decide +kernel
theorem dX0_thingAt_4 : decode cX0_thingAt 4 = .ok (.getfield 9, 3) := by decide +kernel
theorem dX0_thingAt_7 : decode cX0_thingAt 7 = .ok (.arraylength, 1) := by decide +kernel
theorem dX0_thingAt_8 : decode cX0_thingAt 8 = .ok (.if_icmp .ge 21, 3) := by decide +kernel
theorem dX0_thingAt_11 : decode cX0_thingAt 11 = .ok (.aload_n 0, 1) := by decide +kernel
theorem dX0_thingAt_12 : decode cX0_thingAt 12 = .ok (.getfield 9, 3) := by decide +kernel
theorem dX0_thingAt_15 : decode cX0_thingAt 15 = .ok (.iload_n 2, 1) := by decide +kernel
theorem dX0_thingAt_16 : decode cX0_thingAt 16 = .ok (.iaload, 1) := by decide +kernel
theorem dX0_thingAt_17 : decode cX0_thingAt 17 = .ok (.iload_n 1, 1) := by decide +kernel
theorem dX0_thingAt_18 : decode cX0_thingAt 18 = .ok (.if_icmp .ne 5, 3) := by decide +kernel
theorem dX0_thingAt_21 : decode cX0_thingAt 21 = .ok (.iload_n 2, 1) := by decide +kernel
theorem dX0_thingAt_22 : decode cX0_thingAt 22 = .ok (.ireturn, 1) := by decide +kernel
theorem dX0_thingAt_23 : decode cX0_thingAt 23 = .ok (.iinc 2 1, 3) := by decide +kernel
theorem dX0_thingAt_26 : decode cX0_thingAt 26 = .ok (.goto (-24), 3) := by decide +kernel
theorem dX0_thingAt_29 : decode cX0_thingAt 29 = .ok (.iconst (-1), 1) := by decide +kernel
theorem dX0_thingAt_30 : decode cX0_thingAt 30 = .ok (.ireturn, 1) := by decide +kernel
def f_X0_thingAt (N : Nat) (g : GV) (p1 : Int32) : Option (Int32) :=
  lpN (fun (s2 : Int32) (k2 : (Int32) → Option (Int32)) => (if (9 : Int32) ≤ s2 then some (-1 : Int32) else gd (ixok s2 9) ((if ((G_places g) s2.toNatClampNeg) = p1 then some s2 else k2 (s2 + (1 : Int32)))))) N (0 : Int32)
set_option maxHeartbeats 4000000 in
set_option maxRecDepth 100000 in
theorem met_X0_thingAt (l : Launch) (dC : Nat → ClassId) (dI : Nat → Nat → Nat) (cyI cyO : ClassId) (a : Nat → Nat) (N : Nat) (g : GV) (p1 : Int32) (out : Int32) (hF : f_X0_thingAt N g p1 = some out) : Met l yX0_thingAt (Cond.code yX0_thingAt cX0_thingAt 3 (some .int) :: wT) ({ frames := 0, cells := 0, slots := 0, locals := 0 } : Room) (wRd dC dI cyI cyO [.ref (a 1), .int p1] (cG cyI a g)) (va_Qi (fun (r : Int32) (_ : Unit) => r = out) (fun _ _ => True) wN0) 0 0 wN0 := by
  refine Met.ofW (cc := cX0_thingAt) (maxL := 3) (ret := (some .int)) (by decide) rfl ?_
  intro p e s m args below meth c s₁ B hml hv
  obtain ⟨rfl, hP, hK⟩ := hv
  have hx := B.exec
  have hb := B.bytes
  have hr := B.returns
  have hts0 := atoms_spec (ws := (Cond.code yX0_thingAt cX0_thingAt 3 (some .int) :: wT)) B.pre
  have hts := fun w h => hts0 w (List.mem_cons_of_mem _ h)
  clear hts0
  have hown : s.vm.findClass RX0 = some m.cls := findClass_of_methodNamed B.named
  have hlocks := B.notSynchronized
  have hS : va_S wN0 s.heap s.heap [] := va_S.rf
  have hl := lv_entry [.ref (a 1), .int p1] (n := 3) (Nat.le_of_ble_eq_true rfl)
  rw [lg_entry_eq]
  generalize (lg_sl [.ref (a 1), .int p1] ++ List.replicate (3 - (lg_sl [.ref (a 1), .int p1]).length) Slot.unset).toArray = ls at hl ⊢
  have hl : lv_has ls 3 [(0, .ref (a 1)), (1, .int p1)] := hl
  unfold f_X0_thingAt at hF
  refine lv_iconst (v := 0) hx hb dX0_thingAt_0 (by decide) ?_
  refine lv_istore_n (lv' := [(2, .int (0 : Int32)), (0, .ref (a 1)), (1, .int p1)]) hx hb dX0_thingAt_1 rfl hl (by decide) rfl (fun ls hl => ?_)
  obtain ⟨st2, hst2, hF⟩ := lpN_use hF
  have hL2 : ∀ (n : Nat) (s2 : Int32) (H : Heap) (locs : List Loc) (ls : Array Slot), va_P (dC, dI) vwCl (cG cyI a g) H → va_S wN0 s.heap H locs → lv_has ls 3 [(0, .ref (a 1)), (1, .int p1), (2, .int s2)] → lpN st2 n s2 = some out → W p l e (headSpec (Cond.code yX0_thingAt cX0_thingAt 3 (some .int) :: wT) ({ frames := 0, cells := 0, slots := 0, locals := 0 } : Room)).room s m ([.ref (a 1), .int p1] : List Value).toArray below meth c H locs 0 0 (MQ below (va_Qi (fun (r : Int32) (_ : Unit) => r = out) (fun _ _ => True) wN0) ([.ref (a 1), .int p1] : List Value).toArray s 0 0 wN0) (F0 m 2 ls []) := by
    intro n
    induction n with
    | zero => intro s2 H locs ls hP hS hl hF; exact lpN_0 hF
    | succ n ih2 =>
      intro s2 H locs ls hP hS hl hF
      have hF := (congrFun (congrFun hst2 s2) (lpN st2 n)).symm.trans (lpN_s hF)
      refine lv_iload_n hx hb dX0_thingAt_2 rfl (lv_at hl 2 rfl) ?_
      refine lv_aload_n hx hb dX0_thingAt_3 rfl (lv_at hl 0 rfl) ?_
      refine va_get (D := (dC, dI)) (ci := 0) (v := .ref (a 2)) (C := RX0) (T := TX0) (N := 9) hx hb hts inX0 hown hK.1 hP 0 rfl rfl 0 (by decide) (hts _ w_fieldLink_X0_9) (fun _ h9 => h9) rfl dX0_thingAt_4 ?_
      refine va_alen hx hb hK.1 hP 1 0 rfl rfl (v := (9 : Int32)) rfl dX0_thingAt_7 ?_
      refine lv_icmp_ge (tgt := 29) hx hb dX0_thingAt_8 (by decide) (fun c1 => ?_) (fun c1 => ?_)
      · have hF := itp c1 hF
        refine lv_iconst (v := -1) hx hb dX0_thingAt_29 (by decide) ?_
        exact W.iret (v := (-1 : Int32)) hx hb hr (fun t ht hW => ⟨⟨_, (), rfl, Option.some.inj hF, trivial⟩, hS.F ht⟩) hS.2.2 dX0_thingAt_30
      · have hF := itn c1 hF
        refine lv_aload_n hx hb dX0_thingAt_11 rfl (lv_at hl 0 rfl) ?_
        refine va_get (D := (dC, dI)) (ci := 0) (v := .ref (a 2)) (C := RX0) (T := TX0) (N := 9) hx hb hts inX0 hown hK.1 hP 0 rfl rfl 0 (by decide) (hts _ w_fieldLink_X0_9) (fun _ h9 => h9) rfl dX0_thingAt_12 ?_
        refine lv_iload_n hx hb dX0_thingAt_15 rfl (lv_at hl 2 rfl) ?_
        obtain ⟨hg2, hF⟩ := gd_use hF
        refine va_iald hx hb hK.1 hP 1 0 rfl rfl (i := s2) hg2 dX0_thingAt_16 ?_
        refine lv_iload_n hx hb dX0_thingAt_17 rfl (lv_at hl 1 rfl) ?_
        refine lv_icmp_ne (tgt := 23) hx hb dX0_thingAt_18 (by decide) (fun c3 => ?_) (fun c3 => ?_)
        · have hF := itn c3 hF
          refine lv_iinc (v := (s2 + (1 : Int32))) (lv' := [(2, .int (s2 + (1 : Int32))), (0, .ref (a 1)), (1, .int p1)]) hx hb dX0_thingAt_23 hl (k := 2) rfl rfl (by decide) rfl (fun ls hl => ?_)
          refine lv_goto (tgt := 2) hx hb dX0_thingAt_26 (by decide) ?_
          exact ih2 (s2 + (1 : Int32)) _ _ _ hP hS (lv_sub hl [1, 2, 0] rfl) hF
        · have hF := itp c3 hF
          refine lv_iload_n hx hb dX0_thingAt_21 rfl (lv_at hl 2 rfl) ?_
          exact W.iret (v := s2) hx hb hr (fun t ht hW => ⟨⟨_, (), rfl, Option.some.inj hF, trivial⟩, hS.F ht⟩) hS.2.2 dX0_thingAt_22
  exact hL2 N (0 : Int32) _ _ _ hP hS (lv_sub hl [1, 2, 0] rfl) hF
theorem dX0_putJackBack_0 : decode cX0_putJackBack 0 = .ok (.sipush 850, 3) := by decide +kernel
theorem dX0_putJackBack_3 : decode cX0_putJackBack 3 = .ok (.istore_n 1, 1) := by decide +kernel
theorem dX0_putJackBack_4 : decode cX0_putJackBack 4 = .ok (.iload_n 1, 1) := by decide +kernel
theorem dX0_putJackBack_5 : decode cX0_putJackBack 5 = .ok (.sipush 1239, 3) := by decide +kernel
theorem dX0_putJackBack_8 : decode cX0_putJackBack 8 = .ok (.if_icmp .ge 18, 3) := by decide +kernel
theorem dX0_putJackBack_11 : decode cX0_putJackBack 11 = .ok (.aload_n 0, 1) := by decide +kernel
theorem dX0_putJackBack_12 : decode cX0_putJackBack 12 = .ok (.iload_n 1, 1) := by decide +kernel
theorem dX0_putJackBack_13 : decode cX0_putJackBack 13 = .ok (.invokevirtual 60, 3) := by decide +kernel
theorem dX0_putJackBack_16 : decode cX0_putJackBack 16 = .ok (.iconst (-1), 1) := by decide +kernel
theorem dX0_putJackBack_17 : decode cX0_putJackBack 17 = .ok (.if_icmp .eq 9, 3) := by decide +kernel
theorem dX0_putJackBack_20 : decode cX0_putJackBack 20 = .ok (.iinc 1 21, 3) := by decide +kernel
theorem dX0_putJackBack_23 : decode cX0_putJackBack 23 = .ok (.goto (-19), 3) := by decide +kernel
theorem dX0_putJackBack_26 : decode cX0_putJackBack 26 = .ok (.aload_n 0, 1) := by decide +kernel
theorem dX0_putJackBack_27 : decode cX0_putJackBack 27 = .ok (.getfield 9, 3) := by decide +kernel
theorem dX0_putJackBack_30 : decode cX0_putJackBack 30 = .ok (.bipush 8, 2) := by decide +kernel
theorem dX0_putJackBack_32 : decode cX0_putJackBack 32 = .ok (.iload_n 1, 1) := by decide +kernel
theorem dX0_putJackBack_33 : decode cX0_putJackBack 33 = .ok (.invokestatic 63, 3) := by decide +kernel
theorem dX0_putJackBack_36 : decode cX0_putJackBack 36 = .ok (.return_, 1) := by decide +kernel
def f_X0_putJackBack (N : Nat) (g : GV) : Option (GV) :=
  lpN (fun (s4 : Int32) (k4 : (Int32) → Option (GV)) => jn (fun (s26 : Unit) => (f_X5_put N 9 (G_places g) (8 : Int32) s4).bind (fun o1 => some (G_set_places g o1))) (fun (j26 : (Unit) → Option (GV)) => (if (1239 : Int32) ≤ s4 then j26 () else (f_X0_thingAt N g s4).bind (fun o4 => (if o4 = (-1 : Int32) then j26 () else k4 (s4 + (21 : Int32))))))) N (850 : Int32)
set_option maxHeartbeats 4000000 in
set_option maxRecDepth 100000 in
theorem met_X0_putJackBack (l : Launch) (dC : Nat → ClassId) (dI : Nat → Nat → Nat) (cyI cyO : ClassId) (a : Nat → Nat) (sz : Nat) (N : Nat) (g : GV) (out : GV) (hF : f_X0_putJackBack N g = some out) : Met l yX0_putJackBack (Cond.code yX0_putJackBack cX0_putJackBack 2 none :: wT) ({ frames := 1, cells := 0, slots := 0, locals := 22 } : Room) (wWr dC dI cyI cyO [.ref (a 1)] (cG cyI a g) sz) (va_Qv (fun (u : GV) => u = out) (fun u t => va_P (dC, dI) vwCl (cG cyI a u) t.heap ∧ va_D (va_A (cG cyI a g) sz) (cG cyI a u)) (va_A (cG cyI a g) sz)) 0 0 (va_A (cG cyI a g) sz) := by
  refine Met.ofW (cc := cX0_putJackBack) (maxL := 2) (ret := none) (by decide) rfl ?_
  intro p e s m args below meth c s₁ B hml hv
  obtain ⟨rfl, hsz, hP, hK, hD0⟩ := hv
  have hx := B.exec
  have hb := B.bytes
  have hr := B.returns
  have hts0 := atoms_spec (ws := (Cond.code yX0_putJackBack cX0_putJackBack 2 none :: wT)) B.pre
  have hts := fun w h => hts0 w (List.mem_cons_of_mem _ h)
  clear hts0
  have hown : s.vm.findClass RX0 = some m.cls := findClass_of_methodNamed B.named
  have hlocks := B.notSynchronized
  subst hsz
  have hD := hD0.self (sz := s.heap.size)
  generalize hAe : va_A (cG cyI a g) s.heap.size = A at hD ⊢
  have hA : ∀ q : Nat, s.heap.size ≤ q → A q := fun q h => by rw [← hAe]; exact Or.inr h
  clear hD0
  have hS : va_S A s.heap s.heap [] := va_S.rf
  have hl := lv_entry [.ref (a 1)] (n := 2) (Nat.le_of_ble_eq_true rfl)
  rw [lg_entry_eq]
  generalize (lg_sl [.ref (a 1)] ++ List.replicate (2 - (lg_sl [.ref (a 1)]).length) Slot.unset).toArray = ls at hl ⊢
  have hl : lv_has ls 2 [(0, .ref (a 1))] := hl
  unfold f_X0_putJackBack at hF
  refine lv_sipush (v := 850) hx hb dX0_putJackBack_0 (by decide) ?_
  refine lv_istore_n (lv' := [(1, .int (850 : Int32)), (0, .ref (a 1))]) hx hb dX0_putJackBack_3 rfl hl (by decide) rfl (fun ls hl => ?_)
  obtain ⟨st4, hst4, hF⟩ := lpN_use hF
  have hL4 : ∀ (n : Nat) (s4 : Int32) (H : Heap) (locs : List Loc) (ls : Array Slot), va_P (dC, dI) vwCl (cG cyI a g) H → va_D A (cG cyI a g) → va_S A s.heap H locs → lv_has ls 2 [(0, .ref (a 1)), (1, .int s4)] → lpN st4 n s4 = some out → W p l e (headSpec (Cond.code yX0_putJackBack cX0_putJackBack 2 none :: wT) ({ frames := 1, cells := 0, slots := 0, locals := 22 } : Room)).room s m ([.ref (a 1)] : List Value).toArray below meth c H locs 0 0 (MQ below (va_Qv (fun (u : GV) => u = out) (fun u t => va_P (dC, dI) vwCl (cG cyI a u) t.heap ∧ va_D A (cG cyI a u)) A) ([.ref (a 1)] : List Value).toArray s 0 0 A) (F0 m 4 ls []) := by
    intro n
    induction n with
    | zero => intro s4 H locs ls hP hD hS hl hF; exact lpN_0 hF
    | succ n ih4 =>
      intro s4 H locs ls hP hD hS hl hF
      have hF := (congrFun (congrFun hst4 s4) (lpN st4 n)).symm.trans (lpN_s hF)
      refine lv_iload_n hx hb dX0_putJackBack_4 rfl (lv_at hl 1 rfl) ?_
      refine lv_sipush (v := 1239) hx hb dX0_putJackBack_5 (by decide) ?_
      obtain ⟨j26, hj26, hF⟩ := jn_use hF
      have hJ26 : ∀ (s26 : Unit) (H : Heap) (locs : List Loc) (ls : Array Slot), va_P (dC, dI) vwCl (cG cyI a g) H → va_D A (cG cyI a g) → va_S A s.heap H locs → lv_has ls 2 [(0, .ref (a 1)), (1, .int s4)] → j26 s26 = some out → W p l e (headSpec (Cond.code yX0_putJackBack cX0_putJackBack 2 none :: wT) ({ frames := 1, cells := 0, slots := 0, locals := 22 } : Room)).room s m ([.ref (a 1)] : List Value).toArray below meth c H locs 0 0 (MQ below (va_Qv (fun (u : GV) => u = out) (fun u t => va_P (dC, dI) vwCl (cG cyI a u) t.heap ∧ va_D A (cG cyI a u)) A) ([.ref (a 1)] : List Value).toArray s 0 0 A) (F0 m 26 ls []) := by
        intro s26 H locs ls hP hD hS hl hF
        have hF := (congrFun hj26 s26).symm.trans hF
        refine lv_aload_n hx hb dX0_putJackBack_26 rfl (lv_at hl 0 rfl) ?_
        refine va_get (D := (dC, dI)) (ci := 0) (v := .ref (a 2)) (C := RX0) (T := TX0) (N := 9) hx hb hts inX0 hown hK.1 hP 0 rfl rfl 0 (by decide) (hts _ w_fieldLink_X0_9) (fun _ h9 => h9) rfl dX0_putJackBack_27 ?_
        refine lv_bipush (v := 8) hx hb dX0_putJackBack_30 (by decide) ?_
        refine lv_iload_n hx hb dX0_putJackBack_32 rfl (lv_at hl 1 rfl) ?_
        obtain ⟨o1, h2, hF⟩ := obd hF
        refine wcWNv (As := [.ref (a 2), .int (8 : Int32), .int s4]) (rest := []) (wr := [0, 2, 3, 4, 5, 6, 7].filterMap (fun i => ((cG cyI a g))[i]?)) ⟨hx, hb, hml, hown, hts⟩ (met_X5_put l dC dI cyI cyO (a 2) 9 _ N (G_places g) (8 : Int32) s4 o1 h2) ⟨va_cnB 3 hts (gCode w_code_X5_put) rfl rfl rfl (hK.2 _ n_X0_63) (hts _ w_initialized_X5) (by decide +kernel) ⟨Nat.le_of_ble_eq_true rfl, Nat.le_of_ble_eq_true rfl⟩, hts _ w_static_X5_put, trivial⟩ hP hD hK [1] [0, 2, 3, 4, 5, 6, 7] rfl rfl (by decide) (by decide) (by decide) rfl hl.1 (Nat.le_of_ble_eq_true rfl) dX0_putJackBack_33 ⟨Nat.le_of_ble_eq_true rfl, Nat.le_of_ble_eq_true rfl⟩ hS hA (fun u H locs hw hP hD hS => ?_)
        have hw := hw.symm
        subst hw
        have hP := hP.sub (ws' := (cG cyI a (G_set_places g o1))) [0, 7, 1, 2, 3, 4, 5, 6] rfl
        have hD := hD.sub (ws' := (cG cyI a (G_set_places g o1))) [0, 7, 1, 2, 3, 4, 5, 6] (by decide) rfl
        exact W.vret hx hb hr (fun t ht hW => ⟨⟨_, rfl, Option.some.inj hF, by rw [ht]; exact hP, hD⟩, hS.F ht⟩) hS.2.2 dX0_putJackBack_36
      refine lv_icmp_ge (tgt := 26) hx hb dX0_putJackBack_8 (by decide) (fun c3 => ?_) (fun c3 => ?_)
      · have hF := itp c3 hF
        exact hJ26 () _ _ _ hP hD hS (lv_sub hl [0, 1] rfl) hF
      · have hF := itn c3 hF
        refine lv_aload_n hx hb dX0_putJackBack_11 rfl (lv_at hl 0 rfl) ?_
        refine lv_iload_n hx hb dX0_putJackBack_12 rfl (lv_at hl 1 rfl) ?_
        obtain ⟨o4, h5, hF⟩ := obd hF
        refine wcRVi (As := [.int s4]) (rest := []) (b := (a 1)) ⟨hx, hb, hml, hown, hts⟩ (met_X0_thingAt l dC dI cyI cyO a N g s4 o4 h5) (cwV 1 hts (gV w_methodLink_X0_60 w_instanceMethod_X0_thingAt w_selects_X0_thingAt w_initialized_X0 w_code_X0_thingAt) rfl rfl rfl (by decide +kernel) ⟨Nat.le_of_ble_eq_true rfl, Nat.le_of_ble_eq_true rfl⟩) (va_recv hK.1 hP (ci := 0) (q0 := 0) rfl rfl) hP hK [0, 1, 2, 3, 4, 5, 6, 7] rfl rfl hl.1 (Nat.le_of_ble_eq_true rfl) dX0_putJackBack_13 ⟨Nat.le_of_ble_eq_true rfl, Nat.le_of_ble_eq_true rfl⟩ hS (fun r H locs hw hP hS => ?_)
        have hw := hw.symm
        subst hw
        refine lv_iconst (v := -1) hx hb dX0_putJackBack_16 (by decide) ?_
        refine lv_icmp_eq (tgt := 26) hx hb dX0_putJackBack_17 (by decide) (fun c6 => ?_) (fun c6 => ?_)
        · have hF := itp c6 hF
          exact hJ26 () _ _ _ hP hD hS (lv_sub hl [0, 1] rfl) hF
        · have hF := itn c6 hF
          refine lv_iinc (v := (s4 + (21 : Int32))) (lv' := [(1, .int (s4 + (21 : Int32))), (0, .ref (a 1))]) hx hb dX0_putJackBack_20 hl (k := 1) rfl rfl (by decide) rfl (fun ls hl => ?_)
          refine lv_goto (tgt := 4) hx hb dX0_putJackBack_23 (by decide) ?_
          exact ih4 (s4 + (21 : Int32)) _ _ _ hP hD hS (lv_sub hl [1, 0] rfl) hF
  exact hL4 N (850 : Int32) _ _ _ hP hD hS (lv_sub hl [1, 0] rfl) hF
theorem dX0_addBowl_0 : decode cX0_addBowl 0 = .ok (.aload_n 0, 1) := by decide +kernel
theorem dX0_addBowl_1 : decode cX0_addBowl 1 = .ok (.getfield 33, 3) := by decide +kernel
theorem dX0_addBowl_4 : decode cX0_addBowl 4 = .ok (.istore 5, 2) := by decide +kernel
theorem dX0_addBowl_6 : decode cX0_addBowl 6 = .ok (.aload_n 0, 1) := by decide +kernel
theorem dX0_addBowl_7 : decode cX0_addBowl 7 = .ok (.getfield 15, 3) := by decide +kernel
theorem dX0_addBowl_10 : decode cX0_addBowl 10 = .ok (.iload 5, 2) := by decide +kernel
theorem dX0_addBowl_12 : decode cX0_addBowl 12 = .ok (.iload_n 1, 1) := by decide +kernel
theorem dX0_addBowl_13 : decode cX0_addBowl 13 = .ok (.invokestatic 63, 3) := by decide +kernel
theorem dX0_addBowl_16 : decode cX0_addBowl 16 = .ok (.aload_n 0, 1) := by decide +kernel
theorem dX0_addBowl_17 : decode cX0_addBowl 17 = .ok (.getfield 18, 3) := by decide +kernel
theorem dX0_addBowl_20 : decode cX0_addBowl 20 = .ok (.iload 5, 2) := by decide +kernel
theorem dX0_addBowl_22 : decode cX0_addBowl 22 = .ok (.iload_n 2, 1) := by decide +kernel
theorem dX0_addBowl_23 : decode cX0_addBowl 23 = .ok (.invokestatic 63, 3) := by decide +kernel
theorem dX0_addBowl_26 : decode cX0_addBowl 26 = .ok (.aload_n 0, 1) := by decide +kernel
theorem dX0_addBowl_27 : decode cX0_addBowl 27 = .ok (.getfield 21, 3) := by decide +kernel
theorem dX0_addBowl_30 : decode cX0_addBowl 30 = .ok (.iload 5, 2) := by decide +kernel
theorem dX0_addBowl_32 : decode cX0_addBowl 32 = .ok (.iload_n 3, 1) := by decide +kernel
theorem dX0_addBowl_33 : decode cX0_addBowl 33 = .ok (.invokestatic 63, 3) := by decide +kernel
theorem dX0_addBowl_36 : decode cX0_addBowl 36 = .ok (.aload_n 0, 1) := by decide +kernel
theorem dX0_addBowl_37 : decode cX0_addBowl 37 = .ok (.getfield 24, 3) := by decide +kernel
theorem dX0_addBowl_40 : decode cX0_addBowl 40 = .ok (.iload 5, 2) := by decide +kernel
theorem dX0_addBowl_42 : decode cX0_addBowl 42 = .ok (.iload 4, 2) := by decide +kernel
theorem dX0_addBowl_44 : decode cX0_addBowl 44 = .ok (.invokestatic 63, 3) := by decide +kernel
theorem dX0_addBowl_47 : decode cX0_addBowl 47 = .ok (.aload_n 0, 1) := by decide +kernel
theorem dX0_addBowl_48 : decode cX0_addBowl 48 = .ok (.getfield 27, 3) := by decide +kernel
theorem dX0_addBowl_51 : decode cX0_addBowl 51 = .ok (.iload 5, 2) := by decide +kernel
theorem dX0_addBowl_53 : decode cX0_addBowl 53 = .ok (.iconst 0, 1) := by decide +kernel
theorem dX0_addBowl_54 : decode cX0_addBowl 54 = .ok (.invokestatic 63, 3) := by decide +kernel
theorem dX0_addBowl_57 : decode cX0_addBowl 57 = .ok (.aload_n 0, 1) := by decide +kernel
theorem dX0_addBowl_58 : decode cX0_addBowl 58 = .ok (.getfield 9, 3) := by decide +kernel
theorem dX0_addBowl_61 : decode cX0_addBowl 61 = .ok (.iload 5, 2) := by decide +kernel
theorem dX0_addBowl_63 : decode cX0_addBowl 63 = .ok (.iconst (-1), 1) := by decide +kernel
theorem dX0_addBowl_64 : decode cX0_addBowl 64 = .ok (.invokestatic 63, 3) := by decide +kernel
theorem dX0_addBowl_67 : decode cX0_addBowl 67 = .ok (.aload_n 0, 1) := by decide +kernel
theorem dX0_addBowl_68 : decode cX0_addBowl 68 = .ok (.iconst 0, 1) := by decide +kernel
theorem dX0_addBowl_69 : decode cX0_addBowl 69 = .ok (.putfield 37, 3) := by decide +kernel
theorem dX0_addBowl_72 : decode cX0_addBowl 72 = .ok (.aload_n 0, 1) := by decide +kernel
theorem dX0_addBowl_73 : decode cX0_addBowl 73 = .ok (.iload 5, 2) := by decide +kernel
theorem dX0_addBowl_75 : decode cX0_addBowl 75 = .ok (.iconst 1, 1) := by decide +kernel
theorem dX0_addBowl_76 : decode cX0_addBowl 76 = .ok (.iadd, 1) := by decide +kernel
theorem dX0_addBowl_77 : decode cX0_addBowl 77 = .ok (.putfield 33, 3) := by decide +kernel
theorem dX0_addBowl_80 : decode cX0_addBowl 80 = .ok (.iload 5, 2) := by decide +kernel
theorem dX0_addBowl_82 : decode cX0_addBowl 82 = .ok (.ireturn, 1) := by decide +kernel
def f_X0_addBowl (N : Nat) (g : GV) (p1 : Int32) (p2 : Int32) (p3 : Int32) (p4 : Int32) : Option (Int32 × GV) :=
  (f_X5_put N 8 (G_sides g) (G_bowlCount g) p1).bind (fun o1 => (f_X5_put N 8 (G_aims g) (G_bowlCount g) p2).bind (fun o3 => (f_X5_put N 8 (G_weights g) (G_bowlCount g) p3).bind (fun o5 => (f_X5_put N 8 (G_biases g) (G_bowlCount g) p4).bind (fun o7 => (f_X5_put N 8 (G_touched g) (G_bowlCount g) (0 : Int32)).bind (fun o9 => (f_X5_put N 9 (G_places g) (G_bowlCount g) (-1 : Int32)).bind (fun o11 => some ((G_bowlCount g), (G_set_strikes (G_set_bowlCount (G_set_touched (G_set_biases (G_set_weights (G_set_aims (G_set_sides (G_set_places g o11) o1) o3) o5) o7) o9) ((G_bowlCount g) + (1 : Int32))) (0 : Int32)))))))))
set_option maxHeartbeats 4000000 in
set_option maxRecDepth 100000 in
theorem met_X0_addBowl (l : Launch) (dC : Nat → ClassId) (dI : Nat → Nat → Nat) (cyI cyO : ClassId) (a : Nat → Nat) (sz : Nat) (N : Nat) (g : GV) (p1 : Int32) (p2 : Int32) (p3 : Int32) (p4 : Int32) (out : Int32 × GV) (hF : f_X0_addBowl N g p1 p2 p3 p4 = some out) : Met l yX0_addBowl (Cond.code yX0_addBowl cX0_addBowl 6 (some .int) :: wT) ({ frames := 1, cells := 0, slots := 0, locals := 22 } : Room) (wWr dC dI cyI cyO [.ref (a 1), .int p1, .int p2, .int p3, .int p4] (cG cyI a g) sz) (va_Qi (fun (r : Int32) (u : GV) => (r, u) = out) (fun u t => va_P (dC, dI) vwCl (cG cyI a u) t.heap ∧ va_D (va_A (cG cyI a g) sz) (cG cyI a u)) (va_A (cG cyI a g) sz)) 0 0 (va_A (cG cyI a g) sz) := by
  refine Met.ofW (cc := cX0_addBowl) (maxL := 6) (ret := (some .int)) (by decide) rfl ?_
  intro p e s m args below meth c s₁ B hml hv
  obtain ⟨rfl, hsz, hP, hK, hD0⟩ := hv
  have hx := B.exec
  have hb := B.bytes
  have hr := B.returns
  have hts0 := atoms_spec (ws := (Cond.code yX0_addBowl cX0_addBowl 6 (some .int) :: wT)) B.pre
  have hts := fun w h => hts0 w (List.mem_cons_of_mem _ h)
  clear hts0
  have hown : s.vm.findClass RX0 = some m.cls := findClass_of_methodNamed B.named
  have hlocks := B.notSynchronized
  subst hsz
  have hD := hD0.self (sz := s.heap.size)
  generalize hAe : va_A (cG cyI a g) s.heap.size = A at hD ⊢
  have hA : ∀ q : Nat, s.heap.size ≤ q → A q := fun q h => by rw [← hAe]; exact Or.inr h
  clear hD0
  have hS : va_S A s.heap s.heap [] := va_S.rf
  have hl := lv_entry [.ref (a 1), .int p1, .int p2, .int p3, .int p4] (n := 6) (Nat.le_of_ble_eq_true rfl)
  rw [lg_entry_eq]
  generalize (lg_sl [.ref (a 1), .int p1, .int p2, .int p3, .int p4] ++ List.replicate (6 - (lg_sl [.ref (a 1), .int p1, .int p2, .int p3, .int p4]).length) Slot.unset).toArray = ls at hl ⊢
  have hl : lv_has ls 6 [(0, .ref (a 1)), (1, .int p1), (2, .int p2), (3, .int p3), (4, .int p4)] := hl
  unfold f_X0_addBowl at hF
  refine lv_aload_n hx hb dX0_addBowl_0 rfl (lv_at hl 0 rfl) ?_
  refine va_get (D := (dC, dI)) (ci := 0) (v := .int (G_bowlCount g)) (C := RX0) (T := TX0) (N := 9) hx hb hts inX0 hown hK.1 hP 0 rfl rfl 7 (by decide) (hts _ w_fieldLink_X0_33) (fun _ h9 => h9) rfl dX0_addBowl_1 ?_
  refine lv_istore (lv' := [(5, .int (G_bowlCount g)), (0, .ref (a 1)), (1, .int p1), (2, .int p2), (3, .int p3), (4, .int p4)]) hx hb dX0_addBowl_4 hl (by decide) rfl (fun ls hl => ?_)
  refine lv_aload_n hx hb dX0_addBowl_6 rfl (lv_at hl 1 rfl) ?_
  refine va_get (D := (dC, dI)) (ci := 0) (v := .ref (a 3)) (C := RX0) (T := TX0) (N := 9) hx hb hts inX0 hown hK.1 hP 0 rfl rfl 1 (by decide) (hts _ w_fieldLink_X0_15) (fun _ h9 => h9) rfl dX0_addBowl_7 ?_
  refine lv_iload hx hb dX0_addBowl_10 (lv_at hl 0 rfl) ?_
  refine lv_iload_n hx hb dX0_addBowl_12 rfl (lv_at hl 2 rfl) ?_
  obtain ⟨o1, h2, hF⟩ := obd hF
  refine wcWNv (As := [.ref (a 3), .int (G_bowlCount g), .int p1]) (rest := []) (wr := [0, 1, 3, 4, 5, 6, 7].filterMap (fun i => ((cG cyI a g))[i]?)) ⟨hx, hb, hml, hown, hts⟩ (met_X5_put l dC dI cyI cyO (a 3) 8 _ N (G_sides g) (G_bowlCount g) p1 o1 h2) ⟨va_cnB 3 hts (gCode w_code_X5_put) rfl rfl rfl (hK.2 _ n_X0_63) (hts _ w_initialized_X5) (by decide +kernel) ⟨Nat.le_of_ble_eq_true rfl, Nat.le_of_ble_eq_true rfl⟩, hts _ w_static_X5_put, trivial⟩ hP hD hK [2] [0, 1, 3, 4, 5, 6, 7] rfl rfl (by decide) (by decide) (by decide) rfl hl.1 (Nat.le_of_ble_eq_true rfl) dX0_addBowl_13 ⟨Nat.le_of_ble_eq_true rfl, Nat.le_of_ble_eq_true rfl⟩ hS hA (fun u H locs hw hP hD hS => ?_)
  have hw := hw.symm
  subst hw
  have hP := hP.sub (ws' := (cG cyI a (G_set_sides g o1))) [0, 1, 7, 2, 3, 4, 5, 6] rfl
  have hD := hD.sub (ws' := (cG cyI a (G_set_sides g o1))) [0, 1, 7, 2, 3, 4, 5, 6] (by decide) rfl
  refine lv_aload_n hx hb dX0_addBowl_16 rfl (lv_at hl 1 rfl) ?_
  refine va_get (D := (dC, dI)) (ci := 0) (v := .ref (a 4)) (C := RX0) (T := TX0) (N := 9) hx hb hts inX0 hown hK.1 hP 0 rfl rfl 2 (by decide) (hts _ w_fieldLink_X0_18) (fun _ h9 => h9) rfl dX0_addBowl_17 ?_
  refine lv_iload hx hb dX0_addBowl_20 (lv_at hl 0 rfl) ?_
  refine lv_iload_n hx hb dX0_addBowl_22 rfl (lv_at hl 3 rfl) ?_
  obtain ⟨o3, h4, hF⟩ := obd hF
  refine wcWNv (As := [.ref (a 4), .int (G_bowlCount g), .int p2]) (rest := []) (wr := [0, 1, 2, 4, 5, 6, 7].filterMap (fun i => ((cG cyI a (G_set_sides g o1)))[i]?)) ⟨hx, hb, hml, hown, hts⟩ (met_X5_put l dC dI cyI cyO (a 4) 8 _ N (G_aims g) (G_bowlCount g) p2 o3 h4) ⟨va_cnB 3 hts (gCode w_code_X5_put) rfl rfl rfl (hK.2 _ n_X0_63) (hts _ w_initialized_X5) (by decide +kernel) ⟨Nat.le_of_ble_eq_true rfl, Nat.le_of_ble_eq_true rfl⟩, hts _ w_static_X5_put, trivial⟩ hP hD hK [3] [0, 1, 2, 4, 5, 6, 7] rfl rfl (by decide) (by decide) (by decide) rfl hl.1 (Nat.le_of_ble_eq_true rfl) dX0_addBowl_23 ⟨Nat.le_of_ble_eq_true rfl, Nat.le_of_ble_eq_true rfl⟩ hS hA (fun u H locs hw hP hD hS => ?_)
  have hw := hw.symm
  subst hw
  have hP := hP.sub (ws' := (cG cyI a (G_set_aims (G_set_sides g o1) o3))) [0, 1, 2, 7, 3, 4, 5, 6] rfl
  have hD := hD.sub (ws' := (cG cyI a (G_set_aims (G_set_sides g o1) o3))) [0, 1, 2, 7, 3, 4, 5, 6] (by decide) rfl
  refine lv_aload_n hx hb dX0_addBowl_26 rfl (lv_at hl 1 rfl) ?_
  refine va_get (D := (dC, dI)) (ci := 0) (v := .ref (a 5)) (C := RX0) (T := TX0) (N := 9) hx hb hts inX0 hown hK.1 hP 0 rfl rfl 3 (by decide) (hts _ w_fieldLink_X0_21) (fun _ h9 => h9) rfl dX0_addBowl_27 ?_
  refine lv_iload hx hb dX0_addBowl_30 (lv_at hl 0 rfl) ?_
  refine lv_iload_n hx hb dX0_addBowl_32 rfl (lv_at hl 4 rfl) ?_
  obtain ⟨o5, h6, hF⟩ := obd hF
  refine wcWNv (As := [.ref (a 5), .int (G_bowlCount g), .int p3]) (rest := []) (wr := [0, 1, 2, 3, 5, 6, 7].filterMap (fun i => ((cG cyI a (G_set_aims (G_set_sides g o1) o3)))[i]?)) ⟨hx, hb, hml, hown, hts⟩ (met_X5_put l dC dI cyI cyO (a 5) 8 _ N (G_weights g) (G_bowlCount g) p3 o5 h6) ⟨va_cnB 3 hts (gCode w_code_X5_put) rfl rfl rfl (hK.2 _ n_X0_63) (hts _ w_initialized_X5) (by decide +kernel) ⟨Nat.le_of_ble_eq_true rfl, Nat.le_of_ble_eq_true rfl⟩, hts _ w_static_X5_put, trivial⟩ hP hD hK [4] [0, 1, 2, 3, 5, 6, 7] rfl rfl (by decide) (by decide) (by decide) rfl hl.1 (Nat.le_of_ble_eq_true rfl) dX0_addBowl_33 ⟨Nat.le_of_ble_eq_true rfl, Nat.le_of_ble_eq_true rfl⟩ hS hA (fun u H locs hw hP hD hS => ?_)
  have hw := hw.symm
  subst hw
  have hP := hP.sub (ws' := (cG cyI a (G_set_weights (G_set_aims (G_set_sides g o1) o3) o5))) [0, 1, 2, 3, 7, 4, 5, 6] rfl
  have hD := hD.sub (ws' := (cG cyI a (G_set_weights (G_set_aims (G_set_sides g o1) o3) o5))) [0, 1, 2, 3, 7, 4, 5, 6] (by decide) rfl
  refine lv_aload_n hx hb dX0_addBowl_36 rfl (lv_at hl 1 rfl) ?_
  refine va_get (D := (dC, dI)) (ci := 0) (v := .ref (a 6)) (C := RX0) (T := TX0) (N := 9) hx hb hts inX0 hown hK.1 hP 0 rfl rfl 4 (by decide) (hts _ w_fieldLink_X0_24) (fun _ h9 => h9) rfl dX0_addBowl_37 ?_
  refine lv_iload hx hb dX0_addBowl_40 (lv_at hl 0 rfl) ?_
  refine lv_iload hx hb dX0_addBowl_42 (lv_at hl 5 rfl) ?_
  obtain ⟨o7, h8, hF⟩ := obd hF
  refine wcWNv (As := [.ref (a 6), .int (G_bowlCount g), .int p4]) (rest := []) (wr := [0, 1, 2, 3, 4, 6, 7].filterMap (fun i => ((cG cyI a (G_set_weights (G_set_aims (G_set_sides g o1) o3) o5)))[i]?)) ⟨hx, hb, hml, hown, hts⟩ (met_X5_put l dC dI cyI cyO (a 6) 8 _ N (G_biases g) (G_bowlCount g) p4 o7 h8) ⟨va_cnB 3 hts (gCode w_code_X5_put) rfl rfl rfl (hK.2 _ n_X0_63) (hts _ w_initialized_X5) (by decide +kernel) ⟨Nat.le_of_ble_eq_true rfl, Nat.le_of_ble_eq_true rfl⟩, hts _ w_static_X5_put, trivial⟩ hP hD hK [5] [0, 1, 2, 3, 4, 6, 7] rfl rfl (by decide) (by decide) (by decide) rfl hl.1 (Nat.le_of_ble_eq_true rfl) dX0_addBowl_44 ⟨Nat.le_of_ble_eq_true rfl, Nat.le_of_ble_eq_true rfl⟩ hS hA (fun u H locs hw hP hD hS => ?_)
  have hw := hw.symm
  subst hw
  have hP := hP.sub (ws' := (cG cyI a (G_set_biases (G_set_weights (G_set_aims (G_set_sides g o1) o3) o5) o7))) [0, 1, 2, 3, 4, 7, 5, 6] rfl
  have hD := hD.sub (ws' := (cG cyI a (G_set_biases (G_set_weights (G_set_aims (G_set_sides g o1) o3) o5) o7))) [0, 1, 2, 3, 4, 7, 5, 6] (by decide) rfl
  refine lv_aload_n hx hb dX0_addBowl_47 rfl (lv_at hl 1 rfl) ?_
  refine va_get (D := (dC, dI)) (ci := 0) (v := .ref (a 7)) (C := RX0) (T := TX0) (N := 9) hx hb hts inX0 hown hK.1 hP 0 rfl rfl 5 (by decide) (hts _ w_fieldLink_X0_27) (fun _ h9 => h9) rfl dX0_addBowl_48 ?_
  refine lv_iload hx hb dX0_addBowl_51 (lv_at hl 0 rfl) ?_
  refine lv_iconst (v := 0) hx hb dX0_addBowl_53 (by decide) ?_
  obtain ⟨o9, h10, hF⟩ := obd hF
  refine wcWNv (As := [.ref (a 7), .int (G_bowlCount g), .int (0 : Int32)]) (rest := []) (wr := [0, 1, 2, 3, 4, 5, 7].filterMap (fun i => ((cG cyI a (G_set_biases (G_set_weights (G_set_aims (G_set_sides g o1) o3) o5) o7)))[i]?)) ⟨hx, hb, hml, hown, hts⟩ (met_X5_put l dC dI cyI cyO (a 7) 8 _ N (G_touched g) (G_bowlCount g) (0 : Int32) o9 h10) ⟨va_cnB 3 hts (gCode w_code_X5_put) rfl rfl rfl (hK.2 _ n_X0_63) (hts _ w_initialized_X5) (by decide +kernel) ⟨Nat.le_of_ble_eq_true rfl, Nat.le_of_ble_eq_true rfl⟩, hts _ w_static_X5_put, trivial⟩ hP hD hK [6] [0, 1, 2, 3, 4, 5, 7] rfl rfl (by decide) (by decide) (by decide) rfl hl.1 (Nat.le_of_ble_eq_true rfl) dX0_addBowl_54 ⟨Nat.le_of_ble_eq_true rfl, Nat.le_of_ble_eq_true rfl⟩ hS hA (fun u H locs hw hP hD hS => ?_)
  have hw := hw.symm
  subst hw
  have hP := hP.sub (ws' := (cG cyI a (G_set_touched (G_set_biases (G_set_weights (G_set_aims (G_set_sides g o1) o3) o5) o7) o9))) [0, 1, 2, 3, 4, 5, 7, 6] rfl
  have hD := hD.sub (ws' := (cG cyI a (G_set_touched (G_set_biases (G_set_weights (G_set_aims (G_set_sides g o1) o3) o5) o7) o9))) [0, 1, 2, 3, 4, 5, 7, 6] (by decide) rfl
  refine lv_aload_n hx hb dX0_addBowl_57 rfl (lv_at hl 1 rfl) ?_
  refine va_get (D := (dC, dI)) (ci := 0) (v := .ref (a 2)) (C := RX0) (T := TX0) (N := 9) hx hb hts inX0 hown hK.1 hP 0 rfl rfl 0 (by decide) (hts _ w_fieldLink_X0_9) (fun _ h9 => h9) rfl dX0_addBowl_58 ?_
  refine lv_iload hx hb dX0_addBowl_61 (lv_at hl 0 rfl) ?_
  refine lv_iconst (v := -1) hx hb dX0_addBowl_63 (by decide) ?_
  obtain ⟨o11, h12, hF⟩ := obd hF
  refine wcWNv (As := [.ref (a 2), .int (G_bowlCount g), .int (-1 : Int32)]) (rest := []) (wr := [0, 2, 3, 4, 5, 6, 7].filterMap (fun i => ((cG cyI a (G_set_touched (G_set_biases (G_set_weights (G_set_aims (G_set_sides g o1) o3) o5) o7) o9)))[i]?)) ⟨hx, hb, hml, hown, hts⟩ (met_X5_put l dC dI cyI cyO (a 2) 9 _ N (G_places g) (G_bowlCount g) (-1 : Int32) o11 h12) ⟨va_cnB 3 hts (gCode w_code_X5_put) rfl rfl rfl (hK.2 _ n_X0_63) (hts _ w_initialized_X5) (by decide +kernel) ⟨Nat.le_of_ble_eq_true rfl, Nat.le_of_ble_eq_true rfl⟩, hts _ w_static_X5_put, trivial⟩ hP hD hK [1] [0, 2, 3, 4, 5, 6, 7] rfl rfl (by decide) (by decide) (by decide) rfl hl.1 (Nat.le_of_ble_eq_true rfl) dX0_addBowl_64 ⟨Nat.le_of_ble_eq_true rfl, Nat.le_of_ble_eq_true rfl⟩ hS hA (fun u H locs hw hP hD hS => ?_)
  have hw := hw.symm
  subst hw
  have hP := hP.sub (ws' := (cG cyI a (G_set_touched (G_set_biases (G_set_weights (G_set_aims (G_set_sides (G_set_places g o11) o1) o3) o5) o7) o9))) [0, 7, 1, 2, 3, 4, 5, 6] rfl
  have hD := hD.sub (ws' := (cG cyI a (G_set_touched (G_set_biases (G_set_weights (G_set_aims (G_set_sides (G_set_places g o11) o1) o3) o5) o7) o9))) [0, 7, 1, 2, 3, 4, 5, 6] (by decide) rfl
  refine lv_aload_n hx hb dX0_addBowl_67 rfl (lv_at hl 1 rfl) ?_
  refine lv_iconst (v := 0) hx hb dX0_addBowl_68 (by decide) ?_
  refine va_put (D := (dC, dI)) (ci := 0) (v := .int (0 : Int32)) (ty := .int) (C := RX0) (T := TX0) (N := 9) hx hb hts inX0 tyX0 tyX0_ok nmX0 hown hK.1 hP hD hS 0 rfl rfl 8 (by decide) (hts _ w_fieldLink_X0_37) (fun _ h9 => h9) rfl (by decide +kernel) rfl rfl (Nat.le_of_ble_eq_true rfl) dX0_addBowl_69 (fun H locs hP hD hS => ?_)
  have hP : va_P (dC, dI) vwCl (cG cyI a (G_set_strikes (G_set_touched (G_set_biases (G_set_weights (G_set_aims (G_set_sides (G_set_places g o11) o1) o3) o5) o7) o9) (0 : Int32))) H := hP
  have hD : va_D A (cG cyI a (G_set_strikes (G_set_touched (G_set_biases (G_set_weights (G_set_aims (G_set_sides (G_set_places g o11) o1) o3) o5) o7) o9) (0 : Int32))) := hD
  refine lv_aload_n hx hb dX0_addBowl_72 rfl (lv_at hl 1 rfl) ?_
  refine lv_iload hx hb dX0_addBowl_73 (lv_at hl 0 rfl) ?_
  refine lv_iconst (v := 1) hx hb dX0_addBowl_75 (by decide) ?_
  refine lv_iadd hx hb dX0_addBowl_76 ?_
  refine va_put (D := (dC, dI)) (ci := 0) (v := .int ((G_bowlCount g) + (1 : Int32))) (ty := .int) (C := RX0) (T := TX0) (N := 9) hx hb hts inX0 tyX0 tyX0_ok nmX0 hown hK.1 hP hD hS 0 rfl rfl 7 (by decide) (hts _ w_fieldLink_X0_33) (fun _ h9 => h9) rfl (by decide +kernel) rfl rfl (Nat.le_of_ble_eq_true rfl) dX0_addBowl_77 (fun H locs hP hD hS => ?_)
  have hP : va_P (dC, dI) vwCl (cG cyI a (G_set_strikes (G_set_bowlCount (G_set_touched (G_set_biases (G_set_weights (G_set_aims (G_set_sides (G_set_places g o11) o1) o3) o5) o7) o9) ((G_bowlCount g) + (1 : Int32))) (0 : Int32))) H := hP
  have hD : va_D A (cG cyI a (G_set_strikes (G_set_bowlCount (G_set_touched (G_set_biases (G_set_weights (G_set_aims (G_set_sides (G_set_places g o11) o1) o3) o5) o7) o9) ((G_bowlCount g) + (1 : Int32))) (0 : Int32))) := hD
  refine lv_iload hx hb dX0_addBowl_80 (lv_at hl 0 rfl) ?_
  exact W.iret (v := (G_bowlCount g)) hx hb hr (fun t ht hW => ⟨⟨_, (G_set_strikes (G_set_bowlCount (G_set_touched (G_set_biases (G_set_weights (G_set_aims (G_set_sides (G_set_places g o11) o1) o3) o5) o7) o9) ((G_bowlCount g) + (1 : Int32))) (0 : Int32)), rfl, Option.some.inj hF, by rw [ht]; exact hP, hD⟩, hS.F ht⟩) hS.2.2 dX0_addBowl_82
theorem dX0_distance_0 : decode cX0_distance 0 = .ok (.aload_n 0, 1) := by decide +kernel
theorem dX0_distance_1 : decode cX0_distance 1 = .ok (.iload_n 1, 1) := by decide +kernel
theorem dX0_distance_2 : decode cX0_distance 2 = .ok (.invokevirtual 52, 3) := by decide +kernel
theorem dX0_distance_5 : decode cX0_distance 5 = .ok (.aload_n 0, 1) := by decide +kernel
theorem dX0_distance_6 : decode cX0_distance 6 = .ok (.bipush 8, 2) := by decide +kernel
theorem dX0_distance_8 : decode cX0_distance 8 = .ok (.invokevirtual 52, 3) := by decide +kernel
theorem dX0_distance_11 : decode cX0_distance 11 = .ok (.invokestatic 82, 3) := by decide +kernel
theorem dX0_distance_14 : decode cX0_distance 14 = .ok (.ireturn, 1) := by decide +kernel
def f_X0_distance (N : Nat) (g : GV) (p1 : Int32) : Option (Int32) :=
  (f_X0_placeOf N g p1).bind (fun o1 => (f_X0_placeOf N g (8 : Int32)).bind (fun o3 => (f_X0_apart N o1 o3).bind (fun o5 => some o5)))
set_option maxHeartbeats 4000000 in
set_option maxRecDepth 100000 in
theorem met_X0_distance (l : Launch) (dC : Nat → ClassId) (dI : Nat → Nat → Nat) (cyI cyO : ClassId) (a : Nat → Nat) (N : Nat) (g : GV) (p1 : Int32) (out : Int32) (hF : f_X0_distance N g p1 = some out) : Met l yX0_distance (Cond.code yX0_distance cX0_distance 2 (some .int) :: wT) ({ frames := 1, cells := 0, slots := 0, locals := 23 } : Room) (wRd dC dI cyI cyO [.ref (a 1), .int p1] (cG cyI a g)) (va_Qi (fun (r : Int32) (_ : Unit) => r = out) (fun _ _ => True) wN0) 0 0 wN0 := by
  refine Met.ofW (cc := cX0_distance) (maxL := 2) (ret := (some .int)) (by decide) rfl ?_
  intro p e s m args below meth c s₁ B hml hv
  obtain ⟨rfl, hP, hK⟩ := hv
  have hx := B.exec
  have hb := B.bytes
  have hr := B.returns
  have hts0 := atoms_spec (ws := (Cond.code yX0_distance cX0_distance 2 (some .int) :: wT)) B.pre
  have hts := fun w h => hts0 w (List.mem_cons_of_mem _ h)
  clear hts0
  have hown : s.vm.findClass RX0 = some m.cls := findClass_of_methodNamed B.named
  have hlocks := B.notSynchronized
  have hS : va_S wN0 s.heap s.heap [] := va_S.rf
  have hl := lv_entry [.ref (a 1), .int p1] (n := 2) (Nat.le_of_ble_eq_true rfl)
  rw [lg_entry_eq]
  generalize (lg_sl [.ref (a 1), .int p1] ++ List.replicate (2 - (lg_sl [.ref (a 1), .int p1]).length) Slot.unset).toArray = ls at hl ⊢
  have hl : lv_has ls 2 [(0, .ref (a 1)), (1, .int p1)] := hl
  unfold f_X0_distance at hF
  refine lv_aload_n hx hb dX0_distance_0 rfl (lv_at hl 0 rfl) ?_
  refine lv_iload_n hx hb dX0_distance_1 rfl (lv_at hl 1 rfl) ?_
  obtain ⟨o1, h2, hF⟩ := obd hF
  refine wcRVi (As := [.int p1]) (rest := []) (b := (a 1)) ⟨hx, hb, hml, hown, hts⟩ (met_X0_placeOf l dC dI cyI cyO a N g p1 o1 h2) (cwV 1 hts (gV w_methodLink_X0_52 w_instanceMethod_X0_placeOf w_selects_X0_placeOf w_initialized_X0 w_code_X0_placeOf) rfl rfl rfl (by decide +kernel) ⟨Nat.le_of_ble_eq_true rfl, Nat.le_of_ble_eq_true rfl⟩) (va_recv hK.1 hP (ci := 0) (q0 := 0) rfl rfl) hP hK [0, 1, 2, 3, 4, 5, 6, 7] rfl rfl hl.1 (Nat.le_of_ble_eq_true rfl) dX0_distance_2 ⟨Nat.le_of_ble_eq_true rfl, Nat.le_of_ble_eq_true rfl⟩ hS (fun r H locs hw hP hS => ?_)
  have hw := hw.symm
  subst hw
  refine lv_aload_n hx hb dX0_distance_5 rfl (lv_at hl 0 rfl) ?_
  refine lv_bipush (v := 8) hx hb dX0_distance_6 (by decide) ?_
  obtain ⟨o3, h4, hF⟩ := obd hF
  refine wcRVi (As := [.int (8 : Int32)]) (rest := [.int o1]) (b := (a 1)) ⟨hx, hb, hml, hown, hts⟩ (met_X0_placeOf l dC dI cyI cyO a N g (8 : Int32) o3 h4) (cwV 1 hts (gV w_methodLink_X0_52 w_instanceMethod_X0_placeOf w_selects_X0_placeOf w_initialized_X0 w_code_X0_placeOf) rfl rfl rfl (by decide +kernel) ⟨Nat.le_of_ble_eq_true rfl, Nat.le_of_ble_eq_true rfl⟩) (va_recv hK.1 hP (ci := 0) (q0 := 0) rfl rfl) hP hK [0, 1, 2, 3, 4, 5, 6, 7] rfl rfl hl.1 (Nat.le_of_ble_eq_true rfl) dX0_distance_8 ⟨Nat.le_of_ble_eq_true rfl, Nat.le_of_ble_eq_true rfl⟩ hS (fun r H locs hw hP hS => ?_)
  have hw := hw.symm
  subst hw
  obtain ⟨o5, h6, hF⟩ := obd hF
  refine wcRSi (As := [.int o1, .int o3]) (rest := []) ⟨hx, hb, hml, hown, hts⟩ (met_X0_apart l dC dI cyI cyO  N  o1 o3 o5 h6) (va_cwS 2 hts (gS w_methodLink_X0_82 w_static_X0_apart w_initialized_X0 w_code_X0_apart) rfl rfl rfl (by decide +kernel) ⟨Nat.le_of_ble_eq_true rfl, Nat.le_of_ble_eq_true rfl⟩) hP hK [] rfl rfl hl.1 (Nat.le_of_ble_eq_true rfl) dX0_distance_11 ⟨Nat.le_of_ble_eq_true rfl, Nat.le_of_ble_eq_true rfl⟩ hS (fun r H locs hw hP hS => ?_)
  have hw := hw.symm
  subst hw
  exact W.iret (v := o5) hx hb hr (fun t ht hW => ⟨⟨_, (), rfl, Option.some.inj hF, trivial⟩, hS.F ht⟩) hS.2.2 dX0_distance_14
theorem dX0_pushOn_0 : decode cX0_pushOn 0 = .ok (.iload_n 1, 1) := by decide +kernel
theorem dX0_pushOn_1 : decode cX0_pushOn 1 = .ok (.istore_n 3, 1) := by decide +kernel
theorem dX0_pushOn_2 : decode cX0_pushOn 2 = .ok (.iload_n 2, 1) := by decide +kernel
theorem dX0_pushOn_3 : decode cX0_pushOn 3 = .ok (.istore 4, 2) := by decide +kernel
theorem dX0_pushOn_5 : decode cX0_pushOn 5 = .ok (.iload 4, 2) := by decide +kernel
theorem dX0_pushOn_7 : decode cX0_pushOn 7 = .ok (.ifCond .le 106, 3) := by decide +kernel
theorem dX0_pushOn_10 : decode cX0_pushOn 10 = .ok (.iinc 4 (-1), 3) := by decide +kernel
theorem dX0_pushOn_13 : decode cX0_pushOn 13 = .ok (.aload_n 0, 1) := by decide +kernel
theorem dX0_pushOn_14 : decode cX0_pushOn 14 = .ok (.iload_n 3, 1) := by decide +kernel
theorem dX0_pushOn_15 : decode cX0_pushOn 15 = .ok (.invokevirtual 52, 3) := by decide +kernel
theorem dX0_pushOn_18 : decode cX0_pushOn 18 = .ok (.bipush 21, 2) := by decide +kernel
theorem dX0_pushOn_20 : decode cX0_pushOn 20 = .ok (.iadd, 1) := by decide +kernel
theorem dX0_pushOn_21 : decode cX0_pushOn 21 = .ok (.istore 5, 2) := by decide +kernel
theorem dX0_pushOn_23 : decode cX0_pushOn 23 = .ok (.iload 5, 2) := by decide +kernel
theorem dX0_pushOn_25 : decode cX0_pushOn 25 = .ok (.sipush 1260, 3) := by decide +kernel
theorem dX0_pushOn_28 : decode cX0_pushOn 28 = .ok (.if_icmp .lt 36, 3) := by decide +kernel
theorem dX0_pushOn_31 : decode cX0_pushOn 31 = .ok (.aload_n 0, 1) := by decide +kernel
theorem dX0_pushOn_32 : decode cX0_pushOn 32 = .ok (.getfield 9, 3) := by decide +kernel
theorem dX0_pushOn_35 : decode cX0_pushOn 35 = .ok (.iload_n 3, 1) := by decide +kernel
theorem dX0_pushOn_36 : decode cX0_pushOn 36 = .ok (.iload_n 3, 1) := by decide +kernel
theorem dX0_pushOn_37 : decode cX0_pushOn 37 = .ok (.bipush 8, 2) := by decide +kernel
theorem dX0_pushOn_39 : decode cX0_pushOn 39 = .ok (.if_icmp .eq 15, 3) := by decide +kernel
theorem dX0_pushOn_42 : decode cX0_pushOn 42 = .ok (.aload_n 0, 1) := by decide +kernel
theorem dX0_pushOn_43 : decode cX0_pushOn 43 = .ok (.getfield 27, 3) := by decide +kernel
theorem dX0_pushOn_46 : decode cX0_pushOn 46 = .ok (.iload_n 3, 1) := by decide +kernel
theorem dX0_pushOn_47 : decode cX0_pushOn 47 = .ok (.invokestatic 67, 3) := by decide +kernel
theorem dX0_pushOn_50 : decode cX0_pushOn 50 = .ok (.iconst 1, 1) := by decide +kernel
theorem dX0_pushOn_51 : decode cX0_pushOn 51 = .ok (.if_icmp .ne 8, 3) := by decide +kernel
theorem dX0_pushOn_54 : decode cX0_pushOn 54 = .ok (.iload 5, 2) := by decide +kernel
theorem dX0_pushOn_56 : decode cX0_pushOn 56 = .ok (.goto 4, 3) := by decide +kernel
theorem dX0_pushOn_59 : decode cX0_pushOn 59 = .ok (.iconst (-1), 1) := by decide +kernel
theorem dX0_pushOn_60 : decode cX0_pushOn 60 = .ok (.invokestatic 63, 3) := by decide +kernel
theorem dX0_pushOn_63 : decode cX0_pushOn 63 = .ok (.return_, 1) := by decide +kernel
theorem dX0_pushOn_64 : decode cX0_pushOn 64 = .ok (.aload_n 0, 1) := by decide +kernel
theorem dX0_pushOn_65 : decode cX0_pushOn 65 = .ok (.iload 5, 2) := by decide +kernel
theorem dX0_pushOn_67 : decode cX0_pushOn 67 = .ok (.invokevirtual 60, 3) := by decide +kernel
theorem dX0_pushOn_70 : decode cX0_pushOn 70 = .ok (.istore 6, 2) := by decide +kernel
theorem dX0_pushOn_72 : decode cX0_pushOn 72 = .ok (.iload 6, 2) := by decide +kernel
theorem dX0_pushOn_74 : decode cX0_pushOn 74 = .ok (.iconst (-1), 1) := by decide +kernel
theorem dX0_pushOn_75 : decode cX0_pushOn 75 = .ok (.if_icmp .ne 16, 3) := by decide +kernel
theorem dX0_pushOn_78 : decode cX0_pushOn 78 = .ok (.aload_n 0, 1) := by decide +kernel
theorem dX0_pushOn_79 : decode cX0_pushOn 79 = .ok (.getfield 9, 3) := by decide +kernel
theorem dX0_pushOn_82 : decode cX0_pushOn 82 = .ok (.iload_n 3, 1) := by decide +kernel
theorem dX0_pushOn_83 : decode cX0_pushOn 83 = .ok (.iload 5, 2) := by decide +kernel
theorem dX0_pushOn_85 : decode cX0_pushOn 85 = .ok (.invokestatic 63, 3) := by decide +kernel
theorem dX0_pushOn_88 : decode cX0_pushOn 88 = .ok (.goto 22, 3) := by decide +kernel
theorem dX0_pushOn_91 : decode cX0_pushOn 91 = .ok (.aload_n 0, 1) := by decide +kernel
theorem dX0_pushOn_92 : decode cX0_pushOn 92 = .ok (.dup, 1) := by decide +kernel
theorem dX0_pushOn_93 : decode cX0_pushOn 93 = .ok (.getfield 37, 3) := by decide +kernel
theorem dX0_pushOn_96 : decode cX0_pushOn 96 = .ok (.iconst 1, 1) := by decide +kernel
theorem dX0_pushOn_97 : decode cX0_pushOn 97 = .ok (.iadd, 1) := by decide +kernel
theorem dX0_pushOn_98 : decode cX0_pushOn 98 = .ok (.putfield 37, 3) := by decide +kernel
theorem dX0_pushOn_101 : decode cX0_pushOn 101 = .ok (.iload 6, 2) := by decide +kernel
theorem dX0_pushOn_103 : decode cX0_pushOn 103 = .ok (.istore_n 3, 1) := by decide +kernel
theorem dX0_pushOn_104 : decode cX0_pushOn 104 = .ok (.iload 4, 2) := by decide +kernel
theorem dX0_pushOn_106 : decode cX0_pushOn 106 = .ok (.iconst 2, 1) := by decide +kernel
theorem dX0_pushOn_107 : decode cX0_pushOn 107 = .ok (.idiv, 1) := by decide +kernel
theorem dX0_pushOn_108 : decode cX0_pushOn 108 = .ok (.istore 4, 2) := by decide +kernel
theorem dX0_pushOn_110 : decode cX0_pushOn 110 = .ok (.goto (-105), 3) := by decide +kernel
theorem dX0_pushOn_113 : decode cX0_pushOn 113 = .ok (.return_, 1) := by decide +kernel
def f_X0_pushOn (N : Nat) (g : GV) (p1 : Int32) (p2 : Int32) : Option (GV) :=
  lpN (fun (s5 : Int32 × Int32 × GV) (k5 : (Int32 × Int32 × GV) → Option (GV)) => (if s5.2.1 ≤ 0 then some s5.2.2 else (f_X0_placeOf N s5.2.2 s5.1).bind (fun o2 => (if (o2 + (21 : Int32)) < (1260 : Int32) then (f_X0_thingAt N s5.2.2 (o2 + (21 : Int32))).bind (fun o5 => jn (fun (s110 : Int32 × Int32 × GV) => k5 (s110.1, s110.2.1, s110.2.2)) (fun (j110 : (Int32 × Int32 × GV) → Option (GV)) => (if o5 = (-1 : Int32) then (f_X5_put N 9 (G_places s5.2.2) s5.1 (o2 + (21 : Int32))).bind (fun o8 => j110 (s5.1, (s5.2.1 + (-1 : Int32)), (G_set_places s5.2.2 o8))) else j110 (o5, ((s5.2.1 + (-1 : Int32)) / (2 : Int32)), (G_set_strikes s5.2.2 ((G_strikes s5.2.2) + (1 : Int32))))))) else jn (fun (s60 : Int32) => (f_X5_put N 9 (G_places s5.2.2) s5.1 s60).bind (fun o10 => some (G_set_places s5.2.2 o10))) (fun (j60 : (Int32) → Option (GV)) => jn (fun (s54 : Unit) => j60 (o2 + (21 : Int32))) (fun (j54 : (Unit) → Option (GV)) => (if s5.1 = (8 : Int32) then j54 () else (f_X5_at N 8 (G_touched s5.2.2) s5.1).bind (fun o13 => (if o13 = (1 : Int32) then j54 () else j60 (-1 : Int32)))))))))) N (p1, p2, g)
set_option maxHeartbeats 4000000 in
set_option maxRecDepth 100000 in
theorem met_X0_pushOn (l : Launch) (dC : Nat → ClassId) (dI : Nat → Nat → Nat) (cyI cyO : ClassId) (a : Nat → Nat) (sz : Nat) (N : Nat) (g : GV) (p1 : Int32) (p2 : Int32) (out : GV) (hF : f_X0_pushOn N g p1 p2 = some out) : Met l yX0_pushOn (Cond.code yX0_pushOn cX0_pushOn 7 none :: wT) ({ frames := 1, cells := 0, slots := 0, locals := 22 } : Room) (wWr dC dI cyI cyO [.ref (a 1), .int p1, .int p2] (cG cyI a g) sz) (va_Qv (fun (u : GV) => u = out) (fun u t => va_P (dC, dI) vwCl (cG cyI a u) t.heap ∧ va_D (va_A (cG cyI a g) sz) (cG cyI a u)) (va_A (cG cyI a g) sz)) 0 0 (va_A (cG cyI a g) sz) := by
  refine Met.ofW (cc := cX0_pushOn) (maxL := 7) (ret := none) (by decide) rfl ?_
  intro p e s m args below meth c s₁ B hml hv
  obtain ⟨rfl, hsz, hP, hK, hD0⟩ := hv
  have hx := B.exec
  have hb := B.bytes
  have hr := B.returns
  have hts0 := atoms_spec (ws := (Cond.code yX0_pushOn cX0_pushOn 7 none :: wT)) B.pre
  have hts := fun w h => hts0 w (List.mem_cons_of_mem _ h)
  clear hts0
  have hown : s.vm.findClass RX0 = some m.cls := findClass_of_methodNamed B.named
  have hlocks := B.notSynchronized
  subst hsz
  have hD := hD0.self (sz := s.heap.size)
  generalize hAe : va_A (cG cyI a g) s.heap.size = A at hD ⊢
  have hA : ∀ q : Nat, s.heap.size ≤ q → A q := fun q h => by rw [← hAe]; exact Or.inr h
  clear hD0
  have hS : va_S A s.heap s.heap [] := va_S.rf
  have hl := lv_entry [.ref (a 1), .int p1, .int p2] (n := 7) (Nat.le_of_ble_eq_true rfl)
  rw [lg_entry_eq]
  generalize (lg_sl [.ref (a 1), .int p1, .int p2] ++ List.replicate (7 - (lg_sl [.ref (a 1), .int p1, .int p2]).length) Slot.unset).toArray = ls at hl ⊢
  have hl : lv_has ls 7 [(0, .ref (a 1)), (1, .int p1), (2, .int p2)] := hl
  unfold f_X0_pushOn at hF
  refine lv_iload_n hx hb dX0_pushOn_0 rfl (lv_at hl 1 rfl) ?_
  refine lv_istore_n (lv' := [(3, .int p1), (0, .ref (a 1)), (1, .int p1), (2, .int p2)]) hx hb dX0_pushOn_1 rfl hl (by decide) rfl (fun ls hl => ?_)
  refine lv_iload_n hx hb dX0_pushOn_2 rfl (lv_at hl 3 rfl) ?_
  refine lv_istore (lv' := [(4, .int p2), (3, .int p1), (0, .ref (a 1)), (1, .int p1), (2, .int p2)]) hx hb dX0_pushOn_3 hl (by decide) rfl (fun ls hl => ?_)
  obtain ⟨st5, hst5, hF⟩ := lpN_use hF
  have hL5 : ∀ (n : Nat) (s5 : Int32 × Int32 × GV) (H : Heap) (locs : List Loc) (ls : Array Slot), va_P (dC, dI) vwCl (cG cyI a s5.2.2) H → va_D A (cG cyI a s5.2.2) → va_S A s.heap H locs → lv_has ls 7 [(0, .ref (a 1)), (3, .int s5.1), (4, .int s5.2.1)] → lpN st5 n s5 = some out → W p l e (headSpec (Cond.code yX0_pushOn cX0_pushOn 7 none :: wT) ({ frames := 1, cells := 0, slots := 0, locals := 22 } : Room)).room s m ([.ref (a 1), .int p1, .int p2] : List Value).toArray below meth c H locs 0 0 (MQ below (va_Qv (fun (u : GV) => u = out) (fun u t => va_P (dC, dI) vwCl (cG cyI a u) t.heap ∧ va_D A (cG cyI a u)) A) ([.ref (a 1), .int p1, .int p2] : List Value).toArray s 0 0 A) (F0 m 5 ls []) := by
    intro n
    induction n with
    | zero => intro s5 H locs ls hP hD hS hl hF; exact lpN_0 hF
    | succ n ih5 =>
      intro s5 H locs ls hP hD hS hl hF
      have hF := (congrFun (congrFun hst5 s5) (lpN st5 n)).symm.trans (lpN_s hF)
      refine lv_iload hx hb dX0_pushOn_5 (lv_at hl 2 rfl) ?_
      refine lv_if_le (tgt := 113) hx hb dX0_pushOn_7 (by decide) (fun c1 => ?_) (fun c1 => ?_)
      · have hF := itp c1 hF
        exact W.vret hx hb hr (fun t ht hW => ⟨⟨_, rfl, Option.some.inj hF, by rw [ht]; exact hP, hD⟩, hS.F ht⟩) hS.2.2 dX0_pushOn_113
      · have hF := itn c1 hF
        refine lv_iinc (v := (s5.2.1 + (-1 : Int32))) (lv' := [(4, .int (s5.2.1 + (-1 : Int32))), (0, .ref (a 1)), (3, .int s5.1)]) hx hb dX0_pushOn_10 hl (k := 2) rfl rfl (by decide) rfl (fun ls hl => ?_)
        refine lv_aload_n hx hb dX0_pushOn_13 rfl (lv_at hl 1 rfl) ?_
        refine lv_iload_n hx hb dX0_pushOn_14 rfl (lv_at hl 2 rfl) ?_
        obtain ⟨o2, h3, hF⟩ := obd hF
        refine wcRVi (As := [.int s5.1]) (rest := []) (b := (a 1)) ⟨hx, hb, hml, hown, hts⟩ (met_X0_placeOf l dC dI cyI cyO a N s5.2.2 s5.1 o2 h3) (cwV 1 hts (gV w_methodLink_X0_52 w_instanceMethod_X0_placeOf w_selects_X0_placeOf w_initialized_X0 w_code_X0_placeOf) rfl rfl rfl (by decide +kernel) ⟨Nat.le_of_ble_eq_true rfl, Nat.le_of_ble_eq_true rfl⟩) (va_recv hK.1 hP (ci := 0) (q0 := 0) rfl rfl) hP hK [0, 1, 2, 3, 4, 5, 6, 7] rfl rfl hl.1 (Nat.le_of_ble_eq_true rfl) dX0_pushOn_15 ⟨Nat.le_of_ble_eq_true rfl, Nat.le_of_ble_eq_true rfl⟩ hS (fun r H locs hw hP hS => ?_)
        have hw := hw.symm
        subst hw
        refine lv_bipush (v := 21) hx hb dX0_pushOn_18 (by decide) ?_
        refine lv_iadd hx hb dX0_pushOn_20 ?_
        refine lv_istore (lv' := [(5, .int (o2 + (21 : Int32))), (4, .int (s5.2.1 + (-1 : Int32))), (0, .ref (a 1)), (3, .int s5.1)]) hx hb dX0_pushOn_21 hl (by decide) rfl (fun ls hl => ?_)
        refine lv_iload hx hb dX0_pushOn_23 (lv_at hl 0 rfl) ?_
        refine lv_sipush (v := 1260) hx hb dX0_pushOn_25 (by decide) ?_
        refine lv_icmp_lt (tgt := 64) hx hb dX0_pushOn_28 (by decide) (fun c4 => ?_) (fun c4 => ?_)
        · have hF := itp c4 hF
          refine lv_aload_n hx hb dX0_pushOn_64 rfl (lv_at hl 2 rfl) ?_
          refine lv_iload hx hb dX0_pushOn_65 (lv_at hl 0 rfl) ?_
          obtain ⟨o5, h6, hF⟩ := obd hF
          refine wcRVi (As := [.int (o2 + (21 : Int32))]) (rest := []) (b := (a 1)) ⟨hx, hb, hml, hown, hts⟩ (met_X0_thingAt l dC dI cyI cyO a N s5.2.2 (o2 + (21 : Int32)) o5 h6) (cwV 1 hts (gV w_methodLink_X0_60 w_instanceMethod_X0_thingAt w_selects_X0_thingAt w_initialized_X0 w_code_X0_thingAt) rfl rfl rfl (by decide +kernel) ⟨Nat.le_of_ble_eq_true rfl, Nat.le_of_ble_eq_true rfl⟩) (va_recv hK.1 hP (ci := 0) (q0 := 0) rfl rfl) hP hK [0, 1, 2, 3, 4, 5, 6, 7] rfl rfl hl.1 (Nat.le_of_ble_eq_true rfl) dX0_pushOn_67 ⟨Nat.le_of_ble_eq_true rfl, Nat.le_of_ble_eq_true rfl⟩ hS (fun r H locs hw hP hS => ?_)
          have hw := hw.symm
          subst hw
          refine lv_istore (lv' := [(6, .int o5), (5, .int (o2 + (21 : Int32))), (4, .int (s5.2.1 + (-1 : Int32))), (0, .ref (a 1)), (3, .int s5.1)]) hx hb dX0_pushOn_70 hl (by decide) rfl (fun ls hl => ?_)
          refine lv_iload hx hb dX0_pushOn_72 (lv_at hl 0 rfl) ?_
          refine lv_iconst (v := -1) hx hb dX0_pushOn_74 (by decide) ?_
          obtain ⟨j110, hj110, hF⟩ := jn_use hF
          have hJ110 : ∀ (s110 : Int32 × Int32 × GV) (H : Heap) (locs : List Loc) (ls : Array Slot), va_P (dC, dI) vwCl (cG cyI a s110.2.2) H → va_D A (cG cyI a s110.2.2) → va_S A s.heap H locs → lv_has ls 7 [(0, .ref (a 1)), (3, .int s110.1), (4, .int s110.2.1)] → j110 s110 = some out → W p l e (headSpec (Cond.code yX0_pushOn cX0_pushOn 7 none :: wT) ({ frames := 1, cells := 0, slots := 0, locals := 22 } : Room)).room s m ([.ref (a 1), .int p1, .int p2] : List Value).toArray below meth c H locs 0 0 (MQ below (va_Qv (fun (u : GV) => u = out) (fun u t => va_P (dC, dI) vwCl (cG cyI a u) t.heap ∧ va_D A (cG cyI a u)) A) ([.ref (a 1), .int p1, .int p2] : List Value).toArray s 0 0 A) (F0 m 110 ls []) := by
            intro s110 H locs ls hP hD hS hl hF
            have hF := (congrFun hj110 s110).symm.trans hF
            refine lv_goto (tgt := 5) hx hb dX0_pushOn_110 (by decide) ?_
            exact ih5 (s110.1, s110.2.1, s110.2.2) _ _ _ hP hD hS (lv_sub hl [0, 1, 2] rfl) hF
          refine lv_icmp_ne (tgt := 91) hx hb dX0_pushOn_75 (by decide) (fun c7 => ?_) (fun c7 => ?_)
          · have hF := itn c7 hF
            refine lv_aload_n hx hb dX0_pushOn_91 rfl (lv_at hl 3 rfl) ?_
            refine lv_dup hx hb dX0_pushOn_92 rfl ?_
            refine va_get (D := (dC, dI)) (ci := 0) (v := .int (G_strikes s5.2.2)) (C := RX0) (T := TX0) (N := 9) hx hb hts inX0 hown hK.1 hP 0 rfl rfl 8 (by decide) (hts _ w_fieldLink_X0_37) (fun _ h9 => h9) rfl dX0_pushOn_93 ?_
            refine lv_iconst (v := 1) hx hb dX0_pushOn_96 (by decide) ?_
            refine lv_iadd hx hb dX0_pushOn_97 ?_
            refine va_put (D := (dC, dI)) (ci := 0) (v := .int ((G_strikes s5.2.2) + (1 : Int32))) (ty := .int) (C := RX0) (T := TX0) (N := 9) hx hb hts inX0 tyX0 tyX0_ok nmX0 hown hK.1 hP hD hS 0 rfl rfl 8 (by decide) (hts _ w_fieldLink_X0_37) (fun _ h9 => h9) rfl (by decide +kernel) rfl rfl (Nat.le_of_ble_eq_true rfl) dX0_pushOn_98 (fun H locs hP hD hS => ?_)
            have hP : va_P (dC, dI) vwCl (cG cyI a (G_set_strikes s5.2.2 ((G_strikes s5.2.2) + (1 : Int32)))) H := hP
            have hD : va_D A (cG cyI a (G_set_strikes s5.2.2 ((G_strikes s5.2.2) + (1 : Int32)))) := hD
            refine lv_iload hx hb dX0_pushOn_101 (lv_at hl 0 rfl) ?_
            refine lv_istore_n (lv' := [(3, .int o5), (6, .int o5), (5, .int (o2 + (21 : Int32))), (4, .int (s5.2.1 + (-1 : Int32))), (0, .ref (a 1))]) hx hb dX0_pushOn_103 rfl hl (by decide) rfl (fun ls hl => ?_)
            refine lv_iload hx hb dX0_pushOn_104 (lv_at hl 3 rfl) ?_
            refine lv_iconst (v := 2) hx hb dX0_pushOn_106 (by decide) ?_
            refine lv_idiv hx hb dX0_pushOn_107 (by decide) ?_
            refine lv_istore (lv' := [(4, .int ((s5.2.1 + (-1 : Int32)) / (2 : Int32))), (3, .int o5), (6, .int o5), (5, .int (o2 + (21 : Int32))), (0, .ref (a 1))]) hx hb dX0_pushOn_108 hl (by decide) rfl (fun ls hl => ?_)
            exact hJ110 (o5, ((s5.2.1 + (-1 : Int32)) / (2 : Int32)), (G_set_strikes s5.2.2 ((G_strikes s5.2.2) + (1 : Int32)))) _ _ _ hP hD hS (lv_sub hl [4, 1, 0] rfl) hF
          · have hF := itp c7 hF
            refine lv_aload_n hx hb dX0_pushOn_78 rfl (lv_at hl 3 rfl) ?_
            refine va_get (D := (dC, dI)) (ci := 0) (v := .ref (a 2)) (C := RX0) (T := TX0) (N := 9) hx hb hts inX0 hown hK.1 hP 0 rfl rfl 0 (by decide) (hts _ w_fieldLink_X0_9) (fun _ h9 => h9) rfl dX0_pushOn_79 ?_
            refine lv_iload_n hx hb dX0_pushOn_82 rfl (lv_at hl 4 rfl) ?_
            refine lv_iload hx hb dX0_pushOn_83 (lv_at hl 1 rfl) ?_
            obtain ⟨o8, h9, hF⟩ := obd hF
            refine wcWNv (As := [.ref (a 2), .int s5.1, .int (o2 + (21 : Int32))]) (rest := []) (wr := [0, 2, 3, 4, 5, 6, 7].filterMap (fun i => ((cG cyI a s5.2.2))[i]?)) ⟨hx, hb, hml, hown, hts⟩ (met_X5_put l dC dI cyI cyO (a 2) 9 _ N (G_places s5.2.2) s5.1 (o2 + (21 : Int32)) o8 h9) ⟨va_cnB 3 hts (gCode w_code_X5_put) rfl rfl rfl (hK.2 _ n_X0_63) (hts _ w_initialized_X5) (by decide +kernel) ⟨Nat.le_of_ble_eq_true rfl, Nat.le_of_ble_eq_true rfl⟩, hts _ w_static_X5_put, trivial⟩ hP hD hK [1] [0, 2, 3, 4, 5, 6, 7] rfl rfl (by decide) (by decide) (by decide) rfl hl.1 (Nat.le_of_ble_eq_true rfl) dX0_pushOn_85 ⟨Nat.le_of_ble_eq_true rfl, Nat.le_of_ble_eq_true rfl⟩ hS hA (fun u H locs hw hP hD hS => ?_)
            have hw := hw.symm
            subst hw
            have hP := hP.sub (ws' := (cG cyI a (G_set_places s5.2.2 o8))) [0, 7, 1, 2, 3, 4, 5, 6] rfl
            have hD := hD.sub (ws' := (cG cyI a (G_set_places s5.2.2 o8))) [0, 7, 1, 2, 3, 4, 5, 6] (by decide) rfl
            refine lv_goto (tgt := 110) hx hb dX0_pushOn_88 (by decide) ?_
            exact hJ110 (s5.1, (s5.2.1 + (-1 : Int32)), (G_set_places s5.2.2 o8)) _ _ _ hP hD hS (lv_sub hl [3, 4, 2] rfl) hF
        · have hF := itn c4 hF
          refine lv_aload_n hx hb dX0_pushOn_31 rfl (lv_at hl 2 rfl) ?_
          refine va_get (D := (dC, dI)) (ci := 0) (v := .ref (a 2)) (C := RX0) (T := TX0) (N := 9) hx hb hts inX0 hown hK.1 hP 0 rfl rfl 0 (by decide) (hts _ w_fieldLink_X0_9) (fun _ h9 => h9) rfl dX0_pushOn_32 ?_
          refine lv_iload_n hx hb dX0_pushOn_35 rfl (lv_at hl 3 rfl) ?_
          refine lv_iload_n hx hb dX0_pushOn_36 rfl (lv_at hl 3 rfl) ?_
          refine lv_bipush (v := 8) hx hb dX0_pushOn_37 (by decide) ?_
          obtain ⟨j60, hj60, hF⟩ := jn_use hF
          have hJ60 : ∀ (s60 : Int32) (H : Heap) (locs : List Loc) (ls : Array Slot), va_P (dC, dI) vwCl (cG cyI a s5.2.2) H → va_D A (cG cyI a s5.2.2) → va_S A s.heap H locs → lv_has ls 7 [] → j60 s60 = some out → W p l e (headSpec (Cond.code yX0_pushOn cX0_pushOn 7 none :: wT) ({ frames := 1, cells := 0, slots := 0, locals := 22 } : Room)).room s m ([.ref (a 1), .int p1, .int p2] : List Value).toArray below meth c H locs 0 0 (MQ below (va_Qv (fun (u : GV) => u = out) (fun u t => va_P (dC, dI) vwCl (cG cyI a u) t.heap ∧ va_D A (cG cyI a u)) A) ([.ref (a 1), .int p1, .int p2] : List Value).toArray s 0 0 A) (F0 m 60 ls [.int s60, .int s5.1, .ref (a 2)]) := by
            intro s60 H locs ls hP hD hS hl hF
            have hF := (congrFun hj60 s60).symm.trans hF
            obtain ⟨o10, h11, hF⟩ := obd hF
            refine wcWNv (As := [.ref (a 2), .int s5.1, .int s60]) (rest := []) (wr := [0, 2, 3, 4, 5, 6, 7].filterMap (fun i => ((cG cyI a s5.2.2))[i]?)) ⟨hx, hb, hml, hown, hts⟩ (met_X5_put l dC dI cyI cyO (a 2) 9 _ N (G_places s5.2.2) s5.1 s60 o10 h11) ⟨va_cnB 3 hts (gCode w_code_X5_put) rfl rfl rfl (hK.2 _ n_X0_63) (hts _ w_initialized_X5) (by decide +kernel) ⟨Nat.le_of_ble_eq_true rfl, Nat.le_of_ble_eq_true rfl⟩, hts _ w_static_X5_put, trivial⟩ hP hD hK [1] [0, 2, 3, 4, 5, 6, 7] rfl rfl (by decide) (by decide) (by decide) rfl hl.1 (Nat.le_of_ble_eq_true rfl) dX0_pushOn_60 ⟨Nat.le_of_ble_eq_true rfl, Nat.le_of_ble_eq_true rfl⟩ hS hA (fun u H locs hw hP hD hS => ?_)
            have hw := hw.symm
            subst hw
            have hP := hP.sub (ws' := (cG cyI a (G_set_places s5.2.2 o10))) [0, 7, 1, 2, 3, 4, 5, 6] rfl
            have hD := hD.sub (ws' := (cG cyI a (G_set_places s5.2.2 o10))) [0, 7, 1, 2, 3, 4, 5, 6] (by decide) rfl
            exact W.vret hx hb hr (fun t ht hW => ⟨⟨_, rfl, Option.some.inj hF, by rw [ht]; exact hP, hD⟩, hS.F ht⟩) hS.2.2 dX0_pushOn_63
          obtain ⟨j54, hj54, hF⟩ := jn_use hF
          have hJ54 : ∀ (s54 : Unit) (H : Heap) (locs : List Loc) (ls : Array Slot), va_P (dC, dI) vwCl (cG cyI a s5.2.2) H → va_D A (cG cyI a s5.2.2) → va_S A s.heap H locs → lv_has ls 7 [(5, .int (o2 + (21 : Int32)))] → j54 s54 = some out → W p l e (headSpec (Cond.code yX0_pushOn cX0_pushOn 7 none :: wT) ({ frames := 1, cells := 0, slots := 0, locals := 22 } : Room)).room s m ([.ref (a 1), .int p1, .int p2] : List Value).toArray below meth c H locs 0 0 (MQ below (va_Qv (fun (u : GV) => u = out) (fun u t => va_P (dC, dI) vwCl (cG cyI a u) t.heap ∧ va_D A (cG cyI a u)) A) ([.ref (a 1), .int p1, .int p2] : List Value).toArray s 0 0 A) (F0 m 54 ls [.int s5.1, .ref (a 2)]) := by
            intro s54 H locs ls hP hD hS hl hF
            have hF := (congrFun hj54 s54).symm.trans hF
            refine lv_iload hx hb dX0_pushOn_54 (lv_at hl 0 rfl) ?_
            refine lv_goto (tgt := 60) hx hb dX0_pushOn_56 (by decide) ?_
            exact hJ60 (o2 + (21 : Int32)) _ _ _ hP hD hS (lv_sub hl [] rfl) hF
          refine lv_icmp_eq (tgt := 54) hx hb dX0_pushOn_39 (by decide) (fun c12 => ?_) (fun c12 => ?_)
          · have hF := itp c12 hF
            exact hJ54 () _ _ _ hP hD hS (lv_sub hl [0] rfl) hF
          · have hF := itn c12 hF
            refine lv_aload_n hx hb dX0_pushOn_42 rfl (lv_at hl 2 rfl) ?_
            refine va_get (D := (dC, dI)) (ci := 0) (v := .ref (a 7)) (C := RX0) (T := TX0) (N := 9) hx hb hts inX0 hown hK.1 hP 0 rfl rfl 5 (by decide) (hts _ w_fieldLink_X0_27) (fun _ h9 => h9) rfl dX0_pushOn_43 ?_
            refine lv_iload_n hx hb dX0_pushOn_46 rfl (lv_at hl 3 rfl) ?_
            obtain ⟨o13, h14, hF⟩ := obd hF
            refine wcRNi (As := [.ref (a 7), .int s5.1]) (rest := [.int s5.1, .ref (a 2)]) ⟨hx, hb, hml, hown, hts⟩ (met_X5_at l dC dI cyI cyO (a 7) 8 N (G_touched s5.2.2) s5.1 o13 h14) ⟨va_cnB 2 hts (gCode w_code_X5_at) rfl rfl rfl (hK.2 _ n_X0_67) (hts _ w_initialized_X5) (by decide +kernel) ⟨Nat.le_of_ble_eq_true rfl, Nat.le_of_ble_eq_true rfl⟩, hts _ w_static_X5_at, trivial⟩ hP hK [6] rfl rfl hl.1 (Nat.le_of_ble_eq_true rfl) dX0_pushOn_47 ⟨Nat.le_of_ble_eq_true rfl, Nat.le_of_ble_eq_true rfl⟩ hS (fun r H locs hw hP hS => ?_)
            have hw := hw.symm
            subst hw
            refine lv_iconst (v := 1) hx hb dX0_pushOn_50 (by decide) ?_
            refine lv_icmp_ne (tgt := 59) hx hb dX0_pushOn_51 (by decide) (fun c15 => ?_) (fun c15 => ?_)
            · have hF := itn c15 hF
              refine lv_iconst (v := -1) hx hb dX0_pushOn_59 (by decide) ?_
              exact hJ60 (-1 : Int32) _ _ _ hP hD hS (lv_sub hl [] rfl) hF
            · have hF := itp c15 hF
              exact hJ54 () _ _ _ hP hD hS (lv_sub hl [0] rfl) hF
  exact hL5 N (p1, p2, g) _ _ _ hP hD hS (lv_sub hl [2, 1, 0] rfl) hF
theorem dX0_sendBowl_0 : decode cX0_sendBowl 0 = .ok (.aload_n 0, 1) := by decide +kernel
theorem dX0_sendBowl_1 : decode cX0_sendBowl 1 = .ok (.getfield 18, 3) := by decide +kernel
theorem dX0_sendBowl_4 : decode cX0_sendBowl 4 = .ok (.iload_n 1, 1) := by decide +kernel
theorem dX0_sendBowl_5 : decode cX0_sendBowl 5 = .ok (.invokestatic 67, 3) := by decide +kernel
theorem dX0_sendBowl_8 : decode cX0_sendBowl 8 = .ok (.iload_n 2, 1) := by decide +kernel
theorem dX0_sendBowl_9 : decode cX0_sendBowl 9 = .ok (.iadd, 1) := by decide +kernel
theorem dX0_sendBowl_10 : decode cX0_sendBowl 10 = .ok (.istore_n 3, 1) := by decide +kernel
theorem dX0_sendBowl_11 : decode cX0_sendBowl 11 = .ok (.aload_n 0, 1) := by decide +kernel
theorem dX0_sendBowl_12 : decode cX0_sendBowl 12 = .ok (.getfield 24, 3) := by decide +kernel
theorem dX0_sendBowl_15 : decode cX0_sendBowl 15 = .ok (.iload_n 1, 1) := by decide +kernel
theorem dX0_sendBowl_16 : decode cX0_sendBowl 16 = .ok (.invokestatic 67, 3) := by decide +kernel
theorem dX0_sendBowl_19 : decode cX0_sendBowl 19 = .ok (.istore 4, 2) := by decide +kernel
theorem dX0_sendBowl_21 : decode cX0_sendBowl 21 = .ok (.aload_n 0, 1) := by decide +kernel
theorem dX0_sendBowl_22 : decode cX0_sendBowl 22 = .ok (.getfield 21, 3) := by decide +kernel
theorem dX0_sendBowl_25 : decode cX0_sendBowl 25 = .ok (.iload_n 1, 1) := by decide +kernel
theorem dX0_sendBowl_26 : decode cX0_sendBowl 26 = .ok (.invokestatic 67, 3) := by decide +kernel
theorem dX0_sendBowl_29 : decode cX0_sendBowl 29 = .ok (.istore 5, 2) := by decide +kernel
theorem dX0_sendBowl_31 : decode cX0_sendBowl 31 = .ok (.bipush 10, 2) := by decide +kernel
theorem dX0_sendBowl_33 : decode cX0_sendBowl 33 = .ok (.istore 6, 2) := by decide +kernel
theorem dX0_sendBowl_35 : decode cX0_sendBowl 35 = .ok (.iconst 1, 1) := by decide +kernel
theorem dX0_sendBowl_36 : decode cX0_sendBowl 36 = .ok (.istore 7, 2) := by decide +kernel
theorem dX0_sendBowl_38 : decode cX0_sendBowl 38 = .ok (.iload 7, 2) := by decide +kernel
theorem dX0_sendBowl_40 : decode cX0_sendBowl 40 = .ok (.iload 5, 2) := by decide +kernel
theorem dX0_sendBowl_42 : decode cX0_sendBowl 42 = .ok (.if_icmp .gt 127, 3) := by decide +kernel
theorem dX0_sendBowl_45 : decode cX0_sendBowl 45 = .ok (.iload 7, 2) := by decide +kernel
theorem dX0_sendBowl_47 : decode cX0_sendBowl 47 = .ok (.iload_n 3, 1) := by decide +kernel
theorem dX0_sendBowl_48 : decode cX0_sendBowl 48 = .ok (.iload 4, 2) := by decide +kernel
theorem dX0_sendBowl_50 : decode cX0_sendBowl 50 = .ok (.invokestatic 71, 3) := by decide +kernel
theorem dX0_sendBowl_53 : decode cX0_sendBowl 53 = .ok (.istore 8, 2) := by decide +kernel
theorem dX0_sendBowl_55 : decode cX0_sendBowl 55 = .ok (.iload 7, 2) := by decide +kernel
theorem dX0_sendBowl_57 : decode cX0_sendBowl 57 = .ok (.bipush 60, 2) := by decide +kernel
theorem dX0_sendBowl_59 : decode cX0_sendBowl 59 = .ok (.if_icmp .ge 11, 3) := by decide +kernel
theorem dX0_sendBowl_62 : decode cX0_sendBowl 62 = .ok (.iload 8, 2) := by decide +kernel
theorem dX0_sendBowl_64 : decode cX0_sendBowl 64 = .ok (.invokestatic 75, 3) := by decide +kernel
theorem dX0_sendBowl_67 : decode cX0_sendBowl 67 = .ok (.ifCond .eq 4, 3) := by decide +kernel
theorem dX0_sendBowl_70 : decode cX0_sendBowl 70 = .ok (.return_, 1) := by decide +kernel
theorem dX0_sendBowl_71 : decode cX0_sendBowl 71 = .ok (.iload 7, 2) := by decide +kernel
theorem dX0_sendBowl_73 : decode cX0_sendBowl 73 = .ok (.bipush 21, 2) := by decide +kernel
theorem dX0_sendBowl_75 : decode cX0_sendBowl 75 = .ok (.imul, 1) := by decide +kernel
theorem dX0_sendBowl_76 : decode cX0_sendBowl 76 = .ok (.iload 8, 2) := by decide +kernel
theorem dX0_sendBowl_78 : decode cX0_sendBowl 78 = .ok (.iadd, 1) := by decide +kernel
theorem dX0_sendBowl_79 : decode cX0_sendBowl 79 = .ok (.istore 9, 2) := by decide +kernel
theorem dX0_sendBowl_81 : decode cX0_sendBowl 81 = .ok (.aload_n 0, 1) := by decide +kernel
theorem dX0_sendBowl_82 : decode cX0_sendBowl 82 = .ok (.iload 9, 2) := by decide +kernel
theorem dX0_sendBowl_84 : decode cX0_sendBowl 84 = .ok (.invokevirtual 60, 3) := by decide +kernel
theorem dX0_sendBowl_87 : decode cX0_sendBowl 87 = .ok (.istore 10, 2) := by decide +kernel
theorem dX0_sendBowl_89 : decode cX0_sendBowl 89 = .ok (.iload 10, 2) := by decide +kernel
theorem dX0_sendBowl_91 : decode cX0_sendBowl 91 = .ok (.iconst (-1), 1) := by decide +kernel
theorem dX0_sendBowl_92 : decode cX0_sendBowl 92 = .ok (.if_icmp .eq 67, 3) := by decide +kernel
theorem dX0_sendBowl_95 : decode cX0_sendBowl 95 = .ok (.aload_n 0, 1) := by decide +kernel
theorem dX0_sendBowl_96 : decode cX0_sendBowl 96 = .ok (.getfield 9, 3) := by decide +kernel
theorem dX0_sendBowl_99 : decode cX0_sendBowl 99 = .ok (.iload_n 1, 1) := by decide +kernel
theorem dX0_sendBowl_100 : decode cX0_sendBowl 100 = .ok (.iload 7, 2) := by decide +kernel
theorem dX0_sendBowl_102 : decode cX0_sendBowl 102 = .ok (.iconst 1, 1) := by decide +kernel
theorem dX0_sendBowl_103 : decode cX0_sendBowl 103 = .ok (.if_icmp .ne 7, 3) := by decide +kernel
theorem dX0_sendBowl_106 : decode cX0_sendBowl 106 = .ok (.iconst (-1), 1) := by decide +kernel
theorem dX0_sendBowl_107 : decode cX0_sendBowl 107 = .ok (.goto 5, 3) := by decide +kernel
theorem dX0_sendBowl_110 : decode cX0_sendBowl 110 = .ok (.iload 6, 2) := by decide +kernel
theorem dX0_sendBowl_112 : decode cX0_sendBowl 112 = .ok (.invokestatic 63, 3) := by decide +kernel
theorem dX0_sendBowl_115 : decode cX0_sendBowl 115 = .ok (.aload_n 0, 1) := by decide +kernel
theorem dX0_sendBowl_116 : decode cX0_sendBowl 116 = .ok (.getfield 27, 3) := by decide +kernel
theorem dX0_sendBowl_119 : decode cX0_sendBowl 119 = .ok (.iload_n 1, 1) := by decide +kernel
theorem dX0_sendBowl_120 : decode cX0_sendBowl 120 = .ok (.iload 10, 2) := by decide +kernel
theorem dX0_sendBowl_122 : decode cX0_sendBowl 122 = .ok (.bipush 8, 2) := by decide +kernel
theorem dX0_sendBowl_124 : decode cX0_sendBowl 124 = .ok (.if_icmp .ne 7, 3) := by decide +kernel
theorem dX0_sendBowl_127 : decode cX0_sendBowl 127 = .ok (.iconst 1, 1) := by decide +kernel
theorem dX0_sendBowl_128 : decode cX0_sendBowl 128 = .ok (.goto 4, 3) := by decide +kernel
theorem dX0_sendBowl_131 : decode cX0_sendBowl 131 = .ok (.iconst 0, 1) := by decide +kernel
theorem dX0_sendBowl_132 : decode cX0_sendBowl 132 = .ok (.invokestatic 63, 3) := by decide +kernel
theorem dX0_sendBowl_135 : decode cX0_sendBowl 135 = .ok (.aload_n 0, 1) := by decide +kernel
theorem dX0_sendBowl_136 : decode cX0_sendBowl 136 = .ok (.dup, 1) := by decide +kernel
theorem dX0_sendBowl_137 : decode cX0_sendBowl 137 = .ok (.getfield 37, 3) := by decide +kernel
theorem dX0_sendBowl_140 : decode cX0_sendBowl 140 = .ok (.iconst 1, 1) := by decide +kernel
theorem dX0_sendBowl_141 : decode cX0_sendBowl 141 = .ok (.iadd, 1) := by decide +kernel
theorem dX0_sendBowl_142 : decode cX0_sendBowl 142 = .ok (.putfield 37, 3) := by decide +kernel
theorem dX0_sendBowl_145 : decode cX0_sendBowl 145 = .ok (.aload_n 0, 1) := by decide +kernel
theorem dX0_sendBowl_146 : decode cX0_sendBowl 146 = .ok (.iload 10, 2) := by decide +kernel
theorem dX0_sendBowl_148 : decode cX0_sendBowl 148 = .ok (.iload 5, 2) := by decide +kernel
theorem dX0_sendBowl_150 : decode cX0_sendBowl 150 = .ok (.iload 7, 2) := by decide +kernel
theorem dX0_sendBowl_152 : decode cX0_sendBowl 152 = .ok (.isub, 1) := by decide +kernel
theorem dX0_sendBowl_153 : decode cX0_sendBowl 153 = .ok (.iconst 2, 1) := by decide +kernel
theorem dX0_sendBowl_154 : decode cX0_sendBowl 154 = .ok (.idiv, 1) := by decide +kernel
theorem dX0_sendBowl_155 : decode cX0_sendBowl 155 = .ok (.invokevirtual 78, 3) := by decide +kernel
theorem dX0_sendBowl_158 : decode cX0_sendBowl 158 = .ok (.return_, 1) := by decide +kernel
theorem dX0_sendBowl_159 : decode cX0_sendBowl 159 = .ok (.iload 9, 2) := by decide +kernel
theorem dX0_sendBowl_161 : decode cX0_sendBowl 161 = .ok (.istore 6, 2) := by decide +kernel
theorem dX0_sendBowl_163 : decode cX0_sendBowl 163 = .ok (.iinc 7 1, 3) := by decide +kernel
theorem dX0_sendBowl_166 : decode cX0_sendBowl 166 = .ok (.goto (-128), 3) := by decide +kernel
theorem dX0_sendBowl_169 : decode cX0_sendBowl 169 = .ok (.aload_n 0, 1) := by decide +kernel
theorem dX0_sendBowl_170 : decode cX0_sendBowl 170 = .ok (.getfield 9, 3) := by decide +kernel
theorem dX0_sendBowl_173 : decode cX0_sendBowl 173 = .ok (.iload_n 1, 1) := by decide +kernel
theorem dX0_sendBowl_174 : decode cX0_sendBowl 174 = .ok (.iload 6, 2) := by decide +kernel
theorem dX0_sendBowl_176 : decode cX0_sendBowl 176 = .ok (.invokestatic 63, 3) := by decide +kernel
theorem dX0_sendBowl_179 : decode cX0_sendBowl 179 = .ok (.return_, 1) := by decide +kernel
def f_X0_sendBowl (N : Nat) (g : GV) (p1 : Int32) (p2 : Int32) : Option (GV) :=
  (f_X5_at N 8 (G_aims g) p1).bind (fun o1 => (f_X5_at N 8 (G_biases g) p1).bind (fun o3 => (f_X5_at N 8 (G_weights g) p1).bind (fun o5 => lpN (fun (s38 : Int32 × Int32) (k38 : (Int32 × Int32) → Option (GV)) => (if o5 < s38.2 then (f_X5_put N 9 (G_places g) p1 s38.1).bind (fun o8 => some (G_set_places g o8)) else (f_X5_columnAfter N s38.2 (o1 + p2) o3).bind (fun o10 => jn (fun (s70 : Unit) => some g) (fun (j70 : (Unit) → Option (GV)) => (if (60 : Int32) ≤ s38.2 then j70 () else (f_X5_isOut N o10).bind (fun o13 => (if o13 = 0 then (f_X0_thingAt N g ((s38.2 * (21 : Int32)) + o10)).bind (fun o17 => (if o17 = (-1 : Int32) then k38 (((s38.2 * (21 : Int32)) + o10), (s38.2 + (1 : Int32))) else jn (fun (s112 : Int32) => (f_X5_put N 9 (G_places g) p1 s112).bind (fun o20 => jn (fun (s132 : Int32) => (f_X5_put N 8 (G_touched g) p1 s132).bind (fun o22 => (f_X0_pushOn N (G_set_strikes (G_set_touched (G_set_places g o20) o22) ((G_strikes g) + (1 : Int32))) o17 ((o5 - s38.2) / (2 : Int32))).bind (fun o24 => some o24))) (fun (j132 : (Int32) → Option (GV)) => (if o17 = (8 : Int32) then j132 (1 : Int32) else j132 (0 : Int32))))) (fun (j112 : (Int32) → Option (GV)) => (if s38.2 = (1 : Int32) then j112 (-1 : Int32) else j112 s38.1)))) else j70 ()))))))) N ((10 : Int32), (1 : Int32)))))
set_option maxHeartbeats 4000000 in
set_option maxRecDepth 100000 in
theorem met_X0_sendBowl (l : Launch) (dC : Nat → ClassId) (dI : Nat → Nat → Nat) (cyI cyO : ClassId) (a : Nat → Nat) (sz : Nat) (N : Nat) (g : GV) (p1 : Int32) (p2 : Int32) (out : GV) (hF : f_X0_sendBowl N g p1 p2 = some out) : Met l yX0_sendBowl (Cond.code yX0_sendBowl cX0_sendBowl 11 none :: wT) ({ frames := 2, cells := 0, slots := 0, locals := 48 } : Room) (wWr dC dI cyI cyO [.ref (a 1), .int p1, .int p2] (cG cyI a g) sz) (va_Qv (fun (u : GV) => u = out) (fun u t => va_P (dC, dI) vwCl (cG cyI a u) t.heap ∧ va_D (va_A (cG cyI a g) sz) (cG cyI a u)) (va_A (cG cyI a g) sz)) 0 0 (va_A (cG cyI a g) sz) := by
  refine Met.ofW (cc := cX0_sendBowl) (maxL := 11) (ret := none) (by decide) rfl ?_
  intro p e s m args below meth c s₁ B hml hv
  obtain ⟨rfl, hsz, hP, hK, hD0⟩ := hv
  have hx := B.exec
  have hb := B.bytes
  have hr := B.returns
  have hts0 := atoms_spec (ws := (Cond.code yX0_sendBowl cX0_sendBowl 11 none :: wT)) B.pre
  have hts := fun w h => hts0 w (List.mem_cons_of_mem _ h)
  clear hts0
  have hown : s.vm.findClass RX0 = some m.cls := findClass_of_methodNamed B.named
  have hlocks := B.notSynchronized
  subst hsz
  have hD := hD0.self (sz := s.heap.size)
  generalize hAe : va_A (cG cyI a g) s.heap.size = A at hD ⊢
  have hA : ∀ q : Nat, s.heap.size ≤ q → A q := fun q h => by rw [← hAe]; exact Or.inr h
  clear hD0
  have hS : va_S A s.heap s.heap [] := va_S.rf
  have hl := lv_entry [.ref (a 1), .int p1, .int p2] (n := 11) (Nat.le_of_ble_eq_true rfl)
  rw [lg_entry_eq]
  generalize (lg_sl [.ref (a 1), .int p1, .int p2] ++ List.replicate (11 - (lg_sl [.ref (a 1), .int p1, .int p2]).length) Slot.unset).toArray = ls at hl ⊢
  have hl : lv_has ls 11 [(0, .ref (a 1)), (1, .int p1), (2, .int p2)] := hl
  unfold f_X0_sendBowl at hF
  refine lv_aload_n hx hb dX0_sendBowl_0 rfl (lv_at hl 0 rfl) ?_
  refine va_get (D := (dC, dI)) (ci := 0) (v := .ref (a 4)) (C := RX0) (T := TX0) (N := 9) hx hb hts inX0 hown hK.1 hP 0 rfl rfl 2 (by decide) (hts _ w_fieldLink_X0_18) (fun _ h9 => h9) rfl dX0_sendBowl_1 ?_
  refine lv_iload_n hx hb dX0_sendBowl_4 rfl (lv_at hl 1 rfl) ?_
  obtain ⟨o1, h2, hF⟩ := obd hF
  refine wcRNi (As := [.ref (a 4), .int p1]) (rest := []) ⟨hx, hb, hml, hown, hts⟩ (met_X5_at l dC dI cyI cyO (a 4) 8 N (G_aims g) p1 o1 h2) ⟨va_cnB 2 hts (gCode w_code_X5_at) rfl rfl rfl (hK.2 _ n_X0_67) (hts _ w_initialized_X5) (by decide +kernel) ⟨Nat.le_of_ble_eq_true rfl, Nat.le_of_ble_eq_true rfl⟩, hts _ w_static_X5_at, trivial⟩ hP hK [3] rfl rfl hl.1 (Nat.le_of_ble_eq_true rfl) dX0_sendBowl_5 ⟨Nat.le_of_ble_eq_true rfl, Nat.le_of_ble_eq_true rfl⟩ hS (fun r H locs hw hP hS => ?_)
  have hw := hw.symm
  subst hw
  refine lv_iload_n hx hb dX0_sendBowl_8 rfl (lv_at hl 2 rfl) ?_
  refine lv_iadd hx hb dX0_sendBowl_9 ?_
  refine lv_istore_n (lv' := [(3, .int (o1 + p2)), (0, .ref (a 1)), (1, .int p1), (2, .int p2)]) hx hb dX0_sendBowl_10 rfl hl (by decide) rfl (fun ls hl => ?_)
  refine lv_aload_n hx hb dX0_sendBowl_11 rfl (lv_at hl 1 rfl) ?_
  refine va_get (D := (dC, dI)) (ci := 0) (v := .ref (a 6)) (C := RX0) (T := TX0) (N := 9) hx hb hts inX0 hown hK.1 hP 0 rfl rfl 4 (by decide) (hts _ w_fieldLink_X0_24) (fun _ h9 => h9) rfl dX0_sendBowl_12 ?_
  refine lv_iload_n hx hb dX0_sendBowl_15 rfl (lv_at hl 2 rfl) ?_
  obtain ⟨o3, h4, hF⟩ := obd hF
  refine wcRNi (As := [.ref (a 6), .int p1]) (rest := []) ⟨hx, hb, hml, hown, hts⟩ (met_X5_at l dC dI cyI cyO (a 6) 8 N (G_biases g) p1 o3 h4) ⟨va_cnB 2 hts (gCode w_code_X5_at) rfl rfl rfl (hK.2 _ n_X0_67) (hts _ w_initialized_X5) (by decide +kernel) ⟨Nat.le_of_ble_eq_true rfl, Nat.le_of_ble_eq_true rfl⟩, hts _ w_static_X5_at, trivial⟩ hP hK [5] rfl rfl hl.1 (Nat.le_of_ble_eq_true rfl) dX0_sendBowl_16 ⟨Nat.le_of_ble_eq_true rfl, Nat.le_of_ble_eq_true rfl⟩ hS (fun r H locs hw hP hS => ?_)
  have hw := hw.symm
  subst hw
  refine lv_istore (lv' := [(4, .int o3), (3, .int (o1 + p2)), (0, .ref (a 1)), (1, .int p1), (2, .int p2)]) hx hb dX0_sendBowl_19 hl (by decide) rfl (fun ls hl => ?_)
  refine lv_aload_n hx hb dX0_sendBowl_21 rfl (lv_at hl 2 rfl) ?_
  refine va_get (D := (dC, dI)) (ci := 0) (v := .ref (a 5)) (C := RX0) (T := TX0) (N := 9) hx hb hts inX0 hown hK.1 hP 0 rfl rfl 3 (by decide) (hts _ w_fieldLink_X0_21) (fun _ h9 => h9) rfl dX0_sendBowl_22 ?_
  refine lv_iload_n hx hb dX0_sendBowl_25 rfl (lv_at hl 3 rfl) ?_
  obtain ⟨o5, h6, hF⟩ := obd hF
  refine wcRNi (As := [.ref (a 5), .int p1]) (rest := []) ⟨hx, hb, hml, hown, hts⟩ (met_X5_at l dC dI cyI cyO (a 5) 8 N (G_weights g) p1 o5 h6) ⟨va_cnB 2 hts (gCode w_code_X5_at) rfl rfl rfl (hK.2 _ n_X0_67) (hts _ w_initialized_X5) (by decide +kernel) ⟨Nat.le_of_ble_eq_true rfl, Nat.le_of_ble_eq_true rfl⟩, hts _ w_static_X5_at, trivial⟩ hP hK [4] rfl rfl hl.1 (Nat.le_of_ble_eq_true rfl) dX0_sendBowl_26 ⟨Nat.le_of_ble_eq_true rfl, Nat.le_of_ble_eq_true rfl⟩ hS (fun r H locs hw hP hS => ?_)
  have hw := hw.symm
  subst hw
  refine lv_istore (lv' := [(5, .int o5), (4, .int o3), (3, .int (o1 + p2)), (0, .ref (a 1)), (1, .int p1), (2, .int p2)]) hx hb dX0_sendBowl_29 hl (by decide) rfl (fun ls hl => ?_)
  refine lv_bipush (v := 10) hx hb dX0_sendBowl_31 (by decide) ?_
  refine lv_istore (lv' := [(6, .int (10 : Int32)), (5, .int o5), (4, .int o3), (3, .int (o1 + p2)), (0, .ref (a 1)), (1, .int p1), (2, .int p2)]) hx hb dX0_sendBowl_33 hl (by decide) rfl (fun ls hl => ?_)
  refine lv_iconst (v := 1) hx hb dX0_sendBowl_35 (by decide) ?_
  refine lv_istore (lv' := [(7, .int (1 : Int32)), (6, .int (10 : Int32)), (5, .int o5), (4, .int o3), (3, .int (o1 + p2)), (0, .ref (a 1)), (1, .int p1), (2, .int p2)]) hx hb dX0_sendBowl_36 hl (by decide) rfl (fun ls hl => ?_)
  obtain ⟨st38, hst38, hF⟩ := lpN_use hF
  have hL38 : ∀ (n : Nat) (s38 : Int32 × Int32) (H : Heap) (locs : List Loc) (ls : Array Slot), va_P (dC, dI) vwCl (cG cyI a g) H → va_D A (cG cyI a g) → va_S A s.heap H locs → lv_has ls 11 [(0, .ref (a 1)), (1, .int p1), (3, .int (o1 + p2)), (4, .int o3), (5, .int o5), (6, .int s38.1), (7, .int s38.2)] → lpN st38 n s38 = some out → W p l e (headSpec (Cond.code yX0_sendBowl cX0_sendBowl 11 none :: wT) ({ frames := 2, cells := 0, slots := 0, locals := 48 } : Room)).room s m ([.ref (a 1), .int p1, .int p2] : List Value).toArray below meth c H locs 0 0 (MQ below (va_Qv (fun (u : GV) => u = out) (fun u t => va_P (dC, dI) vwCl (cG cyI a u) t.heap ∧ va_D A (cG cyI a u)) A) ([.ref (a 1), .int p1, .int p2] : List Value).toArray s 0 0 A) (F0 m 38 ls []) := by
    intro n
    induction n with
    | zero => intro s38 H locs ls hP hD hS hl hF; exact lpN_0 hF
    | succ n ih38 =>
      intro s38 H locs ls hP hD hS hl hF
      have hF := (congrFun (congrFun hst38 s38) (lpN st38 n)).symm.trans (lpN_s hF)
      refine lv_iload hx hb dX0_sendBowl_38 (lv_at hl 6 rfl) ?_
      refine lv_iload hx hb dX0_sendBowl_40 (lv_at hl 4 rfl) ?_
      refine lv_icmp_gt (tgt := 169) hx hb dX0_sendBowl_42 (by decide) (fun c7 => ?_) (fun c7 => ?_)
      · have hF := itp c7 hF
        refine lv_aload_n hx hb dX0_sendBowl_169 rfl (lv_at hl 0 rfl) ?_
        refine va_get (D := (dC, dI)) (ci := 0) (v := .ref (a 2)) (C := RX0) (T := TX0) (N := 9) hx hb hts inX0 hown hK.1 hP 0 rfl rfl 0 (by decide) (hts _ w_fieldLink_X0_9) (fun _ h9 => h9) rfl dX0_sendBowl_170 ?_
        refine lv_iload_n hx hb dX0_sendBowl_173 rfl (lv_at hl 1 rfl) ?_
        refine lv_iload hx hb dX0_sendBowl_174 (lv_at hl 5 rfl) ?_
        obtain ⟨o8, h9, hF⟩ := obd hF
        refine wcWNv (As := [.ref (a 2), .int p1, .int s38.1]) (rest := []) (wr := [0, 2, 3, 4, 5, 6, 7].filterMap (fun i => ((cG cyI a g))[i]?)) ⟨hx, hb, hml, hown, hts⟩ (met_X5_put l dC dI cyI cyO (a 2) 9 _ N (G_places g) p1 s38.1 o8 h9) ⟨va_cnB 3 hts (gCode w_code_X5_put) rfl rfl rfl (hK.2 _ n_X0_63) (hts _ w_initialized_X5) (by decide +kernel) ⟨Nat.le_of_ble_eq_true rfl, Nat.le_of_ble_eq_true rfl⟩, hts _ w_static_X5_put, trivial⟩ hP hD hK [1] [0, 2, 3, 4, 5, 6, 7] rfl rfl (by decide) (by decide) (by decide) rfl hl.1 (Nat.le_of_ble_eq_true rfl) dX0_sendBowl_176 ⟨Nat.le_of_ble_eq_true rfl, Nat.le_of_ble_eq_true rfl⟩ hS hA (fun u H locs hw hP hD hS => ?_)
        have hw := hw.symm
        subst hw
        have hP := hP.sub (ws' := (cG cyI a (G_set_places g o8))) [0, 7, 1, 2, 3, 4, 5, 6] rfl
        have hD := hD.sub (ws' := (cG cyI a (G_set_places g o8))) [0, 7, 1, 2, 3, 4, 5, 6] (by decide) rfl
        exact W.vret hx hb hr (fun t ht hW => ⟨⟨_, rfl, Option.some.inj hF, by rw [ht]; exact hP, hD⟩, hS.F ht⟩) hS.2.2 dX0_sendBowl_179
      · have hF := itn c7 hF
        refine lv_iload hx hb dX0_sendBowl_45 (lv_at hl 6 rfl) ?_
        refine lv_iload_n hx hb dX0_sendBowl_47 rfl (lv_at hl 2 rfl) ?_
        refine lv_iload hx hb dX0_sendBowl_48 (lv_at hl 3 rfl) ?_
        obtain ⟨o10, h11, hF⟩ := obd hF
        refine wcRNi (As := [.int s38.2, .int (o1 + p2), .int o3]) (rest := []) ⟨hx, hb, hml, hown, hts⟩ (met_X5_columnAfter l dC dI cyI cyO  N  s38.2 (o1 + p2) o3 o10 h11) ⟨va_cnB 3 hts (gCode w_code_X5_columnAfter) rfl rfl rfl (hK.2 _ n_X0_71) (hts _ w_initialized_X5) (by decide +kernel) ⟨Nat.le_of_ble_eq_true rfl, Nat.le_of_ble_eq_true rfl⟩, hts _ w_static_X5_columnAfter, trivial⟩ hP hK [] rfl rfl hl.1 (Nat.le_of_ble_eq_true rfl) dX0_sendBowl_50 ⟨Nat.le_of_ble_eq_true rfl, Nat.le_of_ble_eq_true rfl⟩ hS (fun r H locs hw hP hS => ?_)
        have hw := hw.symm
        subst hw
        refine lv_istore (lv' := [(8, .int o10), (0, .ref (a 1)), (1, .int p1), (3, .int (o1 + p2)), (4, .int o3), (5, .int o5), (6, .int s38.1), (7, .int s38.2)]) hx hb dX0_sendBowl_53 hl (by decide) rfl (fun ls hl => ?_)
        refine lv_iload hx hb dX0_sendBowl_55 (lv_at hl 7 rfl) ?_
        refine lv_bipush (v := 60) hx hb dX0_sendBowl_57 (by decide) ?_
        obtain ⟨j70, hj70, hF⟩ := jn_use hF
        have hJ70 : ∀ (s70 : Unit) (H : Heap) (locs : List Loc) (ls : Array Slot), va_P (dC, dI) vwCl (cG cyI a g) H → va_D A (cG cyI a g) → va_S A s.heap H locs → lv_has ls 11 [] → j70 s70 = some out → W p l e (headSpec (Cond.code yX0_sendBowl cX0_sendBowl 11 none :: wT) ({ frames := 2, cells := 0, slots := 0, locals := 48 } : Room)).room s m ([.ref (a 1), .int p1, .int p2] : List Value).toArray below meth c H locs 0 0 (MQ below (va_Qv (fun (u : GV) => u = out) (fun u t => va_P (dC, dI) vwCl (cG cyI a u) t.heap ∧ va_D A (cG cyI a u)) A) ([.ref (a 1), .int p1, .int p2] : List Value).toArray s 0 0 A) (F0 m 70 ls []) := by
          intro s70 H locs ls hP hD hS hl hF
          have hF := (congrFun hj70 s70).symm.trans hF
          exact W.vret hx hb hr (fun t ht hW => ⟨⟨_, rfl, Option.some.inj hF, by rw [ht]; exact hP, hD⟩, hS.F ht⟩) hS.2.2 dX0_sendBowl_70
        refine lv_icmp_ge (tgt := 70) hx hb dX0_sendBowl_59 (by decide) (fun c12 => ?_) (fun c12 => ?_)
        · have hF := itp c12 hF
          exact hJ70 () _ _ _ hP hD hS (lv_sub hl [] rfl) hF
        · have hF := itn c12 hF
          refine lv_iload hx hb dX0_sendBowl_62 (lv_at hl 0 rfl) ?_
          obtain ⟨o13, h14, hF⟩ := obd hF
          refine wcRNi (As := [.int o10]) (rest := []) ⟨hx, hb, hml, hown, hts⟩ (met_X5_isOut l dC dI cyI cyO  N  o10 o13 h14) ⟨va_cnB 1 hts (gCode w_code_X5_isOut) rfl rfl rfl (hK.2 _ n_X0_75) (hts _ w_initialized_X5) (by decide +kernel) ⟨Nat.le_of_ble_eq_true rfl, Nat.le_of_ble_eq_true rfl⟩, hts _ w_static_X5_isOut, trivial⟩ hP hK [] rfl rfl hl.1 (Nat.le_of_ble_eq_true rfl) dX0_sendBowl_64 ⟨Nat.le_of_ble_eq_true rfl, Nat.le_of_ble_eq_true rfl⟩ hS (fun r H locs hw hP hS => ?_)
          obtain ⟨hw, hz15⟩ := hw
          have hw := hw.symm
          subst hw
          refine lv_if_eq (tgt := 71) hx hb dX0_sendBowl_67 (by decide) (fun c16 => ?_) (fun c16 => ?_)
          · have hF := itp c16 hF
            refine lv_iload hx hb dX0_sendBowl_71 (lv_at hl 7 rfl) ?_
            refine lv_bipush (v := 21) hx hb dX0_sendBowl_73 (by decide) ?_
            refine lv_imul hx hb dX0_sendBowl_75 ?_
            refine lv_iload hx hb dX0_sendBowl_76 (lv_at hl 0 rfl) ?_
            refine lv_iadd hx hb dX0_sendBowl_78 ?_
            refine lv_istore (lv' := [(9, .int ((s38.2 * (21 : Int32)) + o10)), (8, .int o10), (0, .ref (a 1)), (1, .int p1), (3, .int (o1 + p2)), (4, .int o3), (5, .int o5), (6, .int s38.1), (7, .int s38.2)]) hx hb dX0_sendBowl_79 hl (by decide) rfl (fun ls hl => ?_)
            refine lv_aload_n hx hb dX0_sendBowl_81 rfl (lv_at hl 2 rfl) ?_
            refine lv_iload hx hb dX0_sendBowl_82 (lv_at hl 0 rfl) ?_
            obtain ⟨o17, h18, hF⟩ := obd hF
            refine wcRVi (As := [.int ((s38.2 * (21 : Int32)) + o10)]) (rest := []) (b := (a 1)) ⟨hx, hb, hml, hown, hts⟩ (met_X0_thingAt l dC dI cyI cyO a N g ((s38.2 * (21 : Int32)) + o10) o17 h18) (cwV 1 hts (gV w_methodLink_X0_60 w_instanceMethod_X0_thingAt w_selects_X0_thingAt w_initialized_X0 w_code_X0_thingAt) rfl rfl rfl (by decide +kernel) ⟨Nat.le_of_ble_eq_true rfl, Nat.le_of_ble_eq_true rfl⟩) (va_recv hK.1 hP (ci := 0) (q0 := 0) rfl rfl) hP hK [0, 1, 2, 3, 4, 5, 6, 7] rfl rfl hl.1 (Nat.le_of_ble_eq_true rfl) dX0_sendBowl_84 ⟨Nat.le_of_ble_eq_true rfl, Nat.le_of_ble_eq_true rfl⟩ hS (fun r H locs hw hP hS => ?_)
            have hw := hw.symm
            subst hw
            refine lv_istore (lv' := [(10, .int o17), (9, .int ((s38.2 * (21 : Int32)) + o10)), (8, .int o10), (0, .ref (a 1)), (1, .int p1), (3, .int (o1 + p2)), (4, .int o3), (5, .int o5), (6, .int s38.1), (7, .int s38.2)]) hx hb dX0_sendBowl_87 hl (by decide) rfl (fun ls hl => ?_)
            refine lv_iload hx hb dX0_sendBowl_89 (lv_at hl 0 rfl) ?_
            refine lv_iconst (v := -1) hx hb dX0_sendBowl_91 (by decide) ?_
            refine lv_icmp_eq (tgt := 159) hx hb dX0_sendBowl_92 (by decide) (fun c19 => ?_) (fun c19 => ?_)
            · have hF := itp c19 hF
              refine lv_iload hx hb dX0_sendBowl_159 (lv_at hl 1 rfl) ?_
              refine lv_istore (lv' := [(6, .int ((s38.2 * (21 : Int32)) + o10)), (10, .int o17), (9, .int ((s38.2 * (21 : Int32)) + o10)), (8, .int o10), (0, .ref (a 1)), (1, .int p1), (3, .int (o1 + p2)), (4, .int o3), (5, .int o5), (7, .int s38.2)]) hx hb dX0_sendBowl_161 hl (by decide) rfl (fun ls hl => ?_)
              refine lv_iinc (v := (s38.2 + (1 : Int32))) (lv' := [(7, .int (s38.2 + (1 : Int32))), (6, .int ((s38.2 * (21 : Int32)) + o10)), (10, .int o17), (9, .int ((s38.2 * (21 : Int32)) + o10)), (8, .int o10), (0, .ref (a 1)), (1, .int p1), (3, .int (o1 + p2)), (4, .int o3), (5, .int o5)]) hx hb dX0_sendBowl_163 hl (k := 9) rfl rfl (by decide) rfl (fun ls hl => ?_)
              refine lv_goto (tgt := 38) hx hb dX0_sendBowl_166 (by decide) ?_
              exact ih38 (((s38.2 * (21 : Int32)) + o10), (s38.2 + (1 : Int32))) _ _ _ hP hD hS (lv_sub hl [5, 6, 7, 8, 9, 1, 0] rfl) hF
            · have hF := itn c19 hF
              refine lv_aload_n hx hb dX0_sendBowl_95 rfl (lv_at hl 3 rfl) ?_
              refine va_get (D := (dC, dI)) (ci := 0) (v := .ref (a 2)) (C := RX0) (T := TX0) (N := 9) hx hb hts inX0 hown hK.1 hP 0 rfl rfl 0 (by decide) (hts _ w_fieldLink_X0_9) (fun _ h9 => h9) rfl dX0_sendBowl_96 ?_
              refine lv_iload_n hx hb dX0_sendBowl_99 rfl (lv_at hl 4 rfl) ?_
              refine lv_iload hx hb dX0_sendBowl_100 (lv_at hl 9 rfl) ?_
              refine lv_iconst (v := 1) hx hb dX0_sendBowl_102 (by decide) ?_
              obtain ⟨j112, hj112, hF⟩ := jn_use hF
              have hJ112 : ∀ (s112 : Int32) (H : Heap) (locs : List Loc) (ls : Array Slot), va_P (dC, dI) vwCl (cG cyI a g) H → va_D A (cG cyI a g) → va_S A s.heap H locs → lv_has ls 11 [(0, .ref (a 1)), (1, .int p1), (5, .int o5), (7, .int s38.2), (10, .int o17)] → j112 s112 = some out → W p l e (headSpec (Cond.code yX0_sendBowl cX0_sendBowl 11 none :: wT) ({ frames := 2, cells := 0, slots := 0, locals := 48 } : Room)).room s m ([.ref (a 1), .int p1, .int p2] : List Value).toArray below meth c H locs 0 0 (MQ below (va_Qv (fun (u : GV) => u = out) (fun u t => va_P (dC, dI) vwCl (cG cyI a u) t.heap ∧ va_D A (cG cyI a u)) A) ([.ref (a 1), .int p1, .int p2] : List Value).toArray s 0 0 A) (F0 m 112 ls [.int s112, .int p1, .ref (a 2)]) := by
                intro s112 H locs ls hP hD hS hl hF
                have hF := (congrFun hj112 s112).symm.trans hF
                obtain ⟨o20, h21, hF⟩ := obd hF
                refine wcWNv (As := [.ref (a 2), .int p1, .int s112]) (rest := []) (wr := [0, 2, 3, 4, 5, 6, 7].filterMap (fun i => ((cG cyI a g))[i]?)) ⟨hx, hb, hml, hown, hts⟩ (met_X5_put l dC dI cyI cyO (a 2) 9 _ N (G_places g) p1 s112 o20 h21) ⟨va_cnB 3 hts (gCode w_code_X5_put) rfl rfl rfl (hK.2 _ n_X0_63) (hts _ w_initialized_X5) (by decide +kernel) ⟨Nat.le_of_ble_eq_true rfl, Nat.le_of_ble_eq_true rfl⟩, hts _ w_static_X5_put, trivial⟩ hP hD hK [1] [0, 2, 3, 4, 5, 6, 7] rfl rfl (by decide) (by decide) (by decide) rfl hl.1 (Nat.le_of_ble_eq_true rfl) dX0_sendBowl_112 ⟨Nat.le_of_ble_eq_true rfl, Nat.le_of_ble_eq_true rfl⟩ hS hA (fun u H locs hw hP hD hS => ?_)
                have hw := hw.symm
                subst hw
                have hP := hP.sub (ws' := (cG cyI a (G_set_places g o20))) [0, 7, 1, 2, 3, 4, 5, 6] rfl
                have hD := hD.sub (ws' := (cG cyI a (G_set_places g o20))) [0, 7, 1, 2, 3, 4, 5, 6] (by decide) rfl
                refine lv_aload_n hx hb dX0_sendBowl_115 rfl (lv_at hl 0 rfl) ?_
                refine va_get (D := (dC, dI)) (ci := 0) (v := .ref (a 7)) (C := RX0) (T := TX0) (N := 9) hx hb hts inX0 hown hK.1 hP 0 rfl rfl 5 (by decide) (hts _ w_fieldLink_X0_27) (fun _ h9 => h9) rfl dX0_sendBowl_116 ?_
                refine lv_iload_n hx hb dX0_sendBowl_119 rfl (lv_at hl 1 rfl) ?_
                refine lv_iload hx hb dX0_sendBowl_120 (lv_at hl 4 rfl) ?_
                refine lv_bipush (v := 8) hx hb dX0_sendBowl_122 (by decide) ?_
                obtain ⟨j132, hj132, hF⟩ := jn_use hF
                have hJ132 : ∀ (s132 : Int32) (H : Heap) (locs : List Loc) (ls : Array Slot) (hz_132_s2 : b01 s132), va_P (dC, dI) vwCl (cG cyI a (G_set_places g o20)) H → va_D A (cG cyI a (G_set_places g o20)) → va_S A s.heap H locs → lv_has ls 11 [(0, .ref (a 1)), (5, .int o5), (7, .int s38.2), (10, .int o17)] → j132 s132 = some out → W p l e (headSpec (Cond.code yX0_sendBowl cX0_sendBowl 11 none :: wT) ({ frames := 2, cells := 0, slots := 0, locals := 48 } : Room)).room s m ([.ref (a 1), .int p1, .int p2] : List Value).toArray below meth c H locs 0 0 (MQ below (va_Qv (fun (u : GV) => u = out) (fun u t => va_P (dC, dI) vwCl (cG cyI a u) t.heap ∧ va_D A (cG cyI a u)) A) ([.ref (a 1), .int p1, .int p2] : List Value).toArray s 0 0 A) (F0 m 132 ls [.int s132, .int p1, .ref (a 7)]) := by
                  intro s132 H locs ls hz_132_s2 hP hD hS hl hF
                  have hF := (congrFun hj132 s132).symm.trans hF
                  obtain ⟨o22, h23, hF⟩ := obd hF
                  refine wcWNv (As := [.ref (a 7), .int p1, .int s132]) (rest := []) (wr := [0, 1, 2, 3, 4, 5, 7].filterMap (fun i => ((cG cyI a (G_set_places g o20)))[i]?)) ⟨hx, hb, hml, hown, hts⟩ (met_X5_put l dC dI cyI cyO (a 7) 8 _ N (G_touched g) p1 s132 o22 h23) ⟨va_cnB 3 hts (gCode w_code_X5_put) rfl rfl rfl (hK.2 _ n_X0_63) (hts _ w_initialized_X5) (by decide +kernel) ⟨Nat.le_of_ble_eq_true rfl, Nat.le_of_ble_eq_true rfl⟩, hts _ w_static_X5_put, trivial⟩ hP hD hK [6] [0, 1, 2, 3, 4, 5, 7] rfl rfl (by decide) (by decide) (by decide) rfl hl.1 (Nat.le_of_ble_eq_true rfl) dX0_sendBowl_132 ⟨Nat.le_of_ble_eq_true rfl, Nat.le_of_ble_eq_true rfl⟩ hS hA (fun u H locs hw hP hD hS => ?_)
                  have hw := hw.symm
                  subst hw
                  have hP := hP.sub (ws' := (cG cyI a (G_set_touched (G_set_places g o20) o22))) [0, 1, 2, 3, 4, 5, 7, 6] rfl
                  have hD := hD.sub (ws' := (cG cyI a (G_set_touched (G_set_places g o20) o22))) [0, 1, 2, 3, 4, 5, 7, 6] (by decide) rfl
                  refine lv_aload_n hx hb dX0_sendBowl_135 rfl (lv_at hl 0 rfl) ?_
                  refine lv_dup hx hb dX0_sendBowl_136 rfl ?_
                  refine va_get (D := (dC, dI)) (ci := 0) (v := .int (G_strikes g)) (C := RX0) (T := TX0) (N := 9) hx hb hts inX0 hown hK.1 hP 0 rfl rfl 8 (by decide) (hts _ w_fieldLink_X0_37) (fun _ h9 => h9) rfl dX0_sendBowl_137 ?_
                  refine lv_iconst (v := 1) hx hb dX0_sendBowl_140 (by decide) ?_
                  refine lv_iadd hx hb dX0_sendBowl_141 ?_
                  refine va_put (D := (dC, dI)) (ci := 0) (v := .int ((G_strikes g) + (1 : Int32))) (ty := .int) (C := RX0) (T := TX0) (N := 9) hx hb hts inX0 tyX0 tyX0_ok nmX0 hown hK.1 hP hD hS 0 rfl rfl 8 (by decide) (hts _ w_fieldLink_X0_37) (fun _ h9 => h9) rfl (by decide +kernel) rfl rfl (Nat.le_of_ble_eq_true rfl) dX0_sendBowl_142 (fun H locs hP hD hS => ?_)
                  have hP : va_P (dC, dI) vwCl (cG cyI a (G_set_strikes (G_set_touched (G_set_places g o20) o22) ((G_strikes g) + (1 : Int32)))) H := hP
                  have hD : va_D A (cG cyI a (G_set_strikes (G_set_touched (G_set_places g o20) o22) ((G_strikes g) + (1 : Int32)))) := hD
                  refine lv_aload_n hx hb dX0_sendBowl_145 rfl (lv_at hl 0 rfl) ?_
                  refine lv_iload hx hb dX0_sendBowl_146 (lv_at hl 3 rfl) ?_
                  refine lv_iload hx hb dX0_sendBowl_148 (lv_at hl 1 rfl) ?_
                  refine lv_iload hx hb dX0_sendBowl_150 (lv_at hl 2 rfl) ?_
                  refine lv_isub hx hb dX0_sendBowl_152 ?_
                  refine lv_iconst (v := 2) hx hb dX0_sendBowl_153 (by decide) ?_
                  refine lv_idiv hx hb dX0_sendBowl_154 (by decide) ?_
                  obtain ⟨o24, h25, hF⟩ := obd hF
                  refine wcWVv (As := [.int o17, .int ((o5 - s38.2) / (2 : Int32))]) (rest := []) (wr := []) (b := (a 1)) ⟨hx, hb, hml, hown, hts⟩ (met_X0_pushOn l dC dI cyI cyO a _ N (G_set_strikes (G_set_touched (G_set_places g o20) o22) ((G_strikes g) + (1 : Int32))) o17 ((o5 - s38.2) / (2 : Int32)) o24 h25) (cwV 2 hts (gV w_methodLink_X0_78 w_instanceMethod_X0_pushOn w_selects_X0_pushOn w_initialized_X0 w_code_X0_pushOn) rfl rfl rfl (by decide +kernel) ⟨Nat.le_of_ble_eq_true rfl, Nat.le_of_ble_eq_true rfl⟩) (va_recv hK.1 hP (ci := 0) (q0 := 0) rfl rfl) hP hD hK [0, 1, 2, 3, 4, 5, 6, 7] [] rfl rfl (by decide) (by decide) (by decide) rfl hl.1 (Nat.le_of_ble_eq_true rfl) dX0_sendBowl_155 ⟨Nat.le_of_ble_eq_true rfl, Nat.le_of_ble_eq_true rfl⟩ hS hA (fun u H locs hw hP hD hS => ?_)
                  have hw := hw.symm
                  subst hw
                  have hP : va_P (dC, dI) vwCl (cG cyI a o24) H := hP
                  have hD : va_D A (cG cyI a o24) := hD
                  exact W.vret hx hb hr (fun t ht hW => ⟨⟨_, rfl, Option.some.inj hF, by rw [ht]; exact hP, hD⟩, hS.F ht⟩) hS.2.2 dX0_sendBowl_158
                refine lv_icmp_ne (tgt := 131) hx hb dX0_sendBowl_124 (by decide) (fun c26 => ?_) (fun c26 => ?_)
                · have hF := itn c26 hF
                  refine lv_iconst (v := 0) hx hb dX0_sendBowl_131 (by decide) ?_
                  exact hJ132 (0 : Int32) _ _ _ b01_0 hP hD hS (lv_sub hl [0, 2, 3, 4] rfl) hF
                · have hF := itp c26 hF
                  refine lv_iconst (v := 1) hx hb dX0_sendBowl_127 (by decide) ?_
                  refine lv_goto (tgt := 132) hx hb dX0_sendBowl_128 (by decide) ?_
                  exact hJ132 (1 : Int32) _ _ _ b01_1 hP hD hS (lv_sub hl [0, 2, 3, 4] rfl) hF
              refine lv_icmp_ne (tgt := 110) hx hb dX0_sendBowl_103 (by decide) (fun c27 => ?_) (fun c27 => ?_)
              · have hF := itn c27 hF
                refine lv_iload hx hb dX0_sendBowl_110 (lv_at hl 8 rfl) ?_
                exact hJ112 s38.1 _ _ _ hP hD hS (lv_sub hl [3, 4, 7, 9, 0] rfl) hF
              · have hF := itp c27 hF
                refine lv_iconst (v := -1) hx hb dX0_sendBowl_106 (by decide) ?_
                refine lv_goto (tgt := 112) hx hb dX0_sendBowl_107 (by decide) ?_
                exact hJ112 (-1 : Int32) _ _ _ hP hD hS (lv_sub hl [3, 4, 7, 9, 0] rfl) hF
          · have hF := itn c16 hF
            exact hJ70 () _ _ _ hP hD hS (lv_sub hl [] rfl) hF
  exact hL38 N ((10 : Int32), (1 : Int32)) _ _ _ hP hD hS (lv_sub hl [5, 6, 4, 3, 2, 1, 0] rfl) hF
theorem dX0_aliveCount_0 : decode cX0_aliveCount 0 = .ok (.iconst 0, 1) := by decide +kernel
theorem dX0_aliveCount_1 : decode cX0_aliveCount 1 = .ok (.istore_n 2, 1) := by decide +kernel
theorem dX0_aliveCount_2 : decode cX0_aliveCount 2 = .ok (.iconst 0, 1) := by decide +kernel
theorem dX0_aliveCount_3 : decode cX0_aliveCount 3 = .ok (.istore_n 3, 1) := by decide +kernel
theorem dX0_aliveCount_4 : decode cX0_aliveCount 4 = .ok (.iload_n 3, 1) := by decide +kernel
theorem dX0_aliveCount_5 : decode cX0_aliveCount 5 = .ok (.aload_n 0, 1) := by decide +kernel
theorem dX0_aliveCount_6 : decode cX0_aliveCount 6 = .ok (.getfield 33, 3) := by decide +kernel
theorem dX0_aliveCount_9 : decode cX0_aliveCount 9 = .ok (.if_icmp .ge 32, 3) := by decide +kernel
theorem dX0_aliveCount_12 : decode cX0_aliveCount 12 = .ok (.aload_n 0, 1) := by decide +kernel
theorem dX0_aliveCount_13 : decode cX0_aliveCount 13 = .ok (.iload_n 3, 1) := by decide +kernel
theorem dX0_aliveCount_14 : decode cX0_aliveCount 14 = .ok (.invokevirtual 48, 3) := by decide +kernel
theorem dX0_aliveCount_17 : decode cX0_aliveCount 17 = .ok (.ifCond .eq 18, 3) := by decide +kernel
theorem dX0_aliveCount_20 : decode cX0_aliveCount 20 = .ok (.aload_n 0, 1) := by decide +kernel
theorem dX0_aliveCount_21 : decode cX0_aliveCount 21 = .ok (.getfield 15, 3) := by decide +kernel
theorem dX0_aliveCount_24 : decode cX0_aliveCount 24 = .ok (.iload_n 3, 1) := by decide +kernel
theorem dX0_aliveCount_25 : decode cX0_aliveCount 25 = .ok (.invokestatic 67, 3) := by decide +kernel
theorem dX0_aliveCount_28 : decode cX0_aliveCount 28 = .ok (.iload_n 1, 1) := by decide +kernel
theorem dX0_aliveCount_29 : decode cX0_aliveCount 29 = .ok (.if_icmp .ne 6, 3) := by decide +kernel
theorem dX0_aliveCount_32 : decode cX0_aliveCount 32 = .ok (.iinc 2 1, 3) := by decide +kernel
theorem dX0_aliveCount_35 : decode cX0_aliveCount 35 = .ok (.iinc 3 1, 3) := by decide +kernel
theorem dX0_aliveCount_38 : decode cX0_aliveCount 38 = .ok (.goto (-34), 3) := by decide +kernel
theorem dX0_aliveCount_41 : decode cX0_aliveCount 41 = .ok (.iload_n 2, 1) := by decide +kernel
theorem dX0_aliveCount_42 : decode cX0_aliveCount 42 = .ok (.ireturn, 1) := by decide +kernel
def f_X0_aliveCount (N : Nat) (g : GV) (p1 : Int32) : Option (Int32) :=
  lpN (fun (s4 : Int32 × Int32) (k4 : (Int32 × Int32) → Option (Int32)) => (if (G_bowlCount g) ≤ s4.2 then some s4.1 else (f_X0_isAlive N g s4.2).bind (fun o2 => jn (fun (s35 : Int32) => k4 (s35, (s4.2 + (1 : Int32)))) (fun (j35 : (Int32) → Option (Int32)) => (if o2 = 0 then j35 s4.1 else (f_X5_at N 8 (G_sides g) s4.2).bind (fun o6 => (if o6 = p1 then j35 (s4.1 + (1 : Int32)) else j35 s4.1))))))) N ((0 : Int32), (0 : Int32))
set_option maxHeartbeats 4000000 in
set_option maxRecDepth 100000 in
theorem met_X0_aliveCount (l : Launch) (dC : Nat → ClassId) (dI : Nat → Nat → Nat) (cyI cyO : ClassId) (a : Nat → Nat) (N : Nat) (g : GV) (p1 : Int32) (out : Int32) (hF : f_X0_aliveCount N g p1 = some out) : Met l yX0_aliveCount (Cond.code yX0_aliveCount cX0_aliveCount 4 (some .int) :: wT) ({ frames := 2, cells := 0, slots := 0, locals := 42 } : Room) (wRd dC dI cyI cyO [.ref (a 1), .int p1] (cG cyI a g)) (va_Qi (fun (r : Int32) (_ : Unit) => r = out) (fun _ _ => True) wN0) 0 0 wN0 := by
  refine Met.ofW (cc := cX0_aliveCount) (maxL := 4) (ret := (some .int)) (by decide) rfl ?_
  intro p e s m args below meth c s₁ B hml hv
  obtain ⟨rfl, hP, hK⟩ := hv
  have hx := B.exec
  have hb := B.bytes
  have hr := B.returns
  have hts0 := atoms_spec (ws := (Cond.code yX0_aliveCount cX0_aliveCount 4 (some .int) :: wT)) B.pre
  have hts := fun w h => hts0 w (List.mem_cons_of_mem _ h)
  clear hts0
  have hown : s.vm.findClass RX0 = some m.cls := findClass_of_methodNamed B.named
  have hlocks := B.notSynchronized
  have hS : va_S wN0 s.heap s.heap [] := va_S.rf
  have hl := lv_entry [.ref (a 1), .int p1] (n := 4) (Nat.le_of_ble_eq_true rfl)
  rw [lg_entry_eq]
  generalize (lg_sl [.ref (a 1), .int p1] ++ List.replicate (4 - (lg_sl [.ref (a 1), .int p1]).length) Slot.unset).toArray = ls at hl ⊢
  have hl : lv_has ls 4 [(0, .ref (a 1)), (1, .int p1)] := hl
  unfold f_X0_aliveCount at hF
  refine lv_iconst (v := 0) hx hb dX0_aliveCount_0 (by decide) ?_
  refine lv_istore_n (lv' := [(2, .int (0 : Int32)), (0, .ref (a 1)), (1, .int p1)]) hx hb dX0_aliveCount_1 rfl hl (by decide) rfl (fun ls hl => ?_)
  refine lv_iconst (v := 0) hx hb dX0_aliveCount_2 (by decide) ?_
  refine lv_istore_n (lv' := [(3, .int (0 : Int32)), (2, .int (0 : Int32)), (0, .ref (a 1)), (1, .int p1)]) hx hb dX0_aliveCount_3 rfl hl (by decide) rfl (fun ls hl => ?_)
  obtain ⟨st4, hst4, hF⟩ := lpN_use hF
  have hL4 : ∀ (n : Nat) (s4 : Int32 × Int32) (H : Heap) (locs : List Loc) (ls : Array Slot), va_P (dC, dI) vwCl (cG cyI a g) H → va_S wN0 s.heap H locs → lv_has ls 4 [(0, .ref (a 1)), (1, .int p1), (2, .int s4.1), (3, .int s4.2)] → lpN st4 n s4 = some out → W p l e (headSpec (Cond.code yX0_aliveCount cX0_aliveCount 4 (some .int) :: wT) ({ frames := 2, cells := 0, slots := 0, locals := 42 } : Room)).room s m ([.ref (a 1), .int p1] : List Value).toArray below meth c H locs 0 0 (MQ below (va_Qi (fun (r : Int32) (_ : Unit) => r = out) (fun _ _ => True) wN0) ([.ref (a 1), .int p1] : List Value).toArray s 0 0 wN0) (F0 m 4 ls []) := by
    intro n
    induction n with
    | zero => intro s4 H locs ls hP hS hl hF; exact lpN_0 hF
    | succ n ih4 =>
      intro s4 H locs ls hP hS hl hF
      have hF := (congrFun (congrFun hst4 s4) (lpN st4 n)).symm.trans (lpN_s hF)
      refine lv_iload_n hx hb dX0_aliveCount_4 rfl (lv_at hl 3 rfl) ?_
      refine lv_aload_n hx hb dX0_aliveCount_5 rfl (lv_at hl 0 rfl) ?_
      refine va_get (D := (dC, dI)) (ci := 0) (v := .int (G_bowlCount g)) (C := RX0) (T := TX0) (N := 9) hx hb hts inX0 hown hK.1 hP 0 rfl rfl 7 (by decide) (hts _ w_fieldLink_X0_33) (fun _ h9 => h9) rfl dX0_aliveCount_6 ?_
      refine lv_icmp_ge (tgt := 41) hx hb dX0_aliveCount_9 (by decide) (fun c1 => ?_) (fun c1 => ?_)
      · have hF := itp c1 hF
        refine lv_iload_n hx hb dX0_aliveCount_41 rfl (lv_at hl 2 rfl) ?_
        exact W.iret (v := s4.1) hx hb hr (fun t ht hW => ⟨⟨_, (), rfl, Option.some.inj hF, trivial⟩, hS.F ht⟩) hS.2.2 dX0_aliveCount_42
      · have hF := itn c1 hF
        refine lv_aload_n hx hb dX0_aliveCount_12 rfl (lv_at hl 0 rfl) ?_
        refine lv_iload_n hx hb dX0_aliveCount_13 rfl (lv_at hl 3 rfl) ?_
        obtain ⟨o2, h3, hF⟩ := obd hF
        refine wcRVi (As := [.int s4.2]) (rest := []) (b := (a 1)) ⟨hx, hb, hml, hown, hts⟩ (met_X0_isAlive l dC dI cyI cyO a N g s4.2 o2 h3) (cwV 1 hts (gV w_methodLink_X0_48 w_instanceMethod_X0_isAlive w_selects_X0_isAlive w_initialized_X0 w_code_X0_isAlive) rfl rfl rfl (by decide +kernel) ⟨Nat.le_of_ble_eq_true rfl, Nat.le_of_ble_eq_true rfl⟩) (va_recv hK.1 hP (ci := 0) (q0 := 0) rfl rfl) hP hK [0, 1, 2, 3, 4, 5, 6, 7] rfl rfl hl.1 (Nat.le_of_ble_eq_true rfl) dX0_aliveCount_14 ⟨Nat.le_of_ble_eq_true rfl, Nat.le_of_ble_eq_true rfl⟩ hS (fun r H locs hw hP hS => ?_)
        obtain ⟨hw, hz4⟩ := hw
        have hw := hw.symm
        subst hw
        obtain ⟨j35, hj35, hF⟩ := jn_use hF
        have hJ35 : ∀ (s35 : Int32) (H : Heap) (locs : List Loc) (ls : Array Slot), va_P (dC, dI) vwCl (cG cyI a g) H → va_S wN0 s.heap H locs → lv_has ls 4 [(0, .ref (a 1)), (1, .int p1), (2, .int s35), (3, .int s4.2)] → j35 s35 = some out → W p l e (headSpec (Cond.code yX0_aliveCount cX0_aliveCount 4 (some .int) :: wT) ({ frames := 2, cells := 0, slots := 0, locals := 42 } : Room)).room s m ([.ref (a 1), .int p1] : List Value).toArray below meth c H locs 0 0 (MQ below (va_Qi (fun (r : Int32) (_ : Unit) => r = out) (fun _ _ => True) wN0) ([.ref (a 1), .int p1] : List Value).toArray s 0 0 wN0) (F0 m 35 ls []) := by
          intro s35 H locs ls hP hS hl hF
          have hF := (congrFun hj35 s35).symm.trans hF
          refine lv_iinc (v := (s4.2 + (1 : Int32))) (lv' := [(3, .int (s4.2 + (1 : Int32))), (0, .ref (a 1)), (1, .int p1), (2, .int s35)]) hx hb dX0_aliveCount_35 hl (k := 3) rfl rfl (by decide) rfl (fun ls hl => ?_)
          refine lv_goto (tgt := 4) hx hb dX0_aliveCount_38 (by decide) ?_
          exact ih4 (s35, (s4.2 + (1 : Int32))) _ _ _ hP hS (lv_sub hl [1, 2, 3, 0] rfl) hF
        refine lv_if_eq (tgt := 35) hx hb dX0_aliveCount_17 (by decide) (fun c5 => ?_) (fun c5 => ?_)
        · have hF := itp c5 hF
          exact hJ35 s4.1 _ _ _ hP hS (lv_sub hl [0, 1, 2, 3] rfl) hF
        · have hF := itn c5 hF
          refine lv_aload_n hx hb dX0_aliveCount_20 rfl (lv_at hl 0 rfl) ?_
          refine va_get (D := (dC, dI)) (ci := 0) (v := .ref (a 3)) (C := RX0) (T := TX0) (N := 9) hx hb hts inX0 hown hK.1 hP 0 rfl rfl 1 (by decide) (hts _ w_fieldLink_X0_15) (fun _ h9 => h9) rfl dX0_aliveCount_21 ?_
          refine lv_iload_n hx hb dX0_aliveCount_24 rfl (lv_at hl 3 rfl) ?_
          obtain ⟨o6, h7, hF⟩ := obd hF
          refine wcRNi (As := [.ref (a 3), .int s4.2]) (rest := []) ⟨hx, hb, hml, hown, hts⟩ (met_X5_at l dC dI cyI cyO (a 3) 8 N (G_sides g) s4.2 o6 h7) ⟨va_cnB 2 hts (gCode w_code_X5_at) rfl rfl rfl (hK.2 _ n_X0_67) (hts _ w_initialized_X5) (by decide +kernel) ⟨Nat.le_of_ble_eq_true rfl, Nat.le_of_ble_eq_true rfl⟩, hts _ w_static_X5_at, trivial⟩ hP hK [2] rfl rfl hl.1 (Nat.le_of_ble_eq_true rfl) dX0_aliveCount_25 ⟨Nat.le_of_ble_eq_true rfl, Nat.le_of_ble_eq_true rfl⟩ hS (fun r H locs hw hP hS => ?_)
          have hw := hw.symm
          subst hw
          refine lv_iload_n hx hb dX0_aliveCount_28 rfl (lv_at hl 1 rfl) ?_
          refine lv_icmp_ne (tgt := 35) hx hb dX0_aliveCount_29 (by decide) (fun c8 => ?_) (fun c8 => ?_)
          · have hF := itn c8 hF
            exact hJ35 s4.1 _ _ _ hP hS (lv_sub hl [0, 1, 2, 3] rfl) hF
          · have hF := itp c8 hF
            refine lv_iinc (v := (s4.1 + (1 : Int32))) (lv' := [(2, .int (s4.1 + (1 : Int32))), (0, .ref (a 1)), (1, .int p1), (3, .int s4.2)]) hx hb dX0_aliveCount_32 hl (k := 2) rfl rfl (by decide) rfl (fun ls hl => ?_)
            exact hJ35 (s4.1 + (1 : Int32)) _ _ _ hP hS (lv_sub hl [1, 2, 0, 3] rfl) hF
  exact hL4 N ((0 : Int32), (0 : Int32)) _ _ _ hP hS (lv_sub hl [2, 3, 1, 0] rfl) hF
theorem dX0_sortByDistance_0 : decode cX0_sortByDistance 0 = .ok (.iconst 0, 1) := by decide +kernel
theorem dX0_sortByDistance_1 : decode cX0_sortByDistance 1 = .ok (.istore_n 1, 1) := by decide +kernel
theorem dX0_sortByDistance_2 : decode cX0_sortByDistance 2 = .ok (.iconst 0, 1) := by decide +kernel
theorem dX0_sortByDistance_3 : decode cX0_sortByDistance 3 = .ok (.istore_n 2, 1) := by decide +kernel
theorem dX0_sortByDistance_4 : decode cX0_sortByDistance 4 = .ok (.iload_n 2, 1) := by decide +kernel
theorem dX0_sortByDistance_5 : decode cX0_sortByDistance 5 = .ok (.aload_n 0, 1) := by decide +kernel
theorem dX0_sortByDistance_6 : decode cX0_sortByDistance 6 = .ok (.getfield 33, 3) := by decide +kernel
theorem dX0_sortByDistance_9 : decode cX0_sortByDistance 9 = .ok (.if_icmp .ge 81, 3) := by decide +kernel
theorem dX0_sortByDistance_12 : decode cX0_sortByDistance 12 = .ok (.aload_n 0, 1) := by decide +kernel
theorem dX0_sortByDistance_13 : decode cX0_sortByDistance 13 = .ok (.iload_n 2, 1) := by decide +kernel
theorem dX0_sortByDistance_14 : decode cX0_sortByDistance 14 = .ok (.invokevirtual 48, 3) := by decide +kernel
theorem dX0_sortByDistance_17 : decode cX0_sortByDistance 17 = .ok (.ifCond .eq 67, 3) := by decide +kernel
theorem dX0_sortByDistance_20 : decode cX0_sortByDistance 20 = .ok (.iload_n 1, 1) := by decide +kernel
theorem dX0_sortByDistance_21 : decode cX0_sortByDistance 21 = .ok (.istore_n 3, 1) := by decide +kernel
theorem dX0_sortByDistance_22 : decode cX0_sortByDistance 22 = .ok (.iload_n 3, 1) := by decide +kernel
theorem dX0_sortByDistance_23 : decode cX0_sortByDistance 23 = .ok (.ifCond .le 49, 3) := by decide +kernel
theorem dX0_sortByDistance_26 : decode cX0_sortByDistance 26 = .ok (.aload_n 0, 1) := by decide +kernel
theorem dX0_sortByDistance_27 : decode cX0_sortByDistance 27 = .ok (.aload_n 0, 1) := by decide +kernel
theorem dX0_sortByDistance_28 : decode cX0_sortByDistance 28 = .ok (.getfield 30, 3) := by decide +kernel
theorem dX0_sortByDistance_31 : decode cX0_sortByDistance 31 = .ok (.iload_n 3, 1) := by decide +kernel
theorem dX0_sortByDistance_32 : decode cX0_sortByDistance 32 = .ok (.iconst 1, 1) := by decide +kernel
theorem dX0_sortByDistance_33 : decode cX0_sortByDistance 33 = .ok (.isub, 1) := by decide +kernel
theorem dX0_sortByDistance_34 : decode cX0_sortByDistance 34 = .ok (.invokestatic 67, 3) := by decide +kernel
theorem dX0_sortByDistance_37 : decode cX0_sortByDistance 37 = .ok (.invokevirtual 86, 3) := by decide +kernel
theorem dX0_sortByDistance_40 : decode cX0_sortByDistance 40 = .ok (.aload_n 0, 1) := by decide +kernel
theorem dX0_sortByDistance_41 : decode cX0_sortByDistance 41 = .ok (.iload_n 2, 1) := by decide +kernel
theorem dX0_sortByDistance_42 : decode cX0_sortByDistance 42 = .ok (.invokevirtual 86, 3) := by decide +kernel
theorem dX0_sortByDistance_45 : decode cX0_sortByDistance 45 = .ok (.if_icmp .le 27, 3) := by decide +kernel
theorem dX0_sortByDistance_48 : decode cX0_sortByDistance 48 = .ok (.aload_n 0, 1) := by decide +kernel
theorem dX0_sortByDistance_49 : decode cX0_sortByDistance 49 = .ok (.getfield 30, 3) := by decide +kernel
theorem dX0_sortByDistance_52 : decode cX0_sortByDistance 52 = .ok (.iload_n 3, 1) := by decide +kernel
theorem dX0_sortByDistance_53 : decode cX0_sortByDistance 53 = .ok (.aload_n 0, 1) := by decide +kernel
theorem dX0_sortByDistance_54 : decode cX0_sortByDistance 54 = .ok (.getfield 30, 3) := by decide +kernel
theorem dX0_sortByDistance_57 : decode cX0_sortByDistance 57 = .ok (.iload_n 3, 1) := by decide +kernel
theorem dX0_sortByDistance_58 : decode cX0_sortByDistance 58 = .ok (.iconst 1, 1) := by decide +kernel
theorem dX0_sortByDistance_59 : decode cX0_sortByDistance 59 = .ok (.isub, 1) := by decide +kernel
theorem dX0_sortByDistance_60 : decode cX0_sortByDistance 60 = .ok (.invokestatic 67, 3) := by decide +kernel
theorem dX0_sortByDistance_63 : decode cX0_sortByDistance 63 = .ok (.invokestatic 63, 3) := by decide +kernel
theorem dX0_sortByDistance_66 : decode cX0_sortByDistance 66 = .ok (.iinc 3 (-1), 3) := by decide +kernel
theorem dX0_sortByDistance_69 : decode cX0_sortByDistance 69 = .ok (.goto (-47), 3) := by decide +kernel
theorem dX0_sortByDistance_72 : decode cX0_sortByDistance 72 = .ok (.aload_n 0, 1) := by decide +kernel
theorem dX0_sortByDistance_73 : decode cX0_sortByDistance 73 = .ok (.getfield 30, 3) := by decide +kernel
theorem dX0_sortByDistance_76 : decode cX0_sortByDistance 76 = .ok (.iload_n 3, 1) := by decide +kernel
theorem dX0_sortByDistance_77 : decode cX0_sortByDistance 77 = .ok (.iload_n 2, 1) := by decide +kernel
theorem dX0_sortByDistance_78 : decode cX0_sortByDistance 78 = .ok (.invokestatic 63, 3) := by decide +kernel
theorem dX0_sortByDistance_81 : decode cX0_sortByDistance 81 = .ok (.iinc 1 1, 3) := by decide +kernel
theorem dX0_sortByDistance_84 : decode cX0_sortByDistance 84 = .ok (.iinc 2 1, 3) := by decide +kernel
theorem dX0_sortByDistance_87 : decode cX0_sortByDistance 87 = .ok (.goto (-83), 3) := by decide +kernel
theorem dX0_sortByDistance_90 : decode cX0_sortByDistance 90 = .ok (.iload_n 1, 1) := by decide +kernel
theorem dX0_sortByDistance_91 : decode cX0_sortByDistance 91 = .ok (.ireturn, 1) := by decide +kernel
def f_X0_sortByDistance (N : Nat) (g : GV) : Option (Int32 × GV) :=
  lpN (fun (s4 : Int32 × Int32 × GV) (k4 : (Int32 × Int32 × GV) → Option (Int32 × GV)) => (if (G_bowlCount s4.2.2) ≤ s4.2.1 then some (s4.1, s4.2.2) else (f_X0_isAlive N s4.2.2 s4.2.1).bind (fun o2 => jn (fun (s84 : Int32 × GV) => k4 (s84.1, (s4.2.1 + (1 : Int32)), s84.2)) (fun (j84 : (Int32 × GV) → Option (Int32 × GV)) => (if o2 = 0 then j84 (s4.1, s4.2.2) else lpN (fun (s22 : Int32 × GV) (k22 : (Int32 × GV) → Option (Int32 × GV)) => jn (fun (s72 : Unit) => (f_X5_put N 8 (G_order s22.2) s22.1 s4.2.1).bind (fun o6 => j84 ((s4.1 + (1 : Int32)), (G_set_order s22.2 o6)))) (fun (j72 : (Unit) → Option (Int32 × GV)) => (if s22.1 ≤ 0 then j72 () else (f_X5_at N 8 (G_order s22.2) (s22.1 - (1 : Int32))).bind (fun o9 => (f_X0_distance N s22.2 o9).bind (fun o11 => (f_X0_distance N s22.2 s4.2.1).bind (fun o13 => (if o11 ≤ o13 then j72 () else (f_X5_at N 8 (G_order s22.2) (s22.1 - (1 : Int32))).bind (fun o16 => (f_X5_put N 8 (G_order s22.2) s22.1 o16).bind (fun o18 => k22 ((s22.1 + (-1 : Int32)), (G_set_order s22.2 o18))))))))))) N (s4.1, s4.2.2)))))) N ((0 : Int32), (0 : Int32), g)
set_option maxHeartbeats 4000000 in
set_option maxRecDepth 100000 in
theorem met_X0_sortByDistance (l : Launch) (dC : Nat → ClassId) (dI : Nat → Nat → Nat) (cyI cyO : ClassId) (a : Nat → Nat) (sz : Nat) (N : Nat) (g : GV) (out : Int32 × GV) (hF : f_X0_sortByDistance N g = some out) : Met l yX0_sortByDistance (Cond.code yX0_sortByDistance cX0_sortByDistance 4 (some .int) :: wT) ({ frames := 2, cells := 0, slots := 0, locals := 44 } : Room) (wWr dC dI cyI cyO [.ref (a 1)] (cG cyI a g) sz) (va_Qi (fun (r : Int32) (u : GV) => (r, u) = out) (fun u t => va_P (dC, dI) vwCl (cG cyI a u) t.heap ∧ va_D (va_A (cG cyI a g) sz) (cG cyI a u)) (va_A (cG cyI a g) sz)) 0 0 (va_A (cG cyI a g) sz) := by
  refine Met.ofW (cc := cX0_sortByDistance) (maxL := 4) (ret := (some .int)) (by decide) rfl ?_
  intro p e s m args below meth c s₁ B hml hv
  obtain ⟨rfl, hsz, hP, hK, hD0⟩ := hv
  have hx := B.exec
  have hb := B.bytes
  have hr := B.returns
  have hts0 := atoms_spec (ws := (Cond.code yX0_sortByDistance cX0_sortByDistance 4 (some .int) :: wT)) B.pre
  have hts := fun w h => hts0 w (List.mem_cons_of_mem _ h)
  clear hts0
  have hown : s.vm.findClass RX0 = some m.cls := findClass_of_methodNamed B.named
  have hlocks := B.notSynchronized
  subst hsz
  have hD := hD0.self (sz := s.heap.size)
  generalize hAe : va_A (cG cyI a g) s.heap.size = A at hD ⊢
  have hA : ∀ q : Nat, s.heap.size ≤ q → A q := fun q h => by rw [← hAe]; exact Or.inr h
  clear hD0
  have hS : va_S A s.heap s.heap [] := va_S.rf
  have hl := lv_entry [.ref (a 1)] (n := 4) (Nat.le_of_ble_eq_true rfl)
  rw [lg_entry_eq]
  generalize (lg_sl [.ref (a 1)] ++ List.replicate (4 - (lg_sl [.ref (a 1)]).length) Slot.unset).toArray = ls at hl ⊢
  have hl : lv_has ls 4 [(0, .ref (a 1))] := hl
  unfold f_X0_sortByDistance at hF
  refine lv_iconst (v := 0) hx hb dX0_sortByDistance_0 (by decide) ?_
  refine lv_istore_n (lv' := [(1, .int (0 : Int32)), (0, .ref (a 1))]) hx hb dX0_sortByDistance_1 rfl hl (by decide) rfl (fun ls hl => ?_)
  refine lv_iconst (v := 0) hx hb dX0_sortByDistance_2 (by decide) ?_
  refine lv_istore_n (lv' := [(2, .int (0 : Int32)), (1, .int (0 : Int32)), (0, .ref (a 1))]) hx hb dX0_sortByDistance_3 rfl hl (by decide) rfl (fun ls hl => ?_)
  obtain ⟨st4, hst4, hF⟩ := lpN_use hF
  have hL4 : ∀ (n : Nat) (s4 : Int32 × Int32 × GV) (H : Heap) (locs : List Loc) (ls : Array Slot), va_P (dC, dI) vwCl (cG cyI a s4.2.2) H → va_D A (cG cyI a s4.2.2) → va_S A s.heap H locs → lv_has ls 4 [(0, .ref (a 1)), (1, .int s4.1), (2, .int s4.2.1)] → lpN st4 n s4 = some out → W p l e (headSpec (Cond.code yX0_sortByDistance cX0_sortByDistance 4 (some .int) :: wT) ({ frames := 2, cells := 0, slots := 0, locals := 44 } : Room)).room s m ([.ref (a 1)] : List Value).toArray below meth c H locs 0 0 (MQ below (va_Qi (fun (r : Int32) (u : GV) => (r, u) = out) (fun u t => va_P (dC, dI) vwCl (cG cyI a u) t.heap ∧ va_D A (cG cyI a u)) A) ([.ref (a 1)] : List Value).toArray s 0 0 A) (F0 m 4 ls []) := by
    intro n
    induction n with
    | zero => intro s4 H locs ls hP hD hS hl hF; exact lpN_0 hF
    | succ n ih4 =>
      intro s4 H locs ls hP hD hS hl hF
      have hF := (congrFun (congrFun hst4 s4) (lpN st4 n)).symm.trans (lpN_s hF)
      refine lv_iload_n hx hb dX0_sortByDistance_4 rfl (lv_at hl 2 rfl) ?_
      refine lv_aload_n hx hb dX0_sortByDistance_5 rfl (lv_at hl 0 rfl) ?_
      refine va_get (D := (dC, dI)) (ci := 0) (v := .int (G_bowlCount s4.2.2)) (C := RX0) (T := TX0) (N := 9) hx hb hts inX0 hown hK.1 hP 0 rfl rfl 7 (by decide) (hts _ w_fieldLink_X0_33) (fun _ h9 => h9) rfl dX0_sortByDistance_6 ?_
      refine lv_icmp_ge (tgt := 90) hx hb dX0_sortByDistance_9 (by decide) (fun c1 => ?_) (fun c1 => ?_)
      · have hF := itp c1 hF
        refine lv_iload_n hx hb dX0_sortByDistance_90 rfl (lv_at hl 1 rfl) ?_
        exact W.iret (v := s4.1) hx hb hr (fun t ht hW => ⟨⟨_, s4.2.2, rfl, Option.some.inj hF, by rw [ht]; exact hP, hD⟩, hS.F ht⟩) hS.2.2 dX0_sortByDistance_91
      · have hF := itn c1 hF
        refine lv_aload_n hx hb dX0_sortByDistance_12 rfl (lv_at hl 0 rfl) ?_
        refine lv_iload_n hx hb dX0_sortByDistance_13 rfl (lv_at hl 2 rfl) ?_
        obtain ⟨o2, h3, hF⟩ := obd hF
        refine wcRVi (As := [.int s4.2.1]) (rest := []) (b := (a 1)) ⟨hx, hb, hml, hown, hts⟩ (met_X0_isAlive l dC dI cyI cyO a N s4.2.2 s4.2.1 o2 h3) (cwV 1 hts (gV w_methodLink_X0_48 w_instanceMethod_X0_isAlive w_selects_X0_isAlive w_initialized_X0 w_code_X0_isAlive) rfl rfl rfl (by decide +kernel) ⟨Nat.le_of_ble_eq_true rfl, Nat.le_of_ble_eq_true rfl⟩) (va_recv hK.1 hP (ci := 0) (q0 := 0) rfl rfl) hP hK [0, 1, 2, 3, 4, 5, 6, 7] rfl rfl hl.1 (Nat.le_of_ble_eq_true rfl) dX0_sortByDistance_14 ⟨Nat.le_of_ble_eq_true rfl, Nat.le_of_ble_eq_true rfl⟩ hS (fun r H locs hw hP hS => ?_)
        obtain ⟨hw, hz4⟩ := hw
        have hw := hw.symm
        subst hw
        obtain ⟨j84, hj84, hF⟩ := jn_use hF
        have hJ84 : ∀ (s84 : Int32 × GV) (H : Heap) (locs : List Loc) (ls : Array Slot), va_P (dC, dI) vwCl (cG cyI a s84.2) H → va_D A (cG cyI a s84.2) → va_S A s.heap H locs → lv_has ls 4 [(0, .ref (a 1)), (1, .int s84.1), (2, .int s4.2.1)] → j84 s84 = some out → W p l e (headSpec (Cond.code yX0_sortByDistance cX0_sortByDistance 4 (some .int) :: wT) ({ frames := 2, cells := 0, slots := 0, locals := 44 } : Room)).room s m ([.ref (a 1)] : List Value).toArray below meth c H locs 0 0 (MQ below (va_Qi (fun (r : Int32) (u : GV) => (r, u) = out) (fun u t => va_P (dC, dI) vwCl (cG cyI a u) t.heap ∧ va_D A (cG cyI a u)) A) ([.ref (a 1)] : List Value).toArray s 0 0 A) (F0 m 84 ls []) := by
          intro s84 H locs ls hP hD hS hl hF
          have hF := (congrFun hj84 s84).symm.trans hF
          refine lv_iinc (v := (s4.2.1 + (1 : Int32))) (lv' := [(2, .int (s4.2.1 + (1 : Int32))), (0, .ref (a 1)), (1, .int s84.1)]) hx hb dX0_sortByDistance_84 hl (k := 2) rfl rfl (by decide) rfl (fun ls hl => ?_)
          refine lv_goto (tgt := 4) hx hb dX0_sortByDistance_87 (by decide) ?_
          exact ih4 (s84.1, (s4.2.1 + (1 : Int32)), s84.2) _ _ _ hP hD hS (lv_sub hl [1, 2, 0] rfl) hF
        refine lv_if_eq (tgt := 84) hx hb dX0_sortByDistance_17 (by decide) (fun c5 => ?_) (fun c5 => ?_)
        · have hF := itp c5 hF
          exact hJ84 (s4.1, s4.2.2) _ _ _ hP hD hS (lv_sub hl [0, 1, 2] rfl) hF
        · have hF := itn c5 hF
          refine lv_iload_n hx hb dX0_sortByDistance_20 rfl (lv_at hl 1 rfl) ?_
          refine lv_istore_n (lv' := [(3, .int s4.1), (0, .ref (a 1)), (1, .int s4.1), (2, .int s4.2.1)]) hx hb dX0_sortByDistance_21 rfl hl (by decide) rfl (fun ls hl => ?_)
          obtain ⟨st22, hst22, hF⟩ := lpN_use hF
          have hL22 : ∀ (n : Nat) (s22 : Int32 × GV) (H : Heap) (locs : List Loc) (ls : Array Slot), va_P (dC, dI) vwCl (cG cyI a s22.2) H → va_D A (cG cyI a s22.2) → va_S A s.heap H locs → lv_has ls 4 [(0, .ref (a 1)), (1, .int s4.1), (2, .int s4.2.1), (3, .int s22.1)] → lpN st22 n s22 = some out → W p l e (headSpec (Cond.code yX0_sortByDistance cX0_sortByDistance 4 (some .int) :: wT) ({ frames := 2, cells := 0, slots := 0, locals := 44 } : Room)).room s m ([.ref (a 1)] : List Value).toArray below meth c H locs 0 0 (MQ below (va_Qi (fun (r : Int32) (u : GV) => (r, u) = out) (fun u t => va_P (dC, dI) vwCl (cG cyI a u) t.heap ∧ va_D A (cG cyI a u)) A) ([.ref (a 1)] : List Value).toArray s 0 0 A) (F0 m 22 ls []) := by
            intro n
            induction n with
            | zero => intro s22 H locs ls hP hD hS hl hF; exact lpN_0 hF
            | succ n ih22 =>
              intro s22 H locs ls hP hD hS hl hF
              have hF := (congrFun (congrFun hst22 s22) (lpN st22 n)).symm.trans (lpN_s hF)
              refine lv_iload_n hx hb dX0_sortByDistance_22 rfl (lv_at hl 3 rfl) ?_
              obtain ⟨j72, hj72, hF⟩ := jn_use hF
              have hJ72 : ∀ (s72 : Unit) (H : Heap) (locs : List Loc) (ls : Array Slot), va_P (dC, dI) vwCl (cG cyI a s22.2) H → va_D A (cG cyI a s22.2) → va_S A s.heap H locs → lv_has ls 4 [(0, .ref (a 1)), (1, .int s4.1), (2, .int s4.2.1), (3, .int s22.1)] → j72 s72 = some out → W p l e (headSpec (Cond.code yX0_sortByDistance cX0_sortByDistance 4 (some .int) :: wT) ({ frames := 2, cells := 0, slots := 0, locals := 44 } : Room)).room s m ([.ref (a 1)] : List Value).toArray below meth c H locs 0 0 (MQ below (va_Qi (fun (r : Int32) (u : GV) => (r, u) = out) (fun u t => va_P (dC, dI) vwCl (cG cyI a u) t.heap ∧ va_D A (cG cyI a u)) A) ([.ref (a 1)] : List Value).toArray s 0 0 A) (F0 m 72 ls []) := by
                intro s72 H locs ls hP hD hS hl hF
                have hF := (congrFun hj72 s72).symm.trans hF
                refine lv_aload_n hx hb dX0_sortByDistance_72 rfl (lv_at hl 0 rfl) ?_
                refine va_get (D := (dC, dI)) (ci := 0) (v := .ref (a 8)) (C := RX0) (T := TX0) (N := 9) hx hb hts inX0 hown hK.1 hP 0 rfl rfl 6 (by decide) (hts _ w_fieldLink_X0_30) (fun _ h9 => h9) rfl dX0_sortByDistance_73 ?_
                refine lv_iload_n hx hb dX0_sortByDistance_76 rfl (lv_at hl 3 rfl) ?_
                refine lv_iload_n hx hb dX0_sortByDistance_77 rfl (lv_at hl 2 rfl) ?_
                obtain ⟨o6, h7, hF⟩ := obd hF
                refine wcWNv (As := [.ref (a 8), .int s22.1, .int s4.2.1]) (rest := []) (wr := [0, 1, 2, 3, 4, 5, 6].filterMap (fun i => ((cG cyI a s22.2))[i]?)) ⟨hx, hb, hml, hown, hts⟩ (met_X5_put l dC dI cyI cyO (a 8) 8 _ N (G_order s22.2) s22.1 s4.2.1 o6 h7) ⟨va_cnB 3 hts (gCode w_code_X5_put) rfl rfl rfl (hK.2 _ n_X0_63) (hts _ w_initialized_X5) (by decide +kernel) ⟨Nat.le_of_ble_eq_true rfl, Nat.le_of_ble_eq_true rfl⟩, hts _ w_static_X5_put, trivial⟩ hP hD hK [7] [0, 1, 2, 3, 4, 5, 6] rfl rfl (by decide) (by decide) (by decide) rfl hl.1 (Nat.le_of_ble_eq_true rfl) dX0_sortByDistance_78 ⟨Nat.le_of_ble_eq_true rfl, Nat.le_of_ble_eq_true rfl⟩ hS hA (fun u H locs hw hP hD hS => ?_)
                have hw := hw.symm
                subst hw
                have hP : va_P (dC, dI) vwCl (cG cyI a (G_set_order s22.2 o6)) H := hP
                have hD : va_D A (cG cyI a (G_set_order s22.2 o6)) := hD
                refine lv_iinc (v := (s4.1 + (1 : Int32))) (lv' := [(1, .int (s4.1 + (1 : Int32))), (0, .ref (a 1)), (2, .int s4.2.1), (3, .int s22.1)]) hx hb dX0_sortByDistance_81 hl (k := 1) rfl rfl (by decide) rfl (fun ls hl => ?_)
                exact hJ84 ((s4.1 + (1 : Int32)), (G_set_order s22.2 o6)) _ _ _ hP hD hS (lv_sub hl [1, 0, 2] rfl) hF
              refine lv_if_le (tgt := 72) hx hb dX0_sortByDistance_23 (by decide) (fun c8 => ?_) (fun c8 => ?_)
              · have hF := itp c8 hF
                exact hJ72 () _ _ _ hP hD hS (lv_sub hl [0, 1, 2, 3] rfl) hF
              · have hF := itn c8 hF
                refine lv_aload_n hx hb dX0_sortByDistance_26 rfl (lv_at hl 0 rfl) ?_
                refine lv_aload_n hx hb dX0_sortByDistance_27 rfl (lv_at hl 0 rfl) ?_
                refine va_get (D := (dC, dI)) (ci := 0) (v := .ref (a 8)) (C := RX0) (T := TX0) (N := 9) hx hb hts inX0 hown hK.1 hP 0 rfl rfl 6 (by decide) (hts _ w_fieldLink_X0_30) (fun _ h9 => h9) rfl dX0_sortByDistance_28 ?_
                refine lv_iload_n hx hb dX0_sortByDistance_31 rfl (lv_at hl 3 rfl) ?_
                refine lv_iconst (v := 1) hx hb dX0_sortByDistance_32 (by decide) ?_
                refine lv_isub hx hb dX0_sortByDistance_33 ?_
                obtain ⟨o9, h10, hF⟩ := obd hF
                refine wcRNi (As := [.ref (a 8), .int (s22.1 - (1 : Int32))]) (rest := [.ref (a 1)]) ⟨hx, hb, hml, hown, hts⟩ (met_X5_at l dC dI cyI cyO (a 8) 8 N (G_order s22.2) (s22.1 - (1 : Int32)) o9 h10) ⟨va_cnB 2 hts (gCode w_code_X5_at) rfl rfl rfl (hK.2 _ n_X0_67) (hts _ w_initialized_X5) (by decide +kernel) ⟨Nat.le_of_ble_eq_true rfl, Nat.le_of_ble_eq_true rfl⟩, hts _ w_static_X5_at, trivial⟩ hP hK [7] rfl rfl hl.1 (Nat.le_of_ble_eq_true rfl) dX0_sortByDistance_34 ⟨Nat.le_of_ble_eq_true rfl, Nat.le_of_ble_eq_true rfl⟩ hS (fun r H locs hw hP hS => ?_)
                have hw := hw.symm
                subst hw
                obtain ⟨o11, h12, hF⟩ := obd hF
                refine wcRVi (As := [.int o9]) (rest := []) (b := (a 1)) ⟨hx, hb, hml, hown, hts⟩ (met_X0_distance l dC dI cyI cyO a N s22.2 o9 o11 h12) (cwV 1 hts (gV w_methodLink_X0_86 w_instanceMethod_X0_distance w_selects_X0_distance w_initialized_X0 w_code_X0_distance) rfl rfl rfl (by decide +kernel) ⟨Nat.le_of_ble_eq_true rfl, Nat.le_of_ble_eq_true rfl⟩) (va_recv hK.1 hP (ci := 0) (q0 := 0) rfl rfl) hP hK [0, 1, 2, 3, 4, 5, 6, 7] rfl rfl hl.1 (Nat.le_of_ble_eq_true rfl) dX0_sortByDistance_37 ⟨Nat.le_of_ble_eq_true rfl, Nat.le_of_ble_eq_true rfl⟩ hS (fun r H locs hw hP hS => ?_)
                have hw := hw.symm
                subst hw
                refine lv_aload_n hx hb dX0_sortByDistance_40 rfl (lv_at hl 0 rfl) ?_
                refine lv_iload_n hx hb dX0_sortByDistance_41 rfl (lv_at hl 2 rfl) ?_
                obtain ⟨o13, h14, hF⟩ := obd hF
                refine wcRVi (As := [.int s4.2.1]) (rest := [.int o11]) (b := (a 1)) ⟨hx, hb, hml, hown, hts⟩ (met_X0_distance l dC dI cyI cyO a N s22.2 s4.2.1 o13 h14) (cwV 1 hts (gV w_methodLink_X0_86 w_instanceMethod_X0_distance w_selects_X0_distance w_initialized_X0 w_code_X0_distance) rfl rfl rfl (by decide +kernel) ⟨Nat.le_of_ble_eq_true rfl, Nat.le_of_ble_eq_true rfl⟩) (va_recv hK.1 hP (ci := 0) (q0 := 0) rfl rfl) hP hK [0, 1, 2, 3, 4, 5, 6, 7] rfl rfl hl.1 (Nat.le_of_ble_eq_true rfl) dX0_sortByDistance_42 ⟨Nat.le_of_ble_eq_true rfl, Nat.le_of_ble_eq_true rfl⟩ hS (fun r H locs hw hP hS => ?_)
                have hw := hw.symm
                subst hw
                refine lv_icmp_le (tgt := 72) hx hb dX0_sortByDistance_45 (by decide) (fun c15 => ?_) (fun c15 => ?_)
                · have hF := itp c15 hF
                  exact hJ72 () _ _ _ hP hD hS (lv_sub hl [0, 1, 2, 3] rfl) hF
                · have hF := itn c15 hF
                  refine lv_aload_n hx hb dX0_sortByDistance_48 rfl (lv_at hl 0 rfl) ?_
                  refine va_get (D := (dC, dI)) (ci := 0) (v := .ref (a 8)) (C := RX0) (T := TX0) (N := 9) hx hb hts inX0 hown hK.1 hP 0 rfl rfl 6 (by decide) (hts _ w_fieldLink_X0_30) (fun _ h9 => h9) rfl dX0_sortByDistance_49 ?_
                  refine lv_iload_n hx hb dX0_sortByDistance_52 rfl (lv_at hl 3 rfl) ?_
                  refine lv_aload_n hx hb dX0_sortByDistance_53 rfl (lv_at hl 0 rfl) ?_
                  refine va_get (D := (dC, dI)) (ci := 0) (v := .ref (a 8)) (C := RX0) (T := TX0) (N := 9) hx hb hts inX0 hown hK.1 hP 0 rfl rfl 6 (by decide) (hts _ w_fieldLink_X0_30) (fun _ h9 => h9) rfl dX0_sortByDistance_54 ?_
                  refine lv_iload_n hx hb dX0_sortByDistance_57 rfl (lv_at hl 3 rfl) ?_
                  refine lv_iconst (v := 1) hx hb dX0_sortByDistance_58 (by decide) ?_
                  refine lv_isub hx hb dX0_sortByDistance_59 ?_
                  obtain ⟨o16, h17, hF⟩ := obd hF
                  refine wcRNi (As := [.ref (a 8), .int (s22.1 - (1 : Int32))]) (rest := [.int s22.1, .ref (a 8)]) ⟨hx, hb, hml, hown, hts⟩ (met_X5_at l dC dI cyI cyO (a 8) 8 N (G_order s22.2) (s22.1 - (1 : Int32)) o16 h17) ⟨va_cnB 2 hts (gCode w_code_X5_at) rfl rfl rfl (hK.2 _ n_X0_67) (hts _ w_initialized_X5) (by decide +kernel) ⟨Nat.le_of_ble_eq_true rfl, Nat.le_of_ble_eq_true rfl⟩, hts _ w_static_X5_at, trivial⟩ hP hK [7] rfl rfl hl.1 (Nat.le_of_ble_eq_true rfl) dX0_sortByDistance_60 ⟨Nat.le_of_ble_eq_true rfl, Nat.le_of_ble_eq_true rfl⟩ hS (fun r H locs hw hP hS => ?_)
                  have hw := hw.symm
                  subst hw
                  obtain ⟨o18, h19, hF⟩ := obd hF
                  refine wcWNv (As := [.ref (a 8), .int s22.1, .int o16]) (rest := []) (wr := [0, 1, 2, 3, 4, 5, 6].filterMap (fun i => ((cG cyI a s22.2))[i]?)) ⟨hx, hb, hml, hown, hts⟩ (met_X5_put l dC dI cyI cyO (a 8) 8 _ N (G_order s22.2) s22.1 o16 o18 h19) ⟨va_cnB 3 hts (gCode w_code_X5_put) rfl rfl rfl (hK.2 _ n_X0_63) (hts _ w_initialized_X5) (by decide +kernel) ⟨Nat.le_of_ble_eq_true rfl, Nat.le_of_ble_eq_true rfl⟩, hts _ w_static_X5_put, trivial⟩ hP hD hK [7] [0, 1, 2, 3, 4, 5, 6] rfl rfl (by decide) (by decide) (by decide) rfl hl.1 (Nat.le_of_ble_eq_true rfl) dX0_sortByDistance_63 ⟨Nat.le_of_ble_eq_true rfl, Nat.le_of_ble_eq_true rfl⟩ hS hA (fun u H locs hw hP hD hS => ?_)
                  have hw := hw.symm
                  subst hw
                  have hP : va_P (dC, dI) vwCl (cG cyI a (G_set_order s22.2 o18)) H := hP
                  have hD : va_D A (cG cyI a (G_set_order s22.2 o18)) := hD
                  refine lv_iinc (v := (s22.1 + (-1 : Int32))) (lv' := [(3, .int (s22.1 + (-1 : Int32))), (0, .ref (a 1)), (1, .int s4.1), (2, .int s4.2.1)]) hx hb dX0_sortByDistance_66 hl (k := 3) rfl rfl (by decide) rfl (fun ls hl => ?_)
                  refine lv_goto (tgt := 22) hx hb dX0_sortByDistance_69 (by decide) ?_
                  exact ih22 ((s22.1 + (-1 : Int32)), (G_set_order s22.2 o18)) _ _ _ hP hD hS (lv_sub hl [1, 2, 3, 0] rfl) hF
          exact hL22 N (s4.1, s4.2.2) _ _ _ hP hD hS (lv_sub hl [1, 2, 3, 0] rfl) hF
  exact hL4 N ((0 : Int32), (0 : Int32), g) _ _ _ hP hD hS (lv_sub hl [2, 1, 0] rfl) hF
theorem dX0_worth_0 : decode cX0_worth 0 = .ok (.iload_n 2, 1) := by decide +kernel
theorem dX0_worth_1 : decode cX0_worth 1 = .ok (.ifCond .eq 19, 3) := by decide +kernel
theorem dX0_worth_4 : decode cX0_worth 4 = .ok (.aload_n 0, 1) := by decide +kernel
theorem dX0_worth_5 : decode cX0_worth 5 = .ok (.getfield 27, 3) := by decide +kernel
theorem dX0_worth_8 : decode cX0_worth 8 = .ok (.iload_n 1, 1) := by decide +kernel
theorem dX0_worth_9 : decode cX0_worth 9 = .ok (.invokestatic 67, 3) := by decide +kernel
theorem dX0_worth_12 : decode cX0_worth 12 = .ok (.iconst 1, 1) := by decide +kernel
theorem dX0_worth_13 : decode cX0_worth 13 = .ok (.if_icmp .ne 7, 3) := by decide +kernel
theorem dX0_worth_16 : decode cX0_worth 16 = .ok (.iconst 2, 1) := by decide +kernel
theorem dX0_worth_17 : decode cX0_worth 17 = .ok (.goto 4, 3) := by decide +kernel
theorem dX0_worth_20 : decode cX0_worth 20 = .ok (.iconst 1, 1) := by decide +kernel
theorem dX0_worth_21 : decode cX0_worth 21 = .ok (.ireturn, 1) := by decide +kernel
def f_X0_worth (N : Nat) (g : GV) (p1 : Int32) (p2 : Int32) : Option (Int32) :=
  jn (fun (s21 : Int32) => some s21) (fun (j21 : (Int32) → Option (Int32)) => jn (fun (s20 : Unit) => j21 (1 : Int32)) (fun (j20 : (Unit) → Option (Int32)) => (if p2 = 0 then j20 () else (f_X5_at N 8 (G_touched g) p1).bind (fun o2 => (if o2 = (1 : Int32) then j21 (2 : Int32) else j20 ())))))
set_option maxHeartbeats 4000000 in
set_option maxRecDepth 100000 in
theorem met_X0_worth (l : Launch) (dC : Nat → ClassId) (dI : Nat → Nat → Nat) (cyI cyO : ClassId) (a : Nat → Nat) (N : Nat) (g : GV) (p1 : Int32) (p2 : Int32) (out : Int32) (hF : f_X0_worth N g p1 p2 = some out) : Met l yX0_worth (Cond.code yX0_worth cX0_worth 3 (some .int) :: wT) ({ frames := 1, cells := 0, slots := 0, locals := 21 } : Room) (wRd dC dI cyI cyO [.ref (a 1), .int p1, .int p2] (cG cyI a g)) (va_Qi (fun (r : Int32) (_ : Unit) => r = out) (fun _ _ => True) wN0) 0 0 wN0 := by
  refine Met.ofW (cc := cX0_worth) (maxL := 3) (ret := (some .int)) (by decide) rfl ?_
  intro p e s m args below meth c s₁ B hml hv
  obtain ⟨rfl, hP, hK⟩ := hv
  have hx := B.exec
  have hb := B.bytes
  have hr := B.returns
  have hts0 := atoms_spec (ws := (Cond.code yX0_worth cX0_worth 3 (some .int) :: wT)) B.pre
  have hts := fun w h => hts0 w (List.mem_cons_of_mem _ h)
  clear hts0
  have hown : s.vm.findClass RX0 = some m.cls := findClass_of_methodNamed B.named
  have hlocks := B.notSynchronized
  have hS : va_S wN0 s.heap s.heap [] := va_S.rf
  have hl := lv_entry [.ref (a 1), .int p1, .int p2] (n := 3) (Nat.le_of_ble_eq_true rfl)
  rw [lg_entry_eq]
  generalize (lg_sl [.ref (a 1), .int p1, .int p2] ++ List.replicate (3 - (lg_sl [.ref (a 1), .int p1, .int p2]).length) Slot.unset).toArray = ls at hl ⊢
  have hl : lv_has ls 3 [(0, .ref (a 1)), (1, .int p1), (2, .int p2)] := hl
  unfold f_X0_worth at hF
  refine lv_iload_n hx hb dX0_worth_0 rfl (lv_at hl 2 rfl) ?_
  obtain ⟨j21, hj21, hF⟩ := jn_use hF
  have hJ21 : ∀ (s21 : Int32) (H : Heap) (locs : List Loc) (ls : Array Slot), va_P (dC, dI) vwCl (cG cyI a g) H → va_S wN0 s.heap H locs → lv_has ls 3 [] → j21 s21 = some out → W p l e (headSpec (Cond.code yX0_worth cX0_worth 3 (some .int) :: wT) ({ frames := 1, cells := 0, slots := 0, locals := 21 } : Room)).room s m ([.ref (a 1), .int p1, .int p2] : List Value).toArray below meth c H locs 0 0 (MQ below (va_Qi (fun (r : Int32) (_ : Unit) => r = out) (fun _ _ => True) wN0) ([.ref (a 1), .int p1, .int p2] : List Value).toArray s 0 0 wN0) (F0 m 21 ls [.int s21]) := by
    intro s21 H locs ls hP hS hl hF
    have hF := (congrFun hj21 s21).symm.trans hF
    exact W.iret (v := s21) hx hb hr (fun t ht hW => ⟨⟨_, (), rfl, Option.some.inj hF, trivial⟩, hS.F ht⟩) hS.2.2 dX0_worth_21
  obtain ⟨j20, hj20, hF⟩ := jn_use hF
  have hJ20 : ∀ (s20 : Unit) (H : Heap) (locs : List Loc) (ls : Array Slot), va_P (dC, dI) vwCl (cG cyI a g) H → va_S wN0 s.heap H locs → lv_has ls 3 [] → j20 s20 = some out → W p l e (headSpec (Cond.code yX0_worth cX0_worth 3 (some .int) :: wT) ({ frames := 1, cells := 0, slots := 0, locals := 21 } : Room)).room s m ([.ref (a 1), .int p1, .int p2] : List Value).toArray below meth c H locs 0 0 (MQ below (va_Qi (fun (r : Int32) (_ : Unit) => r = out) (fun _ _ => True) wN0) ([.ref (a 1), .int p1, .int p2] : List Value).toArray s 0 0 wN0) (F0 m 20 ls []) := by
    intro s20 H locs ls hP hS hl hF
    have hF := (congrFun hj20 s20).symm.trans hF
    refine lv_iconst (v := 1) hx hb dX0_worth_20 (by decide) ?_
    exact hJ21 (1 : Int32) _ _ _ hP hS (lv_sub hl [] rfl) hF
  refine lv_if_eq (tgt := 20) hx hb dX0_worth_1 (by decide) (fun c1 => ?_) (fun c1 => ?_)
  · have hF := itp c1 hF
    exact hJ20 () _ _ _ hP hS (lv_sub hl [] rfl) hF
  · have hF := itn c1 hF
    refine lv_aload_n hx hb dX0_worth_4 rfl (lv_at hl 0 rfl) ?_
    refine va_get (D := (dC, dI)) (ci := 0) (v := .ref (a 7)) (C := RX0) (T := TX0) (N := 9) hx hb hts inX0 hown hK.1 hP 0 rfl rfl 5 (by decide) (hts _ w_fieldLink_X0_27) (fun _ h9 => h9) rfl dX0_worth_5 ?_
    refine lv_iload_n hx hb dX0_worth_8 rfl (lv_at hl 1 rfl) ?_
    obtain ⟨o2, h3, hF⟩ := obd hF
    refine wcRNi (As := [.ref (a 7), .int p1]) (rest := []) ⟨hx, hb, hml, hown, hts⟩ (met_X5_at l dC dI cyI cyO (a 7) 8 N (G_touched g) p1 o2 h3) ⟨va_cnB 2 hts (gCode w_code_X5_at) rfl rfl rfl (hK.2 _ n_X0_67) (hts _ w_initialized_X5) (by decide +kernel) ⟨Nat.le_of_ble_eq_true rfl, Nat.le_of_ble_eq_true rfl⟩, hts _ w_static_X5_at, trivial⟩ hP hK [6] rfl rfl hl.1 (Nat.le_of_ble_eq_true rfl) dX0_worth_9 ⟨Nat.le_of_ble_eq_true rfl, Nat.le_of_ble_eq_true rfl⟩ hS (fun r H locs hw hP hS => ?_)
    have hw := hw.symm
    subst hw
    refine lv_iconst (v := 1) hx hb dX0_worth_12 (by decide) ?_
    refine lv_icmp_ne (tgt := 20) hx hb dX0_worth_13 (by decide) (fun c4 => ?_) (fun c4 => ?_)
    · have hF := itn c4 hF
      exact hJ20 () _ _ _ hP hS (lv_sub hl [] rfl) hF
    · have hF := itp c4 hF
      refine lv_iconst (v := 2) hx hb dX0_worth_16 (by decide) ?_
      refine lv_goto (tgt := 21) hx hb dX0_worth_17 (by decide) ?_
      exact hJ21 (2 : Int32) _ _ _ hP hS (lv_sub hl [] rfl) hF
theorem dX0_orderedPoints_0 : decode cX0_orderedPoints 0 = .ok (.aload_n 0, 1) := by decide +kernel
theorem dX0_orderedPoints_1 : decode cX0_orderedPoints 1 = .ok (.invokevirtual 89, 3) := by decide +kernel
theorem dX0_orderedPoints_4 : decode cX0_orderedPoints 4 = .ok (.ifCond .eq 7, 3) := by decide +kernel
theorem dX0_orderedPoints_7 : decode cX0_orderedPoints 7 = .ok (.iconst 0, 1) := by decide +kernel
theorem dX0_orderedPoints_8 : decode cX0_orderedPoints 8 = .ok (.goto 7, 3) := by decide +kernel
theorem dX0_orderedPoints_11 : decode cX0_orderedPoints 11 = .ok (.aload_n 0, 1) := by decide +kernel
theorem dX0_orderedPoints_12 : decode cX0_orderedPoints 12 = .ok (.invokevirtual 92, 3) := by decide +kernel
theorem dX0_orderedPoints_15 : decode cX0_orderedPoints 15 = .ok (.istore_n 2, 1) := by decide +kernel
theorem dX0_orderedPoints_16 : decode cX0_orderedPoints 16 = .ok (.aload_n 0, 1) := by decide +kernel
theorem dX0_orderedPoints_17 : decode cX0_orderedPoints 17 = .ok (.getfield 15, 3) := by decide +kernel
theorem dX0_orderedPoints_20 : decode cX0_orderedPoints 20 = .ok (.aload_n 0, 1) := by decide +kernel
theorem dX0_orderedPoints_21 : decode cX0_orderedPoints 21 = .ok (.getfield 30, 3) := by decide +kernel
theorem dX0_orderedPoints_24 : decode cX0_orderedPoints 24 = .ok (.iconst 0, 1) := by decide +kernel
theorem dX0_orderedPoints_25 : decode cX0_orderedPoints 25 = .ok (.invokestatic 67, 3) := by decide +kernel
theorem dX0_orderedPoints_28 : decode cX0_orderedPoints 28 = .ok (.invokestatic 67, 3) := by decide +kernel
theorem dX0_orderedPoints_31 : decode cX0_orderedPoints 31 = .ok (.istore_n 3, 1) := by decide +kernel
theorem dX0_orderedPoints_32 : decode cX0_orderedPoints 32 = .ok (.iconst 0, 1) := by decide +kernel
theorem dX0_orderedPoints_33 : decode cX0_orderedPoints 33 = .ok (.istore 4, 2) := by decide +kernel
theorem dX0_orderedPoints_35 : decode cX0_orderedPoints 35 = .ok (.iload 4, 2) := by decide +kernel
theorem dX0_orderedPoints_37 : decode cX0_orderedPoints 37 = .ok (.iload_n 2, 1) := by decide +kernel
theorem dX0_orderedPoints_38 : decode cX0_orderedPoints 38 = .ok (.if_icmp .ge 29, 3) := by decide +kernel
theorem dX0_orderedPoints_41 : decode cX0_orderedPoints 41 = .ok (.aload_n 0, 1) := by decide +kernel
theorem dX0_orderedPoints_42 : decode cX0_orderedPoints 42 = .ok (.getfield 15, 3) := by decide +kernel
theorem dX0_orderedPoints_45 : decode cX0_orderedPoints 45 = .ok (.aload_n 0, 1) := by decide +kernel
theorem dX0_orderedPoints_46 : decode cX0_orderedPoints 46 = .ok (.getfield 30, 3) := by decide +kernel
theorem dX0_orderedPoints_49 : decode cX0_orderedPoints 49 = .ok (.iload 4, 2) := by decide +kernel
theorem dX0_orderedPoints_51 : decode cX0_orderedPoints 51 = .ok (.invokestatic 67, 3) := by decide +kernel
theorem dX0_orderedPoints_54 : decode cX0_orderedPoints 54 = .ok (.invokestatic 67, 3) := by decide +kernel
theorem dX0_orderedPoints_57 : decode cX0_orderedPoints 57 = .ok (.iload_n 3, 1) := by decide +kernel
theorem dX0_orderedPoints_58 : decode cX0_orderedPoints 58 = .ok (.if_icmp .ne 9, 3) := by decide +kernel
theorem dX0_orderedPoints_61 : decode cX0_orderedPoints 61 = .ok (.iinc 4 1, 3) := by decide +kernel
theorem dX0_orderedPoints_64 : decode cX0_orderedPoints 64 = .ok (.goto (-29), 3) := by decide +kernel
theorem dX0_orderedPoints_67 : decode cX0_orderedPoints 67 = .ok (.iconst 0, 1) := by decide +kernel
theorem dX0_orderedPoints_68 : decode cX0_orderedPoints 68 = .ok (.istore 5, 2) := by decide +kernel
theorem dX0_orderedPoints_70 : decode cX0_orderedPoints 70 = .ok (.iconst 0, 1) := by decide +kernel
theorem dX0_orderedPoints_71 : decode cX0_orderedPoints 71 = .ok (.istore 6, 2) := by decide +kernel
theorem dX0_orderedPoints_73 : decode cX0_orderedPoints 73 = .ok (.iload 6, 2) := by decide +kernel
theorem dX0_orderedPoints_75 : decode cX0_orderedPoints 75 = .ok (.iload 4, 2) := by decide +kernel
theorem dX0_orderedPoints_77 : decode cX0_orderedPoints 77 = .ok (.if_icmp .ge 60, 3) := by decide +kernel
theorem dX0_orderedPoints_80 : decode cX0_orderedPoints 80 = .ok (.aload_n 0, 1) := by decide +kernel
theorem dX0_orderedPoints_81 : decode cX0_orderedPoints 81 = .ok (.getfield 30, 3) := by decide +kernel
theorem dX0_orderedPoints_84 : decode cX0_orderedPoints 84 = .ok (.iload 6, 2) := by decide +kernel
theorem dX0_orderedPoints_86 : decode cX0_orderedPoints 86 = .ok (.invokestatic 67, 3) := by decide +kernel
theorem dX0_orderedPoints_89 : decode cX0_orderedPoints 89 = .ok (.istore 7, 2) := by decide +kernel
theorem dX0_orderedPoints_91 : decode cX0_orderedPoints 91 = .ok (.iload 4, 2) := by decide +kernel
theorem dX0_orderedPoints_93 : decode cX0_orderedPoints 93 = .ok (.iload_n 2, 1) := by decide +kernel
theorem dX0_orderedPoints_94 : decode cX0_orderedPoints 94 = .ok (.if_icmp .eq 25, 3) := by decide +kernel
theorem dX0_orderedPoints_97 : decode cX0_orderedPoints 97 = .ok (.aload_n 0, 1) := by decide +kernel
theorem dX0_orderedPoints_98 : decode cX0_orderedPoints 98 = .ok (.iload 7, 2) := by decide +kernel
theorem dX0_orderedPoints_100 : decode cX0_orderedPoints 100 = .ok (.invokevirtual 86, 3) := by decide +kernel
theorem dX0_orderedPoints_103 : decode cX0_orderedPoints 103 = .ok (.aload_n 0, 1) := by decide +kernel
theorem dX0_orderedPoints_104 : decode cX0_orderedPoints 104 = .ok (.aload_n 0, 1) := by decide +kernel
theorem dX0_orderedPoints_105 : decode cX0_orderedPoints 105 = .ok (.getfield 30, 3) := by decide +kernel
theorem dX0_orderedPoints_108 : decode cX0_orderedPoints 108 = .ok (.iload 4, 2) := by decide +kernel
theorem dX0_orderedPoints_110 : decode cX0_orderedPoints 110 = .ok (.invokestatic 67, 3) := by decide +kernel
theorem dX0_orderedPoints_113 : decode cX0_orderedPoints 113 = .ok (.invokevirtual 86, 3) := by decide +kernel
theorem dX0_orderedPoints_116 : decode cX0_orderedPoints 116 = .ok (.if_icmp .ge 15, 3) := by decide +kernel
theorem dX0_orderedPoints_119 : decode cX0_orderedPoints 119 = .ok (.iload 5, 2) := by decide +kernel
theorem dX0_orderedPoints_121 : decode cX0_orderedPoints 121 = .ok (.aload_n 0, 1) := by decide +kernel
theorem dX0_orderedPoints_122 : decode cX0_orderedPoints 122 = .ok (.iload 7, 2) := by decide +kernel
theorem dX0_orderedPoints_124 : decode cX0_orderedPoints 124 = .ok (.iload_n 1, 1) := by decide +kernel
theorem dX0_orderedPoints_125 : decode cX0_orderedPoints 125 = .ok (.invokevirtual 96, 3) := by decide +kernel
theorem dX0_orderedPoints_128 : decode cX0_orderedPoints 128 = .ok (.iadd, 1) := by decide +kernel
theorem dX0_orderedPoints_129 : decode cX0_orderedPoints 129 = .ok (.istore 5, 2) := by decide +kernel
theorem dX0_orderedPoints_131 : decode cX0_orderedPoints 131 = .ok (.iinc 6 1, 3) := by decide +kernel
theorem dX0_orderedPoints_134 : decode cX0_orderedPoints 134 = .ok (.goto (-61), 3) := by decide +kernel
theorem dX0_orderedPoints_137 : decode cX0_orderedPoints 137 = .ok (.iload 5, 2) := by decide +kernel
theorem dX0_orderedPoints_139 : decode cX0_orderedPoints 139 = .ok (.ireturn, 1) := by decide +kernel
def f_X0_orderedPoints (N : Nat) (g : GV) (p1 : Int32) : Option (Int32 × GV) :=
  (f_X0_isJackLost N g).bind (fun o1 => jn (fun (s15 : Int32 × GV) => (f_X5_at N 8 (G_order s15.2) (0 : Int32)).bind (fun o4 => (f_X5_at N 8 (G_sides s15.2) o4).bind (fun o6 => lpN (fun (s35 : Int32) (k35 : (Int32) → Option (Int32 × GV)) => jn (fun (s67 : Unit) => lpN (fun (s73 : Int32 × Int32) (k73 : (Int32 × Int32) → Option (Int32 × GV)) => (if s35 ≤ s73.2 then some (s73.1, s15.2) else (f_X5_at N 8 (G_order s15.2) s73.2).bind (fun o9 => jn (fun (s131 : Int32) => k73 (s131, (s73.2 + (1 : Int32)))) (fun (j131 : (Int32) → Option (Int32 × GV)) => jn (fun (s119 : Unit) => (f_X0_worth N s15.2 o9 p1).bind (fun o11 => j131 (s73.1 + o11))) (fun (j119 : (Unit) → Option (Int32 × GV)) => (if s35 = s15.1 then j119 () else (f_X0_distance N s15.2 o9).bind (fun o14 => (f_X5_at N 8 (G_order s15.2) s35).bind (fun o16 => (f_X0_distance N s15.2 o16).bind (fun o18 => (if o18 ≤ o14 then j131 s73.1 else j119 ())))))))))) N ((0 : Int32), (0 : Int32))) (fun (j67 : (Unit) → Option (Int32 × GV)) => (if s15.1 ≤ s35 then j67 () else (f_X5_at N 8 (G_order s15.2) s35).bind (fun o22 => (f_X5_at N 8 (G_sides s15.2) o22).bind (fun o24 => (if o24 = o6 then k35 (s35 + (1 : Int32)) else j67 ())))))) N (0 : Int32)))) (fun (j15 : (Int32 × GV) → Option (Int32 × GV)) => (if o1 = 0 then (f_X0_sortByDistance N g).bind (fun o28 => j15 (o28.1, o28.2)) else j15 ((0 : Int32), g))))
set_option maxHeartbeats 4000000 in
set_option maxRecDepth 100000 in
theorem met_X0_orderedPoints (l : Launch) (dC : Nat → ClassId) (dI : Nat → Nat → Nat) (cyI cyO : ClassId) (a : Nat → Nat) (sz : Nat) (N : Nat) (g : GV) (p1 : Int32) (out : Int32 × GV) (hF : f_X0_orderedPoints N g p1 = some out) : Met l yX0_orderedPoints (Cond.code yX0_orderedPoints cX0_orderedPoints 8 (some .int) :: wT) ({ frames := 3, cells := 0, slots := 0, locals := 67 } : Room) (wWr dC dI cyI cyO [.ref (a 1), .int p1] (cG cyI a g) sz) (va_Qi (fun (r : Int32) (u : GV) => (r, u) = out) (fun u t => va_P (dC, dI) vwCl (cG cyI a u) t.heap ∧ va_D (va_A (cG cyI a g) sz) (cG cyI a u)) (va_A (cG cyI a g) sz)) 0 0 (va_A (cG cyI a g) sz) := by
  refine Met.ofW (cc := cX0_orderedPoints) (maxL := 8) (ret := (some .int)) (by decide) rfl ?_
  intro p e s m args below meth c s₁ B hml hv
  obtain ⟨rfl, hsz, hP, hK, hD0⟩ := hv
  have hx := B.exec
  have hb := B.bytes
  have hr := B.returns
  have hts0 := atoms_spec (ws := (Cond.code yX0_orderedPoints cX0_orderedPoints 8 (some .int) :: wT)) B.pre
  have hts := fun w h => hts0 w (List.mem_cons_of_mem _ h)
  clear hts0
  have hown : s.vm.findClass RX0 = some m.cls := findClass_of_methodNamed B.named
  have hlocks := B.notSynchronized
  subst hsz
  have hD := hD0.self (sz := s.heap.size)
  generalize hAe : va_A (cG cyI a g) s.heap.size = A at hD ⊢
  have hA : ∀ q : Nat, s.heap.size ≤ q → A q := fun q h => by rw [← hAe]; exact Or.inr h
  clear hD0
  have hS : va_S A s.heap s.heap [] := va_S.rf
  have hl := lv_entry [.ref (a 1), .int p1] (n := 8) (Nat.le_of_ble_eq_true rfl)
  rw [lg_entry_eq]
  generalize (lg_sl [.ref (a 1), .int p1] ++ List.replicate (8 - (lg_sl [.ref (a 1), .int p1]).length) Slot.unset).toArray = ls at hl ⊢
  have hl : lv_has ls 8 [(0, .ref (a 1)), (1, .int p1)] := hl
  unfold f_X0_orderedPoints at hF
  refine lv_aload_n hx hb dX0_orderedPoints_0 rfl (lv_at hl 0 rfl) ?_
  obtain ⟨o1, h2, hF⟩ := obd hF
  refine wcRVi (As := []) (rest := []) (b := (a 1)) ⟨hx, hb, hml, hown, hts⟩ (met_X0_isJackLost l dC dI cyI cyO a N g  o1 h2) (cwV 0 hts (gV w_methodLink_X0_89 w_instanceMethod_X0_isJackLost w_selects_X0_isJackLost w_initialized_X0 w_code_X0_isJackLost) rfl rfl rfl (by decide +kernel) ⟨Nat.le_of_ble_eq_true rfl, Nat.le_of_ble_eq_true rfl⟩) (va_recv hK.1 hP (ci := 0) (q0 := 0) rfl rfl) hP hK [0, 1, 2, 3, 4, 5, 6, 7] rfl rfl hl.1 (Nat.le_of_ble_eq_true rfl) dX0_orderedPoints_1 ⟨Nat.le_of_ble_eq_true rfl, Nat.le_of_ble_eq_true rfl⟩ hS (fun r H locs hw hP hS => ?_)
  obtain ⟨hw, hz3⟩ := hw
  have hw := hw.symm
  subst hw
  obtain ⟨j15, hj15, hF⟩ := jn_use hF
  have hJ15 : ∀ (s15 : Int32 × GV) (H : Heap) (locs : List Loc) (ls : Array Slot), va_P (dC, dI) vwCl (cG cyI a s15.2) H → va_D A (cG cyI a s15.2) → va_S A s.heap H locs → lv_has ls 8 [(0, .ref (a 1)), (1, .int p1)] → j15 s15 = some out → W p l e (headSpec (Cond.code yX0_orderedPoints cX0_orderedPoints 8 (some .int) :: wT) ({ frames := 3, cells := 0, slots := 0, locals := 67 } : Room)).room s m ([.ref (a 1), .int p1] : List Value).toArray below meth c H locs 0 0 (MQ below (va_Qi (fun (r : Int32) (u : GV) => (r, u) = out) (fun u t => va_P (dC, dI) vwCl (cG cyI a u) t.heap ∧ va_D A (cG cyI a u)) A) ([.ref (a 1), .int p1] : List Value).toArray s 0 0 A) (F0 m 15 ls [.int s15.1]) := by
    intro s15 H locs ls hP hD hS hl hF
    have hF := (congrFun hj15 s15).symm.trans hF
    refine lv_istore_n (lv' := [(2, .int s15.1), (0, .ref (a 1)), (1, .int p1)]) hx hb dX0_orderedPoints_15 rfl hl (by decide) rfl (fun ls hl => ?_)
    refine lv_aload_n hx hb dX0_orderedPoints_16 rfl (lv_at hl 1 rfl) ?_
    refine va_get (D := (dC, dI)) (ci := 0) (v := .ref (a 3)) (C := RX0) (T := TX0) (N := 9) hx hb hts inX0 hown hK.1 hP 0 rfl rfl 1 (by decide) (hts _ w_fieldLink_X0_15) (fun _ h9 => h9) rfl dX0_orderedPoints_17 ?_
    refine lv_aload_n hx hb dX0_orderedPoints_20 rfl (lv_at hl 1 rfl) ?_
    refine va_get (D := (dC, dI)) (ci := 0) (v := .ref (a 8)) (C := RX0) (T := TX0) (N := 9) hx hb hts inX0 hown hK.1 hP 0 rfl rfl 6 (by decide) (hts _ w_fieldLink_X0_30) (fun _ h9 => h9) rfl dX0_orderedPoints_21 ?_
    refine lv_iconst (v := 0) hx hb dX0_orderedPoints_24 (by decide) ?_
    obtain ⟨o4, h5, hF⟩ := obd hF
    refine wcRNi (As := [.ref (a 8), .int (0 : Int32)]) (rest := [.ref (a 3)]) ⟨hx, hb, hml, hown, hts⟩ (met_X5_at l dC dI cyI cyO (a 8) 8 N (G_order s15.2) (0 : Int32) o4 h5) ⟨va_cnB 2 hts (gCode w_code_X5_at) rfl rfl rfl (hK.2 _ n_X0_67) (hts _ w_initialized_X5) (by decide +kernel) ⟨Nat.le_of_ble_eq_true rfl, Nat.le_of_ble_eq_true rfl⟩, hts _ w_static_X5_at, trivial⟩ hP hK [7] rfl rfl hl.1 (Nat.le_of_ble_eq_true rfl) dX0_orderedPoints_25 ⟨Nat.le_of_ble_eq_true rfl, Nat.le_of_ble_eq_true rfl⟩ hS (fun r H locs hw hP hS => ?_)
    have hw := hw.symm
    subst hw
    obtain ⟨o6, h7, hF⟩ := obd hF
    refine wcRNi (As := [.ref (a 3), .int o4]) (rest := []) ⟨hx, hb, hml, hown, hts⟩ (met_X5_at l dC dI cyI cyO (a 3) 8 N (G_sides s15.2) o4 o6 h7) ⟨va_cnB 2 hts (gCode w_code_X5_at) rfl rfl rfl (hK.2 _ n_X0_67) (hts _ w_initialized_X5) (by decide +kernel) ⟨Nat.le_of_ble_eq_true rfl, Nat.le_of_ble_eq_true rfl⟩, hts _ w_static_X5_at, trivial⟩ hP hK [2] rfl rfl hl.1 (Nat.le_of_ble_eq_true rfl) dX0_orderedPoints_28 ⟨Nat.le_of_ble_eq_true rfl, Nat.le_of_ble_eq_true rfl⟩ hS (fun r H locs hw hP hS => ?_)
    have hw := hw.symm
    subst hw
    refine lv_istore_n (lv' := [(3, .int o6), (2, .int s15.1), (0, .ref (a 1)), (1, .int p1)]) hx hb dX0_orderedPoints_31 rfl hl (by decide) rfl (fun ls hl => ?_)
    refine lv_iconst (v := 0) hx hb dX0_orderedPoints_32 (by decide) ?_
    refine lv_istore (lv' := [(4, .int (0 : Int32)), (3, .int o6), (2, .int s15.1), (0, .ref (a 1)), (1, .int p1)]) hx hb dX0_orderedPoints_33 hl (by decide) rfl (fun ls hl => ?_)
    obtain ⟨st35, hst35, hF⟩ := lpN_use hF
    have hL35 : ∀ (n : Nat) (s35 : Int32) (H : Heap) (locs : List Loc) (ls : Array Slot), va_P (dC, dI) vwCl (cG cyI a s15.2) H → va_D A (cG cyI a s15.2) → va_S A s.heap H locs → lv_has ls 8 [(0, .ref (a 1)), (1, .int p1), (2, .int s15.1), (3, .int o6), (4, .int s35)] → lpN st35 n s35 = some out → W p l e (headSpec (Cond.code yX0_orderedPoints cX0_orderedPoints 8 (some .int) :: wT) ({ frames := 3, cells := 0, slots := 0, locals := 67 } : Room)).room s m ([.ref (a 1), .int p1] : List Value).toArray below meth c H locs 0 0 (MQ below (va_Qi (fun (r : Int32) (u : GV) => (r, u) = out) (fun u t => va_P (dC, dI) vwCl (cG cyI a u) t.heap ∧ va_D A (cG cyI a u)) A) ([.ref (a 1), .int p1] : List Value).toArray s 0 0 A) (F0 m 35 ls []) := by
      intro n
      induction n with
      | zero => intro s35 H locs ls hP hD hS hl hF; exact lpN_0 hF
      | succ n ih35 =>
        intro s35 H locs ls hP hD hS hl hF
        have hF := (congrFun (congrFun hst35 s35) (lpN st35 n)).symm.trans (lpN_s hF)
        refine lv_iload hx hb dX0_orderedPoints_35 (lv_at hl 4 rfl) ?_
        refine lv_iload_n hx hb dX0_orderedPoints_37 rfl (lv_at hl 2 rfl) ?_
        obtain ⟨j67, hj67, hF⟩ := jn_use hF
        have hJ67 : ∀ (s67 : Unit) (H : Heap) (locs : List Loc) (ls : Array Slot), va_P (dC, dI) vwCl (cG cyI a s15.2) H → va_D A (cG cyI a s15.2) → va_S A s.heap H locs → lv_has ls 8 [(0, .ref (a 1)), (1, .int p1), (2, .int s15.1), (4, .int s35)] → j67 s67 = some out → W p l e (headSpec (Cond.code yX0_orderedPoints cX0_orderedPoints 8 (some .int) :: wT) ({ frames := 3, cells := 0, slots := 0, locals := 67 } : Room)).room s m ([.ref (a 1), .int p1] : List Value).toArray below meth c H locs 0 0 (MQ below (va_Qi (fun (r : Int32) (u : GV) => (r, u) = out) (fun u t => va_P (dC, dI) vwCl (cG cyI a u) t.heap ∧ va_D A (cG cyI a u)) A) ([.ref (a 1), .int p1] : List Value).toArray s 0 0 A) (F0 m 67 ls []) := by
          intro s67 H locs ls hP hD hS hl hF
          have hF := (congrFun hj67 s67).symm.trans hF
          refine lv_iconst (v := 0) hx hb dX0_orderedPoints_67 (by decide) ?_
          refine lv_istore (lv' := [(5, .int (0 : Int32)), (0, .ref (a 1)), (1, .int p1), (2, .int s15.1), (4, .int s35)]) hx hb dX0_orderedPoints_68 hl (by decide) rfl (fun ls hl => ?_)
          refine lv_iconst (v := 0) hx hb dX0_orderedPoints_70 (by decide) ?_
          refine lv_istore (lv' := [(6, .int (0 : Int32)), (5, .int (0 : Int32)), (0, .ref (a 1)), (1, .int p1), (2, .int s15.1), (4, .int s35)]) hx hb dX0_orderedPoints_71 hl (by decide) rfl (fun ls hl => ?_)
          obtain ⟨st73, hst73, hF⟩ := lpN_use hF
          have hL73 : ∀ (n : Nat) (s73 : Int32 × Int32) (H : Heap) (locs : List Loc) (ls : Array Slot), va_P (dC, dI) vwCl (cG cyI a s15.2) H → va_D A (cG cyI a s15.2) → va_S A s.heap H locs → lv_has ls 8 [(0, .ref (a 1)), (1, .int p1), (2, .int s15.1), (4, .int s35), (5, .int s73.1), (6, .int s73.2)] → lpN st73 n s73 = some out → W p l e (headSpec (Cond.code yX0_orderedPoints cX0_orderedPoints 8 (some .int) :: wT) ({ frames := 3, cells := 0, slots := 0, locals := 67 } : Room)).room s m ([.ref (a 1), .int p1] : List Value).toArray below meth c H locs 0 0 (MQ below (va_Qi (fun (r : Int32) (u : GV) => (r, u) = out) (fun u t => va_P (dC, dI) vwCl (cG cyI a u) t.heap ∧ va_D A (cG cyI a u)) A) ([.ref (a 1), .int p1] : List Value).toArray s 0 0 A) (F0 m 73 ls []) := by
            intro n
            induction n with
            | zero => intro s73 H locs ls hP hD hS hl hF; exact lpN_0 hF
            | succ n ih73 =>
              intro s73 H locs ls hP hD hS hl hF
              have hF := (congrFun (congrFun hst73 s73) (lpN st73 n)).symm.trans (lpN_s hF)
              refine lv_iload hx hb dX0_orderedPoints_73 (lv_at hl 5 rfl) ?_
              refine lv_iload hx hb dX0_orderedPoints_75 (lv_at hl 3 rfl) ?_
              refine lv_icmp_ge (tgt := 137) hx hb dX0_orderedPoints_77 (by decide) (fun c8 => ?_) (fun c8 => ?_)
              · have hF := itp c8 hF
                refine lv_iload hx hb dX0_orderedPoints_137 (lv_at hl 4 rfl) ?_
                exact W.iret (v := s73.1) hx hb hr (fun t ht hW => ⟨⟨_, s15.2, rfl, Option.some.inj hF, by rw [ht]; exact hP, hD⟩, hS.F ht⟩) hS.2.2 dX0_orderedPoints_139
              · have hF := itn c8 hF
                refine lv_aload_n hx hb dX0_orderedPoints_80 rfl (lv_at hl 0 rfl) ?_
                refine va_get (D := (dC, dI)) (ci := 0) (v := .ref (a 8)) (C := RX0) (T := TX0) (N := 9) hx hb hts inX0 hown hK.1 hP 0 rfl rfl 6 (by decide) (hts _ w_fieldLink_X0_30) (fun _ h9 => h9) rfl dX0_orderedPoints_81 ?_
                refine lv_iload hx hb dX0_orderedPoints_84 (lv_at hl 5 rfl) ?_
                obtain ⟨o9, h10, hF⟩ := obd hF
                refine wcRNi (As := [.ref (a 8), .int s73.2]) (rest := []) ⟨hx, hb, hml, hown, hts⟩ (met_X5_at l dC dI cyI cyO (a 8) 8 N (G_order s15.2) s73.2 o9 h10) ⟨va_cnB 2 hts (gCode w_code_X5_at) rfl rfl rfl (hK.2 _ n_X0_67) (hts _ w_initialized_X5) (by decide +kernel) ⟨Nat.le_of_ble_eq_true rfl, Nat.le_of_ble_eq_true rfl⟩, hts _ w_static_X5_at, trivial⟩ hP hK [7] rfl rfl hl.1 (Nat.le_of_ble_eq_true rfl) dX0_orderedPoints_86 ⟨Nat.le_of_ble_eq_true rfl, Nat.le_of_ble_eq_true rfl⟩ hS (fun r H locs hw hP hS => ?_)
                have hw := hw.symm
                subst hw
                refine lv_istore (lv' := [(7, .int o9), (0, .ref (a 1)), (1, .int p1), (2, .int s15.1), (4, .int s35), (5, .int s73.1), (6, .int s73.2)]) hx hb dX0_orderedPoints_89 hl (by decide) rfl (fun ls hl => ?_)
                refine lv_iload hx hb dX0_orderedPoints_91 (lv_at hl 4 rfl) ?_
                refine lv_iload_n hx hb dX0_orderedPoints_93 rfl (lv_at hl 3 rfl) ?_
                obtain ⟨j131, hj131, hF⟩ := jn_use hF
                have hJ131 : ∀ (s131 : Int32) (H : Heap) (locs : List Loc) (ls : Array Slot), va_P (dC, dI) vwCl (cG cyI a s15.2) H → va_D A (cG cyI a s15.2) → va_S A s.heap H locs → lv_has ls 8 [(0, .ref (a 1)), (1, .int p1), (2, .int s15.1), (4, .int s35), (5, .int s131), (6, .int s73.2)] → j131 s131 = some out → W p l e (headSpec (Cond.code yX0_orderedPoints cX0_orderedPoints 8 (some .int) :: wT) ({ frames := 3, cells := 0, slots := 0, locals := 67 } : Room)).room s m ([.ref (a 1), .int p1] : List Value).toArray below meth c H locs 0 0 (MQ below (va_Qi (fun (r : Int32) (u : GV) => (r, u) = out) (fun u t => va_P (dC, dI) vwCl (cG cyI a u) t.heap ∧ va_D A (cG cyI a u)) A) ([.ref (a 1), .int p1] : List Value).toArray s 0 0 A) (F0 m 131 ls []) := by
                  intro s131 H locs ls hP hD hS hl hF
                  have hF := (congrFun hj131 s131).symm.trans hF
                  refine lv_iinc (v := (s73.2 + (1 : Int32))) (lv' := [(6, .int (s73.2 + (1 : Int32))), (0, .ref (a 1)), (1, .int p1), (2, .int s15.1), (4, .int s35), (5, .int s131)]) hx hb dX0_orderedPoints_131 hl (k := 5) rfl rfl (by decide) rfl (fun ls hl => ?_)
                  refine lv_goto (tgt := 73) hx hb dX0_orderedPoints_134 (by decide) ?_
                  exact ih73 (s131, (s73.2 + (1 : Int32))) _ _ _ hP hD hS (lv_sub hl [1, 2, 3, 4, 5, 0] rfl) hF
                obtain ⟨j119, hj119, hF⟩ := jn_use hF
                have hJ119 : ∀ (s119 : Unit) (H : Heap) (locs : List Loc) (ls : Array Slot), va_P (dC, dI) vwCl (cG cyI a s15.2) H → va_D A (cG cyI a s15.2) → va_S A s.heap H locs → lv_has ls 8 [(0, .ref (a 1)), (1, .int p1), (2, .int s15.1), (4, .int s35), (5, .int s73.1), (6, .int s73.2), (7, .int o9)] → j119 s119 = some out → W p l e (headSpec (Cond.code yX0_orderedPoints cX0_orderedPoints 8 (some .int) :: wT) ({ frames := 3, cells := 0, slots := 0, locals := 67 } : Room)).room s m ([.ref (a 1), .int p1] : List Value).toArray below meth c H locs 0 0 (MQ below (va_Qi (fun (r : Int32) (u : GV) => (r, u) = out) (fun u t => va_P (dC, dI) vwCl (cG cyI a u) t.heap ∧ va_D A (cG cyI a u)) A) ([.ref (a 1), .int p1] : List Value).toArray s 0 0 A) (F0 m 119 ls []) := by
                  intro s119 H locs ls hP hD hS hl hF
                  have hF := (congrFun hj119 s119).symm.trans hF
                  refine lv_iload hx hb dX0_orderedPoints_119 (lv_at hl 4 rfl) ?_
                  refine lv_aload_n hx hb dX0_orderedPoints_121 rfl (lv_at hl 0 rfl) ?_
                  refine lv_iload hx hb dX0_orderedPoints_122 (lv_at hl 6 rfl) ?_
                  refine lv_iload_n hx hb dX0_orderedPoints_124 rfl (lv_at hl 1 rfl) ?_
                  obtain ⟨o11, h12, hF⟩ := obd hF
                  refine wcRVi (As := [.int o9, .int p1]) (rest := [.int s73.1]) (b := (a 1)) ⟨hx, hb, hml, hown, hts⟩ (met_X0_worth l dC dI cyI cyO a N s15.2 o9 p1 o11 h12) (cwV 2 hts (gV w_methodLink_X0_96 w_instanceMethod_X0_worth w_selects_X0_worth w_initialized_X0 w_code_X0_worth) rfl rfl rfl (by decide +kernel) ⟨Nat.le_of_ble_eq_true rfl, Nat.le_of_ble_eq_true rfl⟩) (va_recv hK.1 hP (ci := 0) (q0 := 0) rfl rfl) hP hK [0, 1, 2, 3, 4, 5, 6, 7] rfl rfl hl.1 (Nat.le_of_ble_eq_true rfl) dX0_orderedPoints_125 ⟨Nat.le_of_ble_eq_true rfl, Nat.le_of_ble_eq_true rfl⟩ hS (fun r H locs hw hP hS => ?_)
                  have hw := hw.symm
                  subst hw
                  refine lv_iadd hx hb dX0_orderedPoints_128 ?_
                  refine lv_istore (lv' := [(5, .int (s73.1 + o11)), (0, .ref (a 1)), (1, .int p1), (2, .int s15.1), (4, .int s35), (6, .int s73.2), (7, .int o9)]) hx hb dX0_orderedPoints_129 hl (by decide) rfl (fun ls hl => ?_)
                  exact hJ131 (s73.1 + o11) _ _ _ hP hD hS (lv_sub hl [1, 2, 3, 4, 0, 5] rfl) hF
                refine lv_icmp_eq (tgt := 119) hx hb dX0_orderedPoints_94 (by decide) (fun c13 => ?_) (fun c13 => ?_)
                · have hF := itp c13 hF
                  exact hJ119 () _ _ _ hP hD hS (lv_sub hl [1, 2, 3, 4, 5, 6, 0] rfl) hF
                · have hF := itn c13 hF
                  refine lv_aload_n hx hb dX0_orderedPoints_97 rfl (lv_at hl 1 rfl) ?_
                  refine lv_iload hx hb dX0_orderedPoints_98 (lv_at hl 0 rfl) ?_
                  obtain ⟨o14, h15, hF⟩ := obd hF
                  refine wcRVi (As := [.int o9]) (rest := []) (b := (a 1)) ⟨hx, hb, hml, hown, hts⟩ (met_X0_distance l dC dI cyI cyO a N s15.2 o9 o14 h15) (cwV 1 hts (gV w_methodLink_X0_86 w_instanceMethod_X0_distance w_selects_X0_distance w_initialized_X0 w_code_X0_distance) rfl rfl rfl (by decide +kernel) ⟨Nat.le_of_ble_eq_true rfl, Nat.le_of_ble_eq_true rfl⟩) (va_recv hK.1 hP (ci := 0) (q0 := 0) rfl rfl) hP hK [0, 1, 2, 3, 4, 5, 6, 7] rfl rfl hl.1 (Nat.le_of_ble_eq_true rfl) dX0_orderedPoints_100 ⟨Nat.le_of_ble_eq_true rfl, Nat.le_of_ble_eq_true rfl⟩ hS (fun r H locs hw hP hS => ?_)
                  have hw := hw.symm
                  subst hw
                  refine lv_aload_n hx hb dX0_orderedPoints_103 rfl (lv_at hl 1 rfl) ?_
                  refine lv_aload_n hx hb dX0_orderedPoints_104 rfl (lv_at hl 1 rfl) ?_
                  refine va_get (D := (dC, dI)) (ci := 0) (v := .ref (a 8)) (C := RX0) (T := TX0) (N := 9) hx hb hts inX0 hown hK.1 hP 0 rfl rfl 6 (by decide) (hts _ w_fieldLink_X0_30) (fun _ h9 => h9) rfl dX0_orderedPoints_105 ?_
                  refine lv_iload hx hb dX0_orderedPoints_108 (lv_at hl 4 rfl) ?_
                  obtain ⟨o16, h17, hF⟩ := obd hF
                  refine wcRNi (As := [.ref (a 8), .int s35]) (rest := [.ref (a 1), .int o14]) ⟨hx, hb, hml, hown, hts⟩ (met_X5_at l dC dI cyI cyO (a 8) 8 N (G_order s15.2) s35 o16 h17) ⟨va_cnB 2 hts (gCode w_code_X5_at) rfl rfl rfl (hK.2 _ n_X0_67) (hts _ w_initialized_X5) (by decide +kernel) ⟨Nat.le_of_ble_eq_true rfl, Nat.le_of_ble_eq_true rfl⟩, hts _ w_static_X5_at, trivial⟩ hP hK [7] rfl rfl hl.1 (Nat.le_of_ble_eq_true rfl) dX0_orderedPoints_110 ⟨Nat.le_of_ble_eq_true rfl, Nat.le_of_ble_eq_true rfl⟩ hS (fun r H locs hw hP hS => ?_)
                  have hw := hw.symm
                  subst hw
                  obtain ⟨o18, h19, hF⟩ := obd hF
                  refine wcRVi (As := [.int o16]) (rest := [.int o14]) (b := (a 1)) ⟨hx, hb, hml, hown, hts⟩ (met_X0_distance l dC dI cyI cyO a N s15.2 o16 o18 h19) (cwV 1 hts (gV w_methodLink_X0_86 w_instanceMethod_X0_distance w_selects_X0_distance w_initialized_X0 w_code_X0_distance) rfl rfl rfl (by decide +kernel) ⟨Nat.le_of_ble_eq_true rfl, Nat.le_of_ble_eq_true rfl⟩) (va_recv hK.1 hP (ci := 0) (q0 := 0) rfl rfl) hP hK [0, 1, 2, 3, 4, 5, 6, 7] rfl rfl hl.1 (Nat.le_of_ble_eq_true rfl) dX0_orderedPoints_113 ⟨Nat.le_of_ble_eq_true rfl, Nat.le_of_ble_eq_true rfl⟩ hS (fun r H locs hw hP hS => ?_)
                  have hw := hw.symm
                  subst hw
                  refine lv_icmp_ge (tgt := 131) hx hb dX0_orderedPoints_116 (by decide) (fun c20 => ?_) (fun c20 => ?_)
                  · have hF := itp c20 hF
                    exact hJ131 s73.1 _ _ _ hP hD hS (lv_sub hl [1, 2, 3, 4, 5, 6] rfl) hF
                  · have hF := itn c20 hF
                    exact hJ119 () _ _ _ hP hD hS (lv_sub hl [1, 2, 3, 4, 5, 6, 0] rfl) hF
          exact hL73 N ((0 : Int32), (0 : Int32)) _ _ _ hP hD hS (lv_sub hl [2, 3, 4, 5, 1, 0] rfl) hF
        refine lv_icmp_ge (tgt := 67) hx hb dX0_orderedPoints_38 (by decide) (fun c21 => ?_) (fun c21 => ?_)
        · have hF := itp c21 hF
          exact hJ67 () _ _ _ hP hD hS (lv_sub hl [0, 1, 2, 4] rfl) hF
        · have hF := itn c21 hF
          refine lv_aload_n hx hb dX0_orderedPoints_41 rfl (lv_at hl 0 rfl) ?_
          refine va_get (D := (dC, dI)) (ci := 0) (v := .ref (a 3)) (C := RX0) (T := TX0) (N := 9) hx hb hts inX0 hown hK.1 hP 0 rfl rfl 1 (by decide) (hts _ w_fieldLink_X0_15) (fun _ h9 => h9) rfl dX0_orderedPoints_42 ?_
          refine lv_aload_n hx hb dX0_orderedPoints_45 rfl (lv_at hl 0 rfl) ?_
          refine va_get (D := (dC, dI)) (ci := 0) (v := .ref (a 8)) (C := RX0) (T := TX0) (N := 9) hx hb hts inX0 hown hK.1 hP 0 rfl rfl 6 (by decide) (hts _ w_fieldLink_X0_30) (fun _ h9 => h9) rfl dX0_orderedPoints_46 ?_
          refine lv_iload hx hb dX0_orderedPoints_49 (lv_at hl 4 rfl) ?_
          obtain ⟨o22, h23, hF⟩ := obd hF
          refine wcRNi (As := [.ref (a 8), .int s35]) (rest := [.ref (a 3)]) ⟨hx, hb, hml, hown, hts⟩ (met_X5_at l dC dI cyI cyO (a 8) 8 N (G_order s15.2) s35 o22 h23) ⟨va_cnB 2 hts (gCode w_code_X5_at) rfl rfl rfl (hK.2 _ n_X0_67) (hts _ w_initialized_X5) (by decide +kernel) ⟨Nat.le_of_ble_eq_true rfl, Nat.le_of_ble_eq_true rfl⟩, hts _ w_static_X5_at, trivial⟩ hP hK [7] rfl rfl hl.1 (Nat.le_of_ble_eq_true rfl) dX0_orderedPoints_51 ⟨Nat.le_of_ble_eq_true rfl, Nat.le_of_ble_eq_true rfl⟩ hS (fun r H locs hw hP hS => ?_)
          have hw := hw.symm
          subst hw
          obtain ⟨o24, h25, hF⟩ := obd hF
          refine wcRNi (As := [.ref (a 3), .int o22]) (rest := []) ⟨hx, hb, hml, hown, hts⟩ (met_X5_at l dC dI cyI cyO (a 3) 8 N (G_sides s15.2) o22 o24 h25) ⟨va_cnB 2 hts (gCode w_code_X5_at) rfl rfl rfl (hK.2 _ n_X0_67) (hts _ w_initialized_X5) (by decide +kernel) ⟨Nat.le_of_ble_eq_true rfl, Nat.le_of_ble_eq_true rfl⟩, hts _ w_static_X5_at, trivial⟩ hP hK [2] rfl rfl hl.1 (Nat.le_of_ble_eq_true rfl) dX0_orderedPoints_54 ⟨Nat.le_of_ble_eq_true rfl, Nat.le_of_ble_eq_true rfl⟩ hS (fun r H locs hw hP hS => ?_)
          have hw := hw.symm
          subst hw
          refine lv_iload_n hx hb dX0_orderedPoints_57 rfl (lv_at hl 3 rfl) ?_
          refine lv_icmp_ne (tgt := 67) hx hb dX0_orderedPoints_58 (by decide) (fun c26 => ?_) (fun c26 => ?_)
          · have hF := itn c26 hF
            exact hJ67 () _ _ _ hP hD hS (lv_sub hl [0, 1, 2, 4] rfl) hF
          · have hF := itp c26 hF
            refine lv_iinc (v := (s35 + (1 : Int32))) (lv' := [(4, .int (s35 + (1 : Int32))), (0, .ref (a 1)), (1, .int p1), (2, .int s15.1), (3, .int o6)]) hx hb dX0_orderedPoints_61 hl (k := 4) rfl rfl (by decide) rfl (fun ls hl => ?_)
            refine lv_goto (tgt := 35) hx hb dX0_orderedPoints_64 (by decide) ?_
            exact ih35 (s35 + (1 : Int32)) _ _ _ hP hD hS (lv_sub hl [1, 2, 3, 4, 0] rfl) hF
    exact hL35 N (0 : Int32) _ _ _ hP hD hS (lv_sub hl [3, 4, 2, 1, 0] rfl) hF
  refine lv_if_eq (tgt := 11) hx hb dX0_orderedPoints_4 (by decide) (fun c27 => ?_) (fun c27 => ?_)
  · have hF := itp c27 hF
    refine lv_aload_n hx hb dX0_orderedPoints_11 rfl (lv_at hl 0 rfl) ?_
    obtain ⟨o28, h29, hF⟩ := obd hF
    refine wcWVi (As := []) (rest := []) (wr := []) (b := (a 1)) ⟨hx, hb, hml, hown, hts⟩ (met_X0_sortByDistance l dC dI cyI cyO a _ N g  o28 h29) (cwV 0 hts (gV w_methodLink_X0_92 w_instanceMethod_X0_sortByDistance w_selects_X0_sortByDistance w_initialized_X0 w_code_X0_sortByDistance) rfl rfl rfl (by decide +kernel) ⟨Nat.le_of_ble_eq_true rfl, Nat.le_of_ble_eq_true rfl⟩) (va_recv hK.1 hP (ci := 0) (q0 := 0) rfl rfl) hP hD hK [0, 1, 2, 3, 4, 5, 6, 7] [] rfl rfl (by decide) (by decide) (by decide) rfl hl.1 (Nat.le_of_ble_eq_true rfl) dX0_orderedPoints_12 ⟨Nat.le_of_ble_eq_true rfl, Nat.le_of_ble_eq_true rfl⟩ hS hA (fun r u H locs hw hP hD hS => ?_)
    obtain rfl : r = o28.1 := congrArg Prod.fst hw
    obtain rfl : u = o28.2 := congrArg Prod.snd hw
    clear hw
    have hP : va_P (dC, dI) vwCl (cG cyI a o28.2) H := hP
    have hD : va_D A (cG cyI a o28.2) := hD
    exact hJ15 (o28.1, o28.2) _ _ _ hP hD hS (lv_sub hl [0, 1] rfl) hF
  · have hF := itn c27 hF
    refine lv_iconst (v := 0) hx hb dX0_orderedPoints_7 (by decide) ?_
    refine lv_goto (tgt := 15) hx hb dX0_orderedPoints_8 (by decide) ?_
    exact hJ15 ((0 : Int32), g) _ _ _ hP hD hS (lv_sub hl [0, 1] rfl) hF
theorem dX0_isNearerThanOthers_0 : decode cX0_isNearerThanOthers 0 = .ok (.aload_n 0, 1) := by decide +kernel
theorem dX0_isNearerThanOthers_1 : decode cX0_isNearerThanOthers 1 = .ok (.iload_n 1, 1) := by decide +kernel
theorem dX0_isNearerThanOthers_2 : decode cX0_isNearerThanOthers 2 = .ok (.invokevirtual 48, 3) := by decide +kernel
theorem dX0_isNearerThanOthers_5 : decode cX0_isNearerThanOthers 5 = .ok (.ifCond .ne 5, 3) := by decide +kernel
theorem dX0_isNearerThanOthers_8 : decode cX0_isNearerThanOthers 8 = .ok (.iconst 0, 1) := by decide +kernel
theorem dX0_isNearerThanOthers_9 : decode cX0_isNearerThanOthers 9 = .ok (.ireturn, 1) := by decide +kernel
theorem dX0_isNearerThanOthers_10 : decode cX0_isNearerThanOthers 10 = .ok (.iconst 0, 1) := by decide +kernel
theorem dX0_isNearerThanOthers_11 : decode cX0_isNearerThanOthers 11 = .ok (.istore_n 2, 1) := by decide +kernel
theorem dX0_isNearerThanOthers_12 : decode cX0_isNearerThanOthers 12 = .ok (.iload_n 2, 1) := by decide +kernel
theorem dX0_isNearerThanOthers_13 : decode cX0_isNearerThanOthers 13 = .ok (.aload_n 0, 1) := by decide +kernel
theorem dX0_isNearerThanOthers_14 : decode cX0_isNearerThanOthers 14 = .ok (.getfield 33, 3) := by decide +kernel
theorem dX0_isNearerThanOthers_17 : decode cX0_isNearerThanOthers 17 = .ok (.if_icmp .ge 51, 3) := by decide +kernel
theorem dX0_isNearerThanOthers_20 : decode cX0_isNearerThanOthers 20 = .ok (.aload_n 0, 1) := by decide +kernel
theorem dX0_isNearerThanOthers_21 : decode cX0_isNearerThanOthers 21 = .ok (.getfield 15, 3) := by decide +kernel
theorem dX0_isNearerThanOthers_24 : decode cX0_isNearerThanOthers 24 = .ok (.iload_n 2, 1) := by decide +kernel
theorem dX0_isNearerThanOthers_25 : decode cX0_isNearerThanOthers 25 = .ok (.invokestatic 67, 3) := by decide +kernel
theorem dX0_isNearerThanOthers_28 : decode cX0_isNearerThanOthers 28 = .ok (.aload_n 0, 1) := by decide +kernel
theorem dX0_isNearerThanOthers_29 : decode cX0_isNearerThanOthers 29 = .ok (.getfield 15, 3) := by decide +kernel
theorem dX0_isNearerThanOthers_32 : decode cX0_isNearerThanOthers 32 = .ok (.iload_n 1, 1) := by decide +kernel
theorem dX0_isNearerThanOthers_33 : decode cX0_isNearerThanOthers 33 = .ok (.invokestatic 67, 3) := by decide +kernel
theorem dX0_isNearerThanOthers_36 : decode cX0_isNearerThanOthers 36 = .ok (.if_icmp .eq 26, 3) := by decide +kernel
theorem dX0_isNearerThanOthers_39 : decode cX0_isNearerThanOthers 39 = .ok (.aload_n 0, 1) := by decide +kernel
theorem dX0_isNearerThanOthers_40 : decode cX0_isNearerThanOthers 40 = .ok (.iload_n 2, 1) := by decide +kernel
theorem dX0_isNearerThanOthers_41 : decode cX0_isNearerThanOthers 41 = .ok (.invokevirtual 48, 3) := by decide +kernel
theorem dX0_isNearerThanOthers_44 : decode cX0_isNearerThanOthers 44 = .ok (.ifCond .eq 18, 3) := by decide +kernel
theorem dX0_isNearerThanOthers_47 : decode cX0_isNearerThanOthers 47 = .ok (.aload_n 0, 1) := by decide +kernel
theorem dX0_isNearerThanOthers_48 : decode cX0_isNearerThanOthers 48 = .ok (.iload_n 2, 1) := by decide +kernel
theorem dX0_isNearerThanOthers_49 : decode cX0_isNearerThanOthers 49 = .ok (.invokevirtual 86, 3) := by decide +kernel
theorem dX0_isNearerThanOthers_52 : decode cX0_isNearerThanOthers 52 = .ok (.aload_n 0, 1) := by decide +kernel
theorem dX0_isNearerThanOthers_53 : decode cX0_isNearerThanOthers 53 = .ok (.iload_n 1, 1) := by decide +kernel
theorem dX0_isNearerThanOthers_54 : decode cX0_isNearerThanOthers 54 = .ok (.invokevirtual 86, 3) := by decide +kernel
theorem dX0_isNearerThanOthers_57 : decode cX0_isNearerThanOthers 57 = .ok (.if_icmp .gt 5, 3) := by decide +kernel
theorem dX0_isNearerThanOthers_60 : decode cX0_isNearerThanOthers 60 = .ok (.iconst 0, 1) := by decide +kernel
theorem dX0_isNearerThanOthers_61 : decode cX0_isNearerThanOthers 61 = .ok (.ireturn, 1) := by decide +kernel
theorem dX0_isNearerThanOthers_62 : decode cX0_isNearerThanOthers 62 = .ok (.iinc 2 1, 3) := by decide +kernel
theorem dX0_isNearerThanOthers_65 : decode cX0_isNearerThanOthers 65 = .ok (.goto (-53), 3) := by decide +kernel
theorem dX0_isNearerThanOthers_68 : decode cX0_isNearerThanOthers 68 = .ok (.iconst 1, 1) := by decide +kernel
theorem dX0_isNearerThanOthers_69 : decode cX0_isNearerThanOthers 69 = .ok (.ireturn, 1) := by decide +kernel
def f_X0_isNearerThanOthers (N : Nat) (g : GV) (p1 : Int32) : Option (Int32) :=
  (f_X0_isAlive N g p1).bind (fun o1 => (if o1 = 0 then some (0 : Int32) else lpN (fun (s12 : Int32) (k12 : (Int32) → Option (Int32)) => (if (G_bowlCount g) ≤ s12 then some (1 : Int32) else (f_X5_at N 8 (G_sides g) s12).bind (fun o6 => (f_X5_at N 8 (G_sides g) p1).bind (fun o8 => jn (fun (s62 : Unit) => k12 (s12 + (1 : Int32))) (fun (j62 : (Unit) → Option (Int32)) => (if o6 = o8 then j62 () else (f_X0_isAlive N g s12).bind (fun o11 => (if o11 = 0 then j62 () else (f_X0_distance N g s12).bind (fun o15 => (f_X0_distance N g p1).bind (fun o17 => (if o17 < o15 then j62 () else some (0 : Int32)))))))))))) N (0 : Int32)))
set_option maxHeartbeats 4000000 in
set_option maxRecDepth 100000 in
theorem met_X0_isNearerThanOthers (l : Launch) (dC : Nat → ClassId) (dI : Nat → Nat → Nat) (cyI cyO : ClassId) (a : Nat → Nat) (N : Nat) (g : GV) (p1 : Int32) (out : Int32) (hF : f_X0_isNearerThanOthers N g p1 = some out) : Met l yX0_isNearerThanOthers (Cond.code yX0_isNearerThanOthers cX0_isNearerThanOthers 3 (some .boolean) :: wT) ({ frames := 2, cells := 0, slots := 0, locals := 44 } : Room) (wRd dC dI cyI cyO [.ref (a 1), .int p1] (cG cyI a g)) (va_Qi (fun (r : Int32) (_ : Unit) => r = out ∧ b01 r) (fun _ _ => True) wN0) 0 0 wN0 := by
  refine Met.ofW (cc := cX0_isNearerThanOthers) (maxL := 3) (ret := (some .boolean)) (by decide) rfl ?_
  intro p e s m args below meth c s₁ B hml hv
  obtain ⟨rfl, hP, hK⟩ := hv
  have hx := B.exec
  have hb := B.bytes
  have hr := B.returns
  have hts0 := atoms_spec (ws := (Cond.code yX0_isNearerThanOthers cX0_isNearerThanOthers 3 (some .boolean) :: wT)) B.pre
  have hts := fun w h => hts0 w (List.mem_cons_of_mem _ h)
  clear hts0
  have hown : s.vm.findClass RX0 = some m.cls := findClass_of_methodNamed B.named
  have hlocks := B.notSynchronized
  have hS : va_S wN0 s.heap s.heap [] := va_S.rf
  have hl := lv_entry [.ref (a 1), .int p1] (n := 3) (Nat.le_of_ble_eq_true rfl)
  rw [lg_entry_eq]
  generalize (lg_sl [.ref (a 1), .int p1] ++ List.replicate (3 - (lg_sl [.ref (a 1), .int p1]).length) Slot.unset).toArray = ls at hl ⊢
  have hl : lv_has ls 3 [(0, .ref (a 1)), (1, .int p1)] := hl
  unfold f_X0_isNearerThanOthers at hF
  refine lv_aload_n hx hb dX0_isNearerThanOthers_0 rfl (lv_at hl 0 rfl) ?_
  refine lv_iload_n hx hb dX0_isNearerThanOthers_1 rfl (lv_at hl 1 rfl) ?_
  obtain ⟨o1, h2, hF⟩ := obd hF
  refine wcRVi (As := [.int p1]) (rest := []) (b := (a 1)) ⟨hx, hb, hml, hown, hts⟩ (met_X0_isAlive l dC dI cyI cyO a N g p1 o1 h2) (cwV 1 hts (gV w_methodLink_X0_48 w_instanceMethod_X0_isAlive w_selects_X0_isAlive w_initialized_X0 w_code_X0_isAlive) rfl rfl rfl (by decide +kernel) ⟨Nat.le_of_ble_eq_true rfl, Nat.le_of_ble_eq_true rfl⟩) (va_recv hK.1 hP (ci := 0) (q0 := 0) rfl rfl) hP hK [0, 1, 2, 3, 4, 5, 6, 7] rfl rfl hl.1 (Nat.le_of_ble_eq_true rfl) dX0_isNearerThanOthers_2 ⟨Nat.le_of_ble_eq_true rfl, Nat.le_of_ble_eq_true rfl⟩ hS (fun r H locs hw hP hS => ?_)
  obtain ⟨hw, hz3⟩ := hw
  have hw := hw.symm
  subst hw
  refine lv_if_ne (tgt := 10) hx hb dX0_isNearerThanOthers_5 (by decide) (fun c4 => ?_) (fun c4 => ?_)
  · have hF := itn c4 hF
    refine lv_iconst (v := 0) hx hb dX0_isNearerThanOthers_10 (by decide) ?_
    refine lv_istore_n (lv' := [(2, .int (0 : Int32)), (0, .ref (a 1)), (1, .int p1)]) hx hb dX0_isNearerThanOthers_11 rfl hl (by decide) rfl (fun ls hl => ?_)
    obtain ⟨st12, hst12, hF⟩ := lpN_use hF
    have hL12 : ∀ (n : Nat) (s12 : Int32) (H : Heap) (locs : List Loc) (ls : Array Slot), va_P (dC, dI) vwCl (cG cyI a g) H → va_S wN0 s.heap H locs → lv_has ls 3 [(0, .ref (a 1)), (1, .int p1), (2, .int s12)] → lpN st12 n s12 = some out → W p l e (headSpec (Cond.code yX0_isNearerThanOthers cX0_isNearerThanOthers 3 (some .boolean) :: wT) ({ frames := 2, cells := 0, slots := 0, locals := 44 } : Room)).room s m ([.ref (a 1), .int p1] : List Value).toArray below meth c H locs 0 0 (MQ below (va_Qi (fun (r : Int32) (_ : Unit) => r = out ∧ b01 r) (fun _ _ => True) wN0) ([.ref (a 1), .int p1] : List Value).toArray s 0 0 wN0) (F0 m 12 ls []) := by
      intro n
      induction n with
      | zero => intro s12 H locs ls hP hS hl hF; exact lpN_0 hF
      | succ n ih12 =>
        intro s12 H locs ls hP hS hl hF
        have hF := (congrFun (congrFun hst12 s12) (lpN st12 n)).symm.trans (lpN_s hF)
        refine lv_iload_n hx hb dX0_isNearerThanOthers_12 rfl (lv_at hl 2 rfl) ?_
        refine lv_aload_n hx hb dX0_isNearerThanOthers_13 rfl (lv_at hl 0 rfl) ?_
        refine va_get (D := (dC, dI)) (ci := 0) (v := .int (G_bowlCount g)) (C := RX0) (T := TX0) (N := 9) hx hb hts inX0 hown hK.1 hP 0 rfl rfl 7 (by decide) (hts _ w_fieldLink_X0_33) (fun _ h9 => h9) rfl dX0_isNearerThanOthers_14 ?_
        refine lv_icmp_ge (tgt := 68) hx hb dX0_isNearerThanOthers_17 (by decide) (fun c5 => ?_) (fun c5 => ?_)
        · have hF := itp c5 hF
          refine lv_iconst (v := 1) hx hb dX0_isNearerThanOthers_68 (by decide) ?_
          exact W.zret (ty := .boolean) (v := (1 : Int32)) hx hb hr (b01_n b01_1) (fun t ht hW => ⟨⟨_, (), rfl, ⟨Option.some.inj hF, b01_1⟩, trivial⟩, hS.F ht⟩) hS.2.2 dX0_isNearerThanOthers_69
        · have hF := itn c5 hF
          refine lv_aload_n hx hb dX0_isNearerThanOthers_20 rfl (lv_at hl 0 rfl) ?_
          refine va_get (D := (dC, dI)) (ci := 0) (v := .ref (a 3)) (C := RX0) (T := TX0) (N := 9) hx hb hts inX0 hown hK.1 hP 0 rfl rfl 1 (by decide) (hts _ w_fieldLink_X0_15) (fun _ h9 => h9) rfl dX0_isNearerThanOthers_21 ?_
          refine lv_iload_n hx hb dX0_isNearerThanOthers_24 rfl (lv_at hl 2 rfl) ?_
          obtain ⟨o6, h7, hF⟩ := obd hF
          refine wcRNi (As := [.ref (a 3), .int s12]) (rest := []) ⟨hx, hb, hml, hown, hts⟩ (met_X5_at l dC dI cyI cyO (a 3) 8 N (G_sides g) s12 o6 h7) ⟨va_cnB 2 hts (gCode w_code_X5_at) rfl rfl rfl (hK.2 _ n_X0_67) (hts _ w_initialized_X5) (by decide +kernel) ⟨Nat.le_of_ble_eq_true rfl, Nat.le_of_ble_eq_true rfl⟩, hts _ w_static_X5_at, trivial⟩ hP hK [2] rfl rfl hl.1 (Nat.le_of_ble_eq_true rfl) dX0_isNearerThanOthers_25 ⟨Nat.le_of_ble_eq_true rfl, Nat.le_of_ble_eq_true rfl⟩ hS (fun r H locs hw hP hS => ?_)
          have hw := hw.symm
          subst hw
          refine lv_aload_n hx hb dX0_isNearerThanOthers_28 rfl (lv_at hl 0 rfl) ?_
          refine va_get (D := (dC, dI)) (ci := 0) (v := .ref (a 3)) (C := RX0) (T := TX0) (N := 9) hx hb hts inX0 hown hK.1 hP 0 rfl rfl 1 (by decide) (hts _ w_fieldLink_X0_15) (fun _ h9 => h9) rfl dX0_isNearerThanOthers_29 ?_
          refine lv_iload_n hx hb dX0_isNearerThanOthers_32 rfl (lv_at hl 1 rfl) ?_
          obtain ⟨o8, h9, hF⟩ := obd hF
          refine wcRNi (As := [.ref (a 3), .int p1]) (rest := [.int o6]) ⟨hx, hb, hml, hown, hts⟩ (met_X5_at l dC dI cyI cyO (a 3) 8 N (G_sides g) p1 o8 h9) ⟨va_cnB 2 hts (gCode w_code_X5_at) rfl rfl rfl (hK.2 _ n_X0_67) (hts _ w_initialized_X5) (by decide +kernel) ⟨Nat.le_of_ble_eq_true rfl, Nat.le_of_ble_eq_true rfl⟩, hts _ w_static_X5_at, trivial⟩ hP hK [2] rfl rfl hl.1 (Nat.le_of_ble_eq_true rfl) dX0_isNearerThanOthers_33 ⟨Nat.le_of_ble_eq_true rfl, Nat.le_of_ble_eq_true rfl⟩ hS (fun r H locs hw hP hS => ?_)
          have hw := hw.symm
          subst hw
          obtain ⟨j62, hj62, hF⟩ := jn_use hF
          have hJ62 : ∀ (s62 : Unit) (H : Heap) (locs : List Loc) (ls : Array Slot), va_P (dC, dI) vwCl (cG cyI a g) H → va_S wN0 s.heap H locs → lv_has ls 3 [(0, .ref (a 1)), (1, .int p1), (2, .int s12)] → j62 s62 = some out → W p l e (headSpec (Cond.code yX0_isNearerThanOthers cX0_isNearerThanOthers 3 (some .boolean) :: wT) ({ frames := 2, cells := 0, slots := 0, locals := 44 } : Room)).room s m ([.ref (a 1), .int p1] : List Value).toArray below meth c H locs 0 0 (MQ below (va_Qi (fun (r : Int32) (_ : Unit) => r = out ∧ b01 r) (fun _ _ => True) wN0) ([.ref (a 1), .int p1] : List Value).toArray s 0 0 wN0) (F0 m 62 ls []) := by
            intro s62 H locs ls hP hS hl hF
            have hF := (congrFun hj62 s62).symm.trans hF
            refine lv_iinc (v := (s12 + (1 : Int32))) (lv' := [(2, .int (s12 + (1 : Int32))), (0, .ref (a 1)), (1, .int p1)]) hx hb dX0_isNearerThanOthers_62 hl (k := 2) rfl rfl (by decide) rfl (fun ls hl => ?_)
            refine lv_goto (tgt := 12) hx hb dX0_isNearerThanOthers_65 (by decide) ?_
            exact ih12 (s12 + (1 : Int32)) _ _ _ hP hS (lv_sub hl [1, 2, 0] rfl) hF
          refine lv_icmp_eq (tgt := 62) hx hb dX0_isNearerThanOthers_36 (by decide) (fun c10 => ?_) (fun c10 => ?_)
          · have hF := itp c10 hF
            exact hJ62 () _ _ _ hP hS (lv_sub hl [0, 1, 2] rfl) hF
          · have hF := itn c10 hF
            refine lv_aload_n hx hb dX0_isNearerThanOthers_39 rfl (lv_at hl 0 rfl) ?_
            refine lv_iload_n hx hb dX0_isNearerThanOthers_40 rfl (lv_at hl 2 rfl) ?_
            obtain ⟨o11, h12, hF⟩ := obd hF
            refine wcRVi (As := [.int s12]) (rest := []) (b := (a 1)) ⟨hx, hb, hml, hown, hts⟩ (met_X0_isAlive l dC dI cyI cyO a N g s12 o11 h12) (cwV 1 hts (gV w_methodLink_X0_48 w_instanceMethod_X0_isAlive w_selects_X0_isAlive w_initialized_X0 w_code_X0_isAlive) rfl rfl rfl (by decide +kernel) ⟨Nat.le_of_ble_eq_true rfl, Nat.le_of_ble_eq_true rfl⟩) (va_recv hK.1 hP (ci := 0) (q0 := 0) rfl rfl) hP hK [0, 1, 2, 3, 4, 5, 6, 7] rfl rfl hl.1 (Nat.le_of_ble_eq_true rfl) dX0_isNearerThanOthers_41 ⟨Nat.le_of_ble_eq_true rfl, Nat.le_of_ble_eq_true rfl⟩ hS (fun r H locs hw hP hS => ?_)
            obtain ⟨hw, hz13⟩ := hw
            have hw := hw.symm
            subst hw
            refine lv_if_eq (tgt := 62) hx hb dX0_isNearerThanOthers_44 (by decide) (fun c14 => ?_) (fun c14 => ?_)
            · have hF := itp c14 hF
              exact hJ62 () _ _ _ hP hS (lv_sub hl [0, 1, 2] rfl) hF
            · have hF := itn c14 hF
              refine lv_aload_n hx hb dX0_isNearerThanOthers_47 rfl (lv_at hl 0 rfl) ?_
              refine lv_iload_n hx hb dX0_isNearerThanOthers_48 rfl (lv_at hl 2 rfl) ?_
              obtain ⟨o15, h16, hF⟩ := obd hF
              refine wcRVi (As := [.int s12]) (rest := []) (b := (a 1)) ⟨hx, hb, hml, hown, hts⟩ (met_X0_distance l dC dI cyI cyO a N g s12 o15 h16) (cwV 1 hts (gV w_methodLink_X0_86 w_instanceMethod_X0_distance w_selects_X0_distance w_initialized_X0 w_code_X0_distance) rfl rfl rfl (by decide +kernel) ⟨Nat.le_of_ble_eq_true rfl, Nat.le_of_ble_eq_true rfl⟩) (va_recv hK.1 hP (ci := 0) (q0 := 0) rfl rfl) hP hK [0, 1, 2, 3, 4, 5, 6, 7] rfl rfl hl.1 (Nat.le_of_ble_eq_true rfl) dX0_isNearerThanOthers_49 ⟨Nat.le_of_ble_eq_true rfl, Nat.le_of_ble_eq_true rfl⟩ hS (fun r H locs hw hP hS => ?_)
              have hw := hw.symm
              subst hw
              refine lv_aload_n hx hb dX0_isNearerThanOthers_52 rfl (lv_at hl 0 rfl) ?_
              refine lv_iload_n hx hb dX0_isNearerThanOthers_53 rfl (lv_at hl 1 rfl) ?_
              obtain ⟨o17, h18, hF⟩ := obd hF
              refine wcRVi (As := [.int p1]) (rest := [.int o15]) (b := (a 1)) ⟨hx, hb, hml, hown, hts⟩ (met_X0_distance l dC dI cyI cyO a N g p1 o17 h18) (cwV 1 hts (gV w_methodLink_X0_86 w_instanceMethod_X0_distance w_selects_X0_distance w_initialized_X0 w_code_X0_distance) rfl rfl rfl (by decide +kernel) ⟨Nat.le_of_ble_eq_true rfl, Nat.le_of_ble_eq_true rfl⟩) (va_recv hK.1 hP (ci := 0) (q0 := 0) rfl rfl) hP hK [0, 1, 2, 3, 4, 5, 6, 7] rfl rfl hl.1 (Nat.le_of_ble_eq_true rfl) dX0_isNearerThanOthers_54 ⟨Nat.le_of_ble_eq_true rfl, Nat.le_of_ble_eq_true rfl⟩ hS (fun r H locs hw hP hS => ?_)
              have hw := hw.symm
              subst hw
              refine lv_icmp_gt (tgt := 62) hx hb dX0_isNearerThanOthers_57 (by decide) (fun c19 => ?_) (fun c19 => ?_)
              · have hF := itp c19 hF
                exact hJ62 () _ _ _ hP hS (lv_sub hl [0, 1, 2] rfl) hF
              · have hF := itn c19 hF
                refine lv_iconst (v := 0) hx hb dX0_isNearerThanOthers_60 (by decide) ?_
                exact W.zret (ty := .boolean) (v := (0 : Int32)) hx hb hr (b01_n b01_0) (fun t ht hW => ⟨⟨_, (), rfl, ⟨Option.some.inj hF, b01_0⟩, trivial⟩, hS.F ht⟩) hS.2.2 dX0_isNearerThanOthers_61
    exact hL12 N (0 : Int32) _ _ _ hP hS (lv_sub hl [1, 2, 0] rfl) hF
  · have hF := itp c4 hF
    refine lv_iconst (v := 0) hx hb dX0_isNearerThanOthers_8 (by decide) ?_
    exact W.zret (ty := .boolean) (v := (0 : Int32)) hx hb hr (b01_n b01_0) (fun t ht hW => ⟨⟨_, (), rfl, ⟨Option.some.inj hF, b01_0⟩, trivial⟩, hS.F ht⟩) hS.2.2 dX0_isNearerThanOthers_9
theorem dX0_pairedPoints_0 : decode cX0_pairedPoints 0 = .ok (.aload_n 0, 1) := by decide +kernel
theorem dX0_pairedPoints_1 : decode cX0_pairedPoints 1 = .ok (.invokevirtual 89, 3) := by decide +kernel
theorem dX0_pairedPoints_4 : decode cX0_pairedPoints 4 = .ok (.ifCond .eq 7, 3) := by decide +kernel
theorem dX0_pairedPoints_7 : decode cX0_pairedPoints 7 = .ok (.iconst 0, 1) := by decide +kernel
theorem dX0_pairedPoints_8 : decode cX0_pairedPoints 8 = .ok (.goto 7, 3) := by decide +kernel
theorem dX0_pairedPoints_11 : decode cX0_pairedPoints 11 = .ok (.aload_n 0, 1) := by decide +kernel
theorem dX0_pairedPoints_12 : decode cX0_pairedPoints 12 = .ok (.getfield 33, 3) := by decide +kernel
theorem dX0_pairedPoints_15 : decode cX0_pairedPoints 15 = .ok (.istore_n 2, 1) := by decide +kernel
theorem dX0_pairedPoints_16 : decode cX0_pairedPoints 16 = .ok (.iconst 0, 1) := by decide +kernel
theorem dX0_pairedPoints_17 : decode cX0_pairedPoints 17 = .ok (.istore_n 3, 1) := by decide +kernel
theorem dX0_pairedPoints_18 : decode cX0_pairedPoints 18 = .ok (.iconst 0, 1) := by decide +kernel
theorem dX0_pairedPoints_19 : decode cX0_pairedPoints 19 = .ok (.istore 4, 2) := by decide +kernel
theorem dX0_pairedPoints_21 : decode cX0_pairedPoints 21 = .ok (.iload 4, 2) := by decide +kernel
theorem dX0_pairedPoints_23 : decode cX0_pairedPoints 23 = .ok (.iload_n 2, 1) := by decide +kernel
theorem dX0_pairedPoints_24 : decode cX0_pairedPoints 24 = .ok (.if_icmp .ge 28, 3) := by decide +kernel
theorem dX0_pairedPoints_27 : decode cX0_pairedPoints 27 = .ok (.aload_n 0, 1) := by decide +kernel
theorem dX0_pairedPoints_28 : decode cX0_pairedPoints 28 = .ok (.iload 4, 2) := by decide +kernel
theorem dX0_pairedPoints_30 : decode cX0_pairedPoints 30 = .ok (.invokevirtual 100, 3) := by decide +kernel
theorem dX0_pairedPoints_33 : decode cX0_pairedPoints 33 = .ok (.ifCond .eq 13, 3) := by decide +kernel
theorem dX0_pairedPoints_36 : decode cX0_pairedPoints 36 = .ok (.iload_n 3, 1) := by decide +kernel
theorem dX0_pairedPoints_37 : decode cX0_pairedPoints 37 = .ok (.aload_n 0, 1) := by decide +kernel
theorem dX0_pairedPoints_38 : decode cX0_pairedPoints 38 = .ok (.iload 4, 2) := by decide +kernel
theorem dX0_pairedPoints_40 : decode cX0_pairedPoints 40 = .ok (.iload_n 1, 1) := by decide +kernel
theorem dX0_pairedPoints_41 : decode cX0_pairedPoints 41 = .ok (.invokevirtual 96, 3) := by decide +kernel
theorem dX0_pairedPoints_44 : decode cX0_pairedPoints 44 = .ok (.iadd, 1) := by decide +kernel
theorem dX0_pairedPoints_45 : decode cX0_pairedPoints 45 = .ok (.istore_n 3, 1) := by decide +kernel
theorem dX0_pairedPoints_46 : decode cX0_pairedPoints 46 = .ok (.iinc 4 1, 3) := by decide +kernel
theorem dX0_pairedPoints_49 : decode cX0_pairedPoints 49 = .ok (.goto (-28), 3) := by decide +kernel
theorem dX0_pairedPoints_52 : decode cX0_pairedPoints 52 = .ok (.iload_n 3, 1) := by decide +kernel
theorem dX0_pairedPoints_53 : decode cX0_pairedPoints 53 = .ok (.ireturn, 1) := by decide +kernel
def f_X0_pairedPoints (N : Nat) (g : GV) (p1 : Int32) : Option (Int32) :=
  (f_X0_isJackLost N g).bind (fun o1 => jn (fun (s15 : Int32) => lpN (fun (s21 : Int32 × Int32) (k21 : (Int32 × Int32) → Option (Int32)) => (if s15 ≤ s21.2 then some s21.1 else (f_X0_isNearerThanOthers N g s21.2).bind (fun o5 => jn (fun (s46 : Int32) => k21 (s46, (s21.2 + (1 : Int32)))) (fun (j46 : (Int32) → Option (Int32)) => (if o5 = 0 then j46 s21.1 else (f_X0_worth N g s21.2 p1).bind (fun o9 => j46 (s21.1 + o9))))))) N ((0 : Int32), (0 : Int32))) (fun (j15 : (Int32) → Option (Int32)) => (if o1 = 0 then j15 (G_bowlCount g) else j15 (0 : Int32))))
set_option maxHeartbeats 4000000 in
set_option maxRecDepth 100000 in
theorem met_X0_pairedPoints (l : Launch) (dC : Nat → ClassId) (dI : Nat → Nat → Nat) (cyI cyO : ClassId) (a : Nat → Nat) (N : Nat) (g : GV) (p1 : Int32) (out : Int32) (hF : f_X0_pairedPoints N g p1 = some out) : Met l yX0_pairedPoints (Cond.code yX0_pairedPoints cX0_pairedPoints 5 (some .int) :: wT) ({ frames := 3, cells := 0, slots := 0, locals := 66 } : Room) (wRd dC dI cyI cyO [.ref (a 1), .int p1] (cG cyI a g)) (va_Qi (fun (r : Int32) (_ : Unit) => r = out) (fun _ _ => True) wN0) 0 0 wN0 := by
  refine Met.ofW (cc := cX0_pairedPoints) (maxL := 5) (ret := (some .int)) (by decide) rfl ?_
  intro p e s m args below meth c s₁ B hml hv
  obtain ⟨rfl, hP, hK⟩ := hv
  have hx := B.exec
  have hb := B.bytes
  have hr := B.returns
  have hts0 := atoms_spec (ws := (Cond.code yX0_pairedPoints cX0_pairedPoints 5 (some .int) :: wT)) B.pre
  have hts := fun w h => hts0 w (List.mem_cons_of_mem _ h)
  clear hts0
  have hown : s.vm.findClass RX0 = some m.cls := findClass_of_methodNamed B.named
  have hlocks := B.notSynchronized
  have hS : va_S wN0 s.heap s.heap [] := va_S.rf
  have hl := lv_entry [.ref (a 1), .int p1] (n := 5) (Nat.le_of_ble_eq_true rfl)
  rw [lg_entry_eq]
  generalize (lg_sl [.ref (a 1), .int p1] ++ List.replicate (5 - (lg_sl [.ref (a 1), .int p1]).length) Slot.unset).toArray = ls at hl ⊢
  have hl : lv_has ls 5 [(0, .ref (a 1)), (1, .int p1)] := hl
  unfold f_X0_pairedPoints at hF
  refine lv_aload_n hx hb dX0_pairedPoints_0 rfl (lv_at hl 0 rfl) ?_
  obtain ⟨o1, h2, hF⟩ := obd hF
  refine wcRVi (As := []) (rest := []) (b := (a 1)) ⟨hx, hb, hml, hown, hts⟩ (met_X0_isJackLost l dC dI cyI cyO a N g  o1 h2) (cwV 0 hts (gV w_methodLink_X0_89 w_instanceMethod_X0_isJackLost w_selects_X0_isJackLost w_initialized_X0 w_code_X0_isJackLost) rfl rfl rfl (by decide +kernel) ⟨Nat.le_of_ble_eq_true rfl, Nat.le_of_ble_eq_true rfl⟩) (va_recv hK.1 hP (ci := 0) (q0 := 0) rfl rfl) hP hK [0, 1, 2, 3, 4, 5, 6, 7] rfl rfl hl.1 (Nat.le_of_ble_eq_true rfl) dX0_pairedPoints_1 ⟨Nat.le_of_ble_eq_true rfl, Nat.le_of_ble_eq_true rfl⟩ hS (fun r H locs hw hP hS => ?_)
  obtain ⟨hw, hz3⟩ := hw
  have hw := hw.symm
  subst hw
  obtain ⟨j15, hj15, hF⟩ := jn_use hF
  have hJ15 : ∀ (s15 : Int32) (H : Heap) (locs : List Loc) (ls : Array Slot), va_P (dC, dI) vwCl (cG cyI a g) H → va_S wN0 s.heap H locs → lv_has ls 5 [(0, .ref (a 1)), (1, .int p1)] → j15 s15 = some out → W p l e (headSpec (Cond.code yX0_pairedPoints cX0_pairedPoints 5 (some .int) :: wT) ({ frames := 3, cells := 0, slots := 0, locals := 66 } : Room)).room s m ([.ref (a 1), .int p1] : List Value).toArray below meth c H locs 0 0 (MQ below (va_Qi (fun (r : Int32) (_ : Unit) => r = out) (fun _ _ => True) wN0) ([.ref (a 1), .int p1] : List Value).toArray s 0 0 wN0) (F0 m 15 ls [.int s15]) := by
    intro s15 H locs ls hP hS hl hF
    have hF := (congrFun hj15 s15).symm.trans hF
    refine lv_istore_n (lv' := [(2, .int s15), (0, .ref (a 1)), (1, .int p1)]) hx hb dX0_pairedPoints_15 rfl hl (by decide) rfl (fun ls hl => ?_)
    refine lv_iconst (v := 0) hx hb dX0_pairedPoints_16 (by decide) ?_
    refine lv_istore_n (lv' := [(3, .int (0 : Int32)), (2, .int s15), (0, .ref (a 1)), (1, .int p1)]) hx hb dX0_pairedPoints_17 rfl hl (by decide) rfl (fun ls hl => ?_)
    refine lv_iconst (v := 0) hx hb dX0_pairedPoints_18 (by decide) ?_
    refine lv_istore (lv' := [(4, .int (0 : Int32)), (3, .int (0 : Int32)), (2, .int s15), (0, .ref (a 1)), (1, .int p1)]) hx hb dX0_pairedPoints_19 hl (by decide) rfl (fun ls hl => ?_)
    obtain ⟨st21, hst21, hF⟩ := lpN_use hF
    have hL21 : ∀ (n : Nat) (s21 : Int32 × Int32) (H : Heap) (locs : List Loc) (ls : Array Slot), va_P (dC, dI) vwCl (cG cyI a g) H → va_S wN0 s.heap H locs → lv_has ls 5 [(0, .ref (a 1)), (1, .int p1), (2, .int s15), (3, .int s21.1), (4, .int s21.2)] → lpN st21 n s21 = some out → W p l e (headSpec (Cond.code yX0_pairedPoints cX0_pairedPoints 5 (some .int) :: wT) ({ frames := 3, cells := 0, slots := 0, locals := 66 } : Room)).room s m ([.ref (a 1), .int p1] : List Value).toArray below meth c H locs 0 0 (MQ below (va_Qi (fun (r : Int32) (_ : Unit) => r = out) (fun _ _ => True) wN0) ([.ref (a 1), .int p1] : List Value).toArray s 0 0 wN0) (F0 m 21 ls []) := by
      intro n
      induction n with
      | zero => intro s21 H locs ls hP hS hl hF; exact lpN_0 hF
      | succ n ih21 =>
        intro s21 H locs ls hP hS hl hF
        have hF := (congrFun (congrFun hst21 s21) (lpN st21 n)).symm.trans (lpN_s hF)
        refine lv_iload hx hb dX0_pairedPoints_21 (lv_at hl 4 rfl) ?_
        refine lv_iload_n hx hb dX0_pairedPoints_23 rfl (lv_at hl 2 rfl) ?_
        refine lv_icmp_ge (tgt := 52) hx hb dX0_pairedPoints_24 (by decide) (fun c4 => ?_) (fun c4 => ?_)
        · have hF := itp c4 hF
          refine lv_iload_n hx hb dX0_pairedPoints_52 rfl (lv_at hl 3 rfl) ?_
          exact W.iret (v := s21.1) hx hb hr (fun t ht hW => ⟨⟨_, (), rfl, Option.some.inj hF, trivial⟩, hS.F ht⟩) hS.2.2 dX0_pairedPoints_53
        · have hF := itn c4 hF
          refine lv_aload_n hx hb dX0_pairedPoints_27 rfl (lv_at hl 0 rfl) ?_
          refine lv_iload hx hb dX0_pairedPoints_28 (lv_at hl 4 rfl) ?_
          obtain ⟨o5, h6, hF⟩ := obd hF
          refine wcRVi (As := [.int s21.2]) (rest := []) (b := (a 1)) ⟨hx, hb, hml, hown, hts⟩ (met_X0_isNearerThanOthers l dC dI cyI cyO a N g s21.2 o5 h6) (cwV 1 hts (gV w_methodLink_X0_100 w_instanceMethod_X0_isNearerThanOthers w_selects_X0_isNearerThanOthers w_initialized_X0 w_code_X0_isNearerThanOthers) rfl rfl rfl (by decide +kernel) ⟨Nat.le_of_ble_eq_true rfl, Nat.le_of_ble_eq_true rfl⟩) (va_recv hK.1 hP (ci := 0) (q0 := 0) rfl rfl) hP hK [0, 1, 2, 3, 4, 5, 6, 7] rfl rfl hl.1 (Nat.le_of_ble_eq_true rfl) dX0_pairedPoints_30 ⟨Nat.le_of_ble_eq_true rfl, Nat.le_of_ble_eq_true rfl⟩ hS (fun r H locs hw hP hS => ?_)
          obtain ⟨hw, hz7⟩ := hw
          have hw := hw.symm
          subst hw
          obtain ⟨j46, hj46, hF⟩ := jn_use hF
          have hJ46 : ∀ (s46 : Int32) (H : Heap) (locs : List Loc) (ls : Array Slot), va_P (dC, dI) vwCl (cG cyI a g) H → va_S wN0 s.heap H locs → lv_has ls 5 [(0, .ref (a 1)), (1, .int p1), (2, .int s15), (3, .int s46), (4, .int s21.2)] → j46 s46 = some out → W p l e (headSpec (Cond.code yX0_pairedPoints cX0_pairedPoints 5 (some .int) :: wT) ({ frames := 3, cells := 0, slots := 0, locals := 66 } : Room)).room s m ([.ref (a 1), .int p1] : List Value).toArray below meth c H locs 0 0 (MQ below (va_Qi (fun (r : Int32) (_ : Unit) => r = out) (fun _ _ => True) wN0) ([.ref (a 1), .int p1] : List Value).toArray s 0 0 wN0) (F0 m 46 ls []) := by
            intro s46 H locs ls hP hS hl hF
            have hF := (congrFun hj46 s46).symm.trans hF
            refine lv_iinc (v := (s21.2 + (1 : Int32))) (lv' := [(4, .int (s21.2 + (1 : Int32))), (0, .ref (a 1)), (1, .int p1), (2, .int s15), (3, .int s46)]) hx hb dX0_pairedPoints_46 hl (k := 4) rfl rfl (by decide) rfl (fun ls hl => ?_)
            refine lv_goto (tgt := 21) hx hb dX0_pairedPoints_49 (by decide) ?_
            exact ih21 (s46, (s21.2 + (1 : Int32))) _ _ _ hP hS (lv_sub hl [1, 2, 3, 4, 0] rfl) hF
          refine lv_if_eq (tgt := 46) hx hb dX0_pairedPoints_33 (by decide) (fun c8 => ?_) (fun c8 => ?_)
          · have hF := itp c8 hF
            exact hJ46 s21.1 _ _ _ hP hS (lv_sub hl [0, 1, 2, 3, 4] rfl) hF
          · have hF := itn c8 hF
            refine lv_iload_n hx hb dX0_pairedPoints_36 rfl (lv_at hl 3 rfl) ?_
            refine lv_aload_n hx hb dX0_pairedPoints_37 rfl (lv_at hl 0 rfl) ?_
            refine lv_iload hx hb dX0_pairedPoints_38 (lv_at hl 4 rfl) ?_
            refine lv_iload_n hx hb dX0_pairedPoints_40 rfl (lv_at hl 1 rfl) ?_
            obtain ⟨o9, h10, hF⟩ := obd hF
            refine wcRVi (As := [.int s21.2, .int p1]) (rest := [.int s21.1]) (b := (a 1)) ⟨hx, hb, hml, hown, hts⟩ (met_X0_worth l dC dI cyI cyO a N g s21.2 p1 o9 h10) (cwV 2 hts (gV w_methodLink_X0_96 w_instanceMethod_X0_worth w_selects_X0_worth w_initialized_X0 w_code_X0_worth) rfl rfl rfl (by decide +kernel) ⟨Nat.le_of_ble_eq_true rfl, Nat.le_of_ble_eq_true rfl⟩) (va_recv hK.1 hP (ci := 0) (q0 := 0) rfl rfl) hP hK [0, 1, 2, 3, 4, 5, 6, 7] rfl rfl hl.1 (Nat.le_of_ble_eq_true rfl) dX0_pairedPoints_41 ⟨Nat.le_of_ble_eq_true rfl, Nat.le_of_ble_eq_true rfl⟩ hS (fun r H locs hw hP hS => ?_)
            have hw := hw.symm
            subst hw
            refine lv_iadd hx hb dX0_pairedPoints_44 ?_
            refine lv_istore_n (lv' := [(3, .int (s21.1 + o9)), (0, .ref (a 1)), (1, .int p1), (2, .int s15), (4, .int s21.2)]) hx hb dX0_pairedPoints_45 rfl hl (by decide) rfl (fun ls hl => ?_)
            exact hJ46 (s21.1 + o9) _ _ _ hP hS (lv_sub hl [1, 2, 3, 0, 4] rfl) hF
    exact hL21 N ((0 : Int32), (0 : Int32)) _ _ _ hP hS (lv_sub hl [3, 4, 2, 1, 0] rfl) hF
  refine lv_if_eq (tgt := 11) hx hb dX0_pairedPoints_4 (by decide) (fun c11 => ?_) (fun c11 => ?_)
  · have hF := itp c11 hF
    refine lv_aload_n hx hb dX0_pairedPoints_11 rfl (lv_at hl 0 rfl) ?_
    refine va_get (D := (dC, dI)) (ci := 0) (v := .int (G_bowlCount g)) (C := RX0) (T := TX0) (N := 9) hx hb hts inX0 hown hK.1 hP 0 rfl rfl 7 (by decide) (hts _ w_fieldLink_X0_33) (fun _ h9 => h9) rfl dX0_pairedPoints_12 ?_
    exact hJ15 (G_bowlCount g) _ _ _ hP hS (lv_sub hl [0, 1] rfl) hF
  · have hF := itn c11 hF
    refine lv_iconst (v := 0) hx hb dX0_pairedPoints_7 (by decide) ?_
    refine lv_goto (tgt := 15) hx hb dX0_pairedPoints_8 (by decide) ?_
    exact hJ15 (0 : Int32) _ _ _ hP hS (lv_sub hl [0, 1] rfl) hF
theorem dX0_scoringSide_0 : decode cX0_scoringSide 0 = .ok (.aload_n 0, 1) := by decide +kernel
theorem dX0_scoringSide_1 : decode cX0_scoringSide 1 = .ok (.invokevirtual 89, 3) := by decide +kernel
theorem dX0_scoringSide_4 : decode cX0_scoringSide 4 = .ok (.ifCond .eq 7, 3) := by decide +kernel
theorem dX0_scoringSide_7 : decode cX0_scoringSide 7 = .ok (.iconst 0, 1) := by decide +kernel
theorem dX0_scoringSide_8 : decode cX0_scoringSide 8 = .ok (.goto 7, 3) := by decide +kernel
theorem dX0_scoringSide_11 : decode cX0_scoringSide 11 = .ok (.aload_n 0, 1) := by decide +kernel
theorem dX0_scoringSide_12 : decode cX0_scoringSide 12 = .ok (.getfield 33, 3) := by decide +kernel
theorem dX0_scoringSide_15 : decode cX0_scoringSide 15 = .ok (.istore_n 1, 1) := by decide +kernel
theorem dX0_scoringSide_16 : decode cX0_scoringSide 16 = .ok (.iconst 0, 1) := by decide +kernel
theorem dX0_scoringSide_17 : decode cX0_scoringSide 17 = .ok (.istore_n 2, 1) := by decide +kernel
theorem dX0_scoringSide_18 : decode cX0_scoringSide 18 = .ok (.iload_n 2, 1) := by decide +kernel
theorem dX0_scoringSide_19 : decode cX0_scoringSide 19 = .ok (.iload_n 1, 1) := by decide +kernel
theorem dX0_scoringSide_20 : decode cX0_scoringSide 20 = .ok (.if_icmp .ge 26, 3) := by decide +kernel
theorem dX0_scoringSide_23 : decode cX0_scoringSide 23 = .ok (.aload_n 0, 1) := by decide +kernel
theorem dX0_scoringSide_24 : decode cX0_scoringSide 24 = .ok (.iload_n 2, 1) := by decide +kernel
theorem dX0_scoringSide_25 : decode cX0_scoringSide 25 = .ok (.invokevirtual 100, 3) := by decide +kernel
theorem dX0_scoringSide_28 : decode cX0_scoringSide 28 = .ok (.ifCond .eq 12, 3) := by decide +kernel
theorem dX0_scoringSide_31 : decode cX0_scoringSide 31 = .ok (.aload_n 0, 1) := by decide +kernel
theorem dX0_scoringSide_32 : decode cX0_scoringSide 32 = .ok (.getfield 15, 3) := by decide +kernel
theorem dX0_scoringSide_35 : decode cX0_scoringSide 35 = .ok (.iload_n 2, 1) := by decide +kernel
theorem dX0_scoringSide_36 : decode cX0_scoringSide 36 = .ok (.invokestatic 67, 3) := by decide +kernel
theorem dX0_scoringSide_39 : decode cX0_scoringSide 39 = .ok (.ireturn, 1) := by decide +kernel
theorem dX0_scoringSide_40 : decode cX0_scoringSide 40 = .ok (.iinc 2 1, 3) := by decide +kernel
theorem dX0_scoringSide_43 : decode cX0_scoringSide 43 = .ok (.goto (-25), 3) := by decide +kernel
theorem dX0_scoringSide_46 : decode cX0_scoringSide 46 = .ok (.iconst (-1), 1) := by decide +kernel
theorem dX0_scoringSide_47 : decode cX0_scoringSide 47 = .ok (.ireturn, 1) := by decide +kernel
def f_X0_scoringSide (N : Nat) (g : GV) : Option (Int32) :=
  (f_X0_isJackLost N g).bind (fun o1 => jn (fun (s15 : Int32) => lpN (fun (s18 : Int32) (k18 : (Int32) → Option (Int32)) => (if s15 ≤ s18 then some (-1 : Int32) else (f_X0_isNearerThanOthers N g s18).bind (fun o5 => (if o5 = 0 then k18 (s18 + (1 : Int32)) else (f_X5_at N 8 (G_sides g) s18).bind (fun o9 => some o9))))) N (0 : Int32)) (fun (j15 : (Int32) → Option (Int32)) => (if o1 = 0 then j15 (G_bowlCount g) else j15 (0 : Int32))))
set_option maxHeartbeats 4000000 in
set_option maxRecDepth 100000 in
theorem met_X0_scoringSide (l : Launch) (dC : Nat → ClassId) (dI : Nat → Nat → Nat) (cyI cyO : ClassId) (a : Nat → Nat) (N : Nat) (g : GV) (out : Int32) (hF : f_X0_scoringSide N g = some out) : Met l yX0_scoringSide (Cond.code yX0_scoringSide cX0_scoringSide 3 (some .int) :: wT) ({ frames := 3, cells := 0, slots := 0, locals := 66 } : Room) (wRd dC dI cyI cyO [.ref (a 1)] (cG cyI a g)) (va_Qi (fun (r : Int32) (_ : Unit) => r = out) (fun _ _ => True) wN0) 0 0 wN0 := by
  refine Met.ofW (cc := cX0_scoringSide) (maxL := 3) (ret := (some .int)) (by decide) rfl ?_
  intro p e s m args below meth c s₁ B hml hv
  obtain ⟨rfl, hP, hK⟩ := hv
  have hx := B.exec
  have hb := B.bytes
  have hr := B.returns
  have hts0 := atoms_spec (ws := (Cond.code yX0_scoringSide cX0_scoringSide 3 (some .int) :: wT)) B.pre
  have hts := fun w h => hts0 w (List.mem_cons_of_mem _ h)
  clear hts0
  have hown : s.vm.findClass RX0 = some m.cls := findClass_of_methodNamed B.named
  have hlocks := B.notSynchronized
  have hS : va_S wN0 s.heap s.heap [] := va_S.rf
  have hl := lv_entry [.ref (a 1)] (n := 3) (Nat.le_of_ble_eq_true rfl)
  rw [lg_entry_eq]
  generalize (lg_sl [.ref (a 1)] ++ List.replicate (3 - (lg_sl [.ref (a 1)]).length) Slot.unset).toArray = ls at hl ⊢
  have hl : lv_has ls 3 [(0, .ref (a 1))] := hl
  unfold f_X0_scoringSide at hF
  refine lv_aload_n hx hb dX0_scoringSide_0 rfl (lv_at hl 0 rfl) ?_
  obtain ⟨o1, h2, hF⟩ := obd hF
  refine wcRVi (As := []) (rest := []) (b := (a 1)) ⟨hx, hb, hml, hown, hts⟩ (met_X0_isJackLost l dC dI cyI cyO a N g  o1 h2) (cwV 0 hts (gV w_methodLink_X0_89 w_instanceMethod_X0_isJackLost w_selects_X0_isJackLost w_initialized_X0 w_code_X0_isJackLost) rfl rfl rfl (by decide +kernel) ⟨Nat.le_of_ble_eq_true rfl, Nat.le_of_ble_eq_true rfl⟩) (va_recv hK.1 hP (ci := 0) (q0 := 0) rfl rfl) hP hK [0, 1, 2, 3, 4, 5, 6, 7] rfl rfl hl.1 (Nat.le_of_ble_eq_true rfl) dX0_scoringSide_1 ⟨Nat.le_of_ble_eq_true rfl, Nat.le_of_ble_eq_true rfl⟩ hS (fun r H locs hw hP hS => ?_)
  obtain ⟨hw, hz3⟩ := hw
  have hw := hw.symm
  subst hw
  obtain ⟨j15, hj15, hF⟩ := jn_use hF
  have hJ15 : ∀ (s15 : Int32) (H : Heap) (locs : List Loc) (ls : Array Slot), va_P (dC, dI) vwCl (cG cyI a g) H → va_S wN0 s.heap H locs → lv_has ls 3 [(0, .ref (a 1))] → j15 s15 = some out → W p l e (headSpec (Cond.code yX0_scoringSide cX0_scoringSide 3 (some .int) :: wT) ({ frames := 3, cells := 0, slots := 0, locals := 66 } : Room)).room s m ([.ref (a 1)] : List Value).toArray below meth c H locs 0 0 (MQ below (va_Qi (fun (r : Int32) (_ : Unit) => r = out) (fun _ _ => True) wN0) ([.ref (a 1)] : List Value).toArray s 0 0 wN0) (F0 m 15 ls [.int s15]) := by
    intro s15 H locs ls hP hS hl hF
    have hF := (congrFun hj15 s15).symm.trans hF
    refine lv_istore_n (lv' := [(1, .int s15), (0, .ref (a 1))]) hx hb dX0_scoringSide_15 rfl hl (by decide) rfl (fun ls hl => ?_)
    refine lv_iconst (v := 0) hx hb dX0_scoringSide_16 (by decide) ?_
    refine lv_istore_n (lv' := [(2, .int (0 : Int32)), (1, .int s15), (0, .ref (a 1))]) hx hb dX0_scoringSide_17 rfl hl (by decide) rfl (fun ls hl => ?_)
    obtain ⟨st18, hst18, hF⟩ := lpN_use hF
    have hL18 : ∀ (n : Nat) (s18 : Int32) (H : Heap) (locs : List Loc) (ls : Array Slot), va_P (dC, dI) vwCl (cG cyI a g) H → va_S wN0 s.heap H locs → lv_has ls 3 [(0, .ref (a 1)), (1, .int s15), (2, .int s18)] → lpN st18 n s18 = some out → W p l e (headSpec (Cond.code yX0_scoringSide cX0_scoringSide 3 (some .int) :: wT) ({ frames := 3, cells := 0, slots := 0, locals := 66 } : Room)).room s m ([.ref (a 1)] : List Value).toArray below meth c H locs 0 0 (MQ below (va_Qi (fun (r : Int32) (_ : Unit) => r = out) (fun _ _ => True) wN0) ([.ref (a 1)] : List Value).toArray s 0 0 wN0) (F0 m 18 ls []) := by
      intro n
      induction n with
      | zero => intro s18 H locs ls hP hS hl hF; exact lpN_0 hF
      | succ n ih18 =>
        intro s18 H locs ls hP hS hl hF
        have hF := (congrFun (congrFun hst18 s18) (lpN st18 n)).symm.trans (lpN_s hF)
        refine lv_iload_n hx hb dX0_scoringSide_18 rfl (lv_at hl 2 rfl) ?_
        refine lv_iload_n hx hb dX0_scoringSide_19 rfl (lv_at hl 1 rfl) ?_
        refine lv_icmp_ge (tgt := 46) hx hb dX0_scoringSide_20 (by decide) (fun c4 => ?_) (fun c4 => ?_)
        · have hF := itp c4 hF
          refine lv_iconst (v := -1) hx hb dX0_scoringSide_46 (by decide) ?_
          exact W.iret (v := (-1 : Int32)) hx hb hr (fun t ht hW => ⟨⟨_, (), rfl, Option.some.inj hF, trivial⟩, hS.F ht⟩) hS.2.2 dX0_scoringSide_47
        · have hF := itn c4 hF
          refine lv_aload_n hx hb dX0_scoringSide_23 rfl (lv_at hl 0 rfl) ?_
          refine lv_iload_n hx hb dX0_scoringSide_24 rfl (lv_at hl 2 rfl) ?_
          obtain ⟨o5, h6, hF⟩ := obd hF
          refine wcRVi (As := [.int s18]) (rest := []) (b := (a 1)) ⟨hx, hb, hml, hown, hts⟩ (met_X0_isNearerThanOthers l dC dI cyI cyO a N g s18 o5 h6) (cwV 1 hts (gV w_methodLink_X0_100 w_instanceMethod_X0_isNearerThanOthers w_selects_X0_isNearerThanOthers w_initialized_X0 w_code_X0_isNearerThanOthers) rfl rfl rfl (by decide +kernel) ⟨Nat.le_of_ble_eq_true rfl, Nat.le_of_ble_eq_true rfl⟩) (va_recv hK.1 hP (ci := 0) (q0 := 0) rfl rfl) hP hK [0, 1, 2, 3, 4, 5, 6, 7] rfl rfl hl.1 (Nat.le_of_ble_eq_true rfl) dX0_scoringSide_25 ⟨Nat.le_of_ble_eq_true rfl, Nat.le_of_ble_eq_true rfl⟩ hS (fun r H locs hw hP hS => ?_)
          obtain ⟨hw, hz7⟩ := hw
          have hw := hw.symm
          subst hw
          refine lv_if_eq (tgt := 40) hx hb dX0_scoringSide_28 (by decide) (fun c8 => ?_) (fun c8 => ?_)
          · have hF := itp c8 hF
            refine lv_iinc (v := (s18 + (1 : Int32))) (lv' := [(2, .int (s18 + (1 : Int32))), (0, .ref (a 1)), (1, .int s15)]) hx hb dX0_scoringSide_40 hl (k := 2) rfl rfl (by decide) rfl (fun ls hl => ?_)
            refine lv_goto (tgt := 18) hx hb dX0_scoringSide_43 (by decide) ?_
            exact ih18 (s18 + (1 : Int32)) _ _ _ hP hS (lv_sub hl [1, 2, 0] rfl) hF
          · have hF := itn c8 hF
            refine lv_aload_n hx hb dX0_scoringSide_31 rfl (lv_at hl 0 rfl) ?_
            refine va_get (D := (dC, dI)) (ci := 0) (v := .ref (a 3)) (C := RX0) (T := TX0) (N := 9) hx hb hts inX0 hown hK.1 hP 0 rfl rfl 1 (by decide) (hts _ w_fieldLink_X0_15) (fun _ h9 => h9) rfl dX0_scoringSide_32 ?_
            refine lv_iload_n hx hb dX0_scoringSide_35 rfl (lv_at hl 2 rfl) ?_
            obtain ⟨o9, h10, hF⟩ := obd hF
            refine wcRNi (As := [.ref (a 3), .int s18]) (rest := []) ⟨hx, hb, hml, hown, hts⟩ (met_X5_at l dC dI cyI cyO (a 3) 8 N (G_sides g) s18 o9 h10) ⟨va_cnB 2 hts (gCode w_code_X5_at) rfl rfl rfl (hK.2 _ n_X0_67) (hts _ w_initialized_X5) (by decide +kernel) ⟨Nat.le_of_ble_eq_true rfl, Nat.le_of_ble_eq_true rfl⟩, hts _ w_static_X5_at, trivial⟩ hP hK [2] rfl rfl hl.1 (Nat.le_of_ble_eq_true rfl) dX0_scoringSide_36 ⟨Nat.le_of_ble_eq_true rfl, Nat.le_of_ble_eq_true rfl⟩ hS (fun r H locs hw hP hS => ?_)
            have hw := hw.symm
            subst hw
            exact W.iret (v := o9) hx hb hr (fun t ht hW => ⟨⟨_, (), rfl, Option.some.inj hF, trivial⟩, hS.F ht⟩) hS.2.2 dX0_scoringSide_39
    exact hL18 N (0 : Int32) _ _ _ hP hS (lv_sub hl [2, 1, 0] rfl) hF
  refine lv_if_eq (tgt := 11) hx hb dX0_scoringSide_4 (by decide) (fun c11 => ?_) (fun c11 => ?_)
  · have hF := itp c11 hF
    refine lv_aload_n hx hb dX0_scoringSide_11 rfl (lv_at hl 0 rfl) ?_
    refine va_get (D := (dC, dI)) (ci := 0) (v := .int (G_bowlCount g)) (C := RX0) (T := TX0) (N := 9) hx hb hts inX0 hown hK.1 hP 0 rfl rfl 7 (by decide) (hts _ w_fieldLink_X0_33) (fun _ h9 => h9) rfl dX0_scoringSide_12 ?_
    exact hJ15 (G_bowlCount g) _ _ _ hP hS (lv_sub hl [0] rfl) hF
  · have hF := itn c11 hF
    refine lv_iconst (v := 0) hx hb dX0_scoringSide_7 (by decide) ?_
    refine lv_goto (tgt := 15) hx hb dX0_scoringSide_8 (by decide) ?_
    exact hJ15 (0 : Int32) _ _ _ hP hS (lv_sub hl [0] rfl) hF
theorem dX0_nearestDistance_0 : decode cX0_nearestDistance 0 = .ok (.iconst (-1), 1) := by decide +kernel
theorem dX0_nearestDistance_1 : decode cX0_nearestDistance 1 = .ok (.istore_n 2, 1) := by decide +kernel
theorem dX0_nearestDistance_2 : decode cX0_nearestDistance 2 = .ok (.iconst 0, 1) := by decide +kernel
theorem dX0_nearestDistance_3 : decode cX0_nearestDistance 3 = .ok (.istore_n 3, 1) := by decide +kernel
theorem dX0_nearestDistance_4 : decode cX0_nearestDistance 4 = .ok (.iload_n 3, 1) := by decide +kernel
theorem dX0_nearestDistance_5 : decode cX0_nearestDistance 5 = .ok (.aload_n 0, 1) := by decide +kernel
theorem dX0_nearestDistance_6 : decode cX0_nearestDistance 6 = .ok (.getfield 33, 3) := by decide +kernel
theorem dX0_nearestDistance_9 : decode cX0_nearestDistance 9 = .ok (.if_icmp .ge 49, 3) := by decide +kernel
theorem dX0_nearestDistance_12 : decode cX0_nearestDistance 12 = .ok (.aload_n 0, 1) := by decide +kernel
theorem dX0_nearestDistance_13 : decode cX0_nearestDistance 13 = .ok (.getfield 15, 3) := by decide +kernel
theorem dX0_nearestDistance_16 : decode cX0_nearestDistance 16 = .ok (.iload_n 3, 1) := by decide +kernel
theorem dX0_nearestDistance_17 : decode cX0_nearestDistance 17 = .ok (.invokestatic 67, 3) := by decide +kernel
theorem dX0_nearestDistance_20 : decode cX0_nearestDistance 20 = .ok (.iload_n 1, 1) := by decide +kernel
theorem dX0_nearestDistance_21 : decode cX0_nearestDistance 21 = .ok (.if_icmp .ne 31, 3) := by decide +kernel
theorem dX0_nearestDistance_24 : decode cX0_nearestDistance 24 = .ok (.aload_n 0, 1) := by decide +kernel
theorem dX0_nearestDistance_25 : decode cX0_nearestDistance 25 = .ok (.iload_n 3, 1) := by decide +kernel
theorem dX0_nearestDistance_26 : decode cX0_nearestDistance 26 = .ok (.invokevirtual 48, 3) := by decide +kernel
theorem dX0_nearestDistance_29 : decode cX0_nearestDistance 29 = .ok (.ifCond .eq 23, 3) := by decide +kernel
theorem dX0_nearestDistance_32 : decode cX0_nearestDistance 32 = .ok (.iload_n 2, 1) := by decide +kernel
theorem dX0_nearestDistance_33 : decode cX0_nearestDistance 33 = .ok (.iconst (-1), 1) := by decide +kernel
theorem dX0_nearestDistance_34 : decode cX0_nearestDistance 34 = .ok (.if_icmp .eq 12, 3) := by decide +kernel
theorem dX0_nearestDistance_37 : decode cX0_nearestDistance 37 = .ok (.aload_n 0, 1) := by decide +kernel
theorem dX0_nearestDistance_38 : decode cX0_nearestDistance 38 = .ok (.iload_n 3, 1) := by decide +kernel
theorem dX0_nearestDistance_39 : decode cX0_nearestDistance 39 = .ok (.invokevirtual 86, 3) := by decide +kernel
theorem dX0_nearestDistance_42 : decode cX0_nearestDistance 42 = .ok (.iload_n 2, 1) := by decide +kernel
theorem dX0_nearestDistance_43 : decode cX0_nearestDistance 43 = .ok (.if_icmp .ge 9, 3) := by decide +kernel
theorem dX0_nearestDistance_46 : decode cX0_nearestDistance 46 = .ok (.aload_n 0, 1) := by decide +kernel
theorem dX0_nearestDistance_47 : decode cX0_nearestDistance 47 = .ok (.iload_n 3, 1) := by decide +kernel
theorem dX0_nearestDistance_48 : decode cX0_nearestDistance 48 = .ok (.invokevirtual 86, 3) := by decide +kernel
theorem dX0_nearestDistance_51 : decode cX0_nearestDistance 51 = .ok (.istore_n 2, 1) := by decide +kernel
theorem dX0_nearestDistance_52 : decode cX0_nearestDistance 52 = .ok (.iinc 3 1, 3) := by decide +kernel
theorem dX0_nearestDistance_55 : decode cX0_nearestDistance 55 = .ok (.goto (-51), 3) := by decide +kernel
theorem dX0_nearestDistance_58 : decode cX0_nearestDistance 58 = .ok (.iload_n 2, 1) := by decide +kernel
theorem dX0_nearestDistance_59 : decode cX0_nearestDistance 59 = .ok (.ireturn, 1) := by decide +kernel
def f_X0_nearestDistance (N : Nat) (g : GV) (p1 : Int32) : Option (Int32) :=
  lpN (fun (s4 : Int32 × Int32) (k4 : (Int32 × Int32) → Option (Int32)) => (if (G_bowlCount g) ≤ s4.2 then some s4.1 else (f_X5_at N 8 (G_sides g) s4.2).bind (fun o2 => jn (fun (s52 : Int32) => k4 (s52, (s4.2 + (1 : Int32)))) (fun (j52 : (Int32) → Option (Int32)) => (if o2 = p1 then (f_X0_isAlive N g s4.2).bind (fun o5 => (if o5 = 0 then j52 s4.1 else jn (fun (s46 : Unit) => (f_X0_distance N g s4.2).bind (fun o9 => j52 o9)) (fun (j46 : (Unit) → Option (Int32)) => (if s4.1 = (-1 : Int32) then j46 () else (f_X0_distance N g s4.2).bind (fun o12 => (if s4.1 ≤ o12 then j52 s4.1 else j46 ())))))) else j52 s4.1))))) N ((-1 : Int32), (0 : Int32))
set_option maxHeartbeats 4000000 in
set_option maxRecDepth 100000 in
theorem met_X0_nearestDistance (l : Launch) (dC : Nat → ClassId) (dI : Nat → Nat → Nat) (cyI cyO : ClassId) (a : Nat → Nat) (N : Nat) (g : GV) (p1 : Int32) (out : Int32) (hF : f_X0_nearestDistance N g p1 = some out) : Met l yX0_nearestDistance (Cond.code yX0_nearestDistance cX0_nearestDistance 4 (some .int) :: wT) ({ frames := 2, cells := 0, slots := 0, locals := 44 } : Room) (wRd dC dI cyI cyO [.ref (a 1), .int p1] (cG cyI a g)) (va_Qi (fun (r : Int32) (_ : Unit) => r = out) (fun _ _ => True) wN0) 0 0 wN0 := by
  refine Met.ofW (cc := cX0_nearestDistance) (maxL := 4) (ret := (some .int)) (by decide) rfl ?_
  intro p e s m args below meth c s₁ B hml hv
  obtain ⟨rfl, hP, hK⟩ := hv
  have hx := B.exec
  have hb := B.bytes
  have hr := B.returns
  have hts0 := atoms_spec (ws := (Cond.code yX0_nearestDistance cX0_nearestDistance 4 (some .int) :: wT)) B.pre
  have hts := fun w h => hts0 w (List.mem_cons_of_mem _ h)
  clear hts0
  have hown : s.vm.findClass RX0 = some m.cls := findClass_of_methodNamed B.named
  have hlocks := B.notSynchronized
  have hS : va_S wN0 s.heap s.heap [] := va_S.rf
  have hl := lv_entry [.ref (a 1), .int p1] (n := 4) (Nat.le_of_ble_eq_true rfl)
  rw [lg_entry_eq]
  generalize (lg_sl [.ref (a 1), .int p1] ++ List.replicate (4 - (lg_sl [.ref (a 1), .int p1]).length) Slot.unset).toArray = ls at hl ⊢
  have hl : lv_has ls 4 [(0, .ref (a 1)), (1, .int p1)] := hl
  unfold f_X0_nearestDistance at hF
  refine lv_iconst (v := -1) hx hb dX0_nearestDistance_0 (by decide) ?_
  refine lv_istore_n (lv' := [(2, .int (-1 : Int32)), (0, .ref (a 1)), (1, .int p1)]) hx hb dX0_nearestDistance_1 rfl hl (by decide) rfl (fun ls hl => ?_)
  refine lv_iconst (v := 0) hx hb dX0_nearestDistance_2 (by decide) ?_
  refine lv_istore_n (lv' := [(3, .int (0 : Int32)), (2, .int (-1 : Int32)), (0, .ref (a 1)), (1, .int p1)]) hx hb dX0_nearestDistance_3 rfl hl (by decide) rfl (fun ls hl => ?_)
  obtain ⟨st4, hst4, hF⟩ := lpN_use hF
  have hL4 : ∀ (n : Nat) (s4 : Int32 × Int32) (H : Heap) (locs : List Loc) (ls : Array Slot), va_P (dC, dI) vwCl (cG cyI a g) H → va_S wN0 s.heap H locs → lv_has ls 4 [(0, .ref (a 1)), (1, .int p1), (2, .int s4.1), (3, .int s4.2)] → lpN st4 n s4 = some out → W p l e (headSpec (Cond.code yX0_nearestDistance cX0_nearestDistance 4 (some .int) :: wT) ({ frames := 2, cells := 0, slots := 0, locals := 44 } : Room)).room s m ([.ref (a 1), .int p1] : List Value).toArray below meth c H locs 0 0 (MQ below (va_Qi (fun (r : Int32) (_ : Unit) => r = out) (fun _ _ => True) wN0) ([.ref (a 1), .int p1] : List Value).toArray s 0 0 wN0) (F0 m 4 ls []) := by
    intro n
    induction n with
    | zero => intro s4 H locs ls hP hS hl hF; exact lpN_0 hF
    | succ n ih4 =>
      intro s4 H locs ls hP hS hl hF
      have hF := (congrFun (congrFun hst4 s4) (lpN st4 n)).symm.trans (lpN_s hF)
      refine lv_iload_n hx hb dX0_nearestDistance_4 rfl (lv_at hl 3 rfl) ?_
      refine lv_aload_n hx hb dX0_nearestDistance_5 rfl (lv_at hl 0 rfl) ?_
      refine va_get (D := (dC, dI)) (ci := 0) (v := .int (G_bowlCount g)) (C := RX0) (T := TX0) (N := 9) hx hb hts inX0 hown hK.1 hP 0 rfl rfl 7 (by decide) (hts _ w_fieldLink_X0_33) (fun _ h9 => h9) rfl dX0_nearestDistance_6 ?_
      refine lv_icmp_ge (tgt := 58) hx hb dX0_nearestDistance_9 (by decide) (fun c1 => ?_) (fun c1 => ?_)
      · have hF := itp c1 hF
        refine lv_iload_n hx hb dX0_nearestDistance_58 rfl (lv_at hl 2 rfl) ?_
        exact W.iret (v := s4.1) hx hb hr (fun t ht hW => ⟨⟨_, (), rfl, Option.some.inj hF, trivial⟩, hS.F ht⟩) hS.2.2 dX0_nearestDistance_59
      · have hF := itn c1 hF
        refine lv_aload_n hx hb dX0_nearestDistance_12 rfl (lv_at hl 0 rfl) ?_
        refine va_get (D := (dC, dI)) (ci := 0) (v := .ref (a 3)) (C := RX0) (T := TX0) (N := 9) hx hb hts inX0 hown hK.1 hP 0 rfl rfl 1 (by decide) (hts _ w_fieldLink_X0_15) (fun _ h9 => h9) rfl dX0_nearestDistance_13 ?_
        refine lv_iload_n hx hb dX0_nearestDistance_16 rfl (lv_at hl 3 rfl) ?_
        obtain ⟨o2, h3, hF⟩ := obd hF
        refine wcRNi (As := [.ref (a 3), .int s4.2]) (rest := []) ⟨hx, hb, hml, hown, hts⟩ (met_X5_at l dC dI cyI cyO (a 3) 8 N (G_sides g) s4.2 o2 h3) ⟨va_cnB 2 hts (gCode w_code_X5_at) rfl rfl rfl (hK.2 _ n_X0_67) (hts _ w_initialized_X5) (by decide +kernel) ⟨Nat.le_of_ble_eq_true rfl, Nat.le_of_ble_eq_true rfl⟩, hts _ w_static_X5_at, trivial⟩ hP hK [2] rfl rfl hl.1 (Nat.le_of_ble_eq_true rfl) dX0_nearestDistance_17 ⟨Nat.le_of_ble_eq_true rfl, Nat.le_of_ble_eq_true rfl⟩ hS (fun r H locs hw hP hS => ?_)
        have hw := hw.symm
        subst hw
        refine lv_iload_n hx hb dX0_nearestDistance_20 rfl (lv_at hl 1 rfl) ?_
        obtain ⟨j52, hj52, hF⟩ := jn_use hF
        have hJ52 : ∀ (s52 : Int32) (H : Heap) (locs : List Loc) (ls : Array Slot), va_P (dC, dI) vwCl (cG cyI a g) H → va_S wN0 s.heap H locs → lv_has ls 4 [(0, .ref (a 1)), (1, .int p1), (2, .int s52), (3, .int s4.2)] → j52 s52 = some out → W p l e (headSpec (Cond.code yX0_nearestDistance cX0_nearestDistance 4 (some .int) :: wT) ({ frames := 2, cells := 0, slots := 0, locals := 44 } : Room)).room s m ([.ref (a 1), .int p1] : List Value).toArray below meth c H locs 0 0 (MQ below (va_Qi (fun (r : Int32) (_ : Unit) => r = out) (fun _ _ => True) wN0) ([.ref (a 1), .int p1] : List Value).toArray s 0 0 wN0) (F0 m 52 ls []) := by
          intro s52 H locs ls hP hS hl hF
          have hF := (congrFun hj52 s52).symm.trans hF
          refine lv_iinc (v := (s4.2 + (1 : Int32))) (lv' := [(3, .int (s4.2 + (1 : Int32))), (0, .ref (a 1)), (1, .int p1), (2, .int s52)]) hx hb dX0_nearestDistance_52 hl (k := 3) rfl rfl (by decide) rfl (fun ls hl => ?_)
          refine lv_goto (tgt := 4) hx hb dX0_nearestDistance_55 (by decide) ?_
          exact ih4 (s52, (s4.2 + (1 : Int32))) _ _ _ hP hS (lv_sub hl [1, 2, 3, 0] rfl) hF
        refine lv_icmp_ne (tgt := 52) hx hb dX0_nearestDistance_21 (by decide) (fun c4 => ?_) (fun c4 => ?_)
        · have hF := itn c4 hF
          exact hJ52 s4.1 _ _ _ hP hS (lv_sub hl [0, 1, 2, 3] rfl) hF
        · have hF := itp c4 hF
          refine lv_aload_n hx hb dX0_nearestDistance_24 rfl (lv_at hl 0 rfl) ?_
          refine lv_iload_n hx hb dX0_nearestDistance_25 rfl (lv_at hl 3 rfl) ?_
          obtain ⟨o5, h6, hF⟩ := obd hF
          refine wcRVi (As := [.int s4.2]) (rest := []) (b := (a 1)) ⟨hx, hb, hml, hown, hts⟩ (met_X0_isAlive l dC dI cyI cyO a N g s4.2 o5 h6) (cwV 1 hts (gV w_methodLink_X0_48 w_instanceMethod_X0_isAlive w_selects_X0_isAlive w_initialized_X0 w_code_X0_isAlive) rfl rfl rfl (by decide +kernel) ⟨Nat.le_of_ble_eq_true rfl, Nat.le_of_ble_eq_true rfl⟩) (va_recv hK.1 hP (ci := 0) (q0 := 0) rfl rfl) hP hK [0, 1, 2, 3, 4, 5, 6, 7] rfl rfl hl.1 (Nat.le_of_ble_eq_true rfl) dX0_nearestDistance_26 ⟨Nat.le_of_ble_eq_true rfl, Nat.le_of_ble_eq_true rfl⟩ hS (fun r H locs hw hP hS => ?_)
          obtain ⟨hw, hz7⟩ := hw
          have hw := hw.symm
          subst hw
          refine lv_if_eq (tgt := 52) hx hb dX0_nearestDistance_29 (by decide) (fun c8 => ?_) (fun c8 => ?_)
          · have hF := itp c8 hF
            exact hJ52 s4.1 _ _ _ hP hS (lv_sub hl [0, 1, 2, 3] rfl) hF
          · have hF := itn c8 hF
            refine lv_iload_n hx hb dX0_nearestDistance_32 rfl (lv_at hl 2 rfl) ?_
            refine lv_iconst (v := -1) hx hb dX0_nearestDistance_33 (by decide) ?_
            obtain ⟨j46, hj46, hF⟩ := jn_use hF
            have hJ46 : ∀ (s46 : Unit) (H : Heap) (locs : List Loc) (ls : Array Slot), va_P (dC, dI) vwCl (cG cyI a g) H → va_S wN0 s.heap H locs → lv_has ls 4 [(0, .ref (a 1)), (1, .int p1), (3, .int s4.2)] → j46 s46 = some out → W p l e (headSpec (Cond.code yX0_nearestDistance cX0_nearestDistance 4 (some .int) :: wT) ({ frames := 2, cells := 0, slots := 0, locals := 44 } : Room)).room s m ([.ref (a 1), .int p1] : List Value).toArray below meth c H locs 0 0 (MQ below (va_Qi (fun (r : Int32) (_ : Unit) => r = out) (fun _ _ => True) wN0) ([.ref (a 1), .int p1] : List Value).toArray s 0 0 wN0) (F0 m 46 ls []) := by
              intro s46 H locs ls hP hS hl hF
              have hF := (congrFun hj46 s46).symm.trans hF
              refine lv_aload_n hx hb dX0_nearestDistance_46 rfl (lv_at hl 0 rfl) ?_
              refine lv_iload_n hx hb dX0_nearestDistance_47 rfl (lv_at hl 2 rfl) ?_
              obtain ⟨o9, h10, hF⟩ := obd hF
              refine wcRVi (As := [.int s4.2]) (rest := []) (b := (a 1)) ⟨hx, hb, hml, hown, hts⟩ (met_X0_distance l dC dI cyI cyO a N g s4.2 o9 h10) (cwV 1 hts (gV w_methodLink_X0_86 w_instanceMethod_X0_distance w_selects_X0_distance w_initialized_X0 w_code_X0_distance) rfl rfl rfl (by decide +kernel) ⟨Nat.le_of_ble_eq_true rfl, Nat.le_of_ble_eq_true rfl⟩) (va_recv hK.1 hP (ci := 0) (q0 := 0) rfl rfl) hP hK [0, 1, 2, 3, 4, 5, 6, 7] rfl rfl hl.1 (Nat.le_of_ble_eq_true rfl) dX0_nearestDistance_48 ⟨Nat.le_of_ble_eq_true rfl, Nat.le_of_ble_eq_true rfl⟩ hS (fun r H locs hw hP hS => ?_)
              have hw := hw.symm
              subst hw
              refine lv_istore_n (lv' := [(2, .int o9), (0, .ref (a 1)), (1, .int p1), (3, .int s4.2)]) hx hb dX0_nearestDistance_51 rfl hl (by decide) rfl (fun ls hl => ?_)
              exact hJ52 o9 _ _ _ hP hS (lv_sub hl [1, 2, 0, 3] rfl) hF
            refine lv_icmp_eq (tgt := 46) hx hb dX0_nearestDistance_34 (by decide) (fun c11 => ?_) (fun c11 => ?_)
            · have hF := itp c11 hF
              exact hJ46 () _ _ _ hP hS (lv_sub hl [0, 1, 3] rfl) hF
            · have hF := itn c11 hF
              refine lv_aload_n hx hb dX0_nearestDistance_37 rfl (lv_at hl 0 rfl) ?_
              refine lv_iload_n hx hb dX0_nearestDistance_38 rfl (lv_at hl 3 rfl) ?_
              obtain ⟨o12, h13, hF⟩ := obd hF
              refine wcRVi (As := [.int s4.2]) (rest := []) (b := (a 1)) ⟨hx, hb, hml, hown, hts⟩ (met_X0_distance l dC dI cyI cyO a N g s4.2 o12 h13) (cwV 1 hts (gV w_methodLink_X0_86 w_instanceMethod_X0_distance w_selects_X0_distance w_initialized_X0 w_code_X0_distance) rfl rfl rfl (by decide +kernel) ⟨Nat.le_of_ble_eq_true rfl, Nat.le_of_ble_eq_true rfl⟩) (va_recv hK.1 hP (ci := 0) (q0 := 0) rfl rfl) hP hK [0, 1, 2, 3, 4, 5, 6, 7] rfl rfl hl.1 (Nat.le_of_ble_eq_true rfl) dX0_nearestDistance_39 ⟨Nat.le_of_ble_eq_true rfl, Nat.le_of_ble_eq_true rfl⟩ hS (fun r H locs hw hP hS => ?_)
              have hw := hw.symm
              subst hw
              refine lv_iload_n hx hb dX0_nearestDistance_42 rfl (lv_at hl 2 rfl) ?_
              refine lv_icmp_ge (tgt := 52) hx hb dX0_nearestDistance_43 (by decide) (fun c14 => ?_) (fun c14 => ?_)
              · have hF := itp c14 hF
                exact hJ52 s4.1 _ _ _ hP hS (lv_sub hl [0, 1, 2, 3] rfl) hF
              · have hF := itn c14 hF
                exact hJ46 () _ _ _ hP hS (lv_sub hl [0, 1, 3] rfl) hF
  exact hL4 N ((-1 : Int32), (0 : Int32)) _ _ _ hP hS (lv_sub hl [2, 3, 1, 0] rfl) hF
theorem dX0_gapOfSides_0 : decode cX0_gapOfSides 0 = .ok (.aload_n 0, 1) := by decide +kernel
theorem dX0_gapOfSides_1 : decode cX0_gapOfSides 1 = .ok (.iconst 0, 1) := by decide +kernel
theorem dX0_gapOfSides_2 : decode cX0_gapOfSides 2 = .ok (.invokevirtual 103, 3) := by decide +kernel
theorem dX0_gapOfSides_5 : decode cX0_gapOfSides 5 = .ok (.istore_n 1, 1) := by decide +kernel
theorem dX0_gapOfSides_6 : decode cX0_gapOfSides 6 = .ok (.aload_n 0, 1) := by decide +kernel
theorem dX0_gapOfSides_7 : decode cX0_gapOfSides 7 = .ok (.iconst 1, 1) := by decide +kernel
theorem dX0_gapOfSides_8 : decode cX0_gapOfSides 8 = .ok (.invokevirtual 103, 3) := by decide +kernel
theorem dX0_gapOfSides_11 : decode cX0_gapOfSides 11 = .ok (.istore_n 2, 1) := by decide +kernel
theorem dX0_gapOfSides_12 : decode cX0_gapOfSides 12 = .ok (.aload_n 0, 1) := by decide +kernel
theorem dX0_gapOfSides_13 : decode cX0_gapOfSides 13 = .ok (.invokevirtual 106, 3) := by decide +kernel
theorem dX0_gapOfSides_16 : decode cX0_gapOfSides 16 = .ok (.ifCond .eq 13, 3) := by decide +kernel
theorem dX0_gapOfSides_19 : decode cX0_gapOfSides 19 = .ok (.iload_n 1, 1) := by decide +kernel
theorem dX0_gapOfSides_20 : decode cX0_gapOfSides 20 = .ok (.iconst (-1), 1) := by decide +kernel
theorem dX0_gapOfSides_21 : decode cX0_gapOfSides 21 = .ok (.if_icmp .eq 8, 3) := by decide +kernel
theorem dX0_gapOfSides_24 : decode cX0_gapOfSides 24 = .ok (.iload_n 2, 1) := by decide +kernel
theorem dX0_gapOfSides_25 : decode cX0_gapOfSides 25 = .ok (.iconst (-1), 1) := by decide +kernel
theorem dX0_gapOfSides_26 : decode cX0_gapOfSides 26 = .ok (.if_icmp .ne 5, 3) := by decide +kernel
theorem dX0_gapOfSides_29 : decode cX0_gapOfSides 29 = .ok (.iconst (-1), 1) := by decide +kernel
theorem dX0_gapOfSides_30 : decode cX0_gapOfSides 30 = .ok (.ireturn, 1) := by decide +kernel
theorem dX0_gapOfSides_31 : decode cX0_gapOfSides 31 = .ok (.iload_n 1, 1) := by decide +kernel
theorem dX0_gapOfSides_32 : decode cX0_gapOfSides 32 = .ok (.iload_n 2, 1) := by decide +kernel
theorem dX0_gapOfSides_33 : decode cX0_gapOfSides 33 = .ok (.isub, 1) := by decide +kernel
theorem dX0_gapOfSides_34 : decode cX0_gapOfSides 34 = .ok (.invokestatic 109, 3) := by decide +kernel
theorem dX0_gapOfSides_37 : decode cX0_gapOfSides 37 = .ok (.ireturn, 1) := by decide +kernel
def f_X0_gapOfSides (N : Nat) (g : GV) : Option (Int32) :=
  (f_X0_nearestDistance N g (0 : Int32)).bind (fun o1 => (f_X0_nearestDistance N g (1 : Int32)).bind (fun o3 => (f_X0_hasJack N g).bind (fun o5 => jn (fun (s29 : Unit) => some (-1 : Int32)) (fun (j29 : (Unit) → Option (Int32)) => (if o5 = 0 then j29 () else (if o1 = (-1 : Int32) then j29 () else (if o3 = (-1 : Int32) then j29 () else (f_J9_abs_0f7a4 N (o1 - o3)).bind (fun o11 => some o11))))))))
set_option maxHeartbeats 4000000 in
set_option maxRecDepth 100000 in
theorem met_X0_gapOfSides (l : Launch) (dC : Nat → ClassId) (dI : Nat → Nat → Nat) (cyI cyO : ClassId) (a : Nat → Nat) (N : Nat) (g : GV) (out : Int32) (hF : f_X0_gapOfSides N g = some out) : Met l yX0_gapOfSides (Cond.code yX0_gapOfSides cX0_gapOfSides 3 (some .int) :: wT) ({ frames := 3, cells := 0, slots := 0, locals := 67 } : Room) (wRd dC dI cyI cyO [.ref (a 1)] (cG cyI a g)) (va_Qi (fun (r : Int32) (_ : Unit) => r = out) (fun _ _ => True) wN0) 0 0 wN0 := by
  refine Met.ofW (cc := cX0_gapOfSides) (maxL := 3) (ret := (some .int)) (by decide) rfl ?_
  intro p e s m args below meth c s₁ B hml hv
  obtain ⟨rfl, hP, hK⟩ := hv
  have hx := B.exec
  have hb := B.bytes
  have hr := B.returns
  have hts0 := atoms_spec (ws := (Cond.code yX0_gapOfSides cX0_gapOfSides 3 (some .int) :: wT)) B.pre
  have hts := fun w h => hts0 w (List.mem_cons_of_mem _ h)
  clear hts0
  have hown : s.vm.findClass RX0 = some m.cls := findClass_of_methodNamed B.named
  have hlocks := B.notSynchronized
  have hS : va_S wN0 s.heap s.heap [] := va_S.rf
  have hl := lv_entry [.ref (a 1)] (n := 3) (Nat.le_of_ble_eq_true rfl)
  rw [lg_entry_eq]
  generalize (lg_sl [.ref (a 1)] ++ List.replicate (3 - (lg_sl [.ref (a 1)]).length) Slot.unset).toArray = ls at hl ⊢
  have hl : lv_has ls 3 [(0, .ref (a 1))] := hl
  unfold f_X0_gapOfSides at hF
  refine lv_aload_n hx hb dX0_gapOfSides_0 rfl (lv_at hl 0 rfl) ?_
  refine lv_iconst (v := 0) hx hb dX0_gapOfSides_1 (by decide) ?_
  obtain ⟨o1, h2, hF⟩ := obd hF
  refine wcRVi (As := [.int (0 : Int32)]) (rest := []) (b := (a 1)) ⟨hx, hb, hml, hown, hts⟩ (met_X0_nearestDistance l dC dI cyI cyO a N g (0 : Int32) o1 h2) (cwV 1 hts (gV w_methodLink_X0_103 w_instanceMethod_X0_nearestDistance w_selects_X0_nearestDistance w_initialized_X0 w_code_X0_nearestDistance) rfl rfl rfl (by decide +kernel) ⟨Nat.le_of_ble_eq_true rfl, Nat.le_of_ble_eq_true rfl⟩) (va_recv hK.1 hP (ci := 0) (q0 := 0) rfl rfl) hP hK [0, 1, 2, 3, 4, 5, 6, 7] rfl rfl hl.1 (Nat.le_of_ble_eq_true rfl) dX0_gapOfSides_2 ⟨Nat.le_of_ble_eq_true rfl, Nat.le_of_ble_eq_true rfl⟩ hS (fun r H locs hw hP hS => ?_)
  have hw := hw.symm
  subst hw
  refine lv_istore_n (lv' := [(1, .int o1), (0, .ref (a 1))]) hx hb dX0_gapOfSides_5 rfl hl (by decide) rfl (fun ls hl => ?_)
  refine lv_aload_n hx hb dX0_gapOfSides_6 rfl (lv_at hl 1 rfl) ?_
  refine lv_iconst (v := 1) hx hb dX0_gapOfSides_7 (by decide) ?_
  obtain ⟨o3, h4, hF⟩ := obd hF
  refine wcRVi (As := [.int (1 : Int32)]) (rest := []) (b := (a 1)) ⟨hx, hb, hml, hown, hts⟩ (met_X0_nearestDistance l dC dI cyI cyO a N g (1 : Int32) o3 h4) (cwV 1 hts (gV w_methodLink_X0_103 w_instanceMethod_X0_nearestDistance w_selects_X0_nearestDistance w_initialized_X0 w_code_X0_nearestDistance) rfl rfl rfl (by decide +kernel) ⟨Nat.le_of_ble_eq_true rfl, Nat.le_of_ble_eq_true rfl⟩) (va_recv hK.1 hP (ci := 0) (q0 := 0) rfl rfl) hP hK [0, 1, 2, 3, 4, 5, 6, 7] rfl rfl hl.1 (Nat.le_of_ble_eq_true rfl) dX0_gapOfSides_8 ⟨Nat.le_of_ble_eq_true rfl, Nat.le_of_ble_eq_true rfl⟩ hS (fun r H locs hw hP hS => ?_)
  have hw := hw.symm
  subst hw
  refine lv_istore_n (lv' := [(2, .int o3), (1, .int o1), (0, .ref (a 1))]) hx hb dX0_gapOfSides_11 rfl hl (by decide) rfl (fun ls hl => ?_)
  refine lv_aload_n hx hb dX0_gapOfSides_12 rfl (lv_at hl 2 rfl) ?_
  obtain ⟨o5, h6, hF⟩ := obd hF
  refine wcRVi (As := []) (rest := []) (b := (a 1)) ⟨hx, hb, hml, hown, hts⟩ (met_X0_hasJack l dC dI cyI cyO a N g  o5 h6) (cwV 0 hts (gV w_methodLink_X0_106 w_instanceMethod_X0_hasJack w_selects_X0_hasJack w_initialized_X0 w_code_X0_hasJack) rfl rfl rfl (by decide +kernel) ⟨Nat.le_of_ble_eq_true rfl, Nat.le_of_ble_eq_true rfl⟩) (va_recv hK.1 hP (ci := 0) (q0 := 0) rfl rfl) hP hK [0, 1, 2, 3, 4, 5, 6, 7] rfl rfl hl.1 (Nat.le_of_ble_eq_true rfl) dX0_gapOfSides_13 ⟨Nat.le_of_ble_eq_true rfl, Nat.le_of_ble_eq_true rfl⟩ hS (fun r H locs hw hP hS => ?_)
  obtain ⟨hw, hz7⟩ := hw
  have hw := hw.symm
  subst hw
  obtain ⟨j29, hj29, hF⟩ := jn_use hF
  have hJ29 : ∀ (s29 : Unit) (H : Heap) (locs : List Loc) (ls : Array Slot), va_P (dC, dI) vwCl (cG cyI a g) H → va_S wN0 s.heap H locs → lv_has ls 3 [] → j29 s29 = some out → W p l e (headSpec (Cond.code yX0_gapOfSides cX0_gapOfSides 3 (some .int) :: wT) ({ frames := 3, cells := 0, slots := 0, locals := 67 } : Room)).room s m ([.ref (a 1)] : List Value).toArray below meth c H locs 0 0 (MQ below (va_Qi (fun (r : Int32) (_ : Unit) => r = out) (fun _ _ => True) wN0) ([.ref (a 1)] : List Value).toArray s 0 0 wN0) (F0 m 29 ls []) := by
    intro s29 H locs ls hP hS hl hF
    have hF := (congrFun hj29 s29).symm.trans hF
    refine lv_iconst (v := -1) hx hb dX0_gapOfSides_29 (by decide) ?_
    exact W.iret (v := (-1 : Int32)) hx hb hr (fun t ht hW => ⟨⟨_, (), rfl, Option.some.inj hF, trivial⟩, hS.F ht⟩) hS.2.2 dX0_gapOfSides_30
  refine lv_if_eq (tgt := 29) hx hb dX0_gapOfSides_16 (by decide) (fun c8 => ?_) (fun c8 => ?_)
  · have hF := itp c8 hF
    exact hJ29 () _ _ _ hP hS (lv_sub hl [] rfl) hF
  · have hF := itn c8 hF
    refine lv_iload_n hx hb dX0_gapOfSides_19 rfl (lv_at hl 1 rfl) ?_
    refine lv_iconst (v := -1) hx hb dX0_gapOfSides_20 (by decide) ?_
    refine lv_icmp_eq (tgt := 29) hx hb dX0_gapOfSides_21 (by decide) (fun c9 => ?_) (fun c9 => ?_)
    · have hF := itp c9 hF
      exact hJ29 () _ _ _ hP hS (lv_sub hl [] rfl) hF
    · have hF := itn c9 hF
      refine lv_iload_n hx hb dX0_gapOfSides_24 rfl (lv_at hl 0 rfl) ?_
      refine lv_iconst (v := -1) hx hb dX0_gapOfSides_25 (by decide) ?_
      refine lv_icmp_ne (tgt := 31) hx hb dX0_gapOfSides_26 (by decide) (fun c10 => ?_) (fun c10 => ?_)
      · have hF := itn c10 hF
        refine lv_iload_n hx hb dX0_gapOfSides_31 rfl (lv_at hl 1 rfl) ?_
        refine lv_iload_n hx hb dX0_gapOfSides_32 rfl (lv_at hl 0 rfl) ?_
        refine lv_isub hx hb dX0_gapOfSides_33 ?_
        obtain ⟨o11, h12, hF⟩ := obd hF
        refine wcRSi (As := [.int (o1 - o3)]) (rest := []) ⟨hx, hb, hml, hown, hts⟩ (met_J9_abs_0f7a4 l dC dI cyI cyO  N  (o1 - o3) o11 h12) (va_cwS 1 hts (gS w_methodLink_X0_109 w_static_J9_abs_0f7a4 w_initialized_J9 w_code_J9_abs_0f7a4) rfl rfl rfl (by decide +kernel) ⟨Nat.le_of_ble_eq_true rfl, Nat.le_of_ble_eq_true rfl⟩) hP hK [] rfl rfl hl.1 (Nat.le_of_ble_eq_true rfl) dX0_gapOfSides_34 ⟨Nat.le_of_ble_eq_true rfl, Nat.le_of_ble_eq_true rfl⟩ hS (fun r H locs hw hP hS => ?_)
        have hw := hw.symm
        subst hw
        exact W.iret (v := o11) hx hb hr (fun t ht hW => ⟨⟨_, (), rfl, Option.some.inj hF, trivial⟩, hS.F ht⟩) hS.2.2 dX0_gapOfSides_37
      · have hF := itp c10 hF
        exact hJ29 () _ _ _ hP hS (lv_sub hl [] rfl) hF
theorem dX0_farthestApart_0 : decode cX0_farthestApart 0 = .ok (.iconst 0, 1) := by decide +kernel
theorem dX0_farthestApart_1 : decode cX0_farthestApart 1 = .ok (.istore_n 1, 1) := by decide +kernel
theorem dX0_farthestApart_2 : decode cX0_farthestApart 2 = .ok (.iconst 0, 1) := by decide +kernel
theorem dX0_farthestApart_3 : decode cX0_farthestApart 3 = .ok (.istore_n 2, 1) := by decide +kernel
theorem dX0_farthestApart_4 : decode cX0_farthestApart 4 = .ok (.iload_n 2, 1) := by decide +kernel
theorem dX0_farthestApart_5 : decode cX0_farthestApart 5 = .ok (.aload_n 0, 1) := by decide +kernel
theorem dX0_farthestApart_6 : decode cX0_farthestApart 6 = .ok (.getfield 33, 3) := by decide +kernel
theorem dX0_farthestApart_9 : decode cX0_farthestApart 9 = .ok (.if_icmp .ge 56, 3) := by decide +kernel
theorem dX0_farthestApart_12 : decode cX0_farthestApart 12 = .ok (.iconst 0, 1) := by decide +kernel
theorem dX0_farthestApart_13 : decode cX0_farthestApart 13 = .ok (.istore_n 3, 1) := by decide +kernel
theorem dX0_farthestApart_14 : decode cX0_farthestApart 14 = .ok (.iload_n 3, 1) := by decide +kernel
theorem dX0_farthestApart_15 : decode cX0_farthestApart 15 = .ok (.iload_n 2, 1) := by decide +kernel
theorem dX0_farthestApart_16 : decode cX0_farthestApart 16 = .ok (.if_icmp .ge 43, 3) := by decide +kernel
theorem dX0_farthestApart_19 : decode cX0_farthestApart 19 = .ok (.aload_n 0, 1) := by decide +kernel
theorem dX0_farthestApart_20 : decode cX0_farthestApart 20 = .ok (.iload_n 2, 1) := by decide +kernel
theorem dX0_farthestApart_21 : decode cX0_farthestApart 21 = .ok (.invokevirtual 48, 3) := by decide +kernel
theorem dX0_farthestApart_24 : decode cX0_farthestApart 24 = .ok (.ifCond .eq 29, 3) := by decide +kernel
theorem dX0_farthestApart_27 : decode cX0_farthestApart 27 = .ok (.aload_n 0, 1) := by decide +kernel
theorem dX0_farthestApart_28 : decode cX0_farthestApart 28 = .ok (.iload_n 3, 1) := by decide +kernel
theorem dX0_farthestApart_29 : decode cX0_farthestApart 29 = .ok (.invokevirtual 48, 3) := by decide +kernel
theorem dX0_farthestApart_32 : decode cX0_farthestApart 32 = .ok (.ifCond .eq 21, 3) := by decide +kernel
theorem dX0_farthestApart_35 : decode cX0_farthestApart 35 = .ok (.iload_n 1, 1) := by decide +kernel
theorem dX0_farthestApart_36 : decode cX0_farthestApart 36 = .ok (.aload_n 0, 1) := by decide +kernel
theorem dX0_farthestApart_37 : decode cX0_farthestApart 37 = .ok (.iload_n 2, 1) := by decide +kernel
theorem dX0_farthestApart_38 : decode cX0_farthestApart 38 = .ok (.invokevirtual 52, 3) := by decide +kernel
theorem dX0_farthestApart_41 : decode cX0_farthestApart 41 = .ok (.aload_n 0, 1) := by decide +kernel
theorem dX0_farthestApart_42 : decode cX0_farthestApart 42 = .ok (.iload_n 3, 1) := by decide +kernel
theorem dX0_farthestApart_43 : decode cX0_farthestApart 43 = .ok (.invokevirtual 52, 3) := by decide +kernel
theorem dX0_farthestApart_46 : decode cX0_farthestApart 46 = .ok (.invokestatic 82, 3) := by decide +kernel
theorem dX0_farthestApart_49 : decode cX0_farthestApart 49 = .ok (.invokestatic 114, 3) := by decide +kernel
theorem dX0_farthestApart_52 : decode cX0_farthestApart 52 = .ok (.istore_n 1, 1) := by decide +kernel
theorem dX0_farthestApart_53 : decode cX0_farthestApart 53 = .ok (.iinc 3 1, 3) := by decide +kernel
theorem dX0_farthestApart_56 : decode cX0_farthestApart 56 = .ok (.goto (-42), 3) := by decide +kernel
theorem dX0_farthestApart_59 : decode cX0_farthestApart 59 = .ok (.iinc 2 1, 3) := by decide +kernel
theorem dX0_farthestApart_62 : decode cX0_farthestApart 62 = .ok (.goto (-58), 3) := by decide +kernel
theorem dX0_farthestApart_65 : decode cX0_farthestApart 65 = .ok (.iload_n 1, 1) := by decide +kernel
theorem dX0_farthestApart_66 : decode cX0_farthestApart 66 = .ok (.ireturn, 1) := by decide +kernel
def f_X0_farthestApart (N : Nat) (g : GV) : Option (Int32) :=
  lpN (fun (s4 : Int32 × Int32) (k4 : (Int32 × Int32) → Option (Int32)) => (if (G_bowlCount g) ≤ s4.2 then some s4.1 else lpN (fun (s14 : Int32 × Int32) (k14 : (Int32 × Int32) → Option (Int32)) => (if s4.2 ≤ s14.2 then k4 (s14.1, (s4.2 + (1 : Int32))) else (f_X0_isAlive N g s4.2).bind (fun o3 => jn (fun (s53 : Int32) => k14 (s53, (s14.2 + (1 : Int32)))) (fun (j53 : (Int32) → Option (Int32)) => (if o3 = 0 then j53 s14.1 else (f_X0_isAlive N g s14.2).bind (fun o7 => (if o7 = 0 then j53 s14.1 else (f_X0_placeOf N g s4.2).bind (fun o11 => (f_X0_placeOf N g s14.2).bind (fun o13 => (f_X0_apart N o11 o13).bind (fun o15 => (f_J9_max_7cf53 N s14.1 o15).bind (fun o17 => j53 o17))))))))))) N (s4.1, (0 : Int32)))) N ((0 : Int32), (0 : Int32))
set_option maxHeartbeats 4000000 in
set_option maxRecDepth 100000 in
theorem met_X0_farthestApart (l : Launch) (dC : Nat → ClassId) (dI : Nat → Nat → Nat) (cyI cyO : ClassId) (a : Nat → Nat) (N : Nat) (g : GV) (out : Int32) (hF : f_X0_farthestApart N g = some out) : Met l yX0_farthestApart (Cond.code yX0_farthestApart cX0_farthestApart 4 (some .int) :: wT) ({ frames := 2, cells := 0, slots := 0, locals := 42 } : Room) (wRd dC dI cyI cyO [.ref (a 1)] (cG cyI a g)) (va_Qi (fun (r : Int32) (_ : Unit) => r = out) (fun _ _ => True) wN0) 0 0 wN0 := by
  refine Met.ofW (cc := cX0_farthestApart) (maxL := 4) (ret := (some .int)) (by decide) rfl ?_
  intro p e s m args below meth c s₁ B hml hv
  obtain ⟨rfl, hP, hK⟩ := hv
  have hx := B.exec
  have hb := B.bytes
  have hr := B.returns
  have hts0 := atoms_spec (ws := (Cond.code yX0_farthestApart cX0_farthestApart 4 (some .int) :: wT)) B.pre
  have hts := fun w h => hts0 w (List.mem_cons_of_mem _ h)
  clear hts0
  have hown : s.vm.findClass RX0 = some m.cls := findClass_of_methodNamed B.named
  have hlocks := B.notSynchronized
  have hS : va_S wN0 s.heap s.heap [] := va_S.rf
  have hl := lv_entry [.ref (a 1)] (n := 4) (Nat.le_of_ble_eq_true rfl)
  rw [lg_entry_eq]
  generalize (lg_sl [.ref (a 1)] ++ List.replicate (4 - (lg_sl [.ref (a 1)]).length) Slot.unset).toArray = ls at hl ⊢
  have hl : lv_has ls 4 [(0, .ref (a 1))] := hl
  unfold f_X0_farthestApart at hF
  refine lv_iconst (v := 0) hx hb dX0_farthestApart_0 (by decide) ?_
  refine lv_istore_n (lv' := [(1, .int (0 : Int32)), (0, .ref (a 1))]) hx hb dX0_farthestApart_1 rfl hl (by decide) rfl (fun ls hl => ?_)
  refine lv_iconst (v := 0) hx hb dX0_farthestApart_2 (by decide) ?_
  refine lv_istore_n (lv' := [(2, .int (0 : Int32)), (1, .int (0 : Int32)), (0, .ref (a 1))]) hx hb dX0_farthestApart_3 rfl hl (by decide) rfl (fun ls hl => ?_)
  obtain ⟨st4, hst4, hF⟩ := lpN_use hF
  have hL4 : ∀ (n : Nat) (s4 : Int32 × Int32) (H : Heap) (locs : List Loc) (ls : Array Slot), va_P (dC, dI) vwCl (cG cyI a g) H → va_S wN0 s.heap H locs → lv_has ls 4 [(0, .ref (a 1)), (1, .int s4.1), (2, .int s4.2)] → lpN st4 n s4 = some out → W p l e (headSpec (Cond.code yX0_farthestApart cX0_farthestApart 4 (some .int) :: wT) ({ frames := 2, cells := 0, slots := 0, locals := 42 } : Room)).room s m ([.ref (a 1)] : List Value).toArray below meth c H locs 0 0 (MQ below (va_Qi (fun (r : Int32) (_ : Unit) => r = out) (fun _ _ => True) wN0) ([.ref (a 1)] : List Value).toArray s 0 0 wN0) (F0 m 4 ls []) := by
    intro n
    induction n with
    | zero => intro s4 H locs ls hP hS hl hF; exact lpN_0 hF
    | succ n ih4 =>
      intro s4 H locs ls hP hS hl hF
      have hF := (congrFun (congrFun hst4 s4) (lpN st4 n)).symm.trans (lpN_s hF)
      refine lv_iload_n hx hb dX0_farthestApart_4 rfl (lv_at hl 2 rfl) ?_
      refine lv_aload_n hx hb dX0_farthestApart_5 rfl (lv_at hl 0 rfl) ?_
      refine va_get (D := (dC, dI)) (ci := 0) (v := .int (G_bowlCount g)) (C := RX0) (T := TX0) (N := 9) hx hb hts inX0 hown hK.1 hP 0 rfl rfl 7 (by decide) (hts _ w_fieldLink_X0_33) (fun _ h9 => h9) rfl dX0_farthestApart_6 ?_
      refine lv_icmp_ge (tgt := 65) hx hb dX0_farthestApart_9 (by decide) (fun c1 => ?_) (fun c1 => ?_)
      · have hF := itp c1 hF
        refine lv_iload_n hx hb dX0_farthestApart_65 rfl (lv_at hl 1 rfl) ?_
        exact W.iret (v := s4.1) hx hb hr (fun t ht hW => ⟨⟨_, (), rfl, Option.some.inj hF, trivial⟩, hS.F ht⟩) hS.2.2 dX0_farthestApart_66
      · have hF := itn c1 hF
        refine lv_iconst (v := 0) hx hb dX0_farthestApart_12 (by decide) ?_
        refine lv_istore_n (lv' := [(3, .int (0 : Int32)), (0, .ref (a 1)), (1, .int s4.1), (2, .int s4.2)]) hx hb dX0_farthestApart_13 rfl hl (by decide) rfl (fun ls hl => ?_)
        obtain ⟨st14, hst14, hF⟩ := lpN_use hF
        have hL14 : ∀ (n : Nat) (s14 : Int32 × Int32) (H : Heap) (locs : List Loc) (ls : Array Slot), va_P (dC, dI) vwCl (cG cyI a g) H → va_S wN0 s.heap H locs → lv_has ls 4 [(0, .ref (a 1)), (1, .int s14.1), (2, .int s4.2), (3, .int s14.2)] → lpN st14 n s14 = some out → W p l e (headSpec (Cond.code yX0_farthestApart cX0_farthestApart 4 (some .int) :: wT) ({ frames := 2, cells := 0, slots := 0, locals := 42 } : Room)).room s m ([.ref (a 1)] : List Value).toArray below meth c H locs 0 0 (MQ below (va_Qi (fun (r : Int32) (_ : Unit) => r = out) (fun _ _ => True) wN0) ([.ref (a 1)] : List Value).toArray s 0 0 wN0) (F0 m 14 ls []) := by
          intro n
          induction n with
          | zero => intro s14 H locs ls hP hS hl hF; exact lpN_0 hF
          | succ n ih14 =>
            intro s14 H locs ls hP hS hl hF
            have hF := (congrFun (congrFun hst14 s14) (lpN st14 n)).symm.trans (lpN_s hF)
            refine lv_iload_n hx hb dX0_farthestApart_14 rfl (lv_at hl 3 rfl) ?_
            refine lv_iload_n hx hb dX0_farthestApart_15 rfl (lv_at hl 2 rfl) ?_
            refine lv_icmp_ge (tgt := 59) hx hb dX0_farthestApart_16 (by decide) (fun c2 => ?_) (fun c2 => ?_)
            · have hF := itp c2 hF
              refine lv_iinc (v := (s4.2 + (1 : Int32))) (lv' := [(2, .int (s4.2 + (1 : Int32))), (0, .ref (a 1)), (1, .int s14.1), (3, .int s14.2)]) hx hb dX0_farthestApart_59 hl (k := 2) rfl rfl (by decide) rfl (fun ls hl => ?_)
              refine lv_goto (tgt := 4) hx hb dX0_farthestApart_62 (by decide) ?_
              exact ih4 (s14.1, (s4.2 + (1 : Int32))) _ _ _ hP hS (lv_sub hl [1, 2, 0] rfl) hF
            · have hF := itn c2 hF
              refine lv_aload_n hx hb dX0_farthestApart_19 rfl (lv_at hl 0 rfl) ?_
              refine lv_iload_n hx hb dX0_farthestApart_20 rfl (lv_at hl 2 rfl) ?_
              obtain ⟨o3, h4, hF⟩ := obd hF
              refine wcRVi (As := [.int s4.2]) (rest := []) (b := (a 1)) ⟨hx, hb, hml, hown, hts⟩ (met_X0_isAlive l dC dI cyI cyO a N g s4.2 o3 h4) (cwV 1 hts (gV w_methodLink_X0_48 w_instanceMethod_X0_isAlive w_selects_X0_isAlive w_initialized_X0 w_code_X0_isAlive) rfl rfl rfl (by decide +kernel) ⟨Nat.le_of_ble_eq_true rfl, Nat.le_of_ble_eq_true rfl⟩) (va_recv hK.1 hP (ci := 0) (q0 := 0) rfl rfl) hP hK [0, 1, 2, 3, 4, 5, 6, 7] rfl rfl hl.1 (Nat.le_of_ble_eq_true rfl) dX0_farthestApart_21 ⟨Nat.le_of_ble_eq_true rfl, Nat.le_of_ble_eq_true rfl⟩ hS (fun r H locs hw hP hS => ?_)
              obtain ⟨hw, hz5⟩ := hw
              have hw := hw.symm
              subst hw
              obtain ⟨j53, hj53, hF⟩ := jn_use hF
              have hJ53 : ∀ (s53 : Int32) (H : Heap) (locs : List Loc) (ls : Array Slot), va_P (dC, dI) vwCl (cG cyI a g) H → va_S wN0 s.heap H locs → lv_has ls 4 [(0, .ref (a 1)), (1, .int s53), (2, .int s4.2), (3, .int s14.2)] → j53 s53 = some out → W p l e (headSpec (Cond.code yX0_farthestApart cX0_farthestApart 4 (some .int) :: wT) ({ frames := 2, cells := 0, slots := 0, locals := 42 } : Room)).room s m ([.ref (a 1)] : List Value).toArray below meth c H locs 0 0 (MQ below (va_Qi (fun (r : Int32) (_ : Unit) => r = out) (fun _ _ => True) wN0) ([.ref (a 1)] : List Value).toArray s 0 0 wN0) (F0 m 53 ls []) := by
                intro s53 H locs ls hP hS hl hF
                have hF := (congrFun hj53 s53).symm.trans hF
                refine lv_iinc (v := (s14.2 + (1 : Int32))) (lv' := [(3, .int (s14.2 + (1 : Int32))), (0, .ref (a 1)), (1, .int s53), (2, .int s4.2)]) hx hb dX0_farthestApart_53 hl (k := 3) rfl rfl (by decide) rfl (fun ls hl => ?_)
                refine lv_goto (tgt := 14) hx hb dX0_farthestApart_56 (by decide) ?_
                exact ih14 (s53, (s14.2 + (1 : Int32))) _ _ _ hP hS (lv_sub hl [1, 2, 3, 0] rfl) hF
              refine lv_if_eq (tgt := 53) hx hb dX0_farthestApart_24 (by decide) (fun c6 => ?_) (fun c6 => ?_)
              · have hF := itp c6 hF
                exact hJ53 s14.1 _ _ _ hP hS (lv_sub hl [0, 1, 2, 3] rfl) hF
              · have hF := itn c6 hF
                refine lv_aload_n hx hb dX0_farthestApart_27 rfl (lv_at hl 0 rfl) ?_
                refine lv_iload_n hx hb dX0_farthestApart_28 rfl (lv_at hl 3 rfl) ?_
                obtain ⟨o7, h8, hF⟩ := obd hF
                refine wcRVi (As := [.int s14.2]) (rest := []) (b := (a 1)) ⟨hx, hb, hml, hown, hts⟩ (met_X0_isAlive l dC dI cyI cyO a N g s14.2 o7 h8) (cwV 1 hts (gV w_methodLink_X0_48 w_instanceMethod_X0_isAlive w_selects_X0_isAlive w_initialized_X0 w_code_X0_isAlive) rfl rfl rfl (by decide +kernel) ⟨Nat.le_of_ble_eq_true rfl, Nat.le_of_ble_eq_true rfl⟩) (va_recv hK.1 hP (ci := 0) (q0 := 0) rfl rfl) hP hK [0, 1, 2, 3, 4, 5, 6, 7] rfl rfl hl.1 (Nat.le_of_ble_eq_true rfl) dX0_farthestApart_29 ⟨Nat.le_of_ble_eq_true rfl, Nat.le_of_ble_eq_true rfl⟩ hS (fun r H locs hw hP hS => ?_)
                obtain ⟨hw, hz9⟩ := hw
                have hw := hw.symm
                subst hw
                refine lv_if_eq (tgt := 53) hx hb dX0_farthestApart_32 (by decide) (fun c10 => ?_) (fun c10 => ?_)
                · have hF := itp c10 hF
                  exact hJ53 s14.1 _ _ _ hP hS (lv_sub hl [0, 1, 2, 3] rfl) hF
                · have hF := itn c10 hF
                  refine lv_iload_n hx hb dX0_farthestApart_35 rfl (lv_at hl 1 rfl) ?_
                  refine lv_aload_n hx hb dX0_farthestApart_36 rfl (lv_at hl 0 rfl) ?_
                  refine lv_iload_n hx hb dX0_farthestApart_37 rfl (lv_at hl 2 rfl) ?_
                  obtain ⟨o11, h12, hF⟩ := obd hF
                  refine wcRVi (As := [.int s4.2]) (rest := [.int s14.1]) (b := (a 1)) ⟨hx, hb, hml, hown, hts⟩ (met_X0_placeOf l dC dI cyI cyO a N g s4.2 o11 h12) (cwV 1 hts (gV w_methodLink_X0_52 w_instanceMethod_X0_placeOf w_selects_X0_placeOf w_initialized_X0 w_code_X0_placeOf) rfl rfl rfl (by decide +kernel) ⟨Nat.le_of_ble_eq_true rfl, Nat.le_of_ble_eq_true rfl⟩) (va_recv hK.1 hP (ci := 0) (q0 := 0) rfl rfl) hP hK [0, 1, 2, 3, 4, 5, 6, 7] rfl rfl hl.1 (Nat.le_of_ble_eq_true rfl) dX0_farthestApart_38 ⟨Nat.le_of_ble_eq_true rfl, Nat.le_of_ble_eq_true rfl⟩ hS (fun r H locs hw hP hS => ?_)
                  have hw := hw.symm
                  subst hw
                  refine lv_aload_n hx hb dX0_farthestApart_41 rfl (lv_at hl 0 rfl) ?_
                  refine lv_iload_n hx hb dX0_farthestApart_42 rfl (lv_at hl 3 rfl) ?_
                  obtain ⟨o13, h14, hF⟩ := obd hF
                  refine wcRVi (As := [.int s14.2]) (rest := [.int o11, .int s14.1]) (b := (a 1)) ⟨hx, hb, hml, hown, hts⟩ (met_X0_placeOf l dC dI cyI cyO a N g s14.2 o13 h14) (cwV 1 hts (gV w_methodLink_X0_52 w_instanceMethod_X0_placeOf w_selects_X0_placeOf w_initialized_X0 w_code_X0_placeOf) rfl rfl rfl (by decide +kernel) ⟨Nat.le_of_ble_eq_true rfl, Nat.le_of_ble_eq_true rfl⟩) (va_recv hK.1 hP (ci := 0) (q0 := 0) rfl rfl) hP hK [0, 1, 2, 3, 4, 5, 6, 7] rfl rfl hl.1 (Nat.le_of_ble_eq_true rfl) dX0_farthestApart_43 ⟨Nat.le_of_ble_eq_true rfl, Nat.le_of_ble_eq_true rfl⟩ hS (fun r H locs hw hP hS => ?_)
                  have hw := hw.symm
                  subst hw
                  obtain ⟨o15, h16, hF⟩ := obd hF
                  refine wcRSi (As := [.int o11, .int o13]) (rest := [.int s14.1]) ⟨hx, hb, hml, hown, hts⟩ (met_X0_apart l dC dI cyI cyO  N  o11 o13 o15 h16) (va_cwS 2 hts (gS w_methodLink_X0_82 w_static_X0_apart w_initialized_X0 w_code_X0_apart) rfl rfl rfl (by decide +kernel) ⟨Nat.le_of_ble_eq_true rfl, Nat.le_of_ble_eq_true rfl⟩) hP hK [] rfl rfl hl.1 (Nat.le_of_ble_eq_true rfl) dX0_farthestApart_46 ⟨Nat.le_of_ble_eq_true rfl, Nat.le_of_ble_eq_true rfl⟩ hS (fun r H locs hw hP hS => ?_)
                  have hw := hw.symm
                  subst hw
                  obtain ⟨o17, h18, hF⟩ := obd hF
                  refine wcRSi (As := [.int s14.1, .int o15]) (rest := []) ⟨hx, hb, hml, hown, hts⟩ (met_J9_max_7cf53 l dC dI cyI cyO  N  s14.1 o15 o17 h18) (va_cwS 2 hts (gS w_methodLink_X0_114 w_static_J9_max_7cf53 w_initialized_J9 w_code_J9_max_7cf53) rfl rfl rfl (by decide +kernel) ⟨Nat.le_of_ble_eq_true rfl, Nat.le_of_ble_eq_true rfl⟩) hP hK [] rfl rfl hl.1 (Nat.le_of_ble_eq_true rfl) dX0_farthestApart_49 ⟨Nat.le_of_ble_eq_true rfl, Nat.le_of_ble_eq_true rfl⟩ hS (fun r H locs hw hP hS => ?_)
                  have hw := hw.symm
                  subst hw
                  refine lv_istore_n (lv' := [(1, .int o17), (0, .ref (a 1)), (2, .int s4.2), (3, .int s14.2)]) hx hb dX0_farthestApart_52 rfl hl (by decide) rfl (fun ls hl => ?_)
                  exact hJ53 o17 _ _ _ hP hS (lv_sub hl [1, 0, 2, 3] rfl) hF
        exact hL14 N (s4.1, (0 : Int32)) _ _ _ hP hS (lv_sub hl [1, 2, 3, 0] rfl) hF
  exact hL4 N ((0 : Int32), (0 : Int32)) _ _ _ hP hS (lv_sub hl [2, 1, 0] rfl) hF
theorem dX0_takeAway_0 : decode cX0_takeAway 0 = .ok (.aload_n 0, 1) := by decide +kernel
theorem dX0_takeAway_1 : decode cX0_takeAway 1 = .ok (.getfield 9, 3) := by decide +kernel
theorem dX0_takeAway_4 : decode cX0_takeAway 4 = .ok (.iconst (-1), 1) := by decide +kernel
theorem dX0_takeAway_5 : decode cX0_takeAway 5 = .ok (.invokestatic 44, 3) := by decide +kernel
theorem dX0_takeAway_8 : decode cX0_takeAway 8 = .ok (.aload_n 0, 1) := by decide +kernel
theorem dX0_takeAway_9 : decode cX0_takeAway 9 = .ok (.getfield 27, 3) := by decide +kernel
theorem dX0_takeAway_12 : decode cX0_takeAway 12 = .ok (.iconst 0, 1) := by decide +kernel
theorem dX0_takeAway_13 : decode cX0_takeAway 13 = .ok (.invokestatic 44, 3) := by decide +kernel
theorem dX0_takeAway_16 : decode cX0_takeAway 16 = .ok (.aload_n 0, 1) := by decide +kernel
theorem dX0_takeAway_17 : decode cX0_takeAway 17 = .ok (.iconst 0, 1) := by decide +kernel
theorem dX0_takeAway_18 : decode cX0_takeAway 18 = .ok (.putfield 33, 3) := by decide +kernel
theorem dX0_takeAway_21 : decode cX0_takeAway 21 = .ok (.return_, 1) := by decide +kernel
def f_X0_takeAway (N : Nat) (g : GV) : Option (GV) :=
  (f_X5_fillAll N 9 (G_places g) (-1 : Int32)).bind (fun o1 => (f_X5_fillAll N 8 (G_touched g) (0 : Int32)).bind (fun o3 => some (G_set_bowlCount (G_set_touched (G_set_places g o1) o3) (0 : Int32))))
set_option maxHeartbeats 4000000 in
set_option maxRecDepth 100000 in
theorem met_X0_takeAway (l : Launch) (dC : Nat → ClassId) (dI : Nat → Nat → Nat) (cyI cyO : ClassId) (a : Nat → Nat) (sz : Nat) (N : Nat) (g : GV) (out : GV) (hF : f_X0_takeAway N g = some out) : Met l yX0_takeAway (Cond.code yX0_takeAway cX0_takeAway 1 none :: wT) ({ frames := 1, cells := 0, slots := 0, locals := 22 } : Room) (wWr dC dI cyI cyO [.ref (a 1)] (cG cyI a g) sz) (va_Qv (fun (u : GV) => u = out) (fun u t => va_P (dC, dI) vwCl (cG cyI a u) t.heap ∧ va_D (va_A (cG cyI a g) sz) (cG cyI a u)) (va_A (cG cyI a g) sz)) 0 0 (va_A (cG cyI a g) sz) := by
  refine Met.ofW (cc := cX0_takeAway) (maxL := 1) (ret := none) (by decide) rfl ?_
  intro p e s m args below meth c s₁ B hml hv
  obtain ⟨rfl, hsz, hP, hK, hD0⟩ := hv
  have hx := B.exec
  have hb := B.bytes
  have hr := B.returns
  have hts0 := atoms_spec (ws := (Cond.code yX0_takeAway cX0_takeAway 1 none :: wT)) B.pre
  have hts := fun w h => hts0 w (List.mem_cons_of_mem _ h)
  clear hts0
  have hown : s.vm.findClass RX0 = some m.cls := findClass_of_methodNamed B.named
  have hlocks := B.notSynchronized
  subst hsz
  have hD := hD0.self (sz := s.heap.size)
  generalize hAe : va_A (cG cyI a g) s.heap.size = A at hD ⊢
  have hA : ∀ q : Nat, s.heap.size ≤ q → A q := fun q h => by rw [← hAe]; exact Or.inr h
  clear hD0
  have hS : va_S A s.heap s.heap [] := va_S.rf
  have hl := lv_entry [.ref (a 1)] (n := 1) (Nat.le_of_ble_eq_true rfl)
  rw [lg_entry_eq]
  generalize (lg_sl [.ref (a 1)] ++ List.replicate (1 - (lg_sl [.ref (a 1)]).length) Slot.unset).toArray = ls at hl ⊢
  have hl : lv_has ls 1 [(0, .ref (a 1))] := hl
  unfold f_X0_takeAway at hF
  refine lv_aload_n hx hb dX0_takeAway_0 rfl (lv_at hl 0 rfl) ?_
  refine va_get (D := (dC, dI)) (ci := 0) (v := .ref (a 2)) (C := RX0) (T := TX0) (N := 9) hx hb hts inX0 hown hK.1 hP 0 rfl rfl 0 (by decide) (hts _ w_fieldLink_X0_9) (fun _ h9 => h9) rfl dX0_takeAway_1 ?_
  refine lv_iconst (v := -1) hx hb dX0_takeAway_4 (by decide) ?_
  obtain ⟨o1, h2, hF⟩ := obd hF
  refine wcWNv (As := [.ref (a 2), .int (-1 : Int32)]) (rest := []) (wr := [0, 2, 3, 4, 5, 6, 7].filterMap (fun i => ((cG cyI a g))[i]?)) ⟨hx, hb, hml, hown, hts⟩ (met_X5_fillAll l dC dI cyI cyO (a 2) 9 _ N (G_places g) (-1 : Int32) o1 h2) ⟨va_cnB 2 hts (gCode w_code_X5_fillAll) rfl rfl rfl (hK.2 _ n_X0_44) (hts _ w_initialized_X5) (by decide +kernel) ⟨Nat.le_of_ble_eq_true rfl, Nat.le_of_ble_eq_true rfl⟩, hts _ w_static_X5_fillAll, trivial⟩ hP hD hK [1] [0, 2, 3, 4, 5, 6, 7] rfl rfl (by decide) (by decide) (by decide) rfl hl.1 (Nat.le_of_ble_eq_true rfl) dX0_takeAway_5 ⟨Nat.le_of_ble_eq_true rfl, Nat.le_of_ble_eq_true rfl⟩ hS hA (fun u H locs hw hP hD hS => ?_)
  have hw := hw.symm
  subst hw
  have hP := hP.sub (ws' := (cG cyI a (G_set_places g o1))) [0, 7, 1, 2, 3, 4, 5, 6] rfl
  have hD := hD.sub (ws' := (cG cyI a (G_set_places g o1))) [0, 7, 1, 2, 3, 4, 5, 6] (by decide) rfl
  refine lv_aload_n hx hb dX0_takeAway_8 rfl (lv_at hl 0 rfl) ?_
  refine va_get (D := (dC, dI)) (ci := 0) (v := .ref (a 7)) (C := RX0) (T := TX0) (N := 9) hx hb hts inX0 hown hK.1 hP 0 rfl rfl 5 (by decide) (hts _ w_fieldLink_X0_27) (fun _ h9 => h9) rfl dX0_takeAway_9 ?_
  refine lv_iconst (v := 0) hx hb dX0_takeAway_12 (by decide) ?_
  obtain ⟨o3, h4, hF⟩ := obd hF
  refine wcWNv (As := [.ref (a 7), .int (0 : Int32)]) (rest := []) (wr := [0, 1, 2, 3, 4, 5, 7].filterMap (fun i => ((cG cyI a (G_set_places g o1)))[i]?)) ⟨hx, hb, hml, hown, hts⟩ (met_X5_fillAll l dC dI cyI cyO (a 7) 8 _ N (G_touched g) (0 : Int32) o3 h4) ⟨va_cnB 2 hts (gCode w_code_X5_fillAll) rfl rfl rfl (hK.2 _ n_X0_44) (hts _ w_initialized_X5) (by decide +kernel) ⟨Nat.le_of_ble_eq_true rfl, Nat.le_of_ble_eq_true rfl⟩, hts _ w_static_X5_fillAll, trivial⟩ hP hD hK [6] [0, 1, 2, 3, 4, 5, 7] rfl rfl (by decide) (by decide) (by decide) rfl hl.1 (Nat.le_of_ble_eq_true rfl) dX0_takeAway_13 ⟨Nat.le_of_ble_eq_true rfl, Nat.le_of_ble_eq_true rfl⟩ hS hA (fun u H locs hw hP hD hS => ?_)
  have hw := hw.symm
  subst hw
  have hP := hP.sub (ws' := (cG cyI a (G_set_touched (G_set_places g o1) o3))) [0, 1, 2, 3, 4, 5, 7, 6] rfl
  have hD := hD.sub (ws' := (cG cyI a (G_set_touched (G_set_places g o1) o3))) [0, 1, 2, 3, 4, 5, 7, 6] (by decide) rfl
  refine lv_aload_n hx hb dX0_takeAway_16 rfl (lv_at hl 0 rfl) ?_
  refine lv_iconst (v := 0) hx hb dX0_takeAway_17 (by decide) ?_
  refine va_put (D := (dC, dI)) (ci := 0) (v := .int (0 : Int32)) (ty := .int) (C := RX0) (T := TX0) (N := 9) hx hb hts inX0 tyX0 tyX0_ok nmX0 hown hK.1 hP hD hS 0 rfl rfl 7 (by decide) (hts _ w_fieldLink_X0_33) (fun _ h9 => h9) rfl (by decide +kernel) rfl rfl (Nat.le_of_ble_eq_true rfl) dX0_takeAway_18 (fun H locs hP hD hS => ?_)
  have hP : va_P (dC, dI) vwCl (cG cyI a (G_set_bowlCount (G_set_touched (G_set_places g o1) o3) (0 : Int32))) H := hP
  have hD : va_D A (cG cyI a (G_set_bowlCount (G_set_touched (G_set_places g o1) o3) (0 : Int32))) := hD
  exact W.vret hx hb hr (fun t ht hW => ⟨⟨_, rfl, Option.some.inj hF, by rw [ht]; exact hP, hD⟩, hS.F ht⟩) hS.2.2 dX0_takeAway_21
theorem dX0_copyFrom_0 : decode cX0_copyFrom 0 = .ok (.aload_n 1, 1) := by decide +kernel
theorem dX0_copyFrom_1 : decode cX0_copyFrom 1 = .ok (.getfield 9, 3) := by decide +kernel
theorem dX0_copyFrom_4 : decode cX0_copyFrom 4 = .ok (.aload_n 0, 1) := by decide +kernel
theorem dX0_copyFrom_5 : decode cX0_copyFrom 5 = .ok (.getfield 9, 3) := by decide +kernel
theorem dX0_copyFrom_8 : decode cX0_copyFrom 8 = .ok (.invokestatic 40, 3) := by decide +kernel
theorem dX0_copyFrom_11 : decode cX0_copyFrom 11 = .ok (.aload_n 1, 1) := by decide +kernel
theorem dX0_copyFrom_12 : decode cX0_copyFrom 12 = .ok (.getfield 15, 3) := by decide +kernel
theorem dX0_copyFrom_15 : decode cX0_copyFrom 15 = .ok (.aload_n 0, 1) := by decide +kernel
theorem dX0_copyFrom_16 : decode cX0_copyFrom 16 = .ok (.getfield 15, 3) := by decide +kernel
theorem dX0_copyFrom_19 : decode cX0_copyFrom 19 = .ok (.invokestatic 40, 3) := by decide +kernel
theorem dX0_copyFrom_22 : decode cX0_copyFrom 22 = .ok (.aload_n 1, 1) := by decide +kernel
theorem dX0_copyFrom_23 : decode cX0_copyFrom 23 = .ok (.getfield 18, 3) := by decide +kernel
theorem dX0_copyFrom_26 : decode cX0_copyFrom 26 = .ok (.aload_n 0, 1) := by decide +kernel
theorem dX0_copyFrom_27 : decode cX0_copyFrom 27 = .ok (.getfield 18, 3) := by decide +kernel
theorem dX0_copyFrom_30 : decode cX0_copyFrom 30 = .ok (.invokestatic 40, 3) := by decide +kernel
theorem dX0_copyFrom_33 : decode cX0_copyFrom 33 = .ok (.aload_n 1, 1) := by decide +kernel
theorem dX0_copyFrom_34 : decode cX0_copyFrom 34 = .ok (.getfield 21, 3) := by decide +kernel
theorem dX0_copyFrom_37 : decode cX0_copyFrom 37 = .ok (.aload_n 0, 1) := by decide +kernel
theorem dX0_copyFrom_38 : decode cX0_copyFrom 38 = .ok (.getfield 21, 3) := by decide +kernel
theorem dX0_copyFrom_41 : decode cX0_copyFrom 41 = .ok (.invokestatic 40, 3) := by decide +kernel
theorem dX0_copyFrom_44 : decode cX0_copyFrom 44 = .ok (.aload_n 1, 1) := by decide +kernel
theorem dX0_copyFrom_45 : decode cX0_copyFrom 45 = .ok (.getfield 24, 3) := by decide +kernel
theorem dX0_copyFrom_48 : decode cX0_copyFrom 48 = .ok (.aload_n 0, 1) := by decide +kernel
theorem dX0_copyFrom_49 : decode cX0_copyFrom 49 = .ok (.getfield 24, 3) := by decide +kernel
theorem dX0_copyFrom_52 : decode cX0_copyFrom 52 = .ok (.invokestatic 40, 3) := by decide +kernel
theorem dX0_copyFrom_55 : decode cX0_copyFrom 55 = .ok (.aload_n 1, 1) := by decide +kernel
theorem dX0_copyFrom_56 : decode cX0_copyFrom 56 = .ok (.getfield 27, 3) := by decide +kernel
theorem dX0_copyFrom_59 : decode cX0_copyFrom 59 = .ok (.aload_n 0, 1) := by decide +kernel
theorem dX0_copyFrom_60 : decode cX0_copyFrom 60 = .ok (.getfield 27, 3) := by decide +kernel
theorem dX0_copyFrom_63 : decode cX0_copyFrom 63 = .ok (.invokestatic 40, 3) := by decide +kernel
theorem dX0_copyFrom_66 : decode cX0_copyFrom 66 = .ok (.aload_n 0, 1) := by decide +kernel
theorem dX0_copyFrom_67 : decode cX0_copyFrom 67 = .ok (.aload_n 1, 1) := by decide +kernel
theorem dX0_copyFrom_68 : decode cX0_copyFrom 68 = .ok (.getfield 33, 3) := by decide +kernel
theorem dX0_copyFrom_71 : decode cX0_copyFrom 71 = .ok (.putfield 33, 3) := by decide +kernel
theorem dX0_copyFrom_74 : decode cX0_copyFrom 74 = .ok (.aload_n 0, 1) := by decide +kernel
theorem dX0_copyFrom_75 : decode cX0_copyFrom 75 = .ok (.aload_n 1, 1) := by decide +kernel
theorem dX0_copyFrom_76 : decode cX0_copyFrom 76 = .ok (.getfield 37, 3) := by decide +kernel
theorem dX0_copyFrom_79 : decode cX0_copyFrom 79 = .ok (.putfield 37, 3) := by decide +kernel
theorem dX0_copyFrom_82 : decode cX0_copyFrom 82 = .ok (.return_, 1) := by decide +kernel
def f_X0_copyFrom (N : Nat) (g : GV) (v : GV) : Option (GV × GV) :=
  (f_X5_copyAll N 9 9 (G_places v) (G_places g)).bind (fun o1 => (f_X5_copyAll N 8 8 (G_sides v) (G_sides g)).bind (fun o3 => (f_X5_copyAll N 8 8 (G_aims v) (G_aims g)).bind (fun o5 => (f_X5_copyAll N 8 8 (G_weights v) (G_weights g)).bind (fun o7 => (f_X5_copyAll N 8 8 (G_biases v) (G_biases g)).bind (fun o9 => (f_X5_copyAll N 8 8 (G_touched v) (G_touched g)).bind (fun o11 => some ((G_set_strikes (G_set_bowlCount (G_set_touched (G_set_biases (G_set_weights (G_set_aims (G_set_sides (G_set_places g o1.2) o3.2) o5.2) o7.2) o9.2) o11.2) (G_bowlCount v)) (G_strikes v)), (G_set_touched (G_set_biases (G_set_weights (G_set_aims (G_set_sides (G_set_places v o1.1) o3.1) o5.1) o7.1) o9.1) o11.1))))))))
set_option maxHeartbeats 4000000 in
set_option maxRecDepth 100000 in
theorem met_X0_copyFrom (l : Launch) (dC : Nat → ClassId) (dI : Nat → Nat → Nat) (cyI cyO : ClassId) (a : Nat → Nat) (b : Nat → Nat) (sz : Nat) (N : Nat) (g : GV) (v : GV) (out : GV × GV) (hF : f_X0_copyFrom N g v = some out) : Met l yX0_copyFrom (Cond.code yX0_copyFrom cX0_copyFrom 2 none :: wT) ({ frames := 1, cells := 0, slots := 0, locals := 22 } : Room) (wWr dC dI cyI cyO [.ref (a 1), .ref (b 1)] ((cG cyI a g) ++ (cG cyI b v)) sz) (va_Qv (fun (u : GV × GV) => u = out) (fun u t => va_P (dC, dI) vwCl ((cG cyI a u.1) ++ (cG cyI b u.2)) t.heap ∧ va_D (va_A ((cG cyI a g) ++ (cG cyI b v)) sz) ((cG cyI a u.1) ++ (cG cyI b u.2))) (va_A ((cG cyI a g) ++ (cG cyI b v)) sz)) 0 0 (va_A ((cG cyI a g) ++ (cG cyI b v)) sz) := by
  refine Met.ofW (cc := cX0_copyFrom) (maxL := 2) (ret := none) (by decide) rfl ?_
  intro p e s m args below meth c s₁ B hml hv
  obtain ⟨rfl, hsz, hP, hK, hD0⟩ := hv
  have hx := B.exec
  have hb := B.bytes
  have hr := B.returns
  have hts0 := atoms_spec (ws := (Cond.code yX0_copyFrom cX0_copyFrom 2 none :: wT)) B.pre
  have hts := fun w h => hts0 w (List.mem_cons_of_mem _ h)
  clear hts0
  have hown : s.vm.findClass RX0 = some m.cls := findClass_of_methodNamed B.named
  have hlocks := B.notSynchronized
  subst hsz
  have hD := hD0.self (sz := s.heap.size)
  generalize hAe : va_A ((cG cyI a g) ++ (cG cyI b v)) s.heap.size = A at hD ⊢
  have hA : ∀ q : Nat, s.heap.size ≤ q → A q := fun q h => by rw [← hAe]; exact Or.inr h
  clear hD0
  have hS : va_S A s.heap s.heap [] := va_S.rf
  have hl := lv_entry [.ref (a 1), .ref (b 1)] (n := 2) (Nat.le_of_ble_eq_true rfl)
  rw [lg_entry_eq]
  generalize (lg_sl [.ref (a 1), .ref (b 1)] ++ List.replicate (2 - (lg_sl [.ref (a 1), .ref (b 1)]).length) Slot.unset).toArray = ls at hl ⊢
  have hl : lv_has ls 2 [(0, .ref (a 1)), (1, .ref (b 1))] := hl
  unfold f_X0_copyFrom at hF
  refine lv_aload_n hx hb dX0_copyFrom_0 rfl (lv_at hl 1 rfl) ?_
  refine va_get (D := (dC, dI)) (ci := 0) (v := .ref (b 2)) (C := RX0) (T := TX0) (N := 9) hx hb hts inX0 hown hK.1 hP 8 rfl rfl 0 (by decide) (hts _ w_fieldLink_X0_9) (fun _ h9 => h9) rfl dX0_copyFrom_1 ?_
  refine lv_aload_n hx hb dX0_copyFrom_4 rfl (lv_at hl 0 rfl) ?_
  refine va_get (D := (dC, dI)) (ci := 0) (v := .ref (a 2)) (C := RX0) (T := TX0) (N := 9) hx hb hts inX0 hown hK.1 hP 0 rfl rfl 0 (by decide) (hts _ w_fieldLink_X0_9) (fun _ h9 => h9) rfl dX0_copyFrom_5 ?_
  obtain ⟨o1, h2, hF⟩ := obd hF
  refine wcWNv (As := [.ref (b 2), .ref (a 2)]) (rest := []) (wr := [0, 2, 3, 4, 5, 6, 7, 8, 10, 11, 12, 13, 14, 15].filterMap (fun i => (((cG cyI a g) ++ (cG cyI b v)))[i]?)) ⟨hx, hb, hml, hown, hts⟩ (met_X5_copyAll l dC dI cyI cyO (b 2) 9 (a 2) 9 _ N (G_places v) (G_places g)  o1 h2) ⟨va_cnB 2 hts (gCode w_code_X5_copyAll) rfl rfl rfl (hK.2 _ n_X0_40) (hts _ w_initialized_X5) (by decide +kernel) ⟨Nat.le_of_ble_eq_true rfl, Nat.le_of_ble_eq_true rfl⟩, hts _ w_static_X5_copyAll, trivial⟩ hP hD hK [9, 1] [0, 2, 3, 4, 5, 6, 7, 8, 10, 11, 12, 13, 14, 15] rfl rfl (by decide) (by decide) (by decide) rfl hl.1 (Nat.le_of_ble_eq_true rfl) dX0_copyFrom_8 ⟨Nat.le_of_ble_eq_true rfl, Nat.le_of_ble_eq_true rfl⟩ hS hA (fun u H locs hw hP hD hS => ?_)
  have hw := hw.symm
  subst hw
  have hP := hP.sub (ws' := ((cG cyI a (G_set_places g o1.2)) ++ (cG cyI b (G_set_places v o1.1)))) [0, 15, 1, 2, 3, 4, 5, 6, 7, 14, 8, 9, 10, 11, 12, 13] rfl
  have hD := hD.sub (ws' := ((cG cyI a (G_set_places g o1.2)) ++ (cG cyI b (G_set_places v o1.1)))) [0, 15, 1, 2, 3, 4, 5, 6, 7, 14, 8, 9, 10, 11, 12, 13] (by decide) rfl
  refine lv_aload_n hx hb dX0_copyFrom_11 rfl (lv_at hl 1 rfl) ?_
  refine va_get (D := (dC, dI)) (ci := 0) (v := .ref (b 3)) (C := RX0) (T := TX0) (N := 9) hx hb hts inX0 hown hK.1 hP 8 rfl rfl 1 (by decide) (hts _ w_fieldLink_X0_15) (fun _ h9 => h9) rfl dX0_copyFrom_12 ?_
  refine lv_aload_n hx hb dX0_copyFrom_15 rfl (lv_at hl 0 rfl) ?_
  refine va_get (D := (dC, dI)) (ci := 0) (v := .ref (a 3)) (C := RX0) (T := TX0) (N := 9) hx hb hts inX0 hown hK.1 hP 0 rfl rfl 1 (by decide) (hts _ w_fieldLink_X0_15) (fun _ h9 => h9) rfl dX0_copyFrom_16 ?_
  obtain ⟨o3, h4, hF⟩ := obd hF
  refine wcWNv (As := [.ref (b 3), .ref (a 3)]) (rest := []) (wr := [0, 1, 3, 4, 5, 6, 7, 8, 9, 11, 12, 13, 14, 15].filterMap (fun i => (((cG cyI a (G_set_places g o1.2)) ++ (cG cyI b (G_set_places v o1.1))))[i]?)) ⟨hx, hb, hml, hown, hts⟩ (met_X5_copyAll l dC dI cyI cyO (b 3) 8 (a 3) 8 _ N (G_sides v) (G_sides g)  o3 h4) ⟨va_cnB 2 hts (gCode w_code_X5_copyAll) rfl rfl rfl (hK.2 _ n_X0_40) (hts _ w_initialized_X5) (by decide +kernel) ⟨Nat.le_of_ble_eq_true rfl, Nat.le_of_ble_eq_true rfl⟩, hts _ w_static_X5_copyAll, trivial⟩ hP hD hK [10, 2] [0, 1, 3, 4, 5, 6, 7, 8, 9, 11, 12, 13, 14, 15] rfl rfl (by decide) (by decide) (by decide) rfl hl.1 (Nat.le_of_ble_eq_true rfl) dX0_copyFrom_19 ⟨Nat.le_of_ble_eq_true rfl, Nat.le_of_ble_eq_true rfl⟩ hS hA (fun u H locs hw hP hD hS => ?_)
  have hw := hw.symm
  subst hw
  have hP := hP.sub (ws' := ((cG cyI a (G_set_sides (G_set_places g o1.2) o3.2)) ++ (cG cyI b (G_set_sides (G_set_places v o1.1) o3.1)))) [0, 1, 15, 2, 3, 4, 5, 6, 7, 8, 14, 9, 10, 11, 12, 13] rfl
  have hD := hD.sub (ws' := ((cG cyI a (G_set_sides (G_set_places g o1.2) o3.2)) ++ (cG cyI b (G_set_sides (G_set_places v o1.1) o3.1)))) [0, 1, 15, 2, 3, 4, 5, 6, 7, 8, 14, 9, 10, 11, 12, 13] (by decide) rfl
  refine lv_aload_n hx hb dX0_copyFrom_22 rfl (lv_at hl 1 rfl) ?_
  refine va_get (D := (dC, dI)) (ci := 0) (v := .ref (b 4)) (C := RX0) (T := TX0) (N := 9) hx hb hts inX0 hown hK.1 hP 8 rfl rfl 2 (by decide) (hts _ w_fieldLink_X0_18) (fun _ h9 => h9) rfl dX0_copyFrom_23 ?_
  refine lv_aload_n hx hb dX0_copyFrom_26 rfl (lv_at hl 0 rfl) ?_
  refine va_get (D := (dC, dI)) (ci := 0) (v := .ref (a 4)) (C := RX0) (T := TX0) (N := 9) hx hb hts inX0 hown hK.1 hP 0 rfl rfl 2 (by decide) (hts _ w_fieldLink_X0_18) (fun _ h9 => h9) rfl dX0_copyFrom_27 ?_
  obtain ⟨o5, h6, hF⟩ := obd hF
  refine wcWNv (As := [.ref (b 4), .ref (a 4)]) (rest := []) (wr := [0, 1, 2, 4, 5, 6, 7, 8, 9, 10, 12, 13, 14, 15].filterMap (fun i => (((cG cyI a (G_set_sides (G_set_places g o1.2) o3.2)) ++ (cG cyI b (G_set_sides (G_set_places v o1.1) o3.1))))[i]?)) ⟨hx, hb, hml, hown, hts⟩ (met_X5_copyAll l dC dI cyI cyO (b 4) 8 (a 4) 8 _ N (G_aims v) (G_aims g)  o5 h6) ⟨va_cnB 2 hts (gCode w_code_X5_copyAll) rfl rfl rfl (hK.2 _ n_X0_40) (hts _ w_initialized_X5) (by decide +kernel) ⟨Nat.le_of_ble_eq_true rfl, Nat.le_of_ble_eq_true rfl⟩, hts _ w_static_X5_copyAll, trivial⟩ hP hD hK [11, 3] [0, 1, 2, 4, 5, 6, 7, 8, 9, 10, 12, 13, 14, 15] rfl rfl (by decide) (by decide) (by decide) rfl hl.1 (Nat.le_of_ble_eq_true rfl) dX0_copyFrom_30 ⟨Nat.le_of_ble_eq_true rfl, Nat.le_of_ble_eq_true rfl⟩ hS hA (fun u H locs hw hP hD hS => ?_)
  have hw := hw.symm
  subst hw
  have hP := hP.sub (ws' := ((cG cyI a (G_set_aims (G_set_sides (G_set_places g o1.2) o3.2) o5.2)) ++ (cG cyI b (G_set_aims (G_set_sides (G_set_places v o1.1) o3.1) o5.1)))) [0, 1, 2, 15, 3, 4, 5, 6, 7, 8, 9, 14, 10, 11, 12, 13] rfl
  have hD := hD.sub (ws' := ((cG cyI a (G_set_aims (G_set_sides (G_set_places g o1.2) o3.2) o5.2)) ++ (cG cyI b (G_set_aims (G_set_sides (G_set_places v o1.1) o3.1) o5.1)))) [0, 1, 2, 15, 3, 4, 5, 6, 7, 8, 9, 14, 10, 11, 12, 13] (by decide) rfl
  refine lv_aload_n hx hb dX0_copyFrom_33 rfl (lv_at hl 1 rfl) ?_
  refine va_get (D := (dC, dI)) (ci := 0) (v := .ref (b 5)) (C := RX0) (T := TX0) (N := 9) hx hb hts inX0 hown hK.1 hP 8 rfl rfl 3 (by decide) (hts _ w_fieldLink_X0_21) (fun _ h9 => h9) rfl dX0_copyFrom_34 ?_
  refine lv_aload_n hx hb dX0_copyFrom_37 rfl (lv_at hl 0 rfl) ?_
  refine va_get (D := (dC, dI)) (ci := 0) (v := .ref (a 5)) (C := RX0) (T := TX0) (N := 9) hx hb hts inX0 hown hK.1 hP 0 rfl rfl 3 (by decide) (hts _ w_fieldLink_X0_21) (fun _ h9 => h9) rfl dX0_copyFrom_38 ?_
  obtain ⟨o7, h8, hF⟩ := obd hF
  refine wcWNv (As := [.ref (b 5), .ref (a 5)]) (rest := []) (wr := [0, 1, 2, 3, 5, 6, 7, 8, 9, 10, 11, 13, 14, 15].filterMap (fun i => (((cG cyI a (G_set_aims (G_set_sides (G_set_places g o1.2) o3.2) o5.2)) ++ (cG cyI b (G_set_aims (G_set_sides (G_set_places v o1.1) o3.1) o5.1))))[i]?)) ⟨hx, hb, hml, hown, hts⟩ (met_X5_copyAll l dC dI cyI cyO (b 5) 8 (a 5) 8 _ N (G_weights v) (G_weights g)  o7 h8) ⟨va_cnB 2 hts (gCode w_code_X5_copyAll) rfl rfl rfl (hK.2 _ n_X0_40) (hts _ w_initialized_X5) (by decide +kernel) ⟨Nat.le_of_ble_eq_true rfl, Nat.le_of_ble_eq_true rfl⟩, hts _ w_static_X5_copyAll, trivial⟩ hP hD hK [12, 4] [0, 1, 2, 3, 5, 6, 7, 8, 9, 10, 11, 13, 14, 15] rfl rfl (by decide) (by decide) (by decide) rfl hl.1 (Nat.le_of_ble_eq_true rfl) dX0_copyFrom_41 ⟨Nat.le_of_ble_eq_true rfl, Nat.le_of_ble_eq_true rfl⟩ hS hA (fun u H locs hw hP hD hS => ?_)
  have hw := hw.symm
  subst hw
  have hP := hP.sub (ws' := ((cG cyI a (G_set_weights (G_set_aims (G_set_sides (G_set_places g o1.2) o3.2) o5.2) o7.2)) ++ (cG cyI b (G_set_weights (G_set_aims (G_set_sides (G_set_places v o1.1) o3.1) o5.1) o7.1)))) [0, 1, 2, 3, 15, 4, 5, 6, 7, 8, 9, 10, 14, 11, 12, 13] rfl
  have hD := hD.sub (ws' := ((cG cyI a (G_set_weights (G_set_aims (G_set_sides (G_set_places g o1.2) o3.2) o5.2) o7.2)) ++ (cG cyI b (G_set_weights (G_set_aims (G_set_sides (G_set_places v o1.1) o3.1) o5.1) o7.1)))) [0, 1, 2, 3, 15, 4, 5, 6, 7, 8, 9, 10, 14, 11, 12, 13] (by decide) rfl
  refine lv_aload_n hx hb dX0_copyFrom_44 rfl (lv_at hl 1 rfl) ?_
  refine va_get (D := (dC, dI)) (ci := 0) (v := .ref (b 6)) (C := RX0) (T := TX0) (N := 9) hx hb hts inX0 hown hK.1 hP 8 rfl rfl 4 (by decide) (hts _ w_fieldLink_X0_24) (fun _ h9 => h9) rfl dX0_copyFrom_45 ?_
  refine lv_aload_n hx hb dX0_copyFrom_48 rfl (lv_at hl 0 rfl) ?_
  refine va_get (D := (dC, dI)) (ci := 0) (v := .ref (a 6)) (C := RX0) (T := TX0) (N := 9) hx hb hts inX0 hown hK.1 hP 0 rfl rfl 4 (by decide) (hts _ w_fieldLink_X0_24) (fun _ h9 => h9) rfl dX0_copyFrom_49 ?_
  obtain ⟨o9, h10, hF⟩ := obd hF
  refine wcWNv (As := [.ref (b 6), .ref (a 6)]) (rest := []) (wr := [0, 1, 2, 3, 4, 6, 7, 8, 9, 10, 11, 12, 14, 15].filterMap (fun i => (((cG cyI a (G_set_weights (G_set_aims (G_set_sides (G_set_places g o1.2) o3.2) o5.2) o7.2)) ++ (cG cyI b (G_set_weights (G_set_aims (G_set_sides (G_set_places v o1.1) o3.1) o5.1) o7.1))))[i]?)) ⟨hx, hb, hml, hown, hts⟩ (met_X5_copyAll l dC dI cyI cyO (b 6) 8 (a 6) 8 _ N (G_biases v) (G_biases g)  o9 h10) ⟨va_cnB 2 hts (gCode w_code_X5_copyAll) rfl rfl rfl (hK.2 _ n_X0_40) (hts _ w_initialized_X5) (by decide +kernel) ⟨Nat.le_of_ble_eq_true rfl, Nat.le_of_ble_eq_true rfl⟩, hts _ w_static_X5_copyAll, trivial⟩ hP hD hK [13, 5] [0, 1, 2, 3, 4, 6, 7, 8, 9, 10, 11, 12, 14, 15] rfl rfl (by decide) (by decide) (by decide) rfl hl.1 (Nat.le_of_ble_eq_true rfl) dX0_copyFrom_52 ⟨Nat.le_of_ble_eq_true rfl, Nat.le_of_ble_eq_true rfl⟩ hS hA (fun u H locs hw hP hD hS => ?_)
  have hw := hw.symm
  subst hw
  have hP := hP.sub (ws' := ((cG cyI a (G_set_biases (G_set_weights (G_set_aims (G_set_sides (G_set_places g o1.2) o3.2) o5.2) o7.2) o9.2)) ++ (cG cyI b (G_set_biases (G_set_weights (G_set_aims (G_set_sides (G_set_places v o1.1) o3.1) o5.1) o7.1) o9.1)))) [0, 1, 2, 3, 4, 15, 5, 6, 7, 8, 9, 10, 11, 14, 12, 13] rfl
  have hD := hD.sub (ws' := ((cG cyI a (G_set_biases (G_set_weights (G_set_aims (G_set_sides (G_set_places g o1.2) o3.2) o5.2) o7.2) o9.2)) ++ (cG cyI b (G_set_biases (G_set_weights (G_set_aims (G_set_sides (G_set_places v o1.1) o3.1) o5.1) o7.1) o9.1)))) [0, 1, 2, 3, 4, 15, 5, 6, 7, 8, 9, 10, 11, 14, 12, 13] (by decide) rfl
  refine lv_aload_n hx hb dX0_copyFrom_55 rfl (lv_at hl 1 rfl) ?_
  refine va_get (D := (dC, dI)) (ci := 0) (v := .ref (b 7)) (C := RX0) (T := TX0) (N := 9) hx hb hts inX0 hown hK.1 hP 8 rfl rfl 5 (by decide) (hts _ w_fieldLink_X0_27) (fun _ h9 => h9) rfl dX0_copyFrom_56 ?_
  refine lv_aload_n hx hb dX0_copyFrom_59 rfl (lv_at hl 0 rfl) ?_
  refine va_get (D := (dC, dI)) (ci := 0) (v := .ref (a 7)) (C := RX0) (T := TX0) (N := 9) hx hb hts inX0 hown hK.1 hP 0 rfl rfl 5 (by decide) (hts _ w_fieldLink_X0_27) (fun _ h9 => h9) rfl dX0_copyFrom_60 ?_
  obtain ⟨o11, h12, hF⟩ := obd hF
  refine wcWNv (As := [.ref (b 7), .ref (a 7)]) (rest := []) (wr := [0, 1, 2, 3, 4, 5, 7, 8, 9, 10, 11, 12, 13, 15].filterMap (fun i => (((cG cyI a (G_set_biases (G_set_weights (G_set_aims (G_set_sides (G_set_places g o1.2) o3.2) o5.2) o7.2) o9.2)) ++ (cG cyI b (G_set_biases (G_set_weights (G_set_aims (G_set_sides (G_set_places v o1.1) o3.1) o5.1) o7.1) o9.1))))[i]?)) ⟨hx, hb, hml, hown, hts⟩ (met_X5_copyAll l dC dI cyI cyO (b 7) 8 (a 7) 8 _ N (G_touched v) (G_touched g)  o11 h12) ⟨va_cnB 2 hts (gCode w_code_X5_copyAll) rfl rfl rfl (hK.2 _ n_X0_40) (hts _ w_initialized_X5) (by decide +kernel) ⟨Nat.le_of_ble_eq_true rfl, Nat.le_of_ble_eq_true rfl⟩, hts _ w_static_X5_copyAll, trivial⟩ hP hD hK [14, 6] [0, 1, 2, 3, 4, 5, 7, 8, 9, 10, 11, 12, 13, 15] rfl rfl (by decide) (by decide) (by decide) rfl hl.1 (Nat.le_of_ble_eq_true rfl) dX0_copyFrom_63 ⟨Nat.le_of_ble_eq_true rfl, Nat.le_of_ble_eq_true rfl⟩ hS hA (fun u H locs hw hP hD hS => ?_)
  have hw := hw.symm
  subst hw
  have hP := hP.sub (ws' := ((cG cyI a (G_set_touched (G_set_biases (G_set_weights (G_set_aims (G_set_sides (G_set_places g o1.2) o3.2) o5.2) o7.2) o9.2) o11.2)) ++ (cG cyI b (G_set_touched (G_set_biases (G_set_weights (G_set_aims (G_set_sides (G_set_places v o1.1) o3.1) o5.1) o7.1) o9.1) o11.1)))) [0, 1, 2, 3, 4, 5, 15, 6, 7, 8, 9, 10, 11, 12, 14, 13] rfl
  have hD := hD.sub (ws' := ((cG cyI a (G_set_touched (G_set_biases (G_set_weights (G_set_aims (G_set_sides (G_set_places g o1.2) o3.2) o5.2) o7.2) o9.2) o11.2)) ++ (cG cyI b (G_set_touched (G_set_biases (G_set_weights (G_set_aims (G_set_sides (G_set_places v o1.1) o3.1) o5.1) o7.1) o9.1) o11.1)))) [0, 1, 2, 3, 4, 5, 15, 6, 7, 8, 9, 10, 11, 12, 14, 13] (by decide) rfl
  refine lv_aload_n hx hb dX0_copyFrom_66 rfl (lv_at hl 0 rfl) ?_
  refine lv_aload_n hx hb dX0_copyFrom_67 rfl (lv_at hl 1 rfl) ?_
  refine va_get (D := (dC, dI)) (ci := 0) (v := .int (G_bowlCount v)) (C := RX0) (T := TX0) (N := 9) hx hb hts inX0 hown hK.1 hP 8 rfl rfl 7 (by decide) (hts _ w_fieldLink_X0_33) (fun _ h9 => h9) rfl dX0_copyFrom_68 ?_
  refine va_put (D := (dC, dI)) (ci := 0) (v := .int (G_bowlCount v)) (ty := .int) (C := RX0) (T := TX0) (N := 9) hx hb hts inX0 tyX0 tyX0_ok nmX0 hown hK.1 hP hD hS 0 rfl rfl 7 (by decide) (hts _ w_fieldLink_X0_33) (fun _ h9 => h9) rfl (by decide +kernel) rfl rfl (Nat.le_of_ble_eq_true rfl) dX0_copyFrom_71 (fun H locs hP hD hS => ?_)
  have hP : va_P (dC, dI) vwCl ((cG cyI a (G_set_bowlCount (G_set_touched (G_set_biases (G_set_weights (G_set_aims (G_set_sides (G_set_places g o1.2) o3.2) o5.2) o7.2) o9.2) o11.2) (G_bowlCount v))) ++ (cG cyI b (G_set_touched (G_set_biases (G_set_weights (G_set_aims (G_set_sides (G_set_places v o1.1) o3.1) o5.1) o7.1) o9.1) o11.1))) H := hP
  have hD : va_D A ((cG cyI a (G_set_bowlCount (G_set_touched (G_set_biases (G_set_weights (G_set_aims (G_set_sides (G_set_places g o1.2) o3.2) o5.2) o7.2) o9.2) o11.2) (G_bowlCount v))) ++ (cG cyI b (G_set_touched (G_set_biases (G_set_weights (G_set_aims (G_set_sides (G_set_places v o1.1) o3.1) o5.1) o7.1) o9.1) o11.1))) := hD
  refine lv_aload_n hx hb dX0_copyFrom_74 rfl (lv_at hl 0 rfl) ?_
  refine lv_aload_n hx hb dX0_copyFrom_75 rfl (lv_at hl 1 rfl) ?_
  refine va_get (D := (dC, dI)) (ci := 0) (v := .int (G_strikes v)) (C := RX0) (T := TX0) (N := 9) hx hb hts inX0 hown hK.1 hP 8 rfl rfl 8 (by decide) (hts _ w_fieldLink_X0_37) (fun _ h9 => h9) rfl dX0_copyFrom_76 ?_
  refine va_put (D := (dC, dI)) (ci := 0) (v := .int (G_strikes v)) (ty := .int) (C := RX0) (T := TX0) (N := 9) hx hb hts inX0 tyX0 tyX0_ok nmX0 hown hK.1 hP hD hS 0 rfl rfl 8 (by decide) (hts _ w_fieldLink_X0_37) (fun _ h9 => h9) rfl (by decide +kernel) rfl rfl (Nat.le_of_ble_eq_true rfl) dX0_copyFrom_79 (fun H locs hP hD hS => ?_)
  have hP : va_P (dC, dI) vwCl ((cG cyI a (G_set_strikes (G_set_bowlCount (G_set_touched (G_set_biases (G_set_weights (G_set_aims (G_set_sides (G_set_places g o1.2) o3.2) o5.2) o7.2) o9.2) o11.2) (G_bowlCount v)) (G_strikes v))) ++ (cG cyI b (G_set_touched (G_set_biases (G_set_weights (G_set_aims (G_set_sides (G_set_places v o1.1) o3.1) o5.1) o7.1) o9.1) o11.1))) H := hP
  have hD : va_D A ((cG cyI a (G_set_strikes (G_set_bowlCount (G_set_touched (G_set_biases (G_set_weights (G_set_aims (G_set_sides (G_set_places g o1.2) o3.2) o5.2) o7.2) o9.2) o11.2) (G_bowlCount v)) (G_strikes v))) ++ (cG cyI b (G_set_touched (G_set_biases (G_set_weights (G_set_aims (G_set_sides (G_set_places v o1.1) o3.1) o5.1) o7.1) o9.1) o11.1))) := hD
  exact W.vret hx hb hr (fun t ht hW => ⟨⟨_, rfl, Option.some.inj hF, by rw [ht]; exact hP, hD⟩, hS.F ht⟩) hS.2.2 dX0_copyFrom_82
