/-! written by program from the bytecode: what each method computes, and its contract -/

theorem dX3_canRoll_0 : decode cX3_canRoll 0 = .ok (.aload_n 0, 1) := by decide +kernel
theorem dX3_canRoll_1 : decode cX3_canRoll 1 = .ok (.getfield 21, 3) := by decide +kernel
theorem dX3_canRoll_4 : decode cX3_canRoll 4 = .ok (.invokevirtual 46, 3) := by decide +kernel
theorem dX3_canRoll_7 : decode cX3_canRoll 7 = .ok (.ifCond .ne 17, 3) := by decide +kernel
theorem dX3_canRoll_10 : decode cX3_canRoll 10 = .ok (.aload_n 0, 1) := by decide +kernel
theorem dX3_canRoll_11 : decode cX3_canRoll 11 = .ok (.getfield 12, 3) := by decide +kernel
theorem dX3_canRoll_14 : decode cX3_canRoll 14 = .ok (.invokevirtual 50, 3) := by decide +kernel
theorem dX3_canRoll_17 : decode cX3_canRoll 17 = .ok (.ifCond .ne 7, 3) := by decide +kernel
theorem dX3_canRoll_20 : decode cX3_canRoll 20 = .ok (.iconst 1, 1) := by decide +kernel
theorem dX3_canRoll_21 : decode cX3_canRoll 21 = .ok (.goto 4, 3) := by decide +kernel
theorem dX3_canRoll_24 : decode cX3_canRoll 24 = .ok (.iconst 0, 1) := by decide +kernel
theorem dX3_canRoll_25 : decode cX3_canRoll 25 = .ok (.ireturn, 1) := by decide +kernel
def f_X3_canRoll (N : Nat) (v : SV) : Option (Int32) :=
  (f_X1_isWon N (S_score v)).bind (fun o1 => jn (fun (s25 : Int32) => some s25) (fun (j25 : (Int32) → Option (Int32)) => jn (fun (s24 : Unit) => j25 (0 : Int32)) (fun (j24 : (Unit) → Option (Int32)) => (if o1 = 0 then (f_X0_hasJack N (S_green v)).bind (fun o5 => (if o5 = 0 then j25 (1 : Int32) else j24 ())) else j24 ()))))
set_option maxHeartbeats 4000000 in
set_option maxRecDepth 100000 in
theorem met_X3_canRoll (l : Launch) (dC : Nat → ClassId) (dI : Nat → Nat → Nat) (cyI cyO : ClassId) (a : Nat → Nat) (N : Nat) (v : SV) (out : Int32) (hF : f_X3_canRoll N v = some out) : Met l yX3_canRoll (Cond.code yX3_canRoll cX3_canRoll 1 (some .boolean) :: wT) ({ frames := 3, cells := 0, slots := 0, locals := 62 } : Room) (wRd dC dI cyI cyO [.ref (a 0)] (cS cyI a v)) (va_Qi (fun (r : Int32) (_ : Unit) => r = out ∧ b01 r) (fun _ _ => True) wN0) 0 0 wN0 := by
  refine Met.ofW (cc := cX3_canRoll) (maxL := 1) (ret := (some .boolean)) (by decide) rfl ?_
  intro p e s m args below meth c s₁ B hml hv
  obtain ⟨rfl, hP, hK⟩ := hv
  have hx := B.exec
  have hb := B.bytes
  have hr := B.returns
  have hts0 := atoms_spec (ws := (Cond.code yX3_canRoll cX3_canRoll 1 (some .boolean) :: wT)) B.pre
  have hts := fun w h => hts0 w (List.mem_cons_of_mem _ h)
  clear hts0
  have hown : s.vm.findClass RX3 = some m.cls := findClass_of_methodNamed B.named
  have hlocks := B.notSynchronized
  have hS : va_S wN0 s.heap s.heap [] := va_S.rf
  have hl := lv_entry [.ref (a 0)] (n := 1) (Nat.le_of_ble_eq_true rfl)
  rw [lg_entry_eq]
  generalize (lg_sl [.ref (a 0)] ++ List.replicate (1 - (lg_sl [.ref (a 0)]).length) Slot.unset).toArray = ls at hl ⊢
  have hl : lv_has ls 1 [(0, .ref (a 0))] := hl
  unfold f_X3_canRoll at hF
  refine lv_aload_n hx hb dX3_canRoll_0 rfl (lv_at hl 0 rfl) ?_
  refine va_get (D := (dC, dI)) (ci := 3) (v := .ref (a 9)) (C := RX3) (T := TX3) (N := 6) hx hb hts inX3 hown hK.1 hP 0 rfl rfl 1 (by decide) (hts _ w_fieldLink_X3_21) (fun _ h9 => h9) rfl dX3_canRoll_1 ?_
  obtain ⟨o1, h2, hF⟩ := obd hF
  refine wcRVi (As := []) (rest := []) (b := (a 9)) ⟨hx, hb, hml, hown, hts⟩ (met_X1_isWon l dC dI cyI cyO a N (S_score v)  o1 h2) (cwV 0 hts (gV w_methodLink_X3_46 w_instanceMethod_X1_isWon w_selects_X1_isWon w_initialized_X1 w_code_X1_isWon) rfl rfl rfl (by decide +kernel) ⟨Nat.le_of_ble_eq_true rfl, Nat.le_of_ble_eq_true rfl⟩) (va_recv hK.1 hP (ci := 1) (q0 := 9) rfl rfl) hP hK [9, 10, 11, 12] rfl rfl hl.1 (Nat.le_of_ble_eq_true rfl) dX3_canRoll_4 ⟨Nat.le_of_ble_eq_true rfl, Nat.le_of_ble_eq_true rfl⟩ hS (fun r H locs hw hP hS => ?_)
  obtain ⟨hw, hz3⟩ := hw
  have hw := hw.symm
  subst hw
  obtain ⟨j25, hj25, hF⟩ := jn_use hF
  have hJ25 : ∀ (s25 : Int32) (H : Heap) (locs : List Loc) (ls : Array Slot) (hz_25_s0 : b01 s25), va_P (dC, dI) vwCl (cS cyI a v) H → va_S wN0 s.heap H locs → lv_has ls 1 [] → j25 s25 = some out → W p l e (headSpec (Cond.code yX3_canRoll cX3_canRoll 1 (some .boolean) :: wT) ({ frames := 3, cells := 0, slots := 0, locals := 62 } : Room)).room s m ([.ref (a 0)] : List Value).toArray below meth c H locs 0 0 (MQ below (va_Qi (fun (r : Int32) (_ : Unit) => r = out ∧ b01 r) (fun _ _ => True) wN0) ([.ref (a 0)] : List Value).toArray s 0 0 wN0) (F0 m 25 ls [.int s25]) := by
    intro s25 H locs ls hz_25_s0 hP hS hl hF
    have hF := (congrFun hj25 s25).symm.trans hF
    exact W.zret (ty := .boolean) (v := s25) hx hb hr (b01_n hz_25_s0) (fun t ht hW => ⟨⟨_, (), rfl, ⟨Option.some.inj hF, hz_25_s0⟩, trivial⟩, hS.F ht⟩) hS.2.2 dX3_canRoll_25
  obtain ⟨j24, hj24, hF⟩ := jn_use hF
  have hJ24 : ∀ (s24 : Unit) (H : Heap) (locs : List Loc) (ls : Array Slot), va_P (dC, dI) vwCl (cS cyI a v) H → va_S wN0 s.heap H locs → lv_has ls 1 [] → j24 s24 = some out → W p l e (headSpec (Cond.code yX3_canRoll cX3_canRoll 1 (some .boolean) :: wT) ({ frames := 3, cells := 0, slots := 0, locals := 62 } : Room)).room s m ([.ref (a 0)] : List Value).toArray below meth c H locs 0 0 (MQ below (va_Qi (fun (r : Int32) (_ : Unit) => r = out ∧ b01 r) (fun _ _ => True) wN0) ([.ref (a 0)] : List Value).toArray s 0 0 wN0) (F0 m 24 ls []) := by
    intro s24 H locs ls hP hS hl hF
    have hF := (congrFun hj24 s24).symm.trans hF
    refine lv_iconst (v := 0) hx hb dX3_canRoll_24 (by decide) ?_
    exact hJ25 (0 : Int32) _ _ _ b01_0 hP hS (lv_sub hl [] rfl) hF
  refine lv_if_ne (tgt := 24) hx hb dX3_canRoll_7 (by decide) (fun c4 => ?_) (fun c4 => ?_)
  · have hF := itn c4 hF
    exact hJ24 () _ _ _ hP hS (lv_sub hl [] rfl) hF
  · have hF := itp c4 hF
    refine lv_aload_n hx hb dX3_canRoll_10 rfl (lv_at hl 0 rfl) ?_
    refine va_get (D := (dC, dI)) (ci := 3) (v := .ref (a 1)) (C := RX3) (T := TX3) (N := 6) hx hb hts inX3 hown hK.1 hP 0 rfl rfl 0 (by decide) (hts _ w_fieldLink_X3_12) (fun _ h9 => h9) rfl dX3_canRoll_11 ?_
    obtain ⟨o5, h6, hF⟩ := obd hF
    refine wcRVi (As := []) (rest := []) (b := (a 1)) ⟨hx, hb, hml, hown, hts⟩ (met_X0_hasJack l dC dI cyI cyO a N (S_green v)  o5 h6) (cwV 0 hts (gV w_methodLink_X3_50 w_instanceMethod_X0_hasJack w_selects_X0_hasJack w_initialized_X0 w_code_X0_hasJack) rfl rfl rfl (by decide +kernel) ⟨Nat.le_of_ble_eq_true rfl, Nat.le_of_ble_eq_true rfl⟩) (va_recv hK.1 hP (ci := 0) (q0 := 1) rfl rfl) hP hK [1, 2, 3, 4, 5, 6, 7, 8] rfl rfl hl.1 (Nat.le_of_ble_eq_true rfl) dX3_canRoll_14 ⟨Nat.le_of_ble_eq_true rfl, Nat.le_of_ble_eq_true rfl⟩ hS (fun r H locs hw hP hS => ?_)
    obtain ⟨hw, hz7⟩ := hw
    have hw := hw.symm
    subst hw
    refine lv_if_ne (tgt := 24) hx hb dX3_canRoll_17 (by decide) (fun c8 => ?_) (fun c8 => ?_)
    · have hF := itn c8 hF
      exact hJ24 () _ _ _ hP hS (lv_sub hl [] rfl) hF
    · have hF := itp c8 hF
      refine lv_iconst (v := 1) hx hb dX3_canRoll_20 (by decide) ?_
      refine lv_goto (tgt := 25) hx hb dX3_canRoll_21 (by decide) ?_
      exact hJ25 (1 : Int32) _ _ _ b01_1 hP hS (lv_sub hl [] rfl) hF
theorem dX3_canPlay_0 : decode cX3_canPlay 0 = .ok (.aload_n 0, 1) := by decide +kernel
theorem dX3_canPlay_1 : decode cX3_canPlay 1 = .ok (.getfield 12, 3) := by decide +kernel
theorem dX3_canPlay_4 : decode cX3_canPlay 4 = .ok (.invokevirtual 50, 3) := by decide +kernel
theorem dX3_canPlay_7 : decode cX3_canPlay 7 = .ok (.ifCond .eq 33, 3) := by decide +kernel
theorem dX3_canPlay_10 : decode cX3_canPlay 10 = .ok (.aload_n 0, 1) := by decide +kernel
theorem dX3_canPlay_11 : decode cX3_canPlay 11 = .ok (.getfield 12, 3) := by decide +kernel
theorem dX3_canPlay_14 : decode cX3_canPlay 14 = .ok (.getfield 53, 3) := by decide +kernel
theorem dX3_canPlay_17 : decode cX3_canPlay 17 = .ok (.iconst 2, 1) := by decide +kernel
theorem dX3_canPlay_18 : decode cX3_canPlay 18 = .ok (.aload_n 0, 1) := by decide +kernel
theorem dX3_canPlay_19 : decode cX3_canPlay 19 = .ok (.getfield 25, 3) := by decide +kernel
theorem dX3_canPlay_22 : decode cX3_canPlay 22 = .ok (.imul, 1) := by decide +kernel
theorem dX3_canPlay_23 : decode cX3_canPlay 23 = .ok (.if_icmp .ge 17, 3) := by decide +kernel
theorem dX3_canPlay_26 : decode cX3_canPlay 26 = .ok (.aload_n 0, 1) := by decide +kernel
theorem dX3_canPlay_27 : decode cX3_canPlay 27 = .ok (.getfield 12, 3) := by decide +kernel
theorem dX3_canPlay_30 : decode cX3_canPlay 30 = .ok (.invokevirtual 56, 3) := by decide +kernel
theorem dX3_canPlay_33 : decode cX3_canPlay 33 = .ok (.ifCond .ne 7, 3) := by decide +kernel
theorem dX3_canPlay_36 : decode cX3_canPlay 36 = .ok (.iconst 1, 1) := by decide +kernel
theorem dX3_canPlay_37 : decode cX3_canPlay 37 = .ok (.goto 4, 3) := by decide +kernel
theorem dX3_canPlay_40 : decode cX3_canPlay 40 = .ok (.iconst 0, 1) := by decide +kernel
theorem dX3_canPlay_41 : decode cX3_canPlay 41 = .ok (.ireturn, 1) := by decide +kernel
def f_X3_canPlay (N : Nat) (v : SV) : Option (Int32) :=
  (f_X0_hasJack N (S_green v)).bind (fun o1 => jn (fun (s41 : Int32) => some s41) (fun (j41 : (Int32) → Option (Int32)) => jn (fun (s40 : Unit) => j41 (0 : Int32)) (fun (j40 : (Unit) → Option (Int32)) => (if o1 = 0 then j40 () else (if ((2 : Int32) * (S_bowlsEach v)) ≤ (G_bowlCount (S_green v)) then j40 () else (f_X0_isJackLost N (S_green v)).bind (fun o6 => (if o6 = 0 then j41 (1 : Int32) else j40 ())))))))
set_option maxHeartbeats 4000000 in
set_option maxRecDepth 100000 in
theorem met_X3_canPlay (l : Launch) (dC : Nat → ClassId) (dI : Nat → Nat → Nat) (cyI cyO : ClassId) (a : Nat → Nat) (N : Nat) (v : SV) (out : Int32) (hF : f_X3_canPlay N v = some out) : Met l yX3_canPlay (Cond.code yX3_canPlay cX3_canPlay 1 (some .boolean) :: wT) ({ frames := 3, cells := 0, slots := 0, locals := 62 } : Room) (wRd dC dI cyI cyO [.ref (a 0)] (cS cyI a v)) (va_Qi (fun (r : Int32) (_ : Unit) => r = out ∧ b01 r) (fun _ _ => True) wN0) 0 0 wN0 := by
  refine Met.ofW (cc := cX3_canPlay) (maxL := 1) (ret := (some .boolean)) (by decide) rfl ?_
  intro p e s m args below meth c s₁ B hml hv
  obtain ⟨rfl, hP, hK⟩ := hv
  have hx := B.exec
  have hb := B.bytes
  have hr := B.returns
  have hts0 := atoms_spec (ws := (Cond.code yX3_canPlay cX3_canPlay 1 (some .boolean) :: wT)) B.pre
  have hts := fun w h => hts0 w (List.mem_cons_of_mem _ h)
  clear hts0
  have hown : s.vm.findClass RX3 = some m.cls := findClass_of_methodNamed B.named
  have hlocks := B.notSynchronized
  have hS : va_S wN0 s.heap s.heap [] := va_S.rf
  have hl := lv_entry [.ref (a 0)] (n := 1) (Nat.le_of_ble_eq_true rfl)
  rw [lg_entry_eq]
  generalize (lg_sl [.ref (a 0)] ++ List.replicate (1 - (lg_sl [.ref (a 0)]).length) Slot.unset).toArray = ls at hl ⊢
  have hl : lv_has ls 1 [(0, .ref (a 0))] := hl
  unfold f_X3_canPlay at hF
  refine lv_aload_n hx hb dX3_canPlay_0 rfl (lv_at hl 0 rfl) ?_
  refine va_get (D := (dC, dI)) (ci := 3) (v := .ref (a 1)) (C := RX3) (T := TX3) (N := 6) hx hb hts inX3 hown hK.1 hP 0 rfl rfl 0 (by decide) (hts _ w_fieldLink_X3_12) (fun _ h9 => h9) rfl dX3_canPlay_1 ?_
  obtain ⟨o1, h2, hF⟩ := obd hF
  refine wcRVi (As := []) (rest := []) (b := (a 1)) ⟨hx, hb, hml, hown, hts⟩ (met_X0_hasJack l dC dI cyI cyO a N (S_green v)  o1 h2) (cwV 0 hts (gV w_methodLink_X3_50 w_instanceMethod_X0_hasJack w_selects_X0_hasJack w_initialized_X0 w_code_X0_hasJack) rfl rfl rfl (by decide +kernel) ⟨Nat.le_of_ble_eq_true rfl, Nat.le_of_ble_eq_true rfl⟩) (va_recv hK.1 hP (ci := 0) (q0 := 1) rfl rfl) hP hK [1, 2, 3, 4, 5, 6, 7, 8] rfl rfl hl.1 (Nat.le_of_ble_eq_true rfl) dX3_canPlay_4 ⟨Nat.le_of_ble_eq_true rfl, Nat.le_of_ble_eq_true rfl⟩ hS (fun r H locs hw hP hS => ?_)
  obtain ⟨hw, hz3⟩ := hw
  have hw := hw.symm
  subst hw
  obtain ⟨j41, hj41, hF⟩ := jn_use hF
  have hJ41 : ∀ (s41 : Int32) (H : Heap) (locs : List Loc) (ls : Array Slot) (hz_41_s0 : b01 s41), va_P (dC, dI) vwCl (cS cyI a v) H → va_S wN0 s.heap H locs → lv_has ls 1 [] → j41 s41 = some out → W p l e (headSpec (Cond.code yX3_canPlay cX3_canPlay 1 (some .boolean) :: wT) ({ frames := 3, cells := 0, slots := 0, locals := 62 } : Room)).room s m ([.ref (a 0)] : List Value).toArray below meth c H locs 0 0 (MQ below (va_Qi (fun (r : Int32) (_ : Unit) => r = out ∧ b01 r) (fun _ _ => True) wN0) ([.ref (a 0)] : List Value).toArray s 0 0 wN0) (F0 m 41 ls [.int s41]) := by
    intro s41 H locs ls hz_41_s0 hP hS hl hF
    have hF := (congrFun hj41 s41).symm.trans hF
    exact W.zret (ty := .boolean) (v := s41) hx hb hr (b01_n hz_41_s0) (fun t ht hW => ⟨⟨_, (), rfl, ⟨Option.some.inj hF, hz_41_s0⟩, trivial⟩, hS.F ht⟩) hS.2.2 dX3_canPlay_41
  obtain ⟨j40, hj40, hF⟩ := jn_use hF
  have hJ40 : ∀ (s40 : Unit) (H : Heap) (locs : List Loc) (ls : Array Slot), va_P (dC, dI) vwCl (cS cyI a v) H → va_S wN0 s.heap H locs → lv_has ls 1 [] → j40 s40 = some out → W p l e (headSpec (Cond.code yX3_canPlay cX3_canPlay 1 (some .boolean) :: wT) ({ frames := 3, cells := 0, slots := 0, locals := 62 } : Room)).room s m ([.ref (a 0)] : List Value).toArray below meth c H locs 0 0 (MQ below (va_Qi (fun (r : Int32) (_ : Unit) => r = out ∧ b01 r) (fun _ _ => True) wN0) ([.ref (a 0)] : List Value).toArray s 0 0 wN0) (F0 m 40 ls []) := by
    intro s40 H locs ls hP hS hl hF
    have hF := (congrFun hj40 s40).symm.trans hF
    refine lv_iconst (v := 0) hx hb dX3_canPlay_40 (by decide) ?_
    exact hJ41 (0 : Int32) _ _ _ b01_0 hP hS (lv_sub hl [] rfl) hF
  refine lv_if_eq (tgt := 40) hx hb dX3_canPlay_7 (by decide) (fun c4 => ?_) (fun c4 => ?_)
  · have hF := itp c4 hF
    exact hJ40 () _ _ _ hP hS (lv_sub hl [] rfl) hF
  · have hF := itn c4 hF
    refine lv_aload_n hx hb dX3_canPlay_10 rfl (lv_at hl 0 rfl) ?_
    refine va_get (D := (dC, dI)) (ci := 3) (v := .ref (a 1)) (C := RX3) (T := TX3) (N := 6) hx hb hts inX3 hown hK.1 hP 0 rfl rfl 0 (by decide) (hts _ w_fieldLink_X3_12) (fun _ h9 => h9) rfl dX3_canPlay_11 ?_
    refine va_get (D := (dC, dI)) (ci := 0) (v := .int (G_bowlCount (S_green v))) (C := RX0) (T := TX0) (N := 9) hx hb hts inX0 hown hK.1 hP 1 rfl rfl 7 (by decide) (hts _ w_fieldLink_X3_53) (fun _ h9 => h9) rfl dX3_canPlay_14 ?_
    refine lv_iconst (v := 2) hx hb dX3_canPlay_17 (by decide) ?_
    refine lv_aload_n hx hb dX3_canPlay_18 rfl (lv_at hl 0 rfl) ?_
    refine va_get (D := (dC, dI)) (ci := 3) (v := .int (S_bowlsEach v)) (C := RX3) (T := TX3) (N := 6) hx hb hts inX3 hown hK.1 hP 0 rfl rfl 2 (by decide) (hts _ w_fieldLink_X3_25) (fun _ h9 => h9) rfl dX3_canPlay_19 ?_
    refine lv_imul hx hb dX3_canPlay_22 ?_
    refine lv_icmp_ge (tgt := 40) hx hb dX3_canPlay_23 (by decide) (fun c5 => ?_) (fun c5 => ?_)
    · have hF := itp c5 hF
      exact hJ40 () _ _ _ hP hS (lv_sub hl [] rfl) hF
    · have hF := itn c5 hF
      refine lv_aload_n hx hb dX3_canPlay_26 rfl (lv_at hl 0 rfl) ?_
      refine va_get (D := (dC, dI)) (ci := 3) (v := .ref (a 1)) (C := RX3) (T := TX3) (N := 6) hx hb hts inX3 hown hK.1 hP 0 rfl rfl 0 (by decide) (hts _ w_fieldLink_X3_12) (fun _ h9 => h9) rfl dX3_canPlay_27 ?_
      obtain ⟨o6, h7, hF⟩ := obd hF
      refine wcRVi (As := []) (rest := []) (b := (a 1)) ⟨hx, hb, hml, hown, hts⟩ (met_X0_isJackLost l dC dI cyI cyO a N (S_green v)  o6 h7) (cwV 0 hts (gV w_methodLink_X3_56 w_instanceMethod_X0_isJackLost w_selects_X0_isJackLost w_initialized_X0 w_code_X0_isJackLost) rfl rfl rfl (by decide +kernel) ⟨Nat.le_of_ble_eq_true rfl, Nat.le_of_ble_eq_true rfl⟩) (va_recv hK.1 hP (ci := 0) (q0 := 1) rfl rfl) hP hK [1, 2, 3, 4, 5, 6, 7, 8] rfl rfl hl.1 (Nat.le_of_ble_eq_true rfl) dX3_canPlay_30 ⟨Nat.le_of_ble_eq_true rfl, Nat.le_of_ble_eq_true rfl⟩ hS (fun r H locs hw hP hS => ?_)
      obtain ⟨hw, hz8⟩ := hw
      have hw := hw.symm
      subst hw
      refine lv_if_ne (tgt := 40) hx hb dX3_canPlay_33 (by decide) (fun c9 => ?_) (fun c9 => ?_)
      · have hF := itn c9 hF
        exact hJ40 () _ _ _ hP hS (lv_sub hl [] rfl) hF
      · have hF := itp c9 hF
        refine lv_iconst (v := 1) hx hb dX3_canPlay_36 (by decide) ?_
        refine lv_goto (tgt := 41) hx hb dX3_canPlay_37 (by decide) ?_
        exact hJ41 (1 : Int32) _ _ _ b01_1 hP hS (lv_sub hl [] rfl) hF
theorem dX3_canCount_0 : decode cX3_canCount 0 = .ok (.aload_n 0, 1) := by decide +kernel
theorem dX3_canCount_1 : decode cX3_canCount 1 = .ok (.getfield 12, 3) := by decide +kernel
theorem dX3_canCount_4 : decode cX3_canCount 4 = .ok (.invokevirtual 50, 3) := by decide +kernel
theorem dX3_canCount_7 : decode cX3_canCount 7 = .ok (.ifCond .eq 14, 3) := by decide +kernel
theorem dX3_canCount_10 : decode cX3_canCount 10 = .ok (.aload_n 0, 1) := by decide +kernel
theorem dX3_canCount_11 : decode cX3_canCount 11 = .ok (.invokevirtual 59, 3) := by decide +kernel
theorem dX3_canCount_14 : decode cX3_canCount 14 = .ok (.ifCond .ne 7, 3) := by decide +kernel
theorem dX3_canCount_17 : decode cX3_canCount 17 = .ok (.iconst 1, 1) := by decide +kernel
theorem dX3_canCount_18 : decode cX3_canCount 18 = .ok (.goto 4, 3) := by decide +kernel
theorem dX3_canCount_21 : decode cX3_canCount 21 = .ok (.iconst 0, 1) := by decide +kernel
theorem dX3_canCount_22 : decode cX3_canCount 22 = .ok (.ireturn, 1) := by decide +kernel
def f_X3_canCount (N : Nat) (v : SV) : Option (Int32) :=
  (f_X0_hasJack N (S_green v)).bind (fun o1 => jn (fun (s22 : Int32) => some s22) (fun (j22 : (Int32) → Option (Int32)) => jn (fun (s21 : Unit) => j22 (0 : Int32)) (fun (j21 : (Unit) → Option (Int32)) => (if o1 = 0 then j21 () else (f_X3_canPlay N v).bind (fun o5 => (if o5 = 0 then j22 (1 : Int32) else j21 ()))))))
set_option maxHeartbeats 4000000 in
set_option maxRecDepth 100000 in
theorem met_X3_canCount (l : Launch) (dC : Nat → ClassId) (dI : Nat → Nat → Nat) (cyI cyO : ClassId) (a : Nat → Nat) (N : Nat) (v : SV) (out : Int32) (hF : f_X3_canCount N v = some out) : Met l yX3_canCount (Cond.code yX3_canCount cX3_canCount 1 (some .boolean) :: wT) ({ frames := 4, cells := 0, slots := 0, locals := 82 } : Room) (wRd dC dI cyI cyO [.ref (a 0)] (cS cyI a v)) (va_Qi (fun (r : Int32) (_ : Unit) => r = out ∧ b01 r) (fun _ _ => True) wN0) 0 0 wN0 := by
  refine Met.ofW (cc := cX3_canCount) (maxL := 1) (ret := (some .boolean)) (by decide) rfl ?_
  intro p e s m args below meth c s₁ B hml hv
  obtain ⟨rfl, hP, hK⟩ := hv
  have hx := B.exec
  have hb := B.bytes
  have hr := B.returns
  have hts0 := atoms_spec (ws := (Cond.code yX3_canCount cX3_canCount 1 (some .boolean) :: wT)) B.pre
  have hts := fun w h => hts0 w (List.mem_cons_of_mem _ h)
  clear hts0
  have hown : s.vm.findClass RX3 = some m.cls := findClass_of_methodNamed B.named
  have hlocks := B.notSynchronized
  have hS : va_S wN0 s.heap s.heap [] := va_S.rf
  have hl := lv_entry [.ref (a 0)] (n := 1) (Nat.le_of_ble_eq_true rfl)
  rw [lg_entry_eq]
  generalize (lg_sl [.ref (a 0)] ++ List.replicate (1 - (lg_sl [.ref (a 0)]).length) Slot.unset).toArray = ls at hl ⊢
  have hl : lv_has ls 1 [(0, .ref (a 0))] := hl
  unfold f_X3_canCount at hF
  refine lv_aload_n hx hb dX3_canCount_0 rfl (lv_at hl 0 rfl) ?_
  refine va_get (D := (dC, dI)) (ci := 3) (v := .ref (a 1)) (C := RX3) (T := TX3) (N := 6) hx hb hts inX3 hown hK.1 hP 0 rfl rfl 0 (by decide) (hts _ w_fieldLink_X3_12) (fun _ h9 => h9) rfl dX3_canCount_1 ?_
  obtain ⟨o1, h2, hF⟩ := obd hF
  refine wcRVi (As := []) (rest := []) (b := (a 1)) ⟨hx, hb, hml, hown, hts⟩ (met_X0_hasJack l dC dI cyI cyO a N (S_green v)  o1 h2) (cwV 0 hts (gV w_methodLink_X3_50 w_instanceMethod_X0_hasJack w_selects_X0_hasJack w_initialized_X0 w_code_X0_hasJack) rfl rfl rfl (by decide +kernel) ⟨Nat.le_of_ble_eq_true rfl, Nat.le_of_ble_eq_true rfl⟩) (va_recv hK.1 hP (ci := 0) (q0 := 1) rfl rfl) hP hK [1, 2, 3, 4, 5, 6, 7, 8] rfl rfl hl.1 (Nat.le_of_ble_eq_true rfl) dX3_canCount_4 ⟨Nat.le_of_ble_eq_true rfl, Nat.le_of_ble_eq_true rfl⟩ hS (fun r H locs hw hP hS => ?_)
  obtain ⟨hw, hz3⟩ := hw
  have hw := hw.symm
  subst hw
  obtain ⟨j22, hj22, hF⟩ := jn_use hF
  have hJ22 : ∀ (s22 : Int32) (H : Heap) (locs : List Loc) (ls : Array Slot) (hz_22_s0 : b01 s22), va_P (dC, dI) vwCl (cS cyI a v) H → va_S wN0 s.heap H locs → lv_has ls 1 [] → j22 s22 = some out → W p l e (headSpec (Cond.code yX3_canCount cX3_canCount 1 (some .boolean) :: wT) ({ frames := 4, cells := 0, slots := 0, locals := 82 } : Room)).room s m ([.ref (a 0)] : List Value).toArray below meth c H locs 0 0 (MQ below (va_Qi (fun (r : Int32) (_ : Unit) => r = out ∧ b01 r) (fun _ _ => True) wN0) ([.ref (a 0)] : List Value).toArray s 0 0 wN0) (F0 m 22 ls [.int s22]) := by
    intro s22 H locs ls hz_22_s0 hP hS hl hF
    have hF := (congrFun hj22 s22).symm.trans hF
    exact W.zret (ty := .boolean) (v := s22) hx hb hr (b01_n hz_22_s0) (fun t ht hW => ⟨⟨_, (), rfl, ⟨Option.some.inj hF, hz_22_s0⟩, trivial⟩, hS.F ht⟩) hS.2.2 dX3_canCount_22
  obtain ⟨j21, hj21, hF⟩ := jn_use hF
  have hJ21 : ∀ (s21 : Unit) (H : Heap) (locs : List Loc) (ls : Array Slot), va_P (dC, dI) vwCl (cS cyI a v) H → va_S wN0 s.heap H locs → lv_has ls 1 [] → j21 s21 = some out → W p l e (headSpec (Cond.code yX3_canCount cX3_canCount 1 (some .boolean) :: wT) ({ frames := 4, cells := 0, slots := 0, locals := 82 } : Room)).room s m ([.ref (a 0)] : List Value).toArray below meth c H locs 0 0 (MQ below (va_Qi (fun (r : Int32) (_ : Unit) => r = out ∧ b01 r) (fun _ _ => True) wN0) ([.ref (a 0)] : List Value).toArray s 0 0 wN0) (F0 m 21 ls []) := by
    intro s21 H locs ls hP hS hl hF
    have hF := (congrFun hj21 s21).symm.trans hF
    refine lv_iconst (v := 0) hx hb dX3_canCount_21 (by decide) ?_
    exact hJ22 (0 : Int32) _ _ _ b01_0 hP hS (lv_sub hl [] rfl) hF
  refine lv_if_eq (tgt := 21) hx hb dX3_canCount_7 (by decide) (fun c4 => ?_) (fun c4 => ?_)
  · have hF := itp c4 hF
    exact hJ21 () _ _ _ hP hS (lv_sub hl [] rfl) hF
  · have hF := itn c4 hF
    refine lv_aload_n hx hb dX3_canCount_10 rfl (lv_at hl 0 rfl) ?_
    obtain ⟨o5, h6, hF⟩ := obd hF
    refine wcRVi (As := []) (rest := []) (b := (a 0)) ⟨hx, hb, hml, hown, hts⟩ (met_X3_canPlay l dC dI cyI cyO a N v  o5 h6) (cwV 0 hts (gV w_methodLink_X3_59 w_instanceMethod_X3_canPlay w_selects_X3_canPlay w_initialized_X3 w_code_X3_canPlay) rfl rfl rfl (by decide +kernel) ⟨Nat.le_of_ble_eq_true rfl, Nat.le_of_ble_eq_true rfl⟩) (va_recv hK.1 hP (ci := 3) (q0 := 0) rfl rfl) hP hK [0, 1, 2, 3, 4, 5, 6, 7, 8, 9, 10, 11, 12] rfl rfl hl.1 (Nat.le_of_ble_eq_true rfl) dX3_canCount_11 ⟨Nat.le_of_ble_eq_true rfl, Nat.le_of_ble_eq_true rfl⟩ hS (fun r H locs hw hP hS => ?_)
    obtain ⟨hw, hz7⟩ := hw
    have hw := hw.symm
    subst hw
    refine lv_if_ne (tgt := 21) hx hb dX3_canCount_14 (by decide) (fun c8 => ?_) (fun c8 => ?_)
    · have hF := itn c8 hF
      exact hJ21 () _ _ _ hP hS (lv_sub hl [] rfl) hF
    · have hF := itp c8 hF
      refine lv_iconst (v := 1) hx hb dX3_canCount_17 (by decide) ?_
      refine lv_goto (tgt := 22) hx hb dX3_canCount_18 (by decide) ?_
      exact hJ22 (1 : Int32) _ _ _ b01_1 hP hS (lv_sub hl [] rfl) hF
theorem dX3_nextSide_0 : decode cX3_nextSide 0 = .ok (.aload_n 0, 1) := by decide +kernel
theorem dX3_nextSide_1 : decode cX3_nextSide 1 = .ok (.getfield 21, 3) := by decide +kernel
theorem dX3_nextSide_4 : decode cX3_nextSide 4 = .ok (.getfield 62, 3) := by decide +kernel
theorem dX3_nextSide_7 : decode cX3_nextSide 7 = .ok (.aload_n 0, 1) := by decide +kernel
theorem dX3_nextSide_8 : decode cX3_nextSide 8 = .ok (.getfield 12, 3) := by decide +kernel
theorem dX3_nextSide_11 : decode cX3_nextSide 11 = .ok (.getfield 53, 3) := by decide +kernel
theorem dX3_nextSide_14 : decode cX3_nextSide 14 = .ok (.iadd, 1) := by decide +kernel
theorem dX3_nextSide_15 : decode cX3_nextSide 15 = .ok (.iconst 2, 1) := by decide +kernel
theorem dX3_nextSide_16 : decode cX3_nextSide 16 = .ok (.irem, 1) := by decide +kernel
theorem dX3_nextSide_17 : decode cX3_nextSide 17 = .ok (.ireturn, 1) := by decide +kernel
def f_X3_nextSide (N : Nat) (v : SV) : Option (Int32) :=
  some (((V_firstSide (S_score v)) + (G_bowlCount (S_green v))) - ((V_firstSide (S_score v)) + (G_bowlCount (S_green v))) / (2 : Int32) * (2 : Int32))
set_option maxHeartbeats 4000000 in
set_option maxRecDepth 100000 in
theorem met_X3_nextSide (l : Launch) (dC : Nat → ClassId) (dI : Nat → Nat → Nat) (cyI cyO : ClassId) (a : Nat → Nat) (N : Nat) (v : SV) (out : Int32) (hF : f_X3_nextSide N v = some out) : Met l yX3_nextSide (Cond.code yX3_nextSide cX3_nextSide 1 (some .int) :: wT) ({ frames := 0, cells := 0, slots := 0, locals := 0 } : Room) (wRd dC dI cyI cyO [.ref (a 0)] (cS cyI a v)) (va_Qi (fun (r : Int32) (_ : Unit) => r = out) (fun _ _ => True) wN0) 0 0 wN0 := by
  refine Met.ofW (cc := cX3_nextSide) (maxL := 1) (ret := (some .int)) (by decide) rfl ?_
  intro p e s m args below meth c s₁ B hml hv
  obtain ⟨rfl, hP, hK⟩ := hv
  have hx := B.exec
  have hb := B.bytes
  have hr := B.returns
  have hts0 := atoms_spec (ws := (Cond.code yX3_nextSide cX3_nextSide 1 (some .int) :: wT)) B.pre
  have hts := fun w h => hts0 w (List.mem_cons_of_mem _ h)
  clear hts0
  have hown : s.vm.findClass RX3 = some m.cls := findClass_of_methodNamed B.named
  have hlocks := B.notSynchronized
  have hS : va_S wN0 s.heap s.heap [] := va_S.rf
  have hl := lv_entry [.ref (a 0)] (n := 1) (Nat.le_of_ble_eq_true rfl)
  rw [lg_entry_eq]
  generalize (lg_sl [.ref (a 0)] ++ List.replicate (1 - (lg_sl [.ref (a 0)]).length) Slot.unset).toArray = ls at hl ⊢
  have hl : lv_has ls 1 [(0, .ref (a 0))] := hl
  unfold f_X3_nextSide at hF
  refine lv_aload_n hx hb dX3_nextSide_0 rfl (lv_at hl 0 rfl) ?_
  refine va_get (D := (dC, dI)) (ci := 3) (v := .ref (a 9)) (C := RX3) (T := TX3) (N := 6) hx hb hts inX3 hown hK.1 hP 0 rfl rfl 1 (by decide) (hts _ w_fieldLink_X3_21) (fun _ h9 => h9) rfl dX3_nextSide_1 ?_
  refine va_get (D := (dC, dI)) (ci := 1) (v := .int (V_firstSide (S_score v))) (C := RX1) (T := TX1) (N := 11) hx hb hts inX1 hown hK.1 hP 9 rfl rfl 10 (by decide) (hts _ w_fieldLink_X3_62) (fun _ h9 => h9) rfl dX3_nextSide_4 ?_
  refine lv_aload_n hx hb dX3_nextSide_7 rfl (lv_at hl 0 rfl) ?_
  refine va_get (D := (dC, dI)) (ci := 3) (v := .ref (a 1)) (C := RX3) (T := TX3) (N := 6) hx hb hts inX3 hown hK.1 hP 0 rfl rfl 0 (by decide) (hts _ w_fieldLink_X3_12) (fun _ h9 => h9) rfl dX3_nextSide_8 ?_
  refine va_get (D := (dC, dI)) (ci := 0) (v := .int (G_bowlCount (S_green v))) (C := RX0) (T := TX0) (N := 9) hx hb hts inX0 hown hK.1 hP 1 rfl rfl 7 (by decide) (hts _ w_fieldLink_X3_53) (fun _ h9 => h9) rfl dX3_nextSide_11 ?_
  refine lv_iadd hx hb dX3_nextSide_14 ?_
  refine lv_iconst (v := 2) hx hb dX3_nextSide_15 (by decide) ?_
  refine lv_irem hx hb dX3_nextSide_16 (by decide) ?_
  exact W.iret (v := (((V_firstSide (S_score v)) + (G_bowlCount (S_green v))) - ((V_firstSide (S_score v)) + (G_bowlCount (S_green v))) / (2 : Int32) * (2 : Int32))) hx hb hr (fun t ht hW => ⟨⟨_, (), rfl, Option.some.inj hF, trivial⟩, hS.F ht⟩) hS.2.2 dX3_nextSide_17
theorem dX3_rollJack_0 : decode cX3_rollJack 0 = .ok (.aload_n 0, 1) := by decide +kernel
theorem dX3_rollJack_1 : decode cX3_rollJack 1 = .ok (.getfield 12, 3) := by decide +kernel
theorem dX3_rollJack_4 : decode cX3_rollJack 4 = .ok (.invokevirtual 65, 3) := by decide +kernel
theorem dX3_rollJack_7 : decode cX3_rollJack 7 = .ok (.aload_n 0, 1) := by decide +kernel
theorem dX3_rollJack_8 : decode cX3_rollJack 8 = .ok (.getfield 12, 3) := by decide +kernel
theorem dX3_rollJack_11 : decode cX3_rollJack 11 = .ok (.getfield 68, 3) := by decide +kernel
theorem dX3_rollJack_14 : decode cX3_rollJack 14 = .ok (.bipush 8, 2) := by decide +kernel
theorem dX3_rollJack_16 : decode cX3_rollJack 16 = .ok (.iload_n 1, 1) := by decide +kernel
theorem dX3_rollJack_17 : decode cX3_rollJack 17 = .ok (.bipush 21, 2) := by decide +kernel
theorem dX3_rollJack_19 : decode cX3_rollJack 19 = .ok (.imul, 1) := by decide +kernel
theorem dX3_rollJack_20 : decode cX3_rollJack 20 = .ok (.bipush 10, 2) := by decide +kernel
theorem dX3_rollJack_22 : decode cX3_rollJack 22 = .ok (.iadd, 1) := by decide +kernel
theorem dX3_rollJack_23 : decode cX3_rollJack 23 = .ok (.invokestatic 72, 3) := by decide +kernel
theorem dX3_rollJack_26 : decode cX3_rollJack 26 = .ok (.return_, 1) := by decide +kernel
def f_X3_rollJack (N : Nat) (v : SV) (p1 : Int32) : Option (SV) :=
  (f_X0_takeAway N (S_green v)).bind (fun o1 => (f_X5_put N 9 (G_places o1) (8 : Int32) ((p1 * (21 : Int32)) + (10 : Int32))).bind (fun o3 => some (S_set_green v (G_set_places o1 o3))))
set_option maxHeartbeats 4000000 in
set_option maxRecDepth 100000 in
theorem met_X3_rollJack (l : Launch) (dC : Nat → ClassId) (dI : Nat → Nat → Nat) (cyI cyO : ClassId) (a : Nat → Nat) (sz : Nat) (N : Nat) (v : SV) (p1 : Int32) (out : SV) (hF : f_X3_rollJack N v p1 = some out) : Met l yX3_rollJack (Cond.code yX3_rollJack cX3_rollJack 2 none :: wT) ({ frames := 2, cells := 0, slots := 0, locals := 42 } : Room) (wWr dC dI cyI cyO [.ref (a 0), .int p1] (cS cyI a v) sz) (va_Qv (fun (u : SV) => u = out) (fun u t => va_P (dC, dI) vwCl (cS cyI a u) t.heap ∧ va_D (va_A (cS cyI a v) sz) (cS cyI a u)) (va_A (cS cyI a v) sz)) 0 0 (va_A (cS cyI a v) sz) := by
  refine Met.ofW (cc := cX3_rollJack) (maxL := 2) (ret := none) (by decide) rfl ?_
  intro p e s m args below meth c s₁ B hml hv
  obtain ⟨rfl, hsz, hP, hK, hD0⟩ := hv
  have hx := B.exec
  have hb := B.bytes
  have hr := B.returns
  have hts0 := atoms_spec (ws := (Cond.code yX3_rollJack cX3_rollJack 2 none :: wT)) B.pre
  have hts := fun w h => hts0 w (List.mem_cons_of_mem _ h)
  clear hts0
  have hown : s.vm.findClass RX3 = some m.cls := findClass_of_methodNamed B.named
  have hlocks := B.notSynchronized
  subst hsz
  have hD := hD0.self (sz := s.heap.size)
  generalize hAe : va_A (cS cyI a v) s.heap.size = A at hD ⊢
  have hA : ∀ q : Nat, s.heap.size ≤ q → A q := fun q h => by rw [← hAe]; exact Or.inr h
  clear hD0
  have hS : va_S A s.heap s.heap [] := va_S.rf
  have hl := lv_entry [.ref (a 0), .int p1] (n := 2) (Nat.le_of_ble_eq_true rfl)
  rw [lg_entry_eq]
  generalize (lg_sl [.ref (a 0), .int p1] ++ List.replicate (2 - (lg_sl [.ref (a 0), .int p1]).length) Slot.unset).toArray = ls at hl ⊢
  have hl : lv_has ls 2 [(0, .ref (a 0)), (1, .int p1)] := hl
  unfold f_X3_rollJack at hF
  refine lv_aload_n hx hb dX3_rollJack_0 rfl (lv_at hl 0 rfl) ?_
  refine va_get (D := (dC, dI)) (ci := 3) (v := .ref (a 1)) (C := RX3) (T := TX3) (N := 6) hx hb hts inX3 hown hK.1 hP 0 rfl rfl 0 (by decide) (hts _ w_fieldLink_X3_12) (fun _ h9 => h9) rfl dX3_rollJack_1 ?_
  obtain ⟨o1, h2, hF⟩ := obd hF
  refine wcWVv (As := []) (rest := []) (wr := [0, 9, 10, 11, 12].filterMap (fun i => ((cS cyI a v))[i]?)) (b := (a 1)) ⟨hx, hb, hml, hown, hts⟩ (met_X0_takeAway l dC dI cyI cyO a _ N (S_green v)  o1 h2) (cwV 0 hts (gV w_methodLink_X3_65 w_instanceMethod_X0_takeAway w_selects_X0_takeAway w_initialized_X0 w_code_X0_takeAway) rfl rfl rfl (by decide +kernel) ⟨Nat.le_of_ble_eq_true rfl, Nat.le_of_ble_eq_true rfl⟩) (va_recv hK.1 hP (ci := 0) (q0 := 1) rfl rfl) hP hD hK [1, 2, 3, 4, 5, 6, 7, 8] [0, 9, 10, 11, 12] rfl rfl (by decide) (by decide) (by decide) rfl hl.1 (Nat.le_of_ble_eq_true rfl) dX3_rollJack_4 ⟨Nat.le_of_ble_eq_true rfl, Nat.le_of_ble_eq_true rfl⟩ hS hA (fun u H locs hw hP hD hS => ?_)
  have hw := hw.symm
  subst hw
  have hP := hP.sub (ws' := (cS cyI a (S_set_green v o1))) [0, 5, 6, 7, 8, 9, 10, 11, 12, 1, 2, 3, 4] rfl
  have hD := hD.sub (ws' := (cS cyI a (S_set_green v o1))) [0, 5, 6, 7, 8, 9, 10, 11, 12, 1, 2, 3, 4] (by decide) rfl
  refine lv_aload_n hx hb dX3_rollJack_7 rfl (lv_at hl 0 rfl) ?_
  refine va_get (D := (dC, dI)) (ci := 3) (v := .ref (a 1)) (C := RX3) (T := TX3) (N := 6) hx hb hts inX3 hown hK.1 hP 0 rfl rfl 0 (by decide) (hts _ w_fieldLink_X3_12) (fun _ h9 => h9) rfl dX3_rollJack_8 ?_
  refine va_get (D := (dC, dI)) (ci := 0) (v := .ref (a 2)) (C := RX0) (T := TX0) (N := 9) hx hb hts inX0 hown hK.1 hP 1 rfl rfl 0 (by decide) (hts _ w_fieldLink_X3_68) (fun _ h9 => h9) rfl dX3_rollJack_11 ?_
  refine lv_bipush (v := 8) hx hb dX3_rollJack_14 (by decide) ?_
  refine lv_iload_n hx hb dX3_rollJack_16 rfl (lv_at hl 1 rfl) ?_
  refine lv_bipush (v := 21) hx hb dX3_rollJack_17 (by decide) ?_
  refine lv_imul hx hb dX3_rollJack_19 ?_
  refine lv_bipush (v := 10) hx hb dX3_rollJack_20 (by decide) ?_
  refine lv_iadd hx hb dX3_rollJack_22 ?_
  obtain ⟨o3, h4, hF⟩ := obd hF
  refine wcWNv (As := [.ref (a 2), .int (8 : Int32), .int ((p1 * (21 : Int32)) + (10 : Int32))]) (rest := []) (wr := [0, 1, 3, 4, 5, 6, 7, 8, 9, 10, 11, 12].filterMap (fun i => ((cS cyI a (S_set_green v o1)))[i]?)) ⟨hx, hb, hml, hown, hts⟩ (met_X5_put l dC dI cyI cyO (a 2) 9 _ N (G_places o1) (8 : Int32) ((p1 * (21 : Int32)) + (10 : Int32)) o3 h4) ⟨va_cnB 3 hts (gCode w_code_X5_put) rfl rfl rfl (hK.2 _ n_X3_72) (hts _ w_initialized_X5) (by decide +kernel) ⟨Nat.le_of_ble_eq_true rfl, Nat.le_of_ble_eq_true rfl⟩, hts _ w_static_X5_put, trivial⟩ hP hD hK [2] [0, 1, 3, 4, 5, 6, 7, 8, 9, 10, 11, 12] rfl rfl (by decide) (by decide) (by decide) rfl hl.1 (Nat.le_of_ble_eq_true rfl) dX3_rollJack_23 ⟨Nat.le_of_ble_eq_true rfl, Nat.le_of_ble_eq_true rfl⟩ hS hA (fun u H locs hw hP hD hS => ?_)
  have hw := hw.symm
  subst hw
  have hP := hP.sub (ws' := (cS cyI a (S_set_green v (G_set_places o1 o3)))) [0, 1, 12, 2, 3, 4, 5, 6, 7, 8, 9, 10, 11] rfl
  have hD := hD.sub (ws' := (cS cyI a (S_set_green v (G_set_places o1 o3)))) [0, 1, 12, 2, 3, 4, 5, 6, 7, 8, 9, 10, 11] (by decide) rfl
  exact W.vret hx hb hr (fun t ht hW => ⟨⟨_, rfl, Option.some.inj hF, by rw [ht]; exact hP, hD⟩, hS.F ht⟩) hS.2.2 dX3_rollJack_26
theorem dX3_rescueJack_0 : decode cX3_rescueJack 0 = .ok (.aload_n 0, 1) := by decide +kernel
theorem dX3_rescueJack_1 : decode cX3_rescueJack 1 = .ok (.getfield 32, 3) := by decide +kernel
theorem dX3_rescueJack_4 : decode cX3_rescueJack 4 = .ok (.ifCond .eq 33, 3) := by decide +kernel
theorem dX3_rescueJack_7 : decode cX3_rescueJack 7 = .ok (.aload_n 0, 1) := by decide +kernel
theorem dX3_rescueJack_8 : decode cX3_rescueJack 8 = .ok (.getfield 12, 3) := by decide +kernel
theorem dX3_rescueJack_11 : decode cX3_rescueJack 11 = .ok (.invokevirtual 56, 3) := by decide +kernel
theorem dX3_rescueJack_14 : decode cX3_rescueJack 14 = .ok (.ifCond .eq 23, 3) := by decide +kernel
theorem dX3_rescueJack_17 : decode cX3_rescueJack 17 = .ok (.aload_n 0, 1) := by decide +kernel
theorem dX3_rescueJack_18 : decode cX3_rescueJack 18 = .ok (.getfield 12, 3) := by decide +kernel
theorem dX3_rescueJack_21 : decode cX3_rescueJack 21 = .ok (.invokevirtual 102, 3) := by decide +kernel
theorem dX3_rescueJack_24 : decode cX3_rescueJack 24 = .ok (.aload_n 0, 1) := by decide +kernel
theorem dX3_rescueJack_25 : decode cX3_rescueJack 25 = .ok (.getfield 21, 3) := by decide +kernel
theorem dX3_rescueJack_28 : decode cX3_rescueJack 28 = .ok (.dup, 1) := by decide +kernel
theorem dX3_rescueJack_29 : decode cX3_rescueJack 29 = .ok (.getfield 105, 3) := by decide +kernel
theorem dX3_rescueJack_32 : decode cX3_rescueJack 32 = .ok (.iconst 1, 1) := by decide +kernel
theorem dX3_rescueJack_33 : decode cX3_rescueJack 33 = .ok (.iadd, 1) := by decide +kernel
theorem dX3_rescueJack_34 : decode cX3_rescueJack 34 = .ok (.putfield 105, 3) := by decide +kernel
theorem dX3_rescueJack_37 : decode cX3_rescueJack 37 = .ok (.return_, 1) := by decide +kernel
def f_X3_rescueJack (N : Nat) (v : SV) : Option (SV) :=
  jn (fun (s37 : SV) => some s37) (fun (j37 : (SV) → Option (SV)) => (if (S_jackGoesBack v) = 0 then j37 v else (f_X0_isJackLost N (S_green v)).bind (fun o2 => (if o2 = 0 then j37 v else (f_X0_putJackBack N (S_green v)).bind (fun o6 => j37 (S_set_score (S_set_green v o6) (V_set_backCount (S_score v) ((V_backCount (S_score v)) + (1 : Int32)))))))))
set_option maxHeartbeats 4000000 in
set_option maxRecDepth 100000 in
theorem met_X3_rescueJack (l : Launch) (dC : Nat → ClassId) (dI : Nat → Nat → Nat) (cyI cyO : ClassId) (a : Nat → Nat) (sz : Nat) (N : Nat) (v : SV) (out : SV) (hF : f_X3_rescueJack N v = some out) : Met l yX3_rescueJack (Cond.code yX3_rescueJack cX3_rescueJack 1 none :: wT) ({ frames := 2, cells := 0, slots := 0, locals := 44 } : Room) (wWr dC dI cyI cyO [.ref (a 0)] (cS cyI a v) sz) (va_Qv (fun (u : SV) => u = out) (fun u t => va_P (dC, dI) vwCl (cS cyI a u) t.heap ∧ va_D (va_A (cS cyI a v) sz) (cS cyI a u)) (va_A (cS cyI a v) sz)) 0 0 (va_A (cS cyI a v) sz) := by
  refine Met.ofW (cc := cX3_rescueJack) (maxL := 1) (ret := none) (by decide) rfl ?_
  intro p e s m args below meth c s₁ B hml hv
  obtain ⟨rfl, hsz, hP, hK, hD0⟩ := hv
  have hx := B.exec
  have hb := B.bytes
  have hr := B.returns
  have hts0 := atoms_spec (ws := (Cond.code yX3_rescueJack cX3_rescueJack 1 none :: wT)) B.pre
  have hts := fun w h => hts0 w (List.mem_cons_of_mem _ h)
  clear hts0
  have hown : s.vm.findClass RX3 = some m.cls := findClass_of_methodNamed B.named
  have hlocks := B.notSynchronized
  subst hsz
  have hD := hD0.self (sz := s.heap.size)
  generalize hAe : va_A (cS cyI a v) s.heap.size = A at hD ⊢
  have hA : ∀ q : Nat, s.heap.size ≤ q → A q := fun q h => by rw [← hAe]; exact Or.inr h
  clear hD0
  have hS : va_S A s.heap s.heap [] := va_S.rf
  have hl := lv_entry [.ref (a 0)] (n := 1) (Nat.le_of_ble_eq_true rfl)
  rw [lg_entry_eq]
  generalize (lg_sl [.ref (a 0)] ++ List.replicate (1 - (lg_sl [.ref (a 0)]).length) Slot.unset).toArray = ls at hl ⊢
  have hl : lv_has ls 1 [(0, .ref (a 0))] := hl
  unfold f_X3_rescueJack at hF
  refine lv_aload_n hx hb dX3_rescueJack_0 rfl (lv_at hl 0 rfl) ?_
  refine va_get (D := (dC, dI)) (ci := 3) (v := .int (S_jackGoesBack v)) (C := RX3) (T := TX3) (N := 6) hx hb hts inX3 hown hK.1 hP 0 rfl rfl 4 (by decide) (hts _ w_fieldLink_X3_32) (fun _ h9 => h9) rfl dX3_rescueJack_1 ?_
  obtain ⟨j37, hj37, hF⟩ := jn_use hF
  have hJ37 : ∀ (s37 : SV) (H : Heap) (locs : List Loc) (ls : Array Slot), va_P (dC, dI) vwCl (cS cyI a s37) H → va_D A (cS cyI a s37) → va_S A s.heap H locs → lv_has ls 1 [] → j37 s37 = some out → W p l e (headSpec (Cond.code yX3_rescueJack cX3_rescueJack 1 none :: wT) ({ frames := 2, cells := 0, slots := 0, locals := 44 } : Room)).room s m ([.ref (a 0)] : List Value).toArray below meth c H locs 0 0 (MQ below (va_Qv (fun (u : SV) => u = out) (fun u t => va_P (dC, dI) vwCl (cS cyI a u) t.heap ∧ va_D A (cS cyI a u)) A) ([.ref (a 0)] : List Value).toArray s 0 0 A) (F0 m 37 ls []) := by
    intro s37 H locs ls hP hD hS hl hF
    have hF := (congrFun hj37 s37).symm.trans hF
    exact W.vret hx hb hr (fun t ht hW => ⟨⟨_, rfl, Option.some.inj hF, by rw [ht]; exact hP, hD⟩, hS.F ht⟩) hS.2.2 dX3_rescueJack_37
  refine lv_if_eq (tgt := 37) hx hb dX3_rescueJack_4 (by decide) (fun c1 => ?_) (fun c1 => ?_)
  · have hF := itp c1 hF
    exact hJ37 v _ _ _ hP hD hS (lv_sub hl [] rfl) hF
  · have hF := itn c1 hF
    refine lv_aload_n hx hb dX3_rescueJack_7 rfl (lv_at hl 0 rfl) ?_
    refine va_get (D := (dC, dI)) (ci := 3) (v := .ref (a 1)) (C := RX3) (T := TX3) (N := 6) hx hb hts inX3 hown hK.1 hP 0 rfl rfl 0 (by decide) (hts _ w_fieldLink_X3_12) (fun _ h9 => h9) rfl dX3_rescueJack_8 ?_
    obtain ⟨o2, h3, hF⟩ := obd hF
    refine wcRVi (As := []) (rest := []) (b := (a 1)) ⟨hx, hb, hml, hown, hts⟩ (met_X0_isJackLost l dC dI cyI cyO a N (S_green v)  o2 h3) (cwV 0 hts (gV w_methodLink_X3_56 w_instanceMethod_X0_isJackLost w_selects_X0_isJackLost w_initialized_X0 w_code_X0_isJackLost) rfl rfl rfl (by decide +kernel) ⟨Nat.le_of_ble_eq_true rfl, Nat.le_of_ble_eq_true rfl⟩) (va_recv hK.1 hP (ci := 0) (q0 := 1) rfl rfl) hP hK [1, 2, 3, 4, 5, 6, 7, 8] rfl rfl hl.1 (Nat.le_of_ble_eq_true rfl) dX3_rescueJack_11 ⟨Nat.le_of_ble_eq_true rfl, Nat.le_of_ble_eq_true rfl⟩ hS (fun r H locs hw hP hS => ?_)
    obtain ⟨hw, hz4⟩ := hw
    have hw := hw.symm
    subst hw
    refine lv_if_eq (tgt := 37) hx hb dX3_rescueJack_14 (by decide) (fun c5 => ?_) (fun c5 => ?_)
    · have hF := itp c5 hF
      exact hJ37 v _ _ _ hP hD hS (lv_sub hl [] rfl) hF
    · have hF := itn c5 hF
      refine lv_aload_n hx hb dX3_rescueJack_17 rfl (lv_at hl 0 rfl) ?_
      refine va_get (D := (dC, dI)) (ci := 3) (v := .ref (a 1)) (C := RX3) (T := TX3) (N := 6) hx hb hts inX3 hown hK.1 hP 0 rfl rfl 0 (by decide) (hts _ w_fieldLink_X3_12) (fun _ h9 => h9) rfl dX3_rescueJack_18 ?_
      obtain ⟨o6, h7, hF⟩ := obd hF
      refine wcWVv (As := []) (rest := []) (wr := [0, 9, 10, 11, 12].filterMap (fun i => ((cS cyI a v))[i]?)) (b := (a 1)) ⟨hx, hb, hml, hown, hts⟩ (met_X0_putJackBack l dC dI cyI cyO a _ N (S_green v)  o6 h7) (cwV 0 hts (gV w_methodLink_X3_102 w_instanceMethod_X0_putJackBack w_selects_X0_putJackBack w_initialized_X0 w_code_X0_putJackBack) rfl rfl rfl (by decide +kernel) ⟨Nat.le_of_ble_eq_true rfl, Nat.le_of_ble_eq_true rfl⟩) (va_recv hK.1 hP (ci := 0) (q0 := 1) rfl rfl) hP hD hK [1, 2, 3, 4, 5, 6, 7, 8] [0, 9, 10, 11, 12] rfl rfl (by decide) (by decide) (by decide) rfl hl.1 (Nat.le_of_ble_eq_true rfl) dX3_rescueJack_21 ⟨Nat.le_of_ble_eq_true rfl, Nat.le_of_ble_eq_true rfl⟩ hS hA (fun u H locs hw hP hD hS => ?_)
      have hw := hw.symm
      subst hw
      have hP := hP.sub (ws' := (cS cyI a (S_set_green v o6))) [0, 5, 6, 7, 8, 9, 10, 11, 12, 1, 2, 3, 4] rfl
      have hD := hD.sub (ws' := (cS cyI a (S_set_green v o6))) [0, 5, 6, 7, 8, 9, 10, 11, 12, 1, 2, 3, 4] (by decide) rfl
      refine lv_aload_n hx hb dX3_rescueJack_24 rfl (lv_at hl 0 rfl) ?_
      refine va_get (D := (dC, dI)) (ci := 3) (v := .ref (a 9)) (C := RX3) (T := TX3) (N := 6) hx hb hts inX3 hown hK.1 hP 0 rfl rfl 1 (by decide) (hts _ w_fieldLink_X3_21) (fun _ h9 => h9) rfl dX3_rescueJack_25 ?_
      refine lv_dup hx hb dX3_rescueJack_28 rfl ?_
      refine va_get (D := (dC, dI)) (ci := 1) (v := .int (V_backCount (S_score v))) (C := RX1) (T := TX1) (N := 11) hx hb hts inX1 hown hK.1 hP 9 rfl rfl 7 (by decide) (hts _ w_fieldLink_X3_105) (fun _ h9 => h9) rfl dX3_rescueJack_29 ?_
      refine lv_iconst (v := 1) hx hb dX3_rescueJack_32 (by decide) ?_
      refine lv_iadd hx hb dX3_rescueJack_33 ?_
      refine va_put (D := (dC, dI)) (ci := 1) (v := .int ((V_backCount (S_score v)) + (1 : Int32))) (ty := .int) (C := RX1) (T := TX1) (N := 11) hx hb hts inX1 tyX1 tyX1_ok nmX1 hown hK.1 hP hD hS 9 rfl rfl 7 (by decide) (hts _ w_fieldLink_X3_105) (fun _ h9 => h9) rfl (by decide +kernel) rfl rfl (Nat.le_of_ble_eq_true rfl) dX3_rescueJack_34 (fun H locs hP hD hS => ?_)
      have hP : va_P (dC, dI) vwCl (cS cyI a (S_set_score (S_set_green v o6) (V_set_backCount (S_score v) ((V_backCount (S_score v)) + (1 : Int32))))) H := hP
      have hD : va_D A (cS cyI a (S_set_score (S_set_green v o6) (V_set_backCount (S_score v) ((V_backCount (S_score v)) + (1 : Int32))))) := hD
      exact hJ37 (S_set_score (S_set_green v o6) (V_set_backCount (S_score v) ((V_backCount (S_score v)) + (1 : Int32)))) _ _ _ hP hD hS (lv_sub hl [] rfl) hF
theorem dX3_playBowl_0 : decode cX3_playBowl 0 = .ok (.aload_n 0, 1) := by decide +kernel
theorem dX3_playBowl_1 : decode cX3_playBowl 1 = .ok (.getfield 12, 3) := by decide +kernel
theorem dX3_playBowl_4 : decode cX3_playBowl 4 = .ok (.aload_n 0, 1) := by decide +kernel
theorem dX3_playBowl_5 : decode cX3_playBowl 5 = .ok (.invokevirtual 76, 3) := by decide +kernel
theorem dX3_playBowl_8 : decode cX3_playBowl 8 = .ok (.iload_n 1, 1) := by decide +kernel
theorem dX3_playBowl_9 : decode cX3_playBowl 9 = .ok (.iload_n 2, 1) := by decide +kernel
theorem dX3_playBowl_10 : decode cX3_playBowl 10 = .ok (.iload_n 3, 1) := by decide +kernel
theorem dX3_playBowl_11 : decode cX3_playBowl 11 = .ok (.invokevirtual 80, 3) := by decide +kernel
theorem dX3_playBowl_14 : decode cX3_playBowl 14 = .ok (.istore 4, 2) := by decide +kernel
theorem dX3_playBowl_16 : decode cX3_playBowl 16 = .ok (.aload_n 0, 1) := by decide +kernel
theorem dX3_playBowl_17 : decode cX3_playBowl 17 = .ok (.getfield 12, 3) := by decide +kernel
theorem dX3_playBowl_20 : decode cX3_playBowl 20 = .ok (.iload 4, 2) := by decide +kernel
theorem dX3_playBowl_22 : decode cX3_playBowl 22 = .ok (.aload_n 0, 1) := by decide +kernel
theorem dX3_playBowl_23 : decode cX3_playBowl 23 = .ok (.getfield 29, 3) := by decide +kernel
theorem dX3_playBowl_26 : decode cX3_playBowl 26 = .ok (.invokevirtual 84, 3) := by decide +kernel
theorem dX3_playBowl_29 : decode cX3_playBowl 29 = .ok (.aload_n 0, 1) := by decide +kernel
theorem dX3_playBowl_30 : decode cX3_playBowl 30 = .ok (.getfield 21, 3) := by decide +kernel
theorem dX3_playBowl_33 : decode cX3_playBowl 33 = .ok (.dup, 1) := by decide +kernel
theorem dX3_playBowl_34 : decode cX3_playBowl 34 = .ok (.getfield 88, 3) := by decide +kernel
theorem dX3_playBowl_37 : decode cX3_playBowl 37 = .ok (.iconst 1, 1) := by decide +kernel
theorem dX3_playBowl_38 : decode cX3_playBowl 38 = .ok (.iadd, 1) := by decide +kernel
theorem dX3_playBowl_39 : decode cX3_playBowl 39 = .ok (.putfield 88, 3) := by decide +kernel
theorem dX3_playBowl_42 : decode cX3_playBowl 42 = .ok (.aload_n 0, 1) := by decide +kernel
theorem dX3_playBowl_43 : decode cX3_playBowl 43 = .ok (.getfield 21, 3) := by decide +kernel
theorem dX3_playBowl_46 : decode cX3_playBowl 46 = .ok (.dup, 1) := by decide +kernel
theorem dX3_playBowl_47 : decode cX3_playBowl 47 = .ok (.getfield 89, 3) := by decide +kernel
theorem dX3_playBowl_50 : decode cX3_playBowl 50 = .ok (.aload_n 0, 1) := by decide +kernel
theorem dX3_playBowl_51 : decode cX3_playBowl 51 = .ok (.getfield 12, 3) := by decide +kernel
theorem dX3_playBowl_54 : decode cX3_playBowl 54 = .ok (.getfield 92, 3) := by decide +kernel
theorem dX3_playBowl_57 : decode cX3_playBowl 57 = .ok (.iload 4, 2) := by decide +kernel
theorem dX3_playBowl_59 : decode cX3_playBowl 59 = .ok (.invokestatic 95, 3) := by decide +kernel
theorem dX3_playBowl_62 : decode cX3_playBowl 62 = .ok (.iadd, 1) := by decide +kernel
theorem dX3_playBowl_63 : decode cX3_playBowl 63 = .ok (.putfield 89, 3) := by decide +kernel
theorem dX3_playBowl_66 : decode cX3_playBowl 66 = .ok (.aload_n 0, 1) := by decide +kernel
theorem dX3_playBowl_67 : decode cX3_playBowl 67 = .ok (.invokevirtual 99, 3) := by decide +kernel
theorem dX3_playBowl_70 : decode cX3_playBowl 70 = .ok (.iload 4, 2) := by decide +kernel
theorem dX3_playBowl_72 : decode cX3_playBowl 72 = .ok (.ireturn, 1) := by decide +kernel
def f_X3_playBowl (N : Nat) (v : SV) (p1 : Int32) (p2 : Int32) (p3 : Int32) : Option (Int32 × SV) :=
  (f_X3_nextSide N v).bind (fun o1 => (f_X0_addBowl N (S_green v) o1 p1 p2 p3).bind (fun o3 => (f_X0_sendBowl N o3.2 o3.1 (S_blowing v)).bind (fun o5 => (f_X5_at N 8 (G_touched o5) o3.1).bind (fun o7 => (f_X3_rescueJack N (S_set_score (S_set_green v o5) (V_set_toucherCount (V_set_bowlCount (S_score v) ((V_bowlCount (S_score v)) + (1 : Int32))) ((V_toucherCount (S_score v)) + o7)))).bind (fun o9 => some (o3.1, o9))))))
set_option maxHeartbeats 4000000 in
set_option maxRecDepth 100000 in
theorem met_X3_playBowl (l : Launch) (dC : Nat → ClassId) (dI : Nat → Nat → Nat) (cyI cyO : ClassId) (a : Nat → Nat) (sz : Nat) (N : Nat) (v : SV) (p1 : Int32) (p2 : Int32) (p3 : Int32) (out : Int32 × SV) (hF : f_X3_playBowl N v p1 p2 p3 = some out) : Met l yX3_playBowl (Cond.code yX3_playBowl cX3_playBowl 5 (some .int) :: wT) ({ frames := 3, cells := 0, slots := 0, locals := 78 } : Room) (wWr dC dI cyI cyO [.ref (a 0), .int p1, .int p2, .int p3] (cS cyI a v) sz) (va_Qi (fun (r : Int32) (u : SV) => (r, u) = out) (fun u t => va_P (dC, dI) vwCl (cS cyI a u) t.heap ∧ va_D (va_A (cS cyI a v) sz) (cS cyI a u)) (va_A (cS cyI a v) sz)) 0 0 (va_A (cS cyI a v) sz) := by
  refine Met.ofW (cc := cX3_playBowl) (maxL := 5) (ret := (some .int)) (by decide) rfl ?_
  intro p e s m args below meth c s₁ B hml hv
  obtain ⟨rfl, hsz, hP, hK, hD0⟩ := hv
  have hx := B.exec
  have hb := B.bytes
  have hr := B.returns
  have hts0 := atoms_spec (ws := (Cond.code yX3_playBowl cX3_playBowl 5 (some .int) :: wT)) B.pre
  have hts := fun w h => hts0 w (List.mem_cons_of_mem _ h)
  clear hts0
  have hown : s.vm.findClass RX3 = some m.cls := findClass_of_methodNamed B.named
  have hlocks := B.notSynchronized
  subst hsz
  have hD := hD0.self (sz := s.heap.size)
  generalize hAe : va_A (cS cyI a v) s.heap.size = A at hD ⊢
  have hA : ∀ q : Nat, s.heap.size ≤ q → A q := fun q h => by rw [← hAe]; exact Or.inr h
  clear hD0
  have hS : va_S A s.heap s.heap [] := va_S.rf
  have hl := lv_entry [.ref (a 0), .int p1, .int p2, .int p3] (n := 5) (Nat.le_of_ble_eq_true rfl)
  rw [lg_entry_eq]
  generalize (lg_sl [.ref (a 0), .int p1, .int p2, .int p3] ++ List.replicate (5 - (lg_sl [.ref (a 0), .int p1, .int p2, .int p3]).length) Slot.unset).toArray = ls at hl ⊢
  have hl : lv_has ls 5 [(0, .ref (a 0)), (1, .int p1), (2, .int p2), (3, .int p3)] := hl
  unfold f_X3_playBowl at hF
  refine lv_aload_n hx hb dX3_playBowl_0 rfl (lv_at hl 0 rfl) ?_
  refine va_get (D := (dC, dI)) (ci := 3) (v := .ref (a 1)) (C := RX3) (T := TX3) (N := 6) hx hb hts inX3 hown hK.1 hP 0 rfl rfl 0 (by decide) (hts _ w_fieldLink_X3_12) (fun _ h9 => h9) rfl dX3_playBowl_1 ?_
  refine lv_aload_n hx hb dX3_playBowl_4 rfl (lv_at hl 0 rfl) ?_
  obtain ⟨o1, h2, hF⟩ := obd hF
  refine wcRVi (As := []) (rest := [.ref (a 1)]) (b := (a 0)) ⟨hx, hb, hml, hown, hts⟩ (met_X3_nextSide l dC dI cyI cyO a N v  o1 h2) (cwV 0 hts (gV w_methodLink_X3_76 w_instanceMethod_X3_nextSide w_selects_X3_nextSide w_initialized_X3 w_code_X3_nextSide) rfl rfl rfl (by decide +kernel) ⟨Nat.le_of_ble_eq_true rfl, Nat.le_of_ble_eq_true rfl⟩) (va_recv hK.1 hP (ci := 3) (q0 := 0) rfl rfl) hP hK [0, 1, 2, 3, 4, 5, 6, 7, 8, 9, 10, 11, 12] rfl rfl hl.1 (Nat.le_of_ble_eq_true rfl) dX3_playBowl_5 ⟨Nat.le_of_ble_eq_true rfl, Nat.le_of_ble_eq_true rfl⟩ hS (fun r H locs hw hP hS => ?_)
  have hw := hw.symm
  subst hw
  refine lv_iload_n hx hb dX3_playBowl_8 rfl (lv_at hl 1 rfl) ?_
  refine lv_iload_n hx hb dX3_playBowl_9 rfl (lv_at hl 2 rfl) ?_
  refine lv_iload_n hx hb dX3_playBowl_10 rfl (lv_at hl 3 rfl) ?_
  obtain ⟨o3, h4, hF⟩ := obd hF
  refine wcWVi (As := [.int o1, .int p1, .int p2, .int p3]) (rest := []) (wr := [0, 9, 10, 11, 12].filterMap (fun i => ((cS cyI a v))[i]?)) (b := (a 1)) ⟨hx, hb, hml, hown, hts⟩ (met_X0_addBowl l dC dI cyI cyO a _ N (S_green v) o1 p1 p2 p3 o3 h4) (cwV 4 hts (gV w_methodLink_X3_80 w_instanceMethod_X0_addBowl w_selects_X0_addBowl w_initialized_X0 w_code_X0_addBowl) rfl rfl rfl (by decide +kernel) ⟨Nat.le_of_ble_eq_true rfl, Nat.le_of_ble_eq_true rfl⟩) (va_recv hK.1 hP (ci := 0) (q0 := 1) rfl rfl) hP hD hK [1, 2, 3, 4, 5, 6, 7, 8] [0, 9, 10, 11, 12] rfl rfl (by decide) (by decide) (by decide) rfl hl.1 (Nat.le_of_ble_eq_true rfl) dX3_playBowl_11 ⟨Nat.le_of_ble_eq_true rfl, Nat.le_of_ble_eq_true rfl⟩ hS hA (fun r u H locs hw hP hD hS => ?_)
  obtain rfl : r = o3.1 := congrArg Prod.fst hw
  obtain rfl : u = o3.2 := congrArg Prod.snd hw
  clear hw
  have hP := hP.sub (ws' := (cS cyI a (S_set_green v o3.2))) [0, 5, 6, 7, 8, 9, 10, 11, 12, 1, 2, 3, 4] rfl
  have hD := hD.sub (ws' := (cS cyI a (S_set_green v o3.2))) [0, 5, 6, 7, 8, 9, 10, 11, 12, 1, 2, 3, 4] (by decide) rfl
  refine lv_istore (lv' := [(4, .int o3.1), (0, .ref (a 0)), (1, .int p1), (2, .int p2), (3, .int p3)]) hx hb dX3_playBowl_14 hl (by decide) rfl (fun ls hl => ?_)
  refine lv_aload_n hx hb dX3_playBowl_16 rfl (lv_at hl 1 rfl) ?_
  refine va_get (D := (dC, dI)) (ci := 3) (v := .ref (a 1)) (C := RX3) (T := TX3) (N := 6) hx hb hts inX3 hown hK.1 hP 0 rfl rfl 0 (by decide) (hts _ w_fieldLink_X3_12) (fun _ h9 => h9) rfl dX3_playBowl_17 ?_
  refine lv_iload hx hb dX3_playBowl_20 (lv_at hl 0 rfl) ?_
  refine lv_aload_n hx hb dX3_playBowl_22 rfl (lv_at hl 1 rfl) ?_
  refine va_get (D := (dC, dI)) (ci := 3) (v := .int (S_blowing v)) (C := RX3) (T := TX3) (N := 6) hx hb hts inX3 hown hK.1 hP 0 rfl rfl 3 (by decide) (hts _ w_fieldLink_X3_29) (fun _ h9 => h9) rfl dX3_playBowl_23 ?_
  obtain ⟨o5, h6, hF⟩ := obd hF
  refine wcWVv (As := [.int o3.1, .int (S_blowing v)]) (rest := []) (wr := [0, 9, 10, 11, 12].filterMap (fun i => ((cS cyI a (S_set_green v o3.2)))[i]?)) (b := (a 1)) ⟨hx, hb, hml, hown, hts⟩ (met_X0_sendBowl l dC dI cyI cyO a _ N o3.2 o3.1 (S_blowing v) o5 h6) (cwV 2 hts (gV w_methodLink_X3_84 w_instanceMethod_X0_sendBowl w_selects_X0_sendBowl w_initialized_X0 w_code_X0_sendBowl) rfl rfl rfl (by decide +kernel) ⟨Nat.le_of_ble_eq_true rfl, Nat.le_of_ble_eq_true rfl⟩) (va_recv hK.1 hP (ci := 0) (q0 := 1) rfl rfl) hP hD hK [1, 2, 3, 4, 5, 6, 7, 8] [0, 9, 10, 11, 12] rfl rfl (by decide) (by decide) (by decide) rfl hl.1 (Nat.le_of_ble_eq_true rfl) dX3_playBowl_26 ⟨Nat.le_of_ble_eq_true rfl, Nat.le_of_ble_eq_true rfl⟩ hS hA (fun u H locs hw hP hD hS => ?_)
  have hw := hw.symm
  subst hw
  have hP := hP.sub (ws' := (cS cyI a (S_set_green v o5))) [0, 5, 6, 7, 8, 9, 10, 11, 12, 1, 2, 3, 4] rfl
  have hD := hD.sub (ws' := (cS cyI a (S_set_green v o5))) [0, 5, 6, 7, 8, 9, 10, 11, 12, 1, 2, 3, 4] (by decide) rfl
  refine lv_aload_n hx hb dX3_playBowl_29 rfl (lv_at hl 1 rfl) ?_
  refine va_get (D := (dC, dI)) (ci := 3) (v := .ref (a 9)) (C := RX3) (T := TX3) (N := 6) hx hb hts inX3 hown hK.1 hP 0 rfl rfl 1 (by decide) (hts _ w_fieldLink_X3_21) (fun _ h9 => h9) rfl dX3_playBowl_30 ?_
  refine lv_dup hx hb dX3_playBowl_33 rfl ?_
  refine va_get (D := (dC, dI)) (ci := 1) (v := .int (V_bowlCount (S_score v))) (C := RX1) (T := TX1) (N := 11) hx hb hts inX1 hown hK.1 hP 9 rfl rfl 8 (by decide) (hts _ w_fieldLink_X3_88) (fun _ h9 => h9) rfl dX3_playBowl_34 ?_
  refine lv_iconst (v := 1) hx hb dX3_playBowl_37 (by decide) ?_
  refine lv_iadd hx hb dX3_playBowl_38 ?_
  refine va_put (D := (dC, dI)) (ci := 1) (v := .int ((V_bowlCount (S_score v)) + (1 : Int32))) (ty := .int) (C := RX1) (T := TX1) (N := 11) hx hb hts inX1 tyX1 tyX1_ok nmX1 hown hK.1 hP hD hS 9 rfl rfl 8 (by decide) (hts _ w_fieldLink_X3_88) (fun _ h9 => h9) rfl (by decide +kernel) rfl rfl (Nat.le_of_ble_eq_true rfl) dX3_playBowl_39 (fun H locs hP hD hS => ?_)
  have hP : va_P (dC, dI) vwCl (cS cyI a (S_set_score (S_set_green v o5) (V_set_bowlCount (S_score v) ((V_bowlCount (S_score v)) + (1 : Int32))))) H := hP
  have hD : va_D A (cS cyI a (S_set_score (S_set_green v o5) (V_set_bowlCount (S_score v) ((V_bowlCount (S_score v)) + (1 : Int32))))) := hD
  refine lv_aload_n hx hb dX3_playBowl_42 rfl (lv_at hl 1 rfl) ?_
  refine va_get (D := (dC, dI)) (ci := 3) (v := .ref (a 9)) (C := RX3) (T := TX3) (N := 6) hx hb hts inX3 hown hK.1 hP 0 rfl rfl 1 (by decide) (hts _ w_fieldLink_X3_21) (fun _ h9 => h9) rfl dX3_playBowl_43 ?_
  refine lv_dup hx hb dX3_playBowl_46 rfl ?_
  refine va_get (D := (dC, dI)) (ci := 1) (v := .int (V_toucherCount (S_score v))) (C := RX1) (T := TX1) (N := 11) hx hb hts inX1 hown hK.1 hP 9 rfl rfl 9 (by decide) (hts _ w_fieldLink_X3_89) (fun _ h9 => h9) rfl dX3_playBowl_47 ?_
  refine lv_aload_n hx hb dX3_playBowl_50 rfl (lv_at hl 1 rfl) ?_
  refine va_get (D := (dC, dI)) (ci := 3) (v := .ref (a 1)) (C := RX3) (T := TX3) (N := 6) hx hb hts inX3 hown hK.1 hP 0 rfl rfl 0 (by decide) (hts _ w_fieldLink_X3_12) (fun _ h9 => h9) rfl dX3_playBowl_51 ?_
  refine va_get (D := (dC, dI)) (ci := 0) (v := .ref (a 7)) (C := RX0) (T := TX0) (N := 9) hx hb hts inX0 hown hK.1 hP 1 rfl rfl 5 (by decide) (hts _ w_fieldLink_X3_92) (fun _ h9 => h9) rfl dX3_playBowl_54 ?_
  refine lv_iload hx hb dX3_playBowl_57 (lv_at hl 0 rfl) ?_
  obtain ⟨o7, h8, hF⟩ := obd hF
  refine wcRNi (As := [.ref (a 7), .int o3.1]) (rest := [.int (V_toucherCount (S_score v)), .ref (a 9)]) ⟨hx, hb, hml, hown, hts⟩ (met_X5_at l dC dI cyI cyO (a 7) 8 N (G_touched o5) o3.1 o7 h8) ⟨va_cnB 2 hts (gCode w_code_X5_at) rfl rfl rfl (hK.2 _ n_X3_95) (hts _ w_initialized_X5) (by decide +kernel) ⟨Nat.le_of_ble_eq_true rfl, Nat.le_of_ble_eq_true rfl⟩, hts _ w_static_X5_at, trivial⟩ hP hK [7] rfl rfl hl.1 (Nat.le_of_ble_eq_true rfl) dX3_playBowl_59 ⟨Nat.le_of_ble_eq_true rfl, Nat.le_of_ble_eq_true rfl⟩ hS (fun r H locs hw hP hS => ?_)
  have hw := hw.symm
  subst hw
  refine lv_iadd hx hb dX3_playBowl_62 ?_
  refine va_put (D := (dC, dI)) (ci := 1) (v := .int ((V_toucherCount (S_score v)) + o7)) (ty := .int) (C := RX1) (T := TX1) (N := 11) hx hb hts inX1 tyX1 tyX1_ok nmX1 hown hK.1 hP hD hS 9 rfl rfl 9 (by decide) (hts _ w_fieldLink_X3_89) (fun _ h9 => h9) rfl (by decide +kernel) rfl rfl (Nat.le_of_ble_eq_true rfl) dX3_playBowl_63 (fun H locs hP hD hS => ?_)
  have hP : va_P (dC, dI) vwCl (cS cyI a (S_set_score (S_set_green v o5) (V_set_toucherCount (V_set_bowlCount (S_score v) ((V_bowlCount (S_score v)) + (1 : Int32))) ((V_toucherCount (S_score v)) + o7)))) H := hP
  have hD : va_D A (cS cyI a (S_set_score (S_set_green v o5) (V_set_toucherCount (V_set_bowlCount (S_score v) ((V_bowlCount (S_score v)) + (1 : Int32))) ((V_toucherCount (S_score v)) + o7)))) := hD
  refine lv_aload_n hx hb dX3_playBowl_66 rfl (lv_at hl 1 rfl) ?_
  obtain ⟨o9, h10, hF⟩ := obd hF
  refine wcWVv (As := []) (rest := []) (wr := []) (b := (a 0)) ⟨hx, hb, hml, hown, hts⟩ (met_X3_rescueJack l dC dI cyI cyO a _ N (S_set_score (S_set_green v o5) (V_set_toucherCount (V_set_bowlCount (S_score v) ((V_bowlCount (S_score v)) + (1 : Int32))) ((V_toucherCount (S_score v)) + o7)))  o9 h10) (cwV 0 hts (gV w_methodLink_X3_99 w_instanceMethod_X3_rescueJack w_selects_X3_rescueJack w_initialized_X3 w_code_X3_rescueJack) rfl rfl rfl (by decide +kernel) ⟨Nat.le_of_ble_eq_true rfl, Nat.le_of_ble_eq_true rfl⟩) (va_recv hK.1 hP (ci := 3) (q0 := 0) rfl rfl) hP hD hK [0, 1, 2, 3, 4, 5, 6, 7, 8, 9, 10, 11, 12] [] rfl rfl (by decide) (by decide) (by decide) rfl hl.1 (Nat.le_of_ble_eq_true rfl) dX3_playBowl_67 ⟨Nat.le_of_ble_eq_true rfl, Nat.le_of_ble_eq_true rfl⟩ hS hA (fun u H locs hw hP hD hS => ?_)
  have hw := hw.symm
  subst hw
  have hP : va_P (dC, dI) vwCl (cS cyI a o9) H := hP
  have hD : va_D A (cS cyI a o9) := hD
  refine lv_iload hx hb dX3_playBowl_70 (lv_at hl 0 rfl) ?_
  exact W.iret (v := o3.1) hx hb hr (fun t ht hW => ⟨⟨_, o9, rfl, Option.some.inj hF, by rw [ht]; exact hP, hD⟩, hS.F ht⟩) hS.2.2 dX3_playBowl_72
theorem dX3_countEnd_0 : decode cX3_countEnd 0 = .ok (.aload_n 0, 1) := by decide +kernel
theorem dX3_countEnd_1 : decode cX3_countEnd 1 = .ok (.getfield 12, 3) := by decide +kernel
theorem dX3_countEnd_4 : decode cX3_countEnd 4 = .ok (.invokevirtual 108, 3) := by decide +kernel
theorem dX3_countEnd_7 : decode cX3_countEnd 7 = .ok (.istore_n 1, 1) := by decide +kernel
theorem dX3_countEnd_8 : decode cX3_countEnd 8 = .ok (.aload_n 0, 1) := by decide +kernel
theorem dX3_countEnd_9 : decode cX3_countEnd 9 = .ok (.getfield 12, 3) := by decide +kernel
theorem dX3_countEnd_12 : decode cX3_countEnd 12 = .ok (.aload_n 0, 1) := by decide +kernel
theorem dX3_countEnd_13 : decode cX3_countEnd 13 = .ok (.getfield 36, 3) := by decide +kernel
theorem dX3_countEnd_16 : decode cX3_countEnd 16 = .ok (.invokevirtual 111, 3) := by decide +kernel
theorem dX3_countEnd_19 : decode cX3_countEnd 19 = .ok (.istore_n 2, 1) := by decide +kernel
theorem dX3_countEnd_20 : decode cX3_countEnd 20 = .ok (.aload_n 0, 1) := by decide +kernel
theorem dX3_countEnd_21 : decode cX3_countEnd 21 = .ok (.getfield 12, 3) := by decide +kernel
theorem dX3_countEnd_24 : decode cX3_countEnd 24 = .ok (.invokevirtual 56, 3) := by decide +kernel
theorem dX3_countEnd_27 : decode cX3_countEnd 27 = .ok (.ifCond .eq 16, 3) := by decide +kernel
theorem dX3_countEnd_30 : decode cX3_countEnd 30 = .ok (.aload_n 0, 1) := by decide +kernel
theorem dX3_countEnd_31 : decode cX3_countEnd 31 = .ok (.getfield 21, 3) := by decide +kernel
theorem dX3_countEnd_34 : decode cX3_countEnd 34 = .ok (.dup, 1) := by decide +kernel
theorem dX3_countEnd_35 : decode cX3_countEnd 35 = .ok (.getfield 115, 3) := by decide +kernel
theorem dX3_countEnd_38 : decode cX3_countEnd 38 = .ok (.iconst 1, 1) := by decide +kernel
theorem dX3_countEnd_39 : decode cX3_countEnd 39 = .ok (.iadd, 1) := by decide +kernel
theorem dX3_countEnd_40 : decode cX3_countEnd 40 = .ok (.putfield 115, 3) := by decide +kernel
theorem dX3_countEnd_43 : decode cX3_countEnd 43 = .ok (.iload_n 1, 1) := by decide +kernel
theorem dX3_countEnd_44 : decode cX3_countEnd 44 = .ok (.iconst (-1), 1) := by decide +kernel
theorem dX3_countEnd_45 : decode cX3_countEnd 45 = .ok (.if_icmp .eq 12, 3) := by decide +kernel
theorem dX3_countEnd_48 : decode cX3_countEnd 48 = .ok (.aload_n 0, 1) := by decide +kernel
theorem dX3_countEnd_49 : decode cX3_countEnd 49 = .ok (.getfield 21, 3) := by decide +kernel
theorem dX3_countEnd_52 : decode cX3_countEnd 52 = .ok (.iload_n 1, 1) := by decide +kernel
theorem dX3_countEnd_53 : decode cX3_countEnd 53 = .ok (.iload_n 2, 1) := by decide +kernel
theorem dX3_countEnd_54 : decode cX3_countEnd 54 = .ok (.invokevirtual 118, 3) := by decide +kernel
theorem dX3_countEnd_57 : decode cX3_countEnd 57 = .ok (.aload_n 0, 1) := by decide +kernel
theorem dX3_countEnd_58 : decode cX3_countEnd 58 = .ok (.getfield 21, 3) := by decide +kernel
theorem dX3_countEnd_61 : decode cX3_countEnd 61 = .ok (.iload_n 1, 1) := by decide +kernel
theorem dX3_countEnd_62 : decode cX3_countEnd 62 = .ok (.iconst 1, 1) := by decide +kernel
theorem dX3_countEnd_63 : decode cX3_countEnd 63 = .ok (.if_icmp .ne 8, 3) := by decide +kernel
theorem dX3_countEnd_66 : decode cX3_countEnd 66 = .ok (.iload_n 2, 1) := by decide +kernel
theorem dX3_countEnd_67 : decode cX3_countEnd 67 = .ok (.ineg, 1) := by decide +kernel
theorem dX3_countEnd_68 : decode cX3_countEnd 68 = .ok (.goto 4, 3) := by decide +kernel
theorem dX3_countEnd_71 : decode cX3_countEnd 71 = .ok (.iload_n 2, 1) := by decide +kernel
theorem dX3_countEnd_72 : decode cX3_countEnd 72 = .ok (.invokevirtual 121, 3) := by decide +kernel
theorem dX3_countEnd_75 : decode cX3_countEnd 75 = .ok (.aload_n 0, 1) := by decide +kernel
theorem dX3_countEnd_76 : decode cX3_countEnd 76 = .ok (.getfield 12, 3) := by decide +kernel
theorem dX3_countEnd_79 : decode cX3_countEnd 79 = .ok (.invokevirtual 65, 3) := by decide +kernel
theorem dX3_countEnd_82 : decode cX3_countEnd 82 = .ok (.iload_n 2, 1) := by decide +kernel
theorem dX3_countEnd_83 : decode cX3_countEnd 83 = .ok (.ireturn, 1) := by decide +kernel
def f_X3_countEnd (N : Nat) (v : SV) : Option (Int32 × SV) :=
  (f_X0_scoringSide N (S_green v)).bind (fun o1 => (f_X0_pairedPoints N (S_green v) (S_touchersTwice v)).bind (fun o3 => (f_X0_isJackLost N (S_green v)).bind (fun o5 => jn (fun (s43 : SV) => jn (fun (s57 : SV) => jn (fun (s72 : Int32) => (f_X1_addEnd N (S_score s57) s72).bind (fun o8 => (f_X0_takeAway N (S_green s57)).bind (fun o10 => some (o3, (S_set_score (S_set_green s57 o10) o8))))) (fun (j72 : (Int32) → Option (Int32 × SV)) => (if o1 = (1 : Int32) then j72 (-o3) else j72 o3))) (fun (j57 : (SV) → Option (Int32 × SV)) => (if o1 = (-1 : Int32) then j57 s43 else (f_X1_addPoints N (S_score s43) o1 o3).bind (fun o14 => j57 (S_set_score s43 o14))))) (fun (j43 : (SV) → Option (Int32 × SV)) => (if o5 = 0 then j43 v else j43 (S_set_score v (V_set_burntCount (S_score v) ((V_burntCount (S_score v)) + (1 : Int32)))))))))
set_option maxHeartbeats 4000000 in
set_option maxRecDepth 100000 in
theorem met_X3_countEnd (l : Launch) (dC : Nat → ClassId) (dI : Nat → Nat → Nat) (cyI cyO : ClassId) (a : Nat → Nat) (sz : Nat) (N : Nat) (v : SV) (out : Int32 × SV) (hF : f_X3_countEnd N v = some out) : Met l yX3_countEnd (Cond.code yX3_countEnd cX3_countEnd 3 (some .int) :: wT) ({ frames := 4, cells := 0, slots := 0, locals := 90 } : Room) (wWr dC dI cyI cyO [.ref (a 0)] (cS cyI a v) sz) (va_Qi (fun (r : Int32) (u : SV) => (r, u) = out) (fun u t => va_P (dC, dI) vwCl (cS cyI a u) t.heap ∧ va_D (va_A (cS cyI a v) sz) (cS cyI a u)) (va_A (cS cyI a v) sz)) 0 0 (va_A (cS cyI a v) sz) := by
  refine Met.ofW (cc := cX3_countEnd) (maxL := 3) (ret := (some .int)) (by decide) rfl ?_
  intro p e s m args below meth c s₁ B hml hv
  obtain ⟨rfl, hsz, hP, hK, hD0⟩ := hv
  have hx := B.exec
  have hb := B.bytes
  have hr := B.returns
  have hts0 := atoms_spec (ws := (Cond.code yX3_countEnd cX3_countEnd 3 (some .int) :: wT)) B.pre
  have hts := fun w h => hts0 w (List.mem_cons_of_mem _ h)
  clear hts0
  have hown : s.vm.findClass RX3 = some m.cls := findClass_of_methodNamed B.named
  have hlocks := B.notSynchronized
  subst hsz
  have hD := hD0.self (sz := s.heap.size)
  generalize hAe : va_A (cS cyI a v) s.heap.size = A at hD ⊢
  have hA : ∀ q : Nat, s.heap.size ≤ q → A q := fun q h => by rw [← hAe]; exact Or.inr h
  clear hD0
  have hS : va_S A s.heap s.heap [] := va_S.rf
  have hl := lv_entry [.ref (a 0)] (n := 3) (Nat.le_of_ble_eq_true rfl)
  rw [lg_entry_eq]
  generalize (lg_sl [.ref (a 0)] ++ List.replicate (3 - (lg_sl [.ref (a 0)]).length) Slot.unset).toArray = ls at hl ⊢
  have hl : lv_has ls 3 [(0, .ref (a 0))] := hl
  unfold f_X3_countEnd at hF
  refine lv_aload_n hx hb dX3_countEnd_0 rfl (lv_at hl 0 rfl) ?_
  refine va_get (D := (dC, dI)) (ci := 3) (v := .ref (a 1)) (C := RX3) (T := TX3) (N := 6) hx hb hts inX3 hown hK.1 hP 0 rfl rfl 0 (by decide) (hts _ w_fieldLink_X3_12) (fun _ h9 => h9) rfl dX3_countEnd_1 ?_
  obtain ⟨o1, h2, hF⟩ := obd hF
  refine wcRVi (As := []) (rest := []) (b := (a 1)) ⟨hx, hb, hml, hown, hts⟩ (met_X0_scoringSide l dC dI cyI cyO a N (S_green v)  o1 h2) (cwV 0 hts (gV w_methodLink_X3_108 w_instanceMethod_X0_scoringSide w_selects_X0_scoringSide w_initialized_X0 w_code_X0_scoringSide) rfl rfl rfl (by decide +kernel) ⟨Nat.le_of_ble_eq_true rfl, Nat.le_of_ble_eq_true rfl⟩) (va_recv hK.1 hP (ci := 0) (q0 := 1) rfl rfl) hP hK [1, 2, 3, 4, 5, 6, 7, 8] rfl rfl hl.1 (Nat.le_of_ble_eq_true rfl) dX3_countEnd_4 ⟨Nat.le_of_ble_eq_true rfl, Nat.le_of_ble_eq_true rfl⟩ hS (fun r H locs hw hP hS => ?_)
  have hw := hw.symm
  subst hw
  refine lv_istore_n (lv' := [(1, .int o1), (0, .ref (a 0))]) hx hb dX3_countEnd_7 rfl hl (by decide) rfl (fun ls hl => ?_)
  refine lv_aload_n hx hb dX3_countEnd_8 rfl (lv_at hl 1 rfl) ?_
  refine va_get (D := (dC, dI)) (ci := 3) (v := .ref (a 1)) (C := RX3) (T := TX3) (N := 6) hx hb hts inX3 hown hK.1 hP 0 rfl rfl 0 (by decide) (hts _ w_fieldLink_X3_12) (fun _ h9 => h9) rfl dX3_countEnd_9 ?_
  refine lv_aload_n hx hb dX3_countEnd_12 rfl (lv_at hl 1 rfl) ?_
  refine va_get (D := (dC, dI)) (ci := 3) (v := .int (S_touchersTwice v)) (C := RX3) (T := TX3) (N := 6) hx hb hts inX3 hown hK.1 hP 0 rfl rfl 5 (by decide) (hts _ w_fieldLink_X3_36) (fun _ h9 => h9) rfl dX3_countEnd_13 ?_
  obtain ⟨o3, h4, hF⟩ := obd hF
  refine wcRVi (As := [.int (S_touchersTwice v)]) (rest := []) (b := (a 1)) ⟨hx, hb, hml, hown, hts⟩ (met_X0_pairedPoints l dC dI cyI cyO a N (S_green v) (S_touchersTwice v) o3 h4) (cwV 1 hts (gV w_methodLink_X3_111 w_instanceMethod_X0_pairedPoints w_selects_X0_pairedPoints w_initialized_X0 w_code_X0_pairedPoints) rfl rfl rfl (by decide +kernel) ⟨Nat.le_of_ble_eq_true rfl, Nat.le_of_ble_eq_true rfl⟩) (va_recv hK.1 hP (ci := 0) (q0 := 1) rfl rfl) hP hK [1, 2, 3, 4, 5, 6, 7, 8] rfl rfl hl.1 (Nat.le_of_ble_eq_true rfl) dX3_countEnd_16 ⟨Nat.le_of_ble_eq_true rfl, Nat.le_of_ble_eq_true rfl⟩ hS (fun r H locs hw hP hS => ?_)
  have hw := hw.symm
  subst hw
  refine lv_istore_n (lv' := [(2, .int o3), (1, .int o1), (0, .ref (a 0))]) hx hb dX3_countEnd_19 rfl hl (by decide) rfl (fun ls hl => ?_)
  refine lv_aload_n hx hb dX3_countEnd_20 rfl (lv_at hl 2 rfl) ?_
  refine va_get (D := (dC, dI)) (ci := 3) (v := .ref (a 1)) (C := RX3) (T := TX3) (N := 6) hx hb hts inX3 hown hK.1 hP 0 rfl rfl 0 (by decide) (hts _ w_fieldLink_X3_12) (fun _ h9 => h9) rfl dX3_countEnd_21 ?_
  obtain ⟨o5, h6, hF⟩ := obd hF
  refine wcRVi (As := []) (rest := []) (b := (a 1)) ⟨hx, hb, hml, hown, hts⟩ (met_X0_isJackLost l dC dI cyI cyO a N (S_green v)  o5 h6) (cwV 0 hts (gV w_methodLink_X3_56 w_instanceMethod_X0_isJackLost w_selects_X0_isJackLost w_initialized_X0 w_code_X0_isJackLost) rfl rfl rfl (by decide +kernel) ⟨Nat.le_of_ble_eq_true rfl, Nat.le_of_ble_eq_true rfl⟩) (va_recv hK.1 hP (ci := 0) (q0 := 1) rfl rfl) hP hK [1, 2, 3, 4, 5, 6, 7, 8] rfl rfl hl.1 (Nat.le_of_ble_eq_true rfl) dX3_countEnd_24 ⟨Nat.le_of_ble_eq_true rfl, Nat.le_of_ble_eq_true rfl⟩ hS (fun r H locs hw hP hS => ?_)
  obtain ⟨hw, hz7⟩ := hw
  have hw := hw.symm
  subst hw
  obtain ⟨j43, hj43, hF⟩ := jn_use hF
  have hJ43 : ∀ (s43 : SV) (H : Heap) (locs : List Loc) (ls : Array Slot), va_P (dC, dI) vwCl (cS cyI a s43) H → va_D A (cS cyI a s43) → va_S A s.heap H locs → lv_has ls 3 [(0, .ref (a 0)), (1, .int o1), (2, .int o3)] → j43 s43 = some out → W p l e (headSpec (Cond.code yX3_countEnd cX3_countEnd 3 (some .int) :: wT) ({ frames := 4, cells := 0, slots := 0, locals := 90 } : Room)).room s m ([.ref (a 0)] : List Value).toArray below meth c H locs 0 0 (MQ below (va_Qi (fun (r : Int32) (u : SV) => (r, u) = out) (fun u t => va_P (dC, dI) vwCl (cS cyI a u) t.heap ∧ va_D A (cS cyI a u)) A) ([.ref (a 0)] : List Value).toArray s 0 0 A) (F0 m 43 ls []) := by
    intro s43 H locs ls hP hD hS hl hF
    have hF := (congrFun hj43 s43).symm.trans hF
    refine lv_iload_n hx hb dX3_countEnd_43 rfl (lv_at hl 1 rfl) ?_
    refine lv_iconst (v := -1) hx hb dX3_countEnd_44 (by decide) ?_
    obtain ⟨j57, hj57, hF⟩ := jn_use hF
    have hJ57 : ∀ (s57 : SV) (H : Heap) (locs : List Loc) (ls : Array Slot), va_P (dC, dI) vwCl (cS cyI a s57) H → va_D A (cS cyI a s57) → va_S A s.heap H locs → lv_has ls 3 [(0, .ref (a 0)), (1, .int o1), (2, .int o3)] → j57 s57 = some out → W p l e (headSpec (Cond.code yX3_countEnd cX3_countEnd 3 (some .int) :: wT) ({ frames := 4, cells := 0, slots := 0, locals := 90 } : Room)).room s m ([.ref (a 0)] : List Value).toArray below meth c H locs 0 0 (MQ below (va_Qi (fun (r : Int32) (u : SV) => (r, u) = out) (fun u t => va_P (dC, dI) vwCl (cS cyI a u) t.heap ∧ va_D A (cS cyI a u)) A) ([.ref (a 0)] : List Value).toArray s 0 0 A) (F0 m 57 ls []) := by
      intro s57 H locs ls hP hD hS hl hF
      have hF := (congrFun hj57 s57).symm.trans hF
      refine lv_aload_n hx hb dX3_countEnd_57 rfl (lv_at hl 0 rfl) ?_
      refine va_get (D := (dC, dI)) (ci := 3) (v := .ref (a 9)) (C := RX3) (T := TX3) (N := 6) hx hb hts inX3 hown hK.1 hP 0 rfl rfl 1 (by decide) (hts _ w_fieldLink_X3_21) (fun _ h9 => h9) rfl dX3_countEnd_58 ?_
      refine lv_iload_n hx hb dX3_countEnd_61 rfl (lv_at hl 1 rfl) ?_
      refine lv_iconst (v := 1) hx hb dX3_countEnd_62 (by decide) ?_
      obtain ⟨j72, hj72, hF⟩ := jn_use hF
      have hJ72 : ∀ (s72 : Int32) (H : Heap) (locs : List Loc) (ls : Array Slot), va_P (dC, dI) vwCl (cS cyI a s57) H → va_D A (cS cyI a s57) → va_S A s.heap H locs → lv_has ls 3 [(0, .ref (a 0)), (2, .int o3)] → j72 s72 = some out → W p l e (headSpec (Cond.code yX3_countEnd cX3_countEnd 3 (some .int) :: wT) ({ frames := 4, cells := 0, slots := 0, locals := 90 } : Room)).room s m ([.ref (a 0)] : List Value).toArray below meth c H locs 0 0 (MQ below (va_Qi (fun (r : Int32) (u : SV) => (r, u) = out) (fun u t => va_P (dC, dI) vwCl (cS cyI a u) t.heap ∧ va_D A (cS cyI a u)) A) ([.ref (a 0)] : List Value).toArray s 0 0 A) (F0 m 72 ls [.int s72, .ref (a 9)]) := by
        intro s72 H locs ls hP hD hS hl hF
        have hF := (congrFun hj72 s72).symm.trans hF
        obtain ⟨o8, h9, hF⟩ := obd hF
        refine wcWVv (As := [.int s72]) (rest := []) (wr := [0, 1, 2, 3, 4, 5, 6, 7, 8].filterMap (fun i => ((cS cyI a s57))[i]?)) (b := (a 9)) ⟨hx, hb, hml, hown, hts⟩ (met_X1_addEnd l dC dI cyI cyO a _ N (S_score s57) s72 o8 h9) (cwV 1 hts (gV w_methodLink_X3_121 w_instanceMethod_X1_addEnd w_selects_X1_addEnd w_initialized_X1 w_code_X1_addEnd) rfl rfl rfl (by decide +kernel) ⟨Nat.le_of_ble_eq_true rfl, Nat.le_of_ble_eq_true rfl⟩) (va_recv hK.1 hP (ci := 1) (q0 := 9) rfl rfl) hP hD hK [9, 10, 11, 12] [0, 1, 2, 3, 4, 5, 6, 7, 8] rfl rfl (by decide) (by decide) (by decide) rfl hl.1 (Nat.le_of_ble_eq_true rfl) dX3_countEnd_72 ⟨Nat.le_of_ble_eq_true rfl, Nat.le_of_ble_eq_true rfl⟩ hS hA (fun u H locs hw hP hD hS => ?_)
        have hw := hw.symm
        subst hw
        have hP : va_P (dC, dI) vwCl (cS cyI a (S_set_score s57 o8)) H := hP
        have hD : va_D A (cS cyI a (S_set_score s57 o8)) := hD
        refine lv_aload_n hx hb dX3_countEnd_75 rfl (lv_at hl 0 rfl) ?_
        refine va_get (D := (dC, dI)) (ci := 3) (v := .ref (a 1)) (C := RX3) (T := TX3) (N := 6) hx hb hts inX3 hown hK.1 hP 0 rfl rfl 0 (by decide) (hts _ w_fieldLink_X3_12) (fun _ h9 => h9) rfl dX3_countEnd_76 ?_
        obtain ⟨o10, h11, hF⟩ := obd hF
        refine wcWVv (As := []) (rest := []) (wr := [0, 9, 10, 11, 12].filterMap (fun i => ((cS cyI a (S_set_score s57 o8)))[i]?)) (b := (a 1)) ⟨hx, hb, hml, hown, hts⟩ (met_X0_takeAway l dC dI cyI cyO a _ N (S_green s57)  o10 h11) (cwV 0 hts (gV w_methodLink_X3_65 w_instanceMethod_X0_takeAway w_selects_X0_takeAway w_initialized_X0 w_code_X0_takeAway) rfl rfl rfl (by decide +kernel) ⟨Nat.le_of_ble_eq_true rfl, Nat.le_of_ble_eq_true rfl⟩) (va_recv hK.1 hP (ci := 0) (q0 := 1) rfl rfl) hP hD hK [1, 2, 3, 4, 5, 6, 7, 8] [0, 9, 10, 11, 12] rfl rfl (by decide) (by decide) (by decide) rfl hl.1 (Nat.le_of_ble_eq_true rfl) dX3_countEnd_79 ⟨Nat.le_of_ble_eq_true rfl, Nat.le_of_ble_eq_true rfl⟩ hS hA (fun u H locs hw hP hD hS => ?_)
        have hw := hw.symm
        subst hw
        have hP := hP.sub (ws' := (cS cyI a (S_set_score (S_set_green s57 o10) o8))) [0, 5, 6, 7, 8, 9, 10, 11, 12, 1, 2, 3, 4] rfl
        have hD := hD.sub (ws' := (cS cyI a (S_set_score (S_set_green s57 o10) o8))) [0, 5, 6, 7, 8, 9, 10, 11, 12, 1, 2, 3, 4] (by decide) rfl
        refine lv_iload_n hx hb dX3_countEnd_82 rfl (lv_at hl 1 rfl) ?_
        exact W.iret (v := o3) hx hb hr (fun t ht hW => ⟨⟨_, (S_set_score (S_set_green s57 o10) o8), rfl, Option.some.inj hF, by rw [ht]; exact hP, hD⟩, hS.F ht⟩) hS.2.2 dX3_countEnd_83
      refine lv_icmp_ne (tgt := 71) hx hb dX3_countEnd_63 (by decide) (fun c12 => ?_) (fun c12 => ?_)
      · have hF := itn c12 hF
        refine lv_iload_n hx hb dX3_countEnd_71 rfl (lv_at hl 2 rfl) ?_
        exact hJ72 o3 _ _ _ hP hD hS (lv_sub hl [0, 2] rfl) hF
      · have hF := itp c12 hF
        refine lv_iload_n hx hb dX3_countEnd_66 rfl (lv_at hl 2 rfl) ?_
        refine lv_ineg hx hb dX3_countEnd_67 ?_
        refine lv_goto (tgt := 72) hx hb dX3_countEnd_68 (by decide) ?_
        exact hJ72 (-o3) _ _ _ hP hD hS (lv_sub hl [0, 2] rfl) hF
    refine lv_icmp_eq (tgt := 57) hx hb dX3_countEnd_45 (by decide) (fun c13 => ?_) (fun c13 => ?_)
    · have hF := itp c13 hF
      exact hJ57 s43 _ _ _ hP hD hS (lv_sub hl [0, 1, 2] rfl) hF
    · have hF := itn c13 hF
      refine lv_aload_n hx hb dX3_countEnd_48 rfl (lv_at hl 0 rfl) ?_
      refine va_get (D := (dC, dI)) (ci := 3) (v := .ref (a 9)) (C := RX3) (T := TX3) (N := 6) hx hb hts inX3 hown hK.1 hP 0 rfl rfl 1 (by decide) (hts _ w_fieldLink_X3_21) (fun _ h9 => h9) rfl dX3_countEnd_49 ?_
      refine lv_iload_n hx hb dX3_countEnd_52 rfl (lv_at hl 1 rfl) ?_
      refine lv_iload_n hx hb dX3_countEnd_53 rfl (lv_at hl 2 rfl) ?_
      obtain ⟨o14, h15, hF⟩ := obd hF
      refine wcWVv (As := [.int o1, .int o3]) (rest := []) (wr := [0, 1, 2, 3, 4, 5, 6, 7, 8].filterMap (fun i => ((cS cyI a s43))[i]?)) (b := (a 9)) ⟨hx, hb, hml, hown, hts⟩ (met_X1_addPoints l dC dI cyI cyO a _ N (S_score s43) o1 o3 o14 h15) (cwV 2 hts (gV w_methodLink_X3_118 w_instanceMethod_X1_addPoints w_selects_X1_addPoints w_initialized_X1 w_code_X1_addPoints) rfl rfl rfl (by decide +kernel) ⟨Nat.le_of_ble_eq_true rfl, Nat.le_of_ble_eq_true rfl⟩) (va_recv hK.1 hP (ci := 1) (q0 := 9) rfl rfl) hP hD hK [9, 10, 11, 12] [0, 1, 2, 3, 4, 5, 6, 7, 8] rfl rfl (by decide) (by decide) (by decide) rfl hl.1 (Nat.le_of_ble_eq_true rfl) dX3_countEnd_54 ⟨Nat.le_of_ble_eq_true rfl, Nat.le_of_ble_eq_true rfl⟩ hS hA (fun u H locs hw hP hD hS => ?_)
      have hw := hw.symm
      subst hw
      have hP : va_P (dC, dI) vwCl (cS cyI a (S_set_score s43 o14)) H := hP
      have hD : va_D A (cS cyI a (S_set_score s43 o14)) := hD
      exact hJ57 (S_set_score s43 o14) _ _ _ hP hD hS (lv_sub hl [0, 1, 2] rfl) hF
  refine lv_if_eq (tgt := 43) hx hb dX3_countEnd_27 (by decide) (fun c16 => ?_) (fun c16 => ?_)
  · have hF := itp c16 hF
    exact hJ43 v _ _ _ hP hD hS (lv_sub hl [2, 1, 0] rfl) hF
  · have hF := itn c16 hF
    refine lv_aload_n hx hb dX3_countEnd_30 rfl (lv_at hl 2 rfl) ?_
    refine va_get (D := (dC, dI)) (ci := 3) (v := .ref (a 9)) (C := RX3) (T := TX3) (N := 6) hx hb hts inX3 hown hK.1 hP 0 rfl rfl 1 (by decide) (hts _ w_fieldLink_X3_21) (fun _ h9 => h9) rfl dX3_countEnd_31 ?_
    refine lv_dup hx hb dX3_countEnd_34 rfl ?_
    refine va_get (D := (dC, dI)) (ci := 1) (v := .int (V_burntCount (S_score v))) (C := RX1) (T := TX1) (N := 11) hx hb hts inX1 hown hK.1 hP 9 rfl rfl 5 (by decide) (hts _ w_fieldLink_X3_115) (fun _ h9 => h9) rfl dX3_countEnd_35 ?_
    refine lv_iconst (v := 1) hx hb dX3_countEnd_38 (by decide) ?_
    refine lv_iadd hx hb dX3_countEnd_39 ?_
    refine va_put (D := (dC, dI)) (ci := 1) (v := .int ((V_burntCount (S_score v)) + (1 : Int32))) (ty := .int) (C := RX1) (T := TX1) (N := 11) hx hb hts inX1 tyX1 tyX1_ok nmX1 hown hK.1 hP hD hS 9 rfl rfl 5 (by decide) (hts _ w_fieldLink_X3_115) (fun _ h9 => h9) rfl (by decide +kernel) rfl rfl (Nat.le_of_ble_eq_true rfl) dX3_countEnd_40 (fun H locs hP hD hS => ?_)
    have hP : va_P (dC, dI) vwCl (cS cyI a (S_set_score v (V_set_burntCount (S_score v) ((V_burntCount (S_score v)) + (1 : Int32))))) H := hP
    have hD : va_D A (cS cyI a (S_set_score v (V_set_burntCount (S_score v) ((V_burntCount (S_score v)) + (1 : Int32))))) := hD
    exact hJ43 (S_set_score v (V_set_burntCount (S_score v) ((V_burntCount (S_score v)) + (1 : Int32)))) _ _ _ hP hD hS (lv_sub hl [2, 1, 0] rfl) hF
theorem dX3_copyFrom_0 : decode cX3_copyFrom 0 = .ok (.aload_n 0, 1) := by decide +kernel
theorem dX3_copyFrom_1 : decode cX3_copyFrom 1 = .ok (.getfield 12, 3) := by decide +kernel
theorem dX3_copyFrom_4 : decode cX3_copyFrom 4 = .ok (.aload_n 1, 1) := by decide +kernel
theorem dX3_copyFrom_5 : decode cX3_copyFrom 5 = .ok (.getfield 12, 3) := by decide +kernel
theorem dX3_copyFrom_8 : decode cX3_copyFrom 8 = .ok (.invokevirtual 39, 3) := by decide +kernel
theorem dX3_copyFrom_11 : decode cX3_copyFrom 11 = .ok (.aload_n 0, 1) := by decide +kernel
theorem dX3_copyFrom_12 : decode cX3_copyFrom 12 = .ok (.getfield 21, 3) := by decide +kernel
theorem dX3_copyFrom_15 : decode cX3_copyFrom 15 = .ok (.aload_n 1, 1) := by decide +kernel
theorem dX3_copyFrom_16 : decode cX3_copyFrom 16 = .ok (.getfield 21, 3) := by decide +kernel
theorem dX3_copyFrom_19 : decode cX3_copyFrom 19 = .ok (.invokevirtual 43, 3) := by decide +kernel
theorem dX3_copyFrom_22 : decode cX3_copyFrom 22 = .ok (.aload_n 0, 1) := by decide +kernel
theorem dX3_copyFrom_23 : decode cX3_copyFrom 23 = .ok (.aload_n 1, 1) := by decide +kernel
theorem dX3_copyFrom_24 : decode cX3_copyFrom 24 = .ok (.getfield 25, 3) := by decide +kernel
theorem dX3_copyFrom_27 : decode cX3_copyFrom 27 = .ok (.putfield 25, 3) := by decide +kernel
theorem dX3_copyFrom_30 : decode cX3_copyFrom 30 = .ok (.aload_n 0, 1) := by decide +kernel
theorem dX3_copyFrom_31 : decode cX3_copyFrom 31 = .ok (.aload_n 1, 1) := by decide +kernel
theorem dX3_copyFrom_32 : decode cX3_copyFrom 32 = .ok (.getfield 29, 3) := by decide +kernel
theorem dX3_copyFrom_35 : decode cX3_copyFrom 35 = .ok (.putfield 29, 3) := by decide +kernel
theorem dX3_copyFrom_38 : decode cX3_copyFrom 38 = .ok (.aload_n 0, 1) := by decide +kernel
theorem dX3_copyFrom_39 : decode cX3_copyFrom 39 = .ok (.aload_n 1, 1) := by decide +kernel
theorem dX3_copyFrom_40 : decode cX3_copyFrom 40 = .ok (.getfield 32, 3) := by decide +kernel
theorem dX3_copyFrom_43 : decode cX3_copyFrom 43 = .ok (.putfield 32, 3) := by decide +kernel
theorem dX3_copyFrom_46 : decode cX3_copyFrom 46 = .ok (.aload_n 0, 1) := by decide +kernel
theorem dX3_copyFrom_47 : decode cX3_copyFrom 47 = .ok (.aload_n 1, 1) := by decide +kernel
theorem dX3_copyFrom_48 : decode cX3_copyFrom 48 = .ok (.getfield 36, 3) := by decide +kernel
theorem dX3_copyFrom_51 : decode cX3_copyFrom 51 = .ok (.putfield 36, 3) := by decide +kernel
theorem dX3_copyFrom_54 : decode cX3_copyFrom 54 = .ok (.return_, 1) := by decide +kernel
def f_X3_copyFrom (N : Nat) (v : SV) (w : SV) : Option (SV × SV) :=
  (f_X0_copyFrom N (S_green v) (S_green w)).bind (fun o1 => (f_X1_copyFrom N (S_score v) (S_score w)).bind (fun o3 => gd (b01 (S_jackGoesBack w)) (gd (b01 (S_touchersTwice w)) (some ((S_set_touchersTwice (S_set_jackGoesBack (S_set_blowing (S_set_bowlsEach (S_set_score (S_set_green v o1.1) o3.1) (S_bowlsEach w)) (S_blowing w)) (S_jackGoesBack w)) (S_touchersTwice w)), (S_set_score (S_set_green w o1.2) o3.2))))))
set_option maxHeartbeats 4000000 in
set_option maxRecDepth 100000 in
theorem met_X3_copyFrom (l : Launch) (dC : Nat → ClassId) (dI : Nat → Nat → Nat) (cyI cyO : ClassId) (a : Nat → Nat) (b : Nat → Nat) (sz : Nat) (N : Nat) (v : SV) (w : SV) (out : SV × SV) (hF : f_X3_copyFrom N v w = some out) : Met l yX3_copyFrom (Cond.code yX3_copyFrom cX3_copyFrom 2 none :: wT) ({ frames := 2, cells := 0, slots := 0, locals := 43 } : Room) (wWr dC dI cyI cyO [.ref (a 0), .ref (b 0)] ((cS cyI a v) ++ (cS cyI b w)) sz) (va_Qv (fun (u : SV × SV) => u = out) (fun u t => va_P (dC, dI) vwCl ((cS cyI a u.1) ++ (cS cyI b u.2)) t.heap ∧ va_D (va_A ((cS cyI a v) ++ (cS cyI b w)) sz) ((cS cyI a u.1) ++ (cS cyI b u.2))) (va_A ((cS cyI a v) ++ (cS cyI b w)) sz)) 0 0 (va_A ((cS cyI a v) ++ (cS cyI b w)) sz) := by
  refine Met.ofW (cc := cX3_copyFrom) (maxL := 2) (ret := none) (by decide) rfl ?_
  intro p e s m args below meth c s₁ B hml hv
  obtain ⟨rfl, hsz, hP, hK, hD0⟩ := hv
  have hx := B.exec
  have hb := B.bytes
  have hr := B.returns
  have hts0 := atoms_spec (ws := (Cond.code yX3_copyFrom cX3_copyFrom 2 none :: wT)) B.pre
  have hts := fun w h => hts0 w (List.mem_cons_of_mem _ h)
  clear hts0
  have hown : s.vm.findClass RX3 = some m.cls := findClass_of_methodNamed B.named
  have hlocks := B.notSynchronized
  subst hsz
  have hD := hD0.self (sz := s.heap.size)
  generalize hAe : va_A ((cS cyI a v) ++ (cS cyI b w)) s.heap.size = A at hD ⊢
  have hA : ∀ q : Nat, s.heap.size ≤ q → A q := fun q h => by rw [← hAe]; exact Or.inr h
  clear hD0
  have hS : va_S A s.heap s.heap [] := va_S.rf
  have hl := lv_entry [.ref (a 0), .ref (b 0)] (n := 2) (Nat.le_of_ble_eq_true rfl)
  rw [lg_entry_eq]
  generalize (lg_sl [.ref (a 0), .ref (b 0)] ++ List.replicate (2 - (lg_sl [.ref (a 0), .ref (b 0)]).length) Slot.unset).toArray = ls at hl ⊢
  have hl : lv_has ls 2 [(0, .ref (a 0)), (1, .ref (b 0))] := hl
  unfold f_X3_copyFrom at hF
  refine lv_aload_n hx hb dX3_copyFrom_0 rfl (lv_at hl 0 rfl) ?_
  refine va_get (D := (dC, dI)) (ci := 3) (v := .ref (a 1)) (C := RX3) (T := TX3) (N := 6) hx hb hts inX3 hown hK.1 hP 0 rfl rfl 0 (by decide) (hts _ w_fieldLink_X3_12) (fun _ h9 => h9) rfl dX3_copyFrom_1 ?_
  refine lv_aload_n hx hb dX3_copyFrom_4 rfl (lv_at hl 1 rfl) ?_
  refine va_get (D := (dC, dI)) (ci := 3) (v := .ref (b 1)) (C := RX3) (T := TX3) (N := 6) hx hb hts inX3 hown hK.1 hP 13 rfl rfl 0 (by decide) (hts _ w_fieldLink_X3_12) (fun _ h9 => h9) rfl dX3_copyFrom_5 ?_
  obtain ⟨o1, h2, hF⟩ := obd hF
  refine wcWVv (As := [.ref (b 1)]) (rest := []) (wr := [0, 9, 10, 11, 12, 13, 22, 23, 24, 25].filterMap (fun i => (((cS cyI a v) ++ (cS cyI b w)))[i]?)) (b := (a 1)) ⟨hx, hb, hml, hown, hts⟩ (met_X0_copyFrom l dC dI cyI cyO a b _ N (S_green v) (S_green w)  o1 h2) (cwV 1 hts (gV w_methodLink_X3_39 w_instanceMethod_X0_copyFrom w_selects_X0_copyFrom w_initialized_X0 w_code_X0_copyFrom) rfl rfl rfl (by decide +kernel) ⟨Nat.le_of_ble_eq_true rfl, Nat.le_of_ble_eq_true rfl⟩) (va_recv hK.1 hP (ci := 0) (q0 := 1) rfl rfl) hP hD hK [1, 2, 3, 4, 5, 6, 7, 8, 14, 15, 16, 17, 18, 19, 20, 21] [0, 9, 10, 11, 12, 13, 22, 23, 24, 25] rfl rfl (by decide) (by decide) (by decide) rfl hl.1 (Nat.le_of_ble_eq_true rfl) dX3_copyFrom_8 ⟨Nat.le_of_ble_eq_true rfl, Nat.le_of_ble_eq_true rfl⟩ hS hA (fun u H locs hw hP hD hS => ?_)
  have hw := hw.symm
  subst hw
  have hP := hP.sub (ws' := ((cS cyI a (S_set_green v o1.1)) ++ (cS cyI b (S_set_green w o1.2)))) [0, 10, 11, 12, 13, 14, 15, 16, 17, 1, 2, 3, 4, 5, 18, 19, 20, 21, 22, 23, 24, 25, 6, 7, 8, 9] rfl
  have hD := hD.sub (ws' := ((cS cyI a (S_set_green v o1.1)) ++ (cS cyI b (S_set_green w o1.2)))) [0, 10, 11, 12, 13, 14, 15, 16, 17, 1, 2, 3, 4, 5, 18, 19, 20, 21, 22, 23, 24, 25, 6, 7, 8, 9] (by decide) rfl
  refine lv_aload_n hx hb dX3_copyFrom_11 rfl (lv_at hl 0 rfl) ?_
  refine va_get (D := (dC, dI)) (ci := 3) (v := .ref (a 9)) (C := RX3) (T := TX3) (N := 6) hx hb hts inX3 hown hK.1 hP 0 rfl rfl 1 (by decide) (hts _ w_fieldLink_X3_21) (fun _ h9 => h9) rfl dX3_copyFrom_12 ?_
  refine lv_aload_n hx hb dX3_copyFrom_15 rfl (lv_at hl 1 rfl) ?_
  refine va_get (D := (dC, dI)) (ci := 3) (v := .ref (b 9)) (C := RX3) (T := TX3) (N := 6) hx hb hts inX3 hown hK.1 hP 13 rfl rfl 1 (by decide) (hts _ w_fieldLink_X3_21) (fun _ h9 => h9) rfl dX3_copyFrom_16 ?_
  obtain ⟨o3, h4, hF⟩ := obd hF
  refine wcWVv (As := [.ref (b 9)]) (rest := []) (wr := [0, 1, 2, 3, 4, 5, 6, 7, 8, 13, 14, 15, 16, 17, 18, 19, 20, 21].filterMap (fun i => (((cS cyI a (S_set_green v o1.1)) ++ (cS cyI b (S_set_green w o1.2))))[i]?)) (b := (a 9)) ⟨hx, hb, hml, hown, hts⟩ (met_X1_copyFrom l dC dI cyI cyO a b _ N (S_score v) (S_score w)  o3 h4) (cwV 1 hts (gV w_methodLink_X3_43 w_instanceMethod_X1_copyFrom w_selects_X1_copyFrom w_initialized_X1 w_code_X1_copyFrom) rfl rfl rfl (by decide +kernel) ⟨Nat.le_of_ble_eq_true rfl, Nat.le_of_ble_eq_true rfl⟩) (va_recv hK.1 hP (ci := 1) (q0 := 9) rfl rfl) hP hD hK [9, 10, 11, 12, 22, 23, 24, 25] [0, 1, 2, 3, 4, 5, 6, 7, 8, 13, 14, 15, 16, 17, 18, 19, 20, 21] rfl rfl (by decide) (by decide) (by decide) rfl hl.1 (Nat.le_of_ble_eq_true rfl) dX3_copyFrom_19 ⟨Nat.le_of_ble_eq_true rfl, Nat.le_of_ble_eq_true rfl⟩ hS hA (fun u H locs hw hP hD hS => ?_)
  have hw := hw.symm
  subst hw
  have hP := hP.sub (ws' := ((cS cyI a (S_set_score (S_set_green v o1.1) o3.1)) ++ (cS cyI b (S_set_score (S_set_green w o1.2) o3.2)))) [0, 1, 2, 3, 4, 5, 6, 7, 8, 18, 19, 20, 21, 9, 10, 11, 12, 13, 14, 15, 16, 17, 22, 23, 24, 25] rfl
  have hD := hD.sub (ws' := ((cS cyI a (S_set_score (S_set_green v o1.1) o3.1)) ++ (cS cyI b (S_set_score (S_set_green w o1.2) o3.2)))) [0, 1, 2, 3, 4, 5, 6, 7, 8, 18, 19, 20, 21, 9, 10, 11, 12, 13, 14, 15, 16, 17, 22, 23, 24, 25] (by decide) rfl
  refine lv_aload_n hx hb dX3_copyFrom_22 rfl (lv_at hl 0 rfl) ?_
  refine lv_aload_n hx hb dX3_copyFrom_23 rfl (lv_at hl 1 rfl) ?_
  refine va_get (D := (dC, dI)) (ci := 3) (v := .int (S_bowlsEach w)) (C := RX3) (T := TX3) (N := 6) hx hb hts inX3 hown hK.1 hP 13 rfl rfl 2 (by decide) (hts _ w_fieldLink_X3_25) (fun _ h9 => h9) rfl dX3_copyFrom_24 ?_
  refine va_put (D := (dC, dI)) (ci := 3) (v := .int (S_bowlsEach w)) (ty := .int) (C := RX3) (T := TX3) (N := 6) hx hb hts inX3 tyX3 tyX3_ok nmX3 hown hK.1 hP hD hS 0 rfl rfl 2 (by decide) (hts _ w_fieldLink_X3_25) (fun _ h9 => h9) rfl (by decide +kernel) rfl rfl (Nat.le_of_ble_eq_true rfl) dX3_copyFrom_27 (fun H locs hP hD hS => ?_)
  have hP : va_P (dC, dI) vwCl ((cS cyI a (S_set_bowlsEach (S_set_score (S_set_green v o1.1) o3.1) (S_bowlsEach w))) ++ (cS cyI b (S_set_score (S_set_green w o1.2) o3.2))) H := hP
  have hD : va_D A ((cS cyI a (S_set_bowlsEach (S_set_score (S_set_green v o1.1) o3.1) (S_bowlsEach w))) ++ (cS cyI b (S_set_score (S_set_green w o1.2) o3.2))) := hD
  refine lv_aload_n hx hb dX3_copyFrom_30 rfl (lv_at hl 0 rfl) ?_
  refine lv_aload_n hx hb dX3_copyFrom_31 rfl (lv_at hl 1 rfl) ?_
  refine va_get (D := (dC, dI)) (ci := 3) (v := .int (S_blowing w)) (C := RX3) (T := TX3) (N := 6) hx hb hts inX3 hown hK.1 hP 13 rfl rfl 3 (by decide) (hts _ w_fieldLink_X3_29) (fun _ h9 => h9) rfl dX3_copyFrom_32 ?_
  refine va_put (D := (dC, dI)) (ci := 3) (v := .int (S_blowing w)) (ty := .int) (C := RX3) (T := TX3) (N := 6) hx hb hts inX3 tyX3 tyX3_ok nmX3 hown hK.1 hP hD hS 0 rfl rfl 3 (by decide) (hts _ w_fieldLink_X3_29) (fun _ h9 => h9) rfl (by decide +kernel) rfl rfl (Nat.le_of_ble_eq_true rfl) dX3_copyFrom_35 (fun H locs hP hD hS => ?_)
  have hP : va_P (dC, dI) vwCl ((cS cyI a (S_set_blowing (S_set_bowlsEach (S_set_score (S_set_green v o1.1) o3.1) (S_bowlsEach w)) (S_blowing w))) ++ (cS cyI b (S_set_score (S_set_green w o1.2) o3.2))) H := hP
  have hD : va_D A ((cS cyI a (S_set_blowing (S_set_bowlsEach (S_set_score (S_set_green v o1.1) o3.1) (S_bowlsEach w)) (S_blowing w))) ++ (cS cyI b (S_set_score (S_set_green w o1.2) o3.2))) := hD
  refine lv_aload_n hx hb dX3_copyFrom_38 rfl (lv_at hl 0 rfl) ?_
  refine lv_aload_n hx hb dX3_copyFrom_39 rfl (lv_at hl 1 rfl) ?_
  refine va_get (D := (dC, dI)) (ci := 3) (v := .int (S_jackGoesBack w)) (C := RX3) (T := TX3) (N := 6) hx hb hts inX3 hown hK.1 hP 13 rfl rfl 4 (by decide) (hts _ w_fieldLink_X3_32) (fun _ h9 => h9) rfl dX3_copyFrom_40 ?_
  obtain ⟨hz5, hF⟩ := gd_use hF
  refine va_put (D := (dC, dI)) (ci := 3) (v := .int (S_jackGoesBack w)) (ty := .boolean) (C := RX3) (T := TX3) (N := 6) hx hb hts inX3 tyX3 tyX3_ok nmX3 hown hK.1 hP hD hS 0 rfl rfl 4 (by decide) (hts _ w_fieldLink_X3_32) (fun _ h9 => h9) rfl (by decide +kernel) (b01_n hz5) (b01_f hz5) (Nat.le_of_ble_eq_true rfl) dX3_copyFrom_43 (fun H locs hP hD hS => ?_)
  have hP : va_P (dC, dI) vwCl ((cS cyI a (S_set_jackGoesBack (S_set_blowing (S_set_bowlsEach (S_set_score (S_set_green v o1.1) o3.1) (S_bowlsEach w)) (S_blowing w)) (S_jackGoesBack w))) ++ (cS cyI b (S_set_score (S_set_green w o1.2) o3.2))) H := hP
  have hD : va_D A ((cS cyI a (S_set_jackGoesBack (S_set_blowing (S_set_bowlsEach (S_set_score (S_set_green v o1.1) o3.1) (S_bowlsEach w)) (S_blowing w)) (S_jackGoesBack w))) ++ (cS cyI b (S_set_score (S_set_green w o1.2) o3.2))) := hD
  refine lv_aload_n hx hb dX3_copyFrom_46 rfl (lv_at hl 0 rfl) ?_
  refine lv_aload_n hx hb dX3_copyFrom_47 rfl (lv_at hl 1 rfl) ?_
  refine va_get (D := (dC, dI)) (ci := 3) (v := .int (S_touchersTwice w)) (C := RX3) (T := TX3) (N := 6) hx hb hts inX3 hown hK.1 hP 13 rfl rfl 5 (by decide) (hts _ w_fieldLink_X3_36) (fun _ h9 => h9) rfl dX3_copyFrom_48 ?_
  obtain ⟨hz6, hF⟩ := gd_use hF
  refine va_put (D := (dC, dI)) (ci := 3) (v := .int (S_touchersTwice w)) (ty := .boolean) (C := RX3) (T := TX3) (N := 6) hx hb hts inX3 tyX3 tyX3_ok nmX3 hown hK.1 hP hD hS 0 rfl rfl 5 (by decide) (hts _ w_fieldLink_X3_36) (fun _ h9 => h9) rfl (by decide +kernel) (b01_n hz6) (b01_f hz6) (Nat.le_of_ble_eq_true rfl) dX3_copyFrom_51 (fun H locs hP hD hS => ?_)
  have hP : va_P (dC, dI) vwCl ((cS cyI a (S_set_touchersTwice (S_set_jackGoesBack (S_set_blowing (S_set_bowlsEach (S_set_score (S_set_green v o1.1) o3.1) (S_bowlsEach w)) (S_blowing w)) (S_jackGoesBack w)) (S_touchersTwice w))) ++ (cS cyI b (S_set_score (S_set_green w o1.2) o3.2))) H := hP
  have hD : va_D A ((cS cyI a (S_set_touchersTwice (S_set_jackGoesBack (S_set_blowing (S_set_bowlsEach (S_set_score (S_set_green v o1.1) o3.1) (S_bowlsEach w)) (S_blowing w)) (S_jackGoesBack w)) (S_touchersTwice w))) ++ (cS cyI b (S_set_score (S_set_green w o1.2) o3.2))) := hD
  exact W.vret hx hb hr (fun t ht hW => ⟨⟨_, rfl, Option.some.inj hF, by rw [ht]; exact hP, hD⟩, hS.F ht⟩) hS.2.2 dX3_copyFrom_54
