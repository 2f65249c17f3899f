/-! written by program from the bytecode: what each method computes, and its contract -/

theorem dX6_in_0 : decode cX6_in 0 = .ok (.iload_n 0, 1) := by decide +kernel
theorem dX6_in_1 : decode cX6_in 1 = .ok (.iload_n 1, 1) := by decide +kernel
theorem dX6_in_2 : decode cX6_in 2 = .ok (.if_icmp .lt 12, 3) := by decide +kernel
theorem dX6_in_5 : decode cX6_in 5 = .ok (.iload_n 0, 1) := by decide +kernel
theorem dX6_in_6 : decode cX6_in 6 = .ok (.iload_n 2, 1) := by decide +kernel
theorem dX6_in_7 : decode cX6_in 7 = .ok (.if_icmp .gt 7, 3) := by decide +kernel
theorem dX6_in_10 : decode cX6_in 10 = .ok (.iconst 1, 1) := by decide +kernel
theorem dX6_in_11 : decode cX6_in 11 = .ok (.goto 4, 3) := by decide +kernel
theorem dX6_in_14 : decode cX6_in 14 = .ok (.iconst 0, 1) := by decide +kernel
theorem dX6_in_15 : decode cX6_in 15 = .ok (.ireturn, 1) := by decide +kernel
def f_X6_in (N : Nat) (p1 : Int32) (p2 : Int32) (p3 : Int32) : Option (Int32) :=
  jn (fun (s15 : Int32) => some s15) (fun (j15 : (Int32) → Option (Int32)) => jn (fun (s14 : Unit) => j15 (0 : Int32)) (fun (j14 : (Unit) → Option (Int32)) => (if p1 < p2 then j14 () else (if p3 < p1 then j14 () else j15 (1 : Int32)))))
set_option maxHeartbeats 4000000 in
set_option maxRecDepth 100000 in
theorem met_X6_in (l : Launch) (dC : Nat → ClassId) (dI : Nat → Nat → Nat) (cyI cyO cyL : ClassId)  (N : Nat) (p1 : Int32) (p2 : Int32) (p3 : Int32) (out : Int32) (hF : f_X6_in N p1 p2 p3 = some out) : Met l yX6_in (Cond.code yX6_in cX6_in 3 (some .boolean) :: wT) ({ frames := 0, cells := 0, slots := 0, locals := 0 } : Room) (wRd dC dI cyI cyO cyL [.int p1, .int p2, .int p3] ([] : va_W)) (va_Qi (fun (r : Int32) (_ : Unit) => r = out ∧ b01 r) (fun _ _ => True) wN0) 0 0 wN0 := by
  refine Met.ofW (cc := cX6_in) (maxL := 3) (ret := (some .boolean)) (by decide) rfl ?_
  intro p e s m args below meth c s₁ B hml hv
  obtain ⟨rfl, hP, hK⟩ := hv
  have hx := B.exec
  have hb := B.bytes
  have hr := B.returns
  have hts0 := atoms_spec (ws := (Cond.code yX6_in cX6_in 3 (some .boolean) :: wT)) B.pre
  have hts := fun w h => hts0 w (List.mem_cons_of_mem _ h)
  clear hts0
  have hown : s.vm.findClass RX6 = some m.cls := findClass_of_methodNamed B.named
  have hlocks := B.notSynchronized
  have hS : va_S wN0 s.heap s.heap [] := va_S.rf
  have hl := lv_entry [.int p1, .int p2, .int p3] (n := 3) (Nat.le_of_ble_eq_true rfl)
  rw [lg_entry_eq]
  generalize (lg_sl [.int p1, .int p2, .int p3] ++ List.replicate (3 - (lg_sl [.int p1, .int p2, .int p3]).length) Slot.unset).toArray = ls at hl ⊢
  have hl : lv_has ls 3 [(0, .int p1), (1, .int p2), (2, .int p3)] := hl
  unfold f_X6_in at hF
  refine lv_iload_n hx hb dX6_in_0 rfl (lv_at hl 0 rfl) ?_
  refine lv_iload_n hx hb dX6_in_1 rfl (lv_at hl 1 rfl) ?_
  obtain ⟨j15, hj15, hF⟩ := jn_use hF
  have hJ15 : ∀ (s15 : Int32) (H : Heap) (locs : List Loc) (ls : Array Slot) (hz_15_s0 : b01 s15), va_P (dC, dI) vwCl ([] : va_W) H → va_S wN0 s.heap H locs → lv_has ls 3 [] → j15 s15 = some out → W p l e (headSpec (Cond.code yX6_in cX6_in 3 (some .boolean) :: wT) ({ frames := 0, cells := 0, slots := 0, locals := 0 } : Room)).room s m ([.int p1, .int p2, .int p3] : List Value).toArray below meth c H locs 0 0 (MQ below (va_Qi (fun (r : Int32) (_ : Unit) => r = out ∧ b01 r) (fun _ _ => True) wN0) ([.int p1, .int p2, .int p3] : List Value).toArray s 0 0 wN0) (F0 m 15 ls [.int s15]) := by
    intro s15 H locs ls hz_15_s0 hP hS hl hF
    have hF := (congrFun hj15 s15).symm.trans hF
    exact W.zret (ty := .boolean) (v := s15) hx hb hr (b01_n hz_15_s0) (fun t ht hW => ⟨⟨_, (), rfl, ⟨Option.some.inj hF, hz_15_s0⟩, trivial⟩, hS.F ht⟩) hS.2.2 dX6_in_15
  obtain ⟨j14, hj14, hF⟩ := jn_use hF
  have hJ14 : ∀ (s14 : Unit) (H : Heap) (locs : List Loc) (ls : Array Slot), va_P (dC, dI) vwCl ([] : va_W) H → va_S wN0 s.heap H locs → lv_has ls 3 [] → j14 s14 = some out → W p l e (headSpec (Cond.code yX6_in cX6_in 3 (some .boolean) :: wT) ({ frames := 0, cells := 0, slots := 0, locals := 0 } : Room)).room s m ([.int p1, .int p2, .int p3] : List Value).toArray below meth c H locs 0 0 (MQ below (va_Qi (fun (r : Int32) (_ : Unit) => r = out ∧ b01 r) (fun _ _ => True) wN0) ([.int p1, .int p2, .int p3] : List Value).toArray s 0 0 wN0) (F0 m 14 ls []) := by
    intro s14 H locs ls hP hS hl hF
    have hF := (congrFun hj14 s14).symm.trans hF
    refine lv_iconst (v := 0) hx hb dX6_in_14 (by decide) ?_
    exact hJ15 (0 : Int32) _ _ _ b01_0 hP hS (lv_sub hl [] rfl) hF
  refine lv_icmp_lt (tgt := 14) hx hb dX6_in_2 (by decide) (fun c1 => ?_) (fun c1 => ?_)
  · have hF := itp c1 hF
    exact hJ14 () _ _ _ hP hS (lv_sub hl [] rfl) hF
  · have hF := itn c1 hF
    refine lv_iload_n hx hb dX6_in_5 rfl (lv_at hl 0 rfl) ?_
    refine lv_iload_n hx hb dX6_in_6 rfl (lv_at hl 2 rfl) ?_
    refine lv_icmp_gt (tgt := 14) hx hb dX6_in_7 (by decide) (fun c2 => ?_) (fun c2 => ?_)
    · have hF := itp c2 hF
      exact hJ14 () _ _ _ hP hS (lv_sub hl [] rfl) hF
    · have hF := itn c2 hF
      refine lv_iconst (v := 1) hx hb dX6_in_10 (by decide) ?_
      refine lv_goto (tgt := 15) hx hb dX6_in_11 (by decide) ?_
      exact hJ15 (1 : Int32) _ _ _ b01_1 hP hS (lv_sub hl [] rfl) hF
theorem dX6_holds_0 : decode cX6_holds 0 = .ok (.aload_n 0, 1) := by decide +kernel
theorem dX6_holds_1 : decode cX6_holds 1 = .ok (.iload_n 1, 1) := by decide +kernel
theorem dX6_holds_2 : decode cX6_holds 2 = .ok (.putfield 31, 3) := by decide +kernel
theorem dX6_holds_5 : decode cX6_holds 5 = .ok (.iload_n 1, 1) := by decide +kernel
theorem dX6_holds_6 : decode cX6_holds 6 = .ok (.ifCond .ne 7, 3) := by decide +kernel
theorem dX6_holds_9 : decode cX6_holds 9 = .ok (.iconst 1, 1) := by decide +kernel
theorem dX6_holds_10 : decode cX6_holds 10 = .ok (.goto 4, 3) := by decide +kernel
theorem dX6_holds_13 : decode cX6_holds 13 = .ok (.iconst 0, 1) := by decide +kernel
theorem dX6_holds_14 : decode cX6_holds 14 = .ok (.ireturn, 1) := by decide +kernel
def f_X6_holds (N : Nat) (v : MV) (p1 : Int32) : Option (Int32 × MV) :=
  jn (fun (s14 : Int32) => some (s14, (M_set_thrown v p1))) (fun (j14 : (Int32) → Option (Int32 × MV)) => (if p1 = 0 then j14 (1 : Int32) else j14 (0 : Int32)))
set_option maxHeartbeats 4000000 in
set_option maxRecDepth 100000 in
theorem met_X6_holds (l : Launch) (dC : Nat → ClassId) (dI : Nat → Nat → Nat) (cyI cyO cyL : ClassId) (a : Nat → Nat) (sz : Nat) (N : Nat) (v : MV) (p1 : Int32) (out : Int32 × MV) (hF : f_X6_holds N v p1 = some out) : Met l yX6_holds (Cond.code yX6_holds cX6_holds 2 (some .boolean) :: wT) ({ frames := 0, cells := 0, slots := 0, locals := 0 } : Room) (wWr dC dI cyI cyO cyL [.ref (a 0), .int p1] (cM cyI a v) sz) (va_Qi (fun (r : Int32) (u : MV) => (r, u) = out ∧ b01 r) (fun u t => va_P (dC, dI) vwCl (cM cyI a u) t.heap ∧ va_D (va_A (cM cyI a v) sz) (cM cyI a u)) (va_A (cM cyI a v) sz)) 0 0 (va_A (cM cyI a v) sz) := by
  refine Met.ofW (cc := cX6_holds) (maxL := 2) (ret := (some .boolean)) (by decide) rfl ?_
  intro p e s m args below meth c s₁ B hml hv
  obtain ⟨rfl, hsz, hP, hK, hD0⟩ := hv
  have hx := B.exec
  have hb := B.bytes
  have hr := B.returns
  have hts0 := atoms_spec (ws := (Cond.code yX6_holds cX6_holds 2 (some .boolean) :: wT)) B.pre
  have hts := fun w h => hts0 w (List.mem_cons_of_mem _ h)
  clear hts0
  have hown : s.vm.findClass RX6 = some m.cls := findClass_of_methodNamed B.named
  have hlocks := B.notSynchronized
  subst hsz
  have hD := hD0.self (sz := s.heap.size)
  generalize hAe : va_A (cM cyI a v) s.heap.size = A at hD ⊢
  have hA : ∀ q : Nat, s.heap.size ≤ q → A q := fun q h => by rw [← hAe]; exact Or.inr h
  clear hD0
  have hS : va_S A s.heap s.heap [] := va_S.rf
  have hl := lv_entry [.ref (a 0), .int p1] (n := 2) (Nat.le_of_ble_eq_true rfl)
  rw [lg_entry_eq]
  generalize (lg_sl [.ref (a 0), .int p1] ++ List.replicate (2 - (lg_sl [.ref (a 0), .int p1]).length) Slot.unset).toArray = ls at hl ⊢
  have hl : lv_has ls 2 [(0, .ref (a 0)), (1, .int p1)] := hl
  unfold f_X6_holds at hF
  refine lv_aload_n hx hb dX6_holds_0 rfl (lv_at hl 0 rfl) ?_
  refine lv_iload_n hx hb dX6_holds_1 rfl (lv_at hl 1 rfl) ?_
  refine va_put (D := (dC, dI)) (ci := 6) (v := .int p1) (ty := .int) (C := RX6) (T := TX6) (N := 23) hx hb hts inX6 tyX6 tyX6_ok nmX6 hown hK.1 hP hD hS 0 rfl rfl 0 (by decide) (hts _ w_fieldLink_X6_31) (fun _ h9 => h9) rfl (by decide +kernel) rfl rfl (Nat.le_of_ble_eq_true rfl) dX6_holds_2 (fun H locs hP hD hS => ?_)
  have hP : va_P (dC, dI) vwCl (cM cyI a (M_set_thrown v p1)) H := hP
  have hD : va_D A (cM cyI a (M_set_thrown v p1)) := hD
  refine lv_iload_n hx hb dX6_holds_5 rfl (lv_at hl 1 rfl) ?_
  obtain ⟨j14, hj14, hF⟩ := jn_use hF
  have hJ14 : ∀ (s14 : Int32) (H : Heap) (locs : List Loc) (ls : Array Slot) (hz_14_s0 : b01 s14), va_P (dC, dI) vwCl (cM cyI a (M_set_thrown v p1)) H → va_D A (cM cyI a (M_set_thrown v p1)) → va_S A s.heap H locs → lv_has ls 2 [] → j14 s14 = some out → W p l e (headSpec (Cond.code yX6_holds cX6_holds 2 (some .boolean) :: wT) ({ frames := 0, cells := 0, slots := 0, locals := 0 } : Room)).room s m ([.ref (a 0), .int p1] : List Value).toArray below meth c H locs 0 0 (MQ below (va_Qi (fun (r : Int32) (u : MV) => (r, u) = out ∧ b01 r) (fun u t => va_P (dC, dI) vwCl (cM cyI a u) t.heap ∧ va_D A (cM cyI a u)) A) ([.ref (a 0), .int p1] : List Value).toArray s 0 0 A) (F0 m 14 ls [.int s14]) := by
    intro s14 H locs ls hz_14_s0 hP hD hS hl hF
    have hF := (congrFun hj14 s14).symm.trans hF
    exact W.zret (ty := .boolean) (v := s14) hx hb hr (b01_n hz_14_s0) (fun t ht hW => ⟨⟨_, (M_set_thrown v p1), rfl, ⟨Option.some.inj hF, hz_14_s0⟩, by rw [ht]; exact hP, hD⟩, hS.F ht⟩) hS.2.2 dX6_holds_14
  refine lv_if_ne (tgt := 13) hx hb dX6_holds_6 (by decide) (fun c1 => ?_) (fun c1 => ?_)
  · have hF := itn c1 hF
    refine lv_iconst (v := 0) hx hb dX6_holds_13 (by decide) ?_
    exact hJ14 (0 : Int32) _ _ _ b01_0 hP hD hS (lv_sub hl [] rfl) hF
  · have hF := itp c1 hF
    refine lv_iconst (v := 1) hx hb dX6_holds_9 (by decide) ?_
    refine lv_goto (tgt := 14) hx hb dX6_holds_10 (by decide) ?_
    exact hJ14 (1 : Int32) _ _ _ b01_1 hP hD hS (lv_sub hl [] rfl) hF
theorem dX6_isPlay_0 : decode cX6_isPlay 0 = .ok (.iload_n 0, 1) := by decide +kernel
theorem dX6_isPlay_1 : decode cX6_isPlay 1 = .ok (.bipush (-9), 2) := by decide +kernel
theorem dX6_isPlay_3 : decode cX6_isPlay 3 = .ok (.bipush 9, 2) := by decide +kernel
theorem dX6_isPlay_5 : decode cX6_isPlay 5 = .ok (.invokestatic 35, 3) := by decide +kernel
theorem dX6_isPlay_8 : decode cX6_isPlay 8 = .ok (.ifCond .eq 28, 3) := by decide +kernel
theorem dX6_isPlay_11 : decode cX6_isPlay 11 = .ok (.iload_n 1, 1) := by decide +kernel
theorem dX6_isPlay_12 : decode cX6_isPlay 12 = .ok (.bipush 15, 2) := by decide +kernel
theorem dX6_isPlay_14 : decode cX6_isPlay 14 = .ok (.bipush 70, 2) := by decide +kernel
theorem dX6_isPlay_16 : decode cX6_isPlay 16 = .ok (.invokestatic 35, 3) := by decide +kernel
theorem dX6_isPlay_19 : decode cX6_isPlay 19 = .ok (.ifCond .eq 17, 3) := by decide +kernel
theorem dX6_isPlay_22 : decode cX6_isPlay 22 = .ok (.iload_n 2, 1) := by decide +kernel
theorem dX6_isPlay_23 : decode cX6_isPlay 23 = .ok (.bipush (-3), 2) := by decide +kernel
theorem dX6_isPlay_25 : decode cX6_isPlay 25 = .ok (.iconst 3, 1) := by decide +kernel
theorem dX6_isPlay_26 : decode cX6_isPlay 26 = .ok (.invokestatic 35, 3) := by decide +kernel
theorem dX6_isPlay_29 : decode cX6_isPlay 29 = .ok (.ifCond .eq 7, 3) := by decide +kernel
theorem dX6_isPlay_32 : decode cX6_isPlay 32 = .ok (.iconst 1, 1) := by decide +kernel
theorem dX6_isPlay_33 : decode cX6_isPlay 33 = .ok (.goto 4, 3) := by decide +kernel
theorem dX6_isPlay_36 : decode cX6_isPlay 36 = .ok (.iconst 0, 1) := by decide +kernel
theorem dX6_isPlay_37 : decode cX6_isPlay 37 = .ok (.ireturn, 1) := by decide +kernel
def f_X6_isPlay (N : Nat) (p1 : Int32) (p2 : Int32) (p3 : Int32) : Option (Int32) :=
  (f_X6_in N p1 (-9 : Int32) (9 : Int32)).bind (fun o1 => jn (fun (s37 : Int32) => some s37) (fun (j37 : (Int32) → Option (Int32)) => jn (fun (s36 : Unit) => j37 (0 : Int32)) (fun (j36 : (Unit) → Option (Int32)) => (if o1 = 0 then j36 () else (f_X6_in N p2 (15 : Int32) (70 : Int32)).bind (fun o5 => (if o5 = 0 then j36 () else (f_X6_in N p3 (-3 : Int32) (3 : Int32)).bind (fun o9 => (if o9 = 0 then j36 () else j37 (1 : Int32)))))))))
set_option maxHeartbeats 4000000 in
set_option maxRecDepth 100000 in
theorem met_X6_isPlay (l : Launch) (dC : Nat → ClassId) (dI : Nat → Nat → Nat) (cyI cyO cyL : ClassId)  (N : Nat) (p1 : Int32) (p2 : Int32) (p3 : Int32) (out : Int32) (hF : f_X6_isPlay N p1 p2 p3 = some out) : Met l yX6_isPlay (Cond.code yX6_isPlay cX6_isPlay 3 (some .boolean) :: wT) ({ frames := 1, cells := 0, slots := 0, locals := 22 } : Room) (wRd dC dI cyI cyO cyL [.int p1, .int p2, .int p3] ([] : va_W)) (va_Qi (fun (r : Int32) (_ : Unit) => r = out ∧ b01 r) (fun _ _ => True) wN0) 0 0 wN0 := by
  refine Met.ofW (cc := cX6_isPlay) (maxL := 3) (ret := (some .boolean)) (by decide) rfl ?_
  intro p e s m args below meth c s₁ B hml hv
  obtain ⟨rfl, hP, hK⟩ := hv
  have hx := B.exec
  have hb := B.bytes
  have hr := B.returns
  have hts0 := atoms_spec (ws := (Cond.code yX6_isPlay cX6_isPlay 3 (some .boolean) :: wT)) B.pre
  have hts := fun w h => hts0 w (List.mem_cons_of_mem _ h)
  clear hts0
  have hown : s.vm.findClass RX6 = some m.cls := findClass_of_methodNamed B.named
  have hlocks := B.notSynchronized
  have hS : va_S wN0 s.heap s.heap [] := va_S.rf
  have hl := lv_entry [.int p1, .int p2, .int p3] (n := 3) (Nat.le_of_ble_eq_true rfl)
  rw [lg_entry_eq]
  generalize (lg_sl [.int p1, .int p2, .int p3] ++ List.replicate (3 - (lg_sl [.int p1, .int p2, .int p3]).length) Slot.unset).toArray = ls at hl ⊢
  have hl : lv_has ls 3 [(0, .int p1), (1, .int p2), (2, .int p3)] := hl
  unfold f_X6_isPlay at hF
  refine lv_iload_n hx hb dX6_isPlay_0 rfl (lv_at hl 0 rfl) ?_
  refine lv_bipush (v := -9) hx hb dX6_isPlay_1 (by decide) ?_
  refine lv_bipush (v := 9) hx hb dX6_isPlay_3 (by decide) ?_
  obtain ⟨o1, h2, hF⟩ := obd hF
  refine wcRSi (As := [.int p1, .int (-9 : Int32), .int (9 : Int32)]) (rest := []) ⟨hx, hb, hml, hown, hts⟩ (met_X6_in l dC dI cyI cyO cyL  N  p1 (-9 : Int32) (9 : Int32) o1 h2) (va_cwS 3 hts (gS w_methodLink_X6_35 w_static_X6_in w_initialized_X6 w_code_X6_in) rfl rfl rfl (by decide +kernel) ⟨Nat.le_of_ble_eq_true rfl, Nat.le_of_ble_eq_true rfl⟩) hP hK [] rfl rfl hl.1 (Nat.le_of_ble_eq_true rfl) dX6_isPlay_5 ⟨Nat.le_of_ble_eq_true rfl, Nat.le_of_ble_eq_true rfl⟩ hS (fun r H locs hw hP hS => ?_)
  obtain ⟨hw, hz3⟩ := hw
  have hw := hw.symm
  subst hw
  obtain ⟨j37, hj37, hF⟩ := jn_use hF
  have hJ37 : ∀ (s37 : Int32) (H : Heap) (locs : List Loc) (ls : Array Slot) (hz_37_s0 : b01 s37), va_P (dC, dI) vwCl ([] : va_W) H → va_S wN0 s.heap H locs → lv_has ls 3 [] → j37 s37 = some out → W p l e (headSpec (Cond.code yX6_isPlay cX6_isPlay 3 (some .boolean) :: wT) ({ frames := 1, cells := 0, slots := 0, locals := 22 } : Room)).room s m ([.int p1, .int p2, .int p3] : List Value).toArray below meth c H locs 0 0 (MQ below (va_Qi (fun (r : Int32) (_ : Unit) => r = out ∧ b01 r) (fun _ _ => True) wN0) ([.int p1, .int p2, .int p3] : List Value).toArray s 0 0 wN0) (F0 m 37 ls [.int s37]) := by
    intro s37 H locs ls hz_37_s0 hP hS hl hF
    have hF := (congrFun hj37 s37).symm.trans hF
    exact W.zret (ty := .boolean) (v := s37) hx hb hr (b01_n hz_37_s0) (fun t ht hW => ⟨⟨_, (), rfl, ⟨Option.some.inj hF, hz_37_s0⟩, trivial⟩, hS.F ht⟩) hS.2.2 dX6_isPlay_37
  obtain ⟨j36, hj36, hF⟩ := jn_use hF
  have hJ36 : ∀ (s36 : Unit) (H : Heap) (locs : List Loc) (ls : Array Slot), va_P (dC, dI) vwCl ([] : va_W) H → va_S wN0 s.heap H locs → lv_has ls 3 [] → j36 s36 = some out → W p l e (headSpec (Cond.code yX6_isPlay cX6_isPlay 3 (some .boolean) :: wT) ({ frames := 1, cells := 0, slots := 0, locals := 22 } : Room)).room s m ([.int p1, .int p2, .int p3] : List Value).toArray below meth c H locs 0 0 (MQ below (va_Qi (fun (r : Int32) (_ : Unit) => r = out ∧ b01 r) (fun _ _ => True) wN0) ([.int p1, .int p2, .int p3] : List Value).toArray s 0 0 wN0) (F0 m 36 ls []) := by
    intro s36 H locs ls hP hS hl hF
    have hF := (congrFun hj36 s36).symm.trans hF
    refine lv_iconst (v := 0) hx hb dX6_isPlay_36 (by decide) ?_
    exact hJ37 (0 : Int32) _ _ _ b01_0 hP hS (lv_sub hl [] rfl) hF
  refine lv_if_eq (tgt := 36) hx hb dX6_isPlay_8 (by decide) (fun c4 => ?_) (fun c4 => ?_)
  · have hF := itp c4 hF
    exact hJ36 () _ _ _ hP hS (lv_sub hl [] rfl) hF
  · have hF := itn c4 hF
    refine lv_iload_n hx hb dX6_isPlay_11 rfl (lv_at hl 1 rfl) ?_
    refine lv_bipush (v := 15) hx hb dX6_isPlay_12 (by decide) ?_
    refine lv_bipush (v := 70) hx hb dX6_isPlay_14 (by decide) ?_
    obtain ⟨o5, h6, hF⟩ := obd hF
    refine wcRSi (As := [.int p2, .int (15 : Int32), .int (70 : Int32)]) (rest := []) ⟨hx, hb, hml, hown, hts⟩ (met_X6_in l dC dI cyI cyO cyL  N  p2 (15 : Int32) (70 : Int32) o5 h6) (va_cwS 3 hts (gS w_methodLink_X6_35 w_static_X6_in w_initialized_X6 w_code_X6_in) rfl rfl rfl (by decide +kernel) ⟨Nat.le_of_ble_eq_true rfl, Nat.le_of_ble_eq_true rfl⟩) hP hK [] rfl rfl hl.1 (Nat.le_of_ble_eq_true rfl) dX6_isPlay_16 ⟨Nat.le_of_ble_eq_true rfl, Nat.le_of_ble_eq_true rfl⟩ hS (fun r H locs hw hP hS => ?_)
    obtain ⟨hw, hz7⟩ := hw
    have hw := hw.symm
    subst hw
    refine lv_if_eq (tgt := 36) hx hb dX6_isPlay_19 (by decide) (fun c8 => ?_) (fun c8 => ?_)
    · have hF := itp c8 hF
      exact hJ36 () _ _ _ hP hS (lv_sub hl [] rfl) hF
    · have hF := itn c8 hF
      refine lv_iload_n hx hb dX6_isPlay_22 rfl (lv_at hl 2 rfl) ?_
      refine lv_bipush (v := -3) hx hb dX6_isPlay_23 (by decide) ?_
      refine lv_iconst (v := 3) hx hb dX6_isPlay_25 (by decide) ?_
      obtain ⟨o9, h10, hF⟩ := obd hF
      refine wcRSi (As := [.int p3, .int (-3 : Int32), .int (3 : Int32)]) (rest := []) ⟨hx, hb, hml, hown, hts⟩ (met_X6_in l dC dI cyI cyO cyL  N  p3 (-3 : Int32) (3 : Int32) o9 h10) (va_cwS 3 hts (gS w_methodLink_X6_35 w_static_X6_in w_initialized_X6 w_code_X6_in) rfl rfl rfl (by decide +kernel) ⟨Nat.le_of_ble_eq_true rfl, Nat.le_of_ble_eq_true rfl⟩) hP hK [] rfl rfl hl.1 (Nat.le_of_ble_eq_true rfl) dX6_isPlay_26 ⟨Nat.le_of_ble_eq_true rfl, Nat.le_of_ble_eq_true rfl⟩ hS (fun r H locs hw hP hS => ?_)
      obtain ⟨hw, hz11⟩ := hw
      have hw := hw.symm
      subst hw
      refine lv_if_eq (tgt := 36) hx hb dX6_isPlay_29 (by decide) (fun c12 => ?_) (fun c12 => ?_)
      · have hF := itp c12 hF
        exact hJ36 () _ _ _ hP hS (lv_sub hl [] rfl) hF
      · have hF := itn c12 hF
        refine lv_iconst (v := 1) hx hb dX6_isPlay_32 (by decide) ?_
        refine lv_goto (tgt := 37) hx hb dX6_isPlay_33 (by decide) ?_
        exact hJ37 (1 : Int32) _ _ _ b01_1 hP hS (lv_sub hl [] rfl) hF
theorem dX6_isSide_0 : decode cX6_isSide 0 = .ok (.iload_n 0, 1) := by decide +kernel
theorem dX6_isSide_1 : decode cX6_isSide 1 = .ok (.iconst 0, 1) := by decide +kernel
theorem dX6_isSide_2 : decode cX6_isSide 2 = .ok (.iconst 1, 1) := by decide +kernel
theorem dX6_isSide_3 : decode cX6_isSide 3 = .ok (.invokestatic 35, 3) := by decide +kernel
theorem dX6_isSide_6 : decode cX6_isSide 6 = .ok (.ireturn, 1) := by decide +kernel
def f_X6_isSide (N : Nat) (p1 : Int32) : Option (Int32) :=
  (f_X6_in N p1 (0 : Int32) (1 : Int32)).bind (fun o1 => some o1)
set_option maxHeartbeats 4000000 in
set_option maxRecDepth 100000 in
theorem met_X6_isSide (l : Launch) (dC : Nat → ClassId) (dI : Nat → Nat → Nat) (cyI cyO cyL : ClassId)  (N : Nat) (p1 : Int32) (out : Int32) (hF : f_X6_isSide N p1 = some out) : Met l yX6_isSide (Cond.code yX6_isSide cX6_isSide 1 (some .boolean) :: wT) ({ frames := 1, cells := 0, slots := 0, locals := 22 } : Room) (wRd dC dI cyI cyO cyL [.int p1] ([] : va_W)) (va_Qi (fun (r : Int32) (_ : Unit) => r = out ∧ b01 r) (fun _ _ => True) wN0) 0 0 wN0 := by
  refine Met.ofW (cc := cX6_isSide) (maxL := 1) (ret := (some .boolean)) (by decide) rfl ?_
  intro p e s m args below meth c s₁ B hml hv
  obtain ⟨rfl, hP, hK⟩ := hv
  have hx := B.exec
  have hb := B.bytes
  have hr := B.returns
  have hts0 := atoms_spec (ws := (Cond.code yX6_isSide cX6_isSide 1 (some .boolean) :: wT)) B.pre
  have hts := fun w h => hts0 w (List.mem_cons_of_mem _ h)
  clear hts0
  have hown : s.vm.findClass RX6 = some m.cls := findClass_of_methodNamed B.named
  have hlocks := B.notSynchronized
  have hS : va_S wN0 s.heap s.heap [] := va_S.rf
  have hl := lv_entry [.int p1] (n := 1) (Nat.le_of_ble_eq_true rfl)
  rw [lg_entry_eq]
  generalize (lg_sl [.int p1] ++ List.replicate (1 - (lg_sl [.int p1]).length) Slot.unset).toArray = ls at hl ⊢
  have hl : lv_has ls 1 [(0, .int p1)] := hl
  unfold f_X6_isSide at hF
  refine lv_iload_n hx hb dX6_isSide_0 rfl (lv_at hl 0 rfl) ?_
  refine lv_iconst (v := 0) hx hb dX6_isSide_1 (by decide) ?_
  refine lv_iconst (v := 1) hx hb dX6_isSide_2 (by decide) ?_
  obtain ⟨o1, h2, hF⟩ := obd hF
  refine wcRSi (As := [.int p1, .int (0 : Int32), .int (1 : Int32)]) (rest := []) ⟨hx, hb, hml, hown, hts⟩ (met_X6_in l dC dI cyI cyO cyL  N  p1 (0 : Int32) (1 : Int32) o1 h2) (va_cwS 3 hts (gS w_methodLink_X6_35 w_static_X6_in w_initialized_X6 w_code_X6_in) rfl rfl rfl (by decide +kernel) ⟨Nat.le_of_ble_eq_true rfl, Nat.le_of_ble_eq_true rfl⟩) hP hK [] rfl rfl hl.1 (Nat.le_of_ble_eq_true rfl) dX6_isSide_3 ⟨Nat.le_of_ble_eq_true rfl, Nat.le_of_ble_eq_true rfl⟩ hS (fun r H locs hw hP hS => ?_)
  obtain ⟨hw, hz3⟩ := hw
  have hw := hw.symm
  subst hw
  exact W.zret (ty := .boolean) (v := o1) hx hb hr (b01_n hz3) (fun t ht hW => ⟨⟨_, (), rfl, ⟨Option.some.inj hF, hz3⟩, trivial⟩, hS.F ht⟩) hS.2.2 dX6_isSide_6
theorem dX6_isBowl_0 : decode cX6_isBowl 0 = .ok (.iload_n 1, 1) := by decide +kernel
theorem dX6_isBowl_1 : decode cX6_isBowl 1 = .ok (.iconst 0, 1) := by decide +kernel
theorem dX6_isBowl_2 : decode cX6_isBowl 2 = .ok (.aload_n 0, 1) := by decide +kernel
theorem dX6_isBowl_3 : decode cX6_isBowl 3 = .ok (.getfield 7, 3) := by decide +kernel
theorem dX6_isBowl_6 : decode cX6_isBowl 6 = .ok (.iconst 3, 1) := by decide +kernel
theorem dX6_isBowl_7 : decode cX6_isBowl 7 = .ok (.iaload, 1) := by decide +kernel
theorem dX6_isBowl_8 : decode cX6_isBowl 8 = .ok (.iconst 1, 1) := by decide +kernel
theorem dX6_isBowl_9 : decode cX6_isBowl 9 = .ok (.isub, 1) := by decide +kernel
theorem dX6_isBowl_10 : decode cX6_isBowl 10 = .ok (.invokestatic 35, 3) := by decide +kernel
theorem dX6_isBowl_13 : decode cX6_isBowl 13 = .ok (.ireturn, 1) := by decide +kernel
def f_X6_isBowl (N : Nat) (v : MV) (p1 : Int32) : Option (Int32) :=
  (f_X6_in N p1 (0 : Int32) (((M_s v) (3 : Int32).toNatClampNeg) - (1 : Int32))).bind (fun o2 => some o2)
set_option maxHeartbeats 4000000 in
set_option maxRecDepth 100000 in
theorem met_X6_isBowl (l : Launch) (dC : Nat → ClassId) (dI : Nat → Nat → Nat) (cyI cyO cyL : ClassId) (a : Nat → Nat) (N : Nat) (v : MV) (p1 : Int32) (out : Int32) (hF : f_X6_isBowl N v p1 = some out) : Met l yX6_isBowl (Cond.code yX6_isBowl cX6_isBowl 2 (some .boolean) :: wT) ({ frames := 1, cells := 0, slots := 0, locals := 22 } : Room) (wRd dC dI cyI cyO cyL [.ref (a 0), .int p1] (cM cyI a v)) (va_Qi (fun (r : Int32) (_ : Unit) => r = out ∧ b01 r) (fun _ _ => True) wN0) 0 0 wN0 := by
  refine Met.ofW (cc := cX6_isBowl) (maxL := 2) (ret := (some .boolean)) (by decide) rfl ?_
  intro p e s m args below meth c s₁ B hml hv
  obtain ⟨rfl, hP, hK⟩ := hv
  have hx := B.exec
  have hb := B.bytes
  have hr := B.returns
  have hts0 := atoms_spec (ws := (Cond.code yX6_isBowl cX6_isBowl 2 (some .boolean) :: wT)) B.pre
  have hts := fun w h => hts0 w (List.mem_cons_of_mem _ h)
  clear hts0
  have hown : s.vm.findClass RX6 = some m.cls := findClass_of_methodNamed B.named
  have hlocks := B.notSynchronized
  have hS : va_S wN0 s.heap s.heap [] := va_S.rf
  have hl := lv_entry [.ref (a 0), .int p1] (n := 2) (Nat.le_of_ble_eq_true rfl)
  rw [lg_entry_eq]
  generalize (lg_sl [.ref (a 0), .int p1] ++ List.replicate (2 - (lg_sl [.ref (a 0), .int p1]).length) Slot.unset).toArray = ls at hl ⊢
  have hl : lv_has ls 2 [(0, .ref (a 0)), (1, .int p1)] := hl
  unfold f_X6_isBowl at hF
  refine lv_iload_n hx hb dX6_isBowl_0 rfl (lv_at hl 1 rfl) ?_
  refine lv_iconst (v := 0) hx hb dX6_isBowl_1 (by decide) ?_
  refine lv_aload_n hx hb dX6_isBowl_2 rfl (lv_at hl 0 rfl) ?_
  refine va_get (D := (dC, dI)) (ci := 6) (v := .ref (a 1)) (C := RX6) (T := TX6) (N := 23) hx hb hts inX6 hown hK.1 hP 0 rfl rfl 1 (by decide) (hts _ w_fieldLink_X6_7) (fun _ h9 => h9) rfl dX6_isBowl_3 ?_
  refine lv_iconst (v := 3) hx hb dX6_isBowl_6 (by decide) ?_
  refine va_iald hx hb hK.1 hP 1 0 rfl rfl (i := (3 : Int32)) (show ixok (3 : Int32) 103 by decide) dX6_isBowl_7 ?_
  refine lv_iconst (v := 1) hx hb dX6_isBowl_8 (by decide) ?_
  refine lv_isub hx hb dX6_isBowl_9 ?_
  obtain ⟨o2, h3, hF⟩ := obd hF
  refine wcRSi (As := [.int p1, .int (0 : Int32), .int (((M_s v) (3 : Int32).toNatClampNeg) - (1 : Int32))]) (rest := []) ⟨hx, hb, hml, hown, hts⟩ (met_X6_in l dC dI cyI cyO cyL  N  p1 (0 : Int32) (((M_s v) (3 : Int32).toNatClampNeg) - (1 : Int32)) o2 h3) (va_cwS 3 hts (gS w_methodLink_X6_35 w_static_X6_in w_initialized_X6 w_code_X6_in) rfl rfl rfl (by decide +kernel) ⟨Nat.le_of_ble_eq_true rfl, Nat.le_of_ble_eq_true rfl⟩) hP hK [] rfl rfl hl.1 (Nat.le_of_ble_eq_true rfl) dX6_isBowl_10 ⟨Nat.le_of_ble_eq_true rfl, Nat.le_of_ble_eq_true rfl⟩ hS (fun r H locs hw hP hS => ?_)
  obtain ⟨hw, hz4⟩ := hw
  have hw := hw.symm
  subst hw
  exact W.zret (ty := .boolean) (v := o2) hx hb hr (b01_n hz4) (fun t ht hW => ⟨⟨_, (), rfl, ⟨Option.some.inj hF, hz4⟩, trivial⟩, hS.F ht⟩) hS.2.2 dX6_isBowl_13
theorem dX6_of_0 : decode cX6_of 0 = .ok (.aload_n 0, 1) := by decide +kernel
theorem dX6_of_1 : decode cX6_of 1 = .ok (.getfield 7, 3) := by decide +kernel
theorem dX6_of_4 : decode cX6_of 4 = .ok (.iconst 4, 1) := by decide +kernel
theorem dX6_of_5 : decode cX6_of 5 = .ok (.bipush 7, 2) := by decide +kernel
theorem dX6_of_7 : decode cX6_of 7 = .ok (.iload_n 1, 1) := by decide +kernel
theorem dX6_of_8 : decode cX6_of 8 = .ok (.imul, 1) := by decide +kernel
theorem dX6_of_9 : decode cX6_of 9 = .ok (.iadd, 1) := by decide +kernel
theorem dX6_of_10 : decode cX6_of 10 = .ok (.iload_n 2, 1) := by decide +kernel
theorem dX6_of_11 : decode cX6_of 11 = .ok (.iadd, 1) := by decide +kernel
theorem dX6_of_12 : decode cX6_of 12 = .ok (.iaload, 1) := by decide +kernel
theorem dX6_of_13 : decode cX6_of 13 = .ok (.ireturn, 1) := by decide +kernel
def f_X6_of (N : Nat) (v : MV) (p1 : Int32) (p2 : Int32) : Option (Int32) :=
  gd (ixok (((4 : Int32) + ((7 : Int32) * p1)) + p2) 103) (some ((M_s v) (((4 : Int32) + ((7 : Int32) * p1)) + p2).toNatClampNeg))
set_option maxHeartbeats 4000000 in
set_option maxRecDepth 100000 in
theorem met_X6_of (l : Launch) (dC : Nat → ClassId) (dI : Nat → Nat → Nat) (cyI cyO cyL : ClassId) (a : Nat → Nat) (N : Nat) (v : MV) (p1 : Int32) (p2 : Int32) (out : Int32) (hF : f_X6_of N v p1 p2 = some out) : Met l yX6_of (Cond.code yX6_of cX6_of 3 (some .int) :: wT) ({ frames := 0, cells := 0, slots := 0, locals := 0 } : Room) (wRd dC dI cyI cyO cyL [.ref (a 0), .int p1, .int p2] (cM cyI a v)) (va_Qi (fun (r : Int32) (_ : Unit) => r = out) (fun _ _ => True) wN0) 0 0 wN0 := by
  refine Met.ofW (cc := cX6_of) (maxL := 3) (ret := (some .int)) (by decide) rfl ?_
  intro p e s m args below meth c s₁ B hml hv
  obtain ⟨rfl, hP, hK⟩ := hv
  have hx := B.exec
  have hb := B.bytes
  have hr := B.returns
  have hts0 := atoms_spec (ws := (Cond.code yX6_of cX6_of 3 (some .int) :: wT)) B.pre
  have hts := fun w h => hts0 w (List.mem_cons_of_mem _ h)
  clear hts0
  have hown : s.vm.findClass RX6 = some m.cls := findClass_of_methodNamed B.named
  have hlocks := B.notSynchronized
  have hS : va_S wN0 s.heap s.heap [] := va_S.rf
  have hl := lv_entry [.ref (a 0), .int p1, .int p2] (n := 3) (Nat.le_of_ble_eq_true rfl)
  rw [lg_entry_eq]
  generalize (lg_sl [.ref (a 0), .int p1, .int p2] ++ List.replicate (3 - (lg_sl [.ref (a 0), .int p1, .int p2]).length) Slot.unset).toArray = ls at hl ⊢
  have hl : lv_has ls 3 [(0, .ref (a 0)), (1, .int p1), (2, .int p2)] := hl
  unfold f_X6_of at hF
  refine lv_aload_n hx hb dX6_of_0 rfl (lv_at hl 0 rfl) ?_
  refine va_get (D := (dC, dI)) (ci := 6) (v := .ref (a 1)) (C := RX6) (T := TX6) (N := 23) hx hb hts inX6 hown hK.1 hP 0 rfl rfl 1 (by decide) (hts _ w_fieldLink_X6_7) (fun _ h9 => h9) rfl dX6_of_1 ?_
  refine lv_iconst (v := 4) hx hb dX6_of_4 (by decide) ?_
  refine lv_bipush (v := 7) hx hb dX6_of_5 (by decide) ?_
  refine lv_iload_n hx hb dX6_of_7 rfl (lv_at hl 1 rfl) ?_
  refine lv_imul hx hb dX6_of_8 ?_
  refine lv_iadd hx hb dX6_of_9 ?_
  refine lv_iload_n hx hb dX6_of_10 rfl (lv_at hl 2 rfl) ?_
  refine lv_iadd hx hb dX6_of_11 ?_
  obtain ⟨hg1, hF⟩ := gd_use hF
  refine va_iald hx hb hK.1 hP 1 0 rfl rfl (i := (((4 : Int32) + ((7 : Int32) * p1)) + p2)) hg1 dX6_of_12 ?_
  exact W.iret (v := ((M_s v) (((4 : Int32) + ((7 : Int32) * p1)) + p2).toNatClampNeg)) hx hb hr (fun t ht hW => ⟨⟨_, (), rfl, Option.some.inj hF, trivial⟩, hS.F ht⟩) hS.2.2 dX6_of_13
theorem dX6_sets_0 : decode cX6_sets 0 = .ok (.aload_n 0, 1) := by decide +kernel
theorem dX6_sets_1 : decode cX6_sets 1 = .ok (.getfield 7, 3) := by decide +kernel
theorem dX6_sets_4 : decode cX6_sets 4 = .ok (.iconst 4, 1) := by decide +kernel
theorem dX6_sets_5 : decode cX6_sets 5 = .ok (.bipush 7, 2) := by decide +kernel
theorem dX6_sets_7 : decode cX6_sets 7 = .ok (.iload_n 1, 1) := by decide +kernel
theorem dX6_sets_8 : decode cX6_sets 8 = .ok (.imul, 1) := by decide +kernel
theorem dX6_sets_9 : decode cX6_sets 9 = .ok (.iadd, 1) := by decide +kernel
theorem dX6_sets_10 : decode cX6_sets 10 = .ok (.iload_n 2, 1) := by decide +kernel
theorem dX6_sets_11 : decode cX6_sets 11 = .ok (.iadd, 1) := by decide +kernel
theorem dX6_sets_12 : decode cX6_sets 12 = .ok (.iload_n 3, 1) := by decide +kernel
theorem dX6_sets_13 : decode cX6_sets 13 = .ok (.iastore, 1) := by decide +kernel
theorem dX6_sets_14 : decode cX6_sets 14 = .ok (.return_, 1) := by decide +kernel
def f_X6_sets (N : Nat) (v : MV) (p1 : Int32) (p2 : Int32) (p3 : Int32) : Option (MV) :=
  gd (ixok (((4 : Int32) + ((7 : Int32) * p1)) + p2) 103) (some (M_set_s v (upd (M_s v) (((4 : Int32) + ((7 : Int32) * p1)) + p2).toNatClampNeg p3)))
set_option maxHeartbeats 4000000 in
set_option maxRecDepth 100000 in
theorem met_X6_sets (l : Launch) (dC : Nat → ClassId) (dI : Nat → Nat → Nat) (cyI cyO cyL : ClassId) (a : Nat → Nat) (sz : Nat) (N : Nat) (v : MV) (p1 : Int32) (p2 : Int32) (p3 : Int32) (out : MV) (hF : f_X6_sets N v p1 p2 p3 = some out) : Met l yX6_sets (Cond.code yX6_sets cX6_sets 4 none :: wT) ({ frames := 0, cells := 0, slots := 0, locals := 0 } : Room) (wWr dC dI cyI cyO cyL [.ref (a 0), .int p1, .int p2, .int p3] (cM cyI a v) sz) (va_Qv (fun (u : MV) => u = out) (fun u t => va_P (dC, dI) vwCl (cM cyI a u) t.heap ∧ va_D (va_A (cM cyI a v) sz) (cM cyI a u)) (va_A (cM cyI a v) sz)) 0 0 (va_A (cM cyI a v) sz) := by
  refine Met.ofW (cc := cX6_sets) (maxL := 4) (ret := none) (by decide) rfl ?_
  intro p e s m args below meth c s₁ B hml hv
  obtain ⟨rfl, hsz, hP, hK, hD0⟩ := hv
  have hx := B.exec
  have hb := B.bytes
  have hr := B.returns
  have hts0 := atoms_spec (ws := (Cond.code yX6_sets cX6_sets 4 none :: wT)) B.pre
  have hts := fun w h => hts0 w (List.mem_cons_of_mem _ h)
  clear hts0
  have hown : s.vm.findClass RX6 = some m.cls := findClass_of_methodNamed B.named
  have hlocks := B.notSynchronized
  subst hsz
  have hD := hD0.self (sz := s.heap.size)
  generalize hAe : va_A (cM cyI a v) s.heap.size = A at hD ⊢
  have hA : ∀ q : Nat, s.heap.size ≤ q → A q := fun q h => by rw [← hAe]; exact Or.inr h
  clear hD0
  have hS : va_S A s.heap s.heap [] := va_S.rf
  have hl := lv_entry [.ref (a 0), .int p1, .int p2, .int p3] (n := 4) (Nat.le_of_ble_eq_true rfl)
  rw [lg_entry_eq]
  generalize (lg_sl [.ref (a 0), .int p1, .int p2, .int p3] ++ List.replicate (4 - (lg_sl [.ref (a 0), .int p1, .int p2, .int p3]).length) Slot.unset).toArray = ls at hl ⊢
  have hl : lv_has ls 4 [(0, .ref (a 0)), (1, .int p1), (2, .int p2), (3, .int p3)] := hl
  unfold f_X6_sets at hF
  refine lv_aload_n hx hb dX6_sets_0 rfl (lv_at hl 0 rfl) ?_
  refine va_get (D := (dC, dI)) (ci := 6) (v := .ref (a 1)) (C := RX6) (T := TX6) (N := 23) hx hb hts inX6 hown hK.1 hP 0 rfl rfl 1 (by decide) (hts _ w_fieldLink_X6_7) (fun _ h9 => h9) rfl dX6_sets_1 ?_
  refine lv_iconst (v := 4) hx hb dX6_sets_4 (by decide) ?_
  refine lv_bipush (v := 7) hx hb dX6_sets_5 (by decide) ?_
  refine lv_iload_n hx hb dX6_sets_7 rfl (lv_at hl 1 rfl) ?_
  refine lv_imul hx hb dX6_sets_8 ?_
  refine lv_iadd hx hb dX6_sets_9 ?_
  refine lv_iload_n hx hb dX6_sets_10 rfl (lv_at hl 2 rfl) ?_
  refine lv_iadd hx hb dX6_sets_11 ?_
  refine lv_iload_n hx hb dX6_sets_12 rfl (lv_at hl 3 rfl) ?_
  obtain ⟨hg1, hF⟩ := gd_use hF
  refine va_iast hx hb hK.1 hP hD hS 1 0 rfl rfl (i := (((4 : Int32) + ((7 : Int32) * p1)) + p2)) (x := p3) hg1 dX6_sets_13 (fun H locs hP hD hS => ?_)
  have hP : va_P (dC, dI) vwCl (cM cyI a (M_set_s v (upd (M_s v) (((4 : Int32) + ((7 : Int32) * p1)) + p2).toNatClampNeg p3))) H := hP
  have hD : va_D A (cM cyI a (M_set_s v (upd (M_s v) (((4 : Int32) + ((7 : Int32) * p1)) + p2).toNatClampNeg p3))) := hD
  exact W.vret hx hb hr (fun t ht hW => ⟨⟨_, rfl, Option.some.inj hF, by rw [ht]; exact hP, hD⟩, hS.F ht⟩) hS.2.2 dX6_sets_14
theorem dX6_save_0 : decode cX6_save 0 = .ok (.aload_n 0, 1) := by decide +kernel
theorem dX6_save_1 : decode cX6_save 1 = .ok (.getfield 39, 3) := by decide +kernel
theorem dX6_save_4 : decode cX6_save 4 = .ok (.bipush 6, 2) := by decide +kernel
theorem dX6_save_6 : decode cX6_save 6 = .ok (.if_icmp .ne 43, 3) := by decide +kernel
theorem dX6_save_9 : decode cX6_save 9 = .ok (.iconst 0, 1) := by decide +kernel
theorem dX6_save_10 : decode cX6_save 10 = .ok (.istore_n 1, 1) := by decide +kernel
theorem dX6_save_11 : decode cX6_save 11 = .ok (.iload_n 1, 1) := by decide +kernel
theorem dX6_save_12 : decode cX6_save 12 = .ok (.sipush 515, 3) := by decide +kernel
theorem dX6_save_15 : decode cX6_save 15 = .ok (.if_icmp .ge 24, 3) := by decide +kernel
theorem dX6_save_18 : decode cX6_save 18 = .ok (.aload_n 0, 1) := by decide +kernel
theorem dX6_save_19 : decode cX6_save 19 = .ok (.getfield 19, 3) := by decide +kernel
theorem dX6_save_22 : decode cX6_save 22 = .ok (.iload_n 1, 1) := by decide +kernel
theorem dX6_save_23 : decode cX6_save 23 = .ok (.aload_n 0, 1) := by decide +kernel
theorem dX6_save_24 : decode cX6_save 24 = .ok (.getfield 19, 3) := by decide +kernel
theorem dX6_save_27 : decode cX6_save 27 = .ok (.iload_n 1, 1) := by decide +kernel
theorem dX6_save_28 : decode cX6_save 28 = .ok (.bipush 103, 2) := by decide +kernel
theorem dX6_save_30 : decode cX6_save 30 = .ok (.iadd, 1) := by decide +kernel
theorem dX6_save_31 : decode cX6_save 31 = .ok (.iaload, 1) := by decide +kernel
theorem dX6_save_32 : decode cX6_save 32 = .ok (.iastore, 1) := by decide +kernel
theorem dX6_save_33 : decode cX6_save 33 = .ok (.iinc 1 1, 3) := by decide +kernel
theorem dX6_save_36 : decode cX6_save 36 = .ok (.goto (-25), 3) := by decide +kernel
theorem dX6_save_39 : decode cX6_save 39 = .ok (.aload_n 0, 1) := by decide +kernel
theorem dX6_save_40 : decode cX6_save 40 = .ok (.dup, 1) := by decide +kernel
theorem dX6_save_41 : decode cX6_save 41 = .ok (.getfield 39, 3) := by decide +kernel
theorem dX6_save_44 : decode cX6_save 44 = .ok (.iconst 1, 1) := by decide +kernel
theorem dX6_save_45 : decode cX6_save 45 = .ok (.isub, 1) := by decide +kernel
theorem dX6_save_46 : decode cX6_save 46 = .ok (.putfield 39, 3) := by decide +kernel
theorem dX6_save_49 : decode cX6_save 49 = .ok (.iconst 0, 1) := by decide +kernel
theorem dX6_save_50 : decode cX6_save 50 = .ok (.istore_n 1, 1) := by decide +kernel
theorem dX6_save_51 : decode cX6_save 51 = .ok (.iload_n 1, 1) := by decide +kernel
theorem dX6_save_52 : decode cX6_save 52 = .ok (.bipush 103, 2) := by decide +kernel
theorem dX6_save_54 : decode cX6_save 54 = .ok (.if_icmp .ge 29, 3) := by decide +kernel
theorem dX6_save_57 : decode cX6_save 57 = .ok (.aload_n 0, 1) := by decide +kernel
theorem dX6_save_58 : decode cX6_save 58 = .ok (.getfield 19, 3) := by decide +kernel
theorem dX6_save_61 : decode cX6_save 61 = .ok (.bipush 103, 2) := by decide +kernel
theorem dX6_save_63 : decode cX6_save 63 = .ok (.aload_n 0, 1) := by decide +kernel
theorem dX6_save_64 : decode cX6_save 64 = .ok (.getfield 39, 3) := by decide +kernel
theorem dX6_save_67 : decode cX6_save 67 = .ok (.imul, 1) := by decide +kernel
theorem dX6_save_68 : decode cX6_save 68 = .ok (.iload_n 1, 1) := by decide +kernel
theorem dX6_save_69 : decode cX6_save 69 = .ok (.iadd, 1) := by decide +kernel
theorem dX6_save_70 : decode cX6_save 70 = .ok (.aload_n 0, 1) := by decide +kernel
theorem dX6_save_71 : decode cX6_save 71 = .ok (.getfield 7, 3) := by decide +kernel
theorem dX6_save_74 : decode cX6_save 74 = .ok (.iload_n 1, 1) := by decide +kernel
theorem dX6_save_75 : decode cX6_save 75 = .ok (.iaload, 1) := by decide +kernel
theorem dX6_save_76 : decode cX6_save 76 = .ok (.iastore, 1) := by decide +kernel
theorem dX6_save_77 : decode cX6_save 77 = .ok (.iinc 1 1, 3) := by decide +kernel
theorem dX6_save_80 : decode cX6_save 80 = .ok (.goto (-29), 3) := by decide +kernel
theorem dX6_save_83 : decode cX6_save 83 = .ok (.aload_n 0, 1) := by decide +kernel
theorem dX6_save_84 : decode cX6_save 84 = .ok (.dup, 1) := by decide +kernel
theorem dX6_save_85 : decode cX6_save 85 = .ok (.getfield 39, 3) := by decide +kernel
theorem dX6_save_88 : decode cX6_save 88 = .ok (.iconst 1, 1) := by decide +kernel
theorem dX6_save_89 : decode cX6_save 89 = .ok (.iadd, 1) := by decide +kernel
theorem dX6_save_90 : decode cX6_save 90 = .ok (.putfield 39, 3) := by decide +kernel
theorem dX6_save_93 : decode cX6_save 93 = .ok (.return_, 1) := by decide +kernel
def f_X6_save (N : Nat) (v : MV) : Option (MV) :=
  jn (fun (s49 : MV) => lpN (fun (s51 : Int32 × MV) (k51 : (Int32 × MV) → Option (MV)) => (if (103 : Int32) ≤ s51.1 then some (M_set_savedMany s51.2 ((M_savedMany s51.2) + (1 : Int32))) else gd (ixok s51.1 103) (gd (ixok (((103 : Int32) * (M_savedMany s51.2)) + s51.1) 618) (k51 ((s51.1 + (1 : Int32)), (M_set_saved s51.2 (upd (M_saved s51.2) (((103 : Int32) * (M_savedMany s51.2)) + s51.1).toNatClampNeg ((M_s s51.2) s51.1.toNatClampNeg)))))))) N ((0 : Int32), s49)) (fun (j49 : (MV) → Option (MV)) => (if (M_savedMany v) = (6 : Int32) then lpN (fun (s11 : Int32 × MV) (k11 : (Int32 × MV) → Option (MV)) => (if (515 : Int32) ≤ s11.1 then j49 (M_set_savedMany s11.2 ((M_savedMany s11.2) - (1 : Int32))) else gd (ixok (s11.1 + (103 : Int32)) 618) (gd (ixok s11.1 618) (k11 ((s11.1 + (1 : Int32)), (M_set_saved s11.2 (upd (M_saved s11.2) s11.1.toNatClampNeg ((M_saved s11.2) (s11.1 + (103 : Int32)).toNatClampNeg)))))))) N ((0 : Int32), v) else j49 v))
set_option maxHeartbeats 4000000 in
set_option maxRecDepth 100000 in
theorem met_X6_save (l : Launch) (dC : Nat → ClassId) (dI : Nat → Nat → Nat) (cyI cyO cyL : ClassId) (a : Nat → Nat) (sz : Nat) (N : Nat) (v : MV) (out : MV) (hF : f_X6_save N v = some out) : Met l yX6_save (Cond.code yX6_save cX6_save 2 none :: wT) ({ frames := 0, cells := 0, slots := 0, locals := 0 } : Room) (wWr dC dI cyI cyO cyL [.ref (a 0)] (cM cyI a v) sz) (va_Qv (fun (u : MV) => u = out) (fun u t => va_P (dC, dI) vwCl (cM cyI a u) t.heap ∧ va_D (va_A (cM cyI a v) sz) (cM cyI a u)) (va_A (cM cyI a v) sz)) 0 0 (va_A (cM cyI a v) sz) := by
  refine Met.ofW (cc := cX6_save) (maxL := 2) (ret := none) (by decide) rfl ?_
  intro p e s m args below meth c s₁ B hml hv
  obtain ⟨rfl, hsz, hP, hK, hD0⟩ := hv
  have hx := B.exec
  have hb := B.bytes
  have hr := B.returns
  have hts0 := atoms_spec (ws := (Cond.code yX6_save cX6_save 2 none :: wT)) B.pre
  have hts := fun w h => hts0 w (List.mem_cons_of_mem _ h)
  clear hts0
  have hown : s.vm.findClass RX6 = some m.cls := findClass_of_methodNamed B.named
  have hlocks := B.notSynchronized
  subst hsz
  have hD := hD0.self (sz := s.heap.size)
  generalize hAe : va_A (cM cyI a v) s.heap.size = A at hD ⊢
  have hA : ∀ q : Nat, s.heap.size ≤ q → A q := fun q h => by rw [← hAe]; exact Or.inr h
  clear hD0
  have hS : va_S A s.heap s.heap [] := va_S.rf
  have hl := lv_entry [.ref (a 0)] (n := 2) (Nat.le_of_ble_eq_true rfl)
  rw [lg_entry_eq]
  generalize (lg_sl [.ref (a 0)] ++ List.replicate (2 - (lg_sl [.ref (a 0)]).length) Slot.unset).toArray = ls at hl ⊢
  have hl : lv_has ls 2 [(0, .ref (a 0))] := hl
  unfold f_X6_save at hF
  refine lv_aload_n hx hb dX6_save_0 rfl (lv_at hl 0 rfl) ?_
  refine va_get (D := (dC, dI)) (ci := 6) (v := .int (M_savedMany v)) (C := RX6) (T := TX6) (N := 23) hx hb hts inX6 hown hK.1 hP 0 rfl rfl 5 (by decide) (hts _ w_fieldLink_X6_39) (fun _ h9 => h9) rfl dX6_save_1 ?_
  refine lv_bipush (v := 6) hx hb dX6_save_4 (by decide) ?_
  obtain ⟨j49, hj49, hF⟩ := jn_use hF
  have hJ49 : ∀ (s49 : MV) (H : Heap) (locs : List Loc) (ls : Array Slot), va_P (dC, dI) vwCl (cM cyI a s49) H → va_D A (cM cyI a s49) → va_S A s.heap H locs → lv_has ls 2 [(0, .ref (a 0))] → j49 s49 = some out → W p l e (headSpec (Cond.code yX6_save cX6_save 2 none :: wT) ({ frames := 0, cells := 0, slots := 0, locals := 0 } : Room)).room s m ([.ref (a 0)] : List Value).toArray below meth c H locs 0 0 (MQ below (va_Qv (fun (u : MV) => u = out) (fun u t => va_P (dC, dI) vwCl (cM cyI a u) t.heap ∧ va_D A (cM cyI a u)) A) ([.ref (a 0)] : List Value).toArray s 0 0 A) (F0 m 49 ls []) := by
    intro s49 H locs ls hP hD hS hl hF
    have hF := (congrFun hj49 s49).symm.trans hF
    refine lv_iconst (v := 0) hx hb dX6_save_49 (by decide) ?_
    refine lv_istore_n (lv' := [(1, .int (0 : Int32)), (0, .ref (a 0))]) hx hb dX6_save_50 rfl hl (by decide) rfl (fun ls hl => ?_)
    obtain ⟨st51, hst51, hF⟩ := lpN_use hF
    have hL51 : ∀ (n : Nat) (s51 : Int32 × MV) (H : Heap) (locs : List Loc) (ls : Array Slot), va_P (dC, dI) vwCl (cM cyI a s51.2) H → va_D A (cM cyI a s51.2) → va_S A s.heap H locs → lv_has ls 2 [(0, .ref (a 0)), (1, .int s51.1)] → lpN st51 n s51 = some out → W p l e (headSpec (Cond.code yX6_save cX6_save 2 none :: wT) ({ frames := 0, cells := 0, slots := 0, locals := 0 } : Room)).room s m ([.ref (a 0)] : List Value).toArray below meth c H locs 0 0 (MQ below (va_Qv (fun (u : MV) => u = out) (fun u t => va_P (dC, dI) vwCl (cM cyI a u) t.heap ∧ va_D A (cM cyI a u)) A) ([.ref (a 0)] : List Value).toArray s 0 0 A) (F0 m 51 ls []) := by
      intro n
      induction n with
      | zero => intro s51 H locs ls hP hD hS hl hF; exact lpN_0 hF
      | succ n ih51 =>
        intro s51 H locs ls hP hD hS hl hF
        have hF := (congrFun (congrFun hst51 s51) (lpN st51 n)).symm.trans (lpN_s hF)
        refine lv_iload_n hx hb dX6_save_51 rfl (lv_at hl 1 rfl) ?_
        refine lv_bipush (v := 103) hx hb dX6_save_52 (by decide) ?_
        refine lv_icmp_ge (tgt := 83) hx hb dX6_save_54 (by decide) (fun c1 => ?_) (fun c1 => ?_)
        · have hF := itp c1 hF
          refine lv_aload_n hx hb dX6_save_83 rfl (lv_at hl 0 rfl) ?_
          refine lv_dup hx hb dX6_save_84 rfl ?_
          refine va_get (D := (dC, dI)) (ci := 6) (v := .int (M_savedMany s51.2)) (C := RX6) (T := TX6) (N := 23) hx hb hts inX6 hown hK.1 hP 0 rfl rfl 5 (by decide) (hts _ w_fieldLink_X6_39) (fun _ h9 => h9) rfl dX6_save_85 ?_
          refine lv_iconst (v := 1) hx hb dX6_save_88 (by decide) ?_
          refine lv_iadd hx hb dX6_save_89 ?_
          refine va_put (D := (dC, dI)) (ci := 6) (v := .int ((M_savedMany s51.2) + (1 : Int32))) (ty := .int) (C := RX6) (T := TX6) (N := 23) hx hb hts inX6 tyX6 tyX6_ok nmX6 hown hK.1 hP hD hS 0 rfl rfl 5 (by decide) (hts _ w_fieldLink_X6_39) (fun _ h9 => h9) rfl (by decide +kernel) rfl rfl (Nat.le_of_ble_eq_true rfl) dX6_save_90 (fun H locs hP hD hS => ?_)
          have hP : va_P (dC, dI) vwCl (cM cyI a (M_set_savedMany s51.2 ((M_savedMany s51.2) + (1 : Int32)))) H := hP
          have hD : va_D A (cM cyI a (M_set_savedMany s51.2 ((M_savedMany s51.2) + (1 : Int32)))) := hD
          exact W.vret hx hb hr (fun t ht hW => ⟨⟨_, rfl, Option.some.inj hF, by rw [ht]; exact hP, hD⟩, hS.F ht⟩) hS.2.2 dX6_save_93
        · have hF := itn c1 hF
          refine lv_aload_n hx hb dX6_save_57 rfl (lv_at hl 0 rfl) ?_
          refine va_get (D := (dC, dI)) (ci := 6) (v := .ref (a 4)) (C := RX6) (T := TX6) (N := 23) hx hb hts inX6 hown hK.1 hP 0 rfl rfl 4 (by decide) (hts _ w_fieldLink_X6_19) (fun _ h9 => h9) rfl dX6_save_58 ?_
          refine lv_bipush (v := 103) hx hb dX6_save_61 (by decide) ?_
          refine lv_aload_n hx hb dX6_save_63 rfl (lv_at hl 0 rfl) ?_
          refine va_get (D := (dC, dI)) (ci := 6) (v := .int (M_savedMany s51.2)) (C := RX6) (T := TX6) (N := 23) hx hb hts inX6 hown hK.1 hP 0 rfl rfl 5 (by decide) (hts _ w_fieldLink_X6_39) (fun _ h9 => h9) rfl dX6_save_64 ?_
          refine lv_imul hx hb dX6_save_67 ?_
          refine lv_iload_n hx hb dX6_save_68 rfl (lv_at hl 1 rfl) ?_
          refine lv_iadd hx hb dX6_save_69 ?_
          refine lv_aload_n hx hb dX6_save_70 rfl (lv_at hl 0 rfl) ?_
          refine va_get (D := (dC, dI)) (ci := 6) (v := .ref (a 1)) (C := RX6) (T := TX6) (N := 23) hx hb hts inX6 hown hK.1 hP 0 rfl rfl 1 (by decide) (hts _ w_fieldLink_X6_7) (fun _ h9 => h9) rfl dX6_save_71 ?_
          refine lv_iload_n hx hb dX6_save_74 rfl (lv_at hl 1 rfl) ?_
          obtain ⟨hg2, hF⟩ := gd_use hF
          refine va_iald hx hb hK.1 hP 1 0 rfl rfl (i := s51.1) hg2 dX6_save_75 ?_
          obtain ⟨hg3, hF⟩ := gd_use hF
          refine va_iast hx hb hK.1 hP hD hS 4 0 rfl rfl (i := (((103 : Int32) * (M_savedMany s51.2)) + s51.1)) (x := ((M_s s51.2) s51.1.toNatClampNeg)) hg3 dX6_save_76 (fun H locs hP hD hS => ?_)
          have hP : va_P (dC, dI) vwCl (cM cyI a (M_set_saved s51.2 (upd (M_saved s51.2) (((103 : Int32) * (M_savedMany s51.2)) + s51.1).toNatClampNeg ((M_s s51.2) s51.1.toNatClampNeg)))) H := hP
          have hD : va_D A (cM cyI a (M_set_saved s51.2 (upd (M_saved s51.2) (((103 : Int32) * (M_savedMany s51.2)) + s51.1).toNatClampNeg ((M_s s51.2) s51.1.toNatClampNeg)))) := hD
          refine lv_iinc (v := (s51.1 + (1 : Int32))) (lv' := [(1, .int (s51.1 + (1 : Int32))), (0, .ref (a 0))]) hx hb dX6_save_77 hl (k := 1) rfl rfl (by decide) rfl (fun ls hl => ?_)
          refine lv_goto (tgt := 51) hx hb dX6_save_80 (by decide) ?_
          exact ih51 ((s51.1 + (1 : Int32)), (M_set_saved s51.2 (upd (M_saved s51.2) (((103 : Int32) * (M_savedMany s51.2)) + s51.1).toNatClampNeg ((M_s s51.2) s51.1.toNatClampNeg)))) _ _ _ hP hD hS (lv_sub hl [1, 0] rfl) hF
    exact hL51 N ((0 : Int32), s49) _ _ _ hP hD hS (lv_sub hl [1, 0] rfl) hF
  refine lv_icmp_ne (tgt := 49) hx hb dX6_save_6 (by decide) (fun c4 => ?_) (fun c4 => ?_)
  · have hF := itn c4 hF
    exact hJ49 v _ _ _ hP hD hS (lv_sub hl [0] rfl) hF
  · have hF := itp c4 hF
    refine lv_iconst (v := 0) hx hb dX6_save_9 (by decide) ?_
    refine lv_istore_n (lv' := [(1, .int (0 : Int32)), (0, .ref (a 0))]) hx hb dX6_save_10 rfl hl (by decide) rfl (fun ls hl => ?_)
    obtain ⟨st11, hst11, hF⟩ := lpN_use hF
    have hL11 : ∀ (n : Nat) (s11 : Int32 × MV) (H : Heap) (locs : List Loc) (ls : Array Slot), va_P (dC, dI) vwCl (cM cyI a s11.2) H → va_D A (cM cyI a s11.2) → va_S A s.heap H locs → lv_has ls 2 [(0, .ref (a 0)), (1, .int s11.1)] → lpN st11 n s11 = some out → W p l e (headSpec (Cond.code yX6_save cX6_save 2 none :: wT) ({ frames := 0, cells := 0, slots := 0, locals := 0 } : Room)).room s m ([.ref (a 0)] : List Value).toArray below meth c H locs 0 0 (MQ below (va_Qv (fun (u : MV) => u = out) (fun u t => va_P (dC, dI) vwCl (cM cyI a u) t.heap ∧ va_D A (cM cyI a u)) A) ([.ref (a 0)] : List Value).toArray s 0 0 A) (F0 m 11 ls []) := by
      intro n
      induction n with
      | zero => intro s11 H locs ls hP hD hS hl hF; exact lpN_0 hF
      | succ n ih11 =>
        intro s11 H locs ls hP hD hS hl hF
        have hF := (congrFun (congrFun hst11 s11) (lpN st11 n)).symm.trans (lpN_s hF)
        refine lv_iload_n hx hb dX6_save_11 rfl (lv_at hl 1 rfl) ?_
        refine lv_sipush (v := 515) hx hb dX6_save_12 (by decide) ?_
        refine lv_icmp_ge (tgt := 39) hx hb dX6_save_15 (by decide) (fun c5 => ?_) (fun c5 => ?_)
        · have hF := itp c5 hF
          refine lv_aload_n hx hb dX6_save_39 rfl (lv_at hl 0 rfl) ?_
          refine lv_dup hx hb dX6_save_40 rfl ?_
          refine va_get (D := (dC, dI)) (ci := 6) (v := .int (M_savedMany s11.2)) (C := RX6) (T := TX6) (N := 23) hx hb hts inX6 hown hK.1 hP 0 rfl rfl 5 (by decide) (hts _ w_fieldLink_X6_39) (fun _ h9 => h9) rfl dX6_save_41 ?_
          refine lv_iconst (v := 1) hx hb dX6_save_44 (by decide) ?_
          refine lv_isub hx hb dX6_save_45 ?_
          refine va_put (D := (dC, dI)) (ci := 6) (v := .int ((M_savedMany s11.2) - (1 : Int32))) (ty := .int) (C := RX6) (T := TX6) (N := 23) hx hb hts inX6 tyX6 tyX6_ok nmX6 hown hK.1 hP hD hS 0 rfl rfl 5 (by decide) (hts _ w_fieldLink_X6_39) (fun _ h9 => h9) rfl (by decide +kernel) rfl rfl (Nat.le_of_ble_eq_true rfl) dX6_save_46 (fun H locs hP hD hS => ?_)
          have hP : va_P (dC, dI) vwCl (cM cyI a (M_set_savedMany s11.2 ((M_savedMany s11.2) - (1 : Int32)))) H := hP
          have hD : va_D A (cM cyI a (M_set_savedMany s11.2 ((M_savedMany s11.2) - (1 : Int32)))) := hD
          exact hJ49 (M_set_savedMany s11.2 ((M_savedMany s11.2) - (1 : Int32))) _ _ _ hP hD hS (lv_sub hl [0] rfl) hF
        · have hF := itn c5 hF
          refine lv_aload_n hx hb dX6_save_18 rfl (lv_at hl 0 rfl) ?_
          refine va_get (D := (dC, dI)) (ci := 6) (v := .ref (a 4)) (C := RX6) (T := TX6) (N := 23) hx hb hts inX6 hown hK.1 hP 0 rfl rfl 4 (by decide) (hts _ w_fieldLink_X6_19) (fun _ h9 => h9) rfl dX6_save_19 ?_
          refine lv_iload_n hx hb dX6_save_22 rfl (lv_at hl 1 rfl) ?_
          refine lv_aload_n hx hb dX6_save_23 rfl (lv_at hl 0 rfl) ?_
          refine va_get (D := (dC, dI)) (ci := 6) (v := .ref (a 4)) (C := RX6) (T := TX6) (N := 23) hx hb hts inX6 hown hK.1 hP 0 rfl rfl 4 (by decide) (hts _ w_fieldLink_X6_19) (fun _ h9 => h9) rfl dX6_save_24 ?_
          refine lv_iload_n hx hb dX6_save_27 rfl (lv_at hl 1 rfl) ?_
          refine lv_bipush (v := 103) hx hb dX6_save_28 (by decide) ?_
          refine lv_iadd hx hb dX6_save_30 ?_
          obtain ⟨hg6, hF⟩ := gd_use hF
          refine va_iald hx hb hK.1 hP 4 0 rfl rfl (i := (s11.1 + (103 : Int32))) hg6 dX6_save_31 ?_
          obtain ⟨hg7, hF⟩ := gd_use hF
          refine va_iast hx hb hK.1 hP hD hS 4 0 rfl rfl (i := s11.1) (x := ((M_saved s11.2) (s11.1 + (103 : Int32)).toNatClampNeg)) hg7 dX6_save_32 (fun H locs hP hD hS => ?_)
          have hP : va_P (dC, dI) vwCl (cM cyI a (M_set_saved s11.2 (upd (M_saved s11.2) s11.1.toNatClampNeg ((M_saved s11.2) (s11.1 + (103 : Int32)).toNatClampNeg)))) H := hP
          have hD : va_D A (cM cyI a (M_set_saved s11.2 (upd (M_saved s11.2) s11.1.toNatClampNeg ((M_saved s11.2) (s11.1 + (103 : Int32)).toNatClampNeg)))) := hD
          refine lv_iinc (v := (s11.1 + (1 : Int32))) (lv' := [(1, .int (s11.1 + (1 : Int32))), (0, .ref (a 0))]) hx hb dX6_save_33 hl (k := 1) rfl rfl (by decide) rfl (fun ls hl => ?_)
          refine lv_goto (tgt := 11) hx hb dX6_save_36 (by decide) ?_
          exact ih11 ((s11.1 + (1 : Int32)), (M_set_saved s11.2 (upd (M_saved s11.2) s11.1.toNatClampNeg ((M_saved s11.2) (s11.1 + (103 : Int32)).toNatClampNeg)))) _ _ _ hP hD hS (lv_sub hl [1, 0] rfl) hF
    exact hL11 N ((0 : Int32), v) _ _ _ hP hD hS (lv_sub hl [1, 0] rfl) hF
theorem dX6_putAside_0 : decode cX6_putAside 0 = .ok (.iconst 0, 1) := by decide +kernel
theorem dX6_putAside_1 : decode cX6_putAside 1 = .ok (.istore_n 1, 1) := by decide +kernel
theorem dX6_putAside_2 : decode cX6_putAside 2 = .ok (.iload_n 1, 1) := by decide +kernel
theorem dX6_putAside_3 : decode cX6_putAside 3 = .ok (.bipush 103, 2) := by decide +kernel
theorem dX6_putAside_5 : decode cX6_putAside 5 = .ok (.if_icmp .ge 21, 3) := by decide +kernel
theorem dX6_putAside_8 : decode cX6_putAside 8 = .ok (.aload_n 0, 1) := by decide +kernel
theorem dX6_putAside_9 : decode cX6_putAside 9 = .ok (.getfield 13, 3) := by decide +kernel
theorem dX6_putAside_12 : decode cX6_putAside 12 = .ok (.iload_n 1, 1) := by decide +kernel
theorem dX6_putAside_13 : decode cX6_putAside 13 = .ok (.aload_n 0, 1) := by decide +kernel
theorem dX6_putAside_14 : decode cX6_putAside 14 = .ok (.getfield 7, 3) := by decide +kernel
theorem dX6_putAside_17 : decode cX6_putAside 17 = .ok (.iload_n 1, 1) := by decide +kernel
theorem dX6_putAside_18 : decode cX6_putAside 18 = .ok (.iaload, 1) := by decide +kernel
theorem dX6_putAside_19 : decode cX6_putAside 19 = .ok (.iastore, 1) := by decide +kernel
theorem dX6_putAside_20 : decode cX6_putAside 20 = .ok (.iinc 1 1, 3) := by decide +kernel
theorem dX6_putAside_23 : decode cX6_putAside 23 = .ok (.goto (-21), 3) := by decide +kernel
theorem dX6_putAside_26 : decode cX6_putAside 26 = .ok (.return_, 1) := by decide +kernel
def f_X6_putAside (N : Nat) (v : MV) : Option (MV) :=
  lpN (fun (s2 : Int32 × MV) (k2 : (Int32 × MV) → Option (MV)) => (if (103 : Int32) ≤ s2.1 then some s2.2 else gd (ixok s2.1 103) (gd (ixok s2.1 103) (k2 ((s2.1 + (1 : Int32)), (M_set_aside s2.2 (upd (M_aside s2.2) s2.1.toNatClampNeg ((M_s s2.2) s2.1.toNatClampNeg)))))))) N ((0 : Int32), v)
set_option maxHeartbeats 4000000 in
set_option maxRecDepth 100000 in
theorem met_X6_putAside (l : Launch) (dC : Nat → ClassId) (dI : Nat → Nat → Nat) (cyI cyO cyL : ClassId) (a : Nat → Nat) (sz : Nat) (N : Nat) (v : MV) (out : MV) (hF : f_X6_putAside N v = some out) : Met l yX6_putAside (Cond.code yX6_putAside cX6_putAside 2 none :: wT) ({ frames := 0, cells := 0, slots := 0, locals := 0 } : Room) (wWr dC dI cyI cyO cyL [.ref (a 0)] (cM cyI a v) sz) (va_Qv (fun (u : MV) => u = out) (fun u t => va_P (dC, dI) vwCl (cM cyI a u) t.heap ∧ va_D (va_A (cM cyI a v) sz) (cM cyI a u)) (va_A (cM cyI a v) sz)) 0 0 (va_A (cM cyI a v) sz) := by
  refine Met.ofW (cc := cX6_putAside) (maxL := 2) (ret := none) (by decide) rfl ?_
  intro p e s m args below meth c s₁ B hml hv
  obtain ⟨rfl, hsz, hP, hK, hD0⟩ := hv
  have hx := B.exec
  have hb := B.bytes
  have hr := B.returns
  have hts0 := atoms_spec (ws := (Cond.code yX6_putAside cX6_putAside 2 none :: wT)) B.pre
  have hts := fun w h => hts0 w (List.mem_cons_of_mem _ h)
  clear hts0
  have hown : s.vm.findClass RX6 = some m.cls := findClass_of_methodNamed B.named
  have hlocks := B.notSynchronized
  subst hsz
  have hD := hD0.self (sz := s.heap.size)
  generalize hAe : va_A (cM cyI a v) s.heap.size = A at hD ⊢
  have hA : ∀ q : Nat, s.heap.size ≤ q → A q := fun q h => by rw [← hAe]; exact Or.inr h
  clear hD0
  have hS : va_S A s.heap s.heap [] := va_S.rf
  have hl := lv_entry [.ref (a 0)] (n := 2) (Nat.le_of_ble_eq_true rfl)
  rw [lg_entry_eq]
  generalize (lg_sl [.ref (a 0)] ++ List.replicate (2 - (lg_sl [.ref (a 0)]).length) Slot.unset).toArray = ls at hl ⊢
  have hl : lv_has ls 2 [(0, .ref (a 0))] := hl
  unfold f_X6_putAside at hF
  refine lv_iconst (v := 0) hx hb dX6_putAside_0 (by decide) ?_
  refine lv_istore_n (lv' := [(1, .int (0 : Int32)), (0, .ref (a 0))]) hx hb dX6_putAside_1 rfl hl (by decide) rfl (fun ls hl => ?_)
  obtain ⟨st2, hst2, hF⟩ := lpN_use hF
  have hL2 : ∀ (n : Nat) (s2 : Int32 × MV) (H : Heap) (locs : List Loc) (ls : Array Slot), va_P (dC, dI) vwCl (cM cyI a s2.2) H → va_D A (cM cyI a s2.2) → va_S A s.heap H locs → lv_has ls 2 [(0, .ref (a 0)), (1, .int s2.1)] → lpN st2 n s2 = some out → W p l e (headSpec (Cond.code yX6_putAside cX6_putAside 2 none :: wT) ({ frames := 0, cells := 0, slots := 0, locals := 0 } : Room)).room s m ([.ref (a 0)] : List Value).toArray below meth c H locs 0 0 (MQ below (va_Qv (fun (u : MV) => u = out) (fun u t => va_P (dC, dI) vwCl (cM cyI a u) t.heap ∧ va_D A (cM cyI a u)) A) ([.ref (a 0)] : List Value).toArray s 0 0 A) (F0 m 2 ls []) := by
    intro n
    induction n with
    | zero => intro s2 H locs ls hP hD hS hl hF; exact lpN_0 hF
    | succ n ih2 =>
      intro s2 H locs ls hP hD hS hl hF
      have hF := (congrFun (congrFun hst2 s2) (lpN st2 n)).symm.trans (lpN_s hF)
      refine lv_iload_n hx hb dX6_putAside_2 rfl (lv_at hl 1 rfl) ?_
      refine lv_bipush (v := 103) hx hb dX6_putAside_3 (by decide) ?_
      refine lv_icmp_ge (tgt := 26) hx hb dX6_putAside_5 (by decide) (fun c1 => ?_) (fun c1 => ?_)
      · have hF := itp c1 hF
        exact W.vret hx hb hr (fun t ht hW => ⟨⟨_, rfl, Option.some.inj hF, by rw [ht]; exact hP, hD⟩, hS.F ht⟩) hS.2.2 dX6_putAside_26
      · have hF := itn c1 hF
        refine lv_aload_n hx hb dX6_putAside_8 rfl (lv_at hl 0 rfl) ?_
        refine va_get (D := (dC, dI)) (ci := 6) (v := .ref (a 2)) (C := RX6) (T := TX6) (N := 23) hx hb hts inX6 hown hK.1 hP 0 rfl rfl 2 (by decide) (hts _ w_fieldLink_X6_13) (fun _ h9 => h9) rfl dX6_putAside_9 ?_
        refine lv_iload_n hx hb dX6_putAside_12 rfl (lv_at hl 1 rfl) ?_
        refine lv_aload_n hx hb dX6_putAside_13 rfl (lv_at hl 0 rfl) ?_
        refine va_get (D := (dC, dI)) (ci := 6) (v := .ref (a 1)) (C := RX6) (T := TX6) (N := 23) hx hb hts inX6 hown hK.1 hP 0 rfl rfl 1 (by decide) (hts _ w_fieldLink_X6_7) (fun _ h9 => h9) rfl dX6_putAside_14 ?_
        refine lv_iload_n hx hb dX6_putAside_17 rfl (lv_at hl 1 rfl) ?_
        obtain ⟨hg2, hF⟩ := gd_use hF
        refine va_iald hx hb hK.1 hP 1 0 rfl rfl (i := s2.1) hg2 dX6_putAside_18 ?_
        obtain ⟨hg3, hF⟩ := gd_use hF
        refine va_iast hx hb hK.1 hP hD hS 2 0 rfl rfl (i := s2.1) (x := ((M_s s2.2) s2.1.toNatClampNeg)) hg3 dX6_putAside_19 (fun H locs hP hD hS => ?_)
        have hP : va_P (dC, dI) vwCl (cM cyI a (M_set_aside s2.2 (upd (M_aside s2.2) s2.1.toNatClampNeg ((M_s s2.2) s2.1.toNatClampNeg)))) H := hP
        have hD : va_D A (cM cyI a (M_set_aside s2.2 (upd (M_aside s2.2) s2.1.toNatClampNeg ((M_s s2.2) s2.1.toNatClampNeg)))) := hD
        refine lv_iinc (v := (s2.1 + (1 : Int32))) (lv' := [(1, .int (s2.1 + (1 : Int32))), (0, .ref (a 0))]) hx hb dX6_putAside_20 hl (k := 1) rfl rfl (by decide) rfl (fun ls hl => ?_)
        refine lv_goto (tgt := 2) hx hb dX6_putAside_23 (by decide) ?_
        exact ih2 ((s2.1 + (1 : Int32)), (M_set_aside s2.2 (upd (M_aside s2.2) s2.1.toNatClampNeg ((M_s s2.2) s2.1.toNatClampNeg)))) _ _ _ hP hD hS (lv_sub hl [1, 0] rfl) hF
  exact hL2 N ((0 : Int32), v) _ _ _ hP hD hS (lv_sub hl [1, 0] rfl) hF
theorem dX6_putsBack_0 : decode cX6_putsBack 0 = .ok (.iconst 0, 1) := by decide +kernel
theorem dX6_putsBack_1 : decode cX6_putsBack 1 = .ok (.istore_n 1, 1) := by decide +kernel
theorem dX6_putsBack_2 : decode cX6_putsBack 2 = .ok (.iload_n 1, 1) := by decide +kernel
theorem dX6_putsBack_3 : decode cX6_putsBack 3 = .ok (.bipush 103, 2) := by decide +kernel
theorem dX6_putsBack_5 : decode cX6_putsBack 5 = .ok (.if_icmp .ge 21, 3) := by decide +kernel
theorem dX6_putsBack_8 : decode cX6_putsBack 8 = .ok (.aload_n 0, 1) := by decide +kernel
theorem dX6_putsBack_9 : decode cX6_putsBack 9 = .ok (.getfield 7, 3) := by decide +kernel
theorem dX6_putsBack_12 : decode cX6_putsBack 12 = .ok (.iload_n 1, 1) := by decide +kernel
theorem dX6_putsBack_13 : decode cX6_putsBack 13 = .ok (.aload_n 0, 1) := by decide +kernel
theorem dX6_putsBack_14 : decode cX6_putsBack 14 = .ok (.getfield 13, 3) := by decide +kernel
theorem dX6_putsBack_17 : decode cX6_putsBack 17 = .ok (.iload_n 1, 1) := by decide +kernel
theorem dX6_putsBack_18 : decode cX6_putsBack 18 = .ok (.iaload, 1) := by decide +kernel
theorem dX6_putsBack_19 : decode cX6_putsBack 19 = .ok (.iastore, 1) := by decide +kernel
theorem dX6_putsBack_20 : decode cX6_putsBack 20 = .ok (.iinc 1 1, 3) := by decide +kernel
theorem dX6_putsBack_23 : decode cX6_putsBack 23 = .ok (.goto (-21), 3) := by decide +kernel
theorem dX6_putsBack_26 : decode cX6_putsBack 26 = .ok (.return_, 1) := by decide +kernel
def f_X6_putsBack (N : Nat) (v : MV) : Option (MV) :=
  lpN (fun (s2 : Int32 × MV) (k2 : (Int32 × MV) → Option (MV)) => (if (103 : Int32) ≤ s2.1 then some s2.2 else gd (ixok s2.1 103) (gd (ixok s2.1 103) (k2 ((s2.1 + (1 : Int32)), (M_set_s s2.2 (upd (M_s s2.2) s2.1.toNatClampNeg ((M_aside s2.2) s2.1.toNatClampNeg)))))))) N ((0 : Int32), v)
set_option maxHeartbeats 4000000 in
set_option maxRecDepth 100000 in
theorem met_X6_putsBack (l : Launch) (dC : Nat → ClassId) (dI : Nat → Nat → Nat) (cyI cyO cyL : ClassId) (a : Nat → Nat) (sz : Nat) (N : Nat) (v : MV) (out : MV) (hF : f_X6_putsBack N v = some out) : Met l yX6_putsBack (Cond.code yX6_putsBack cX6_putsBack 2 none :: wT) ({ frames := 0, cells := 0, slots := 0, locals := 0 } : Room) (wWr dC dI cyI cyO cyL [.ref (a 0)] (cM cyI a v) sz) (va_Qv (fun (u : MV) => u = out) (fun u t => va_P (dC, dI) vwCl (cM cyI a u) t.heap ∧ va_D (va_A (cM cyI a v) sz) (cM cyI a u)) (va_A (cM cyI a v) sz)) 0 0 (va_A (cM cyI a v) sz) := by
  refine Met.ofW (cc := cX6_putsBack) (maxL := 2) (ret := none) (by decide) rfl ?_
  intro p e s m args below meth c s₁ B hml hv
  obtain ⟨rfl, hsz, hP, hK, hD0⟩ := hv
  have hx := B.exec
  have hb := B.bytes
  have hr := B.returns
  have hts0 := atoms_spec (ws := (Cond.code yX6_putsBack cX6_putsBack 2 none :: wT)) B.pre
  have hts := fun w h => hts0 w (List.mem_cons_of_mem _ h)
  clear hts0
  have hown : s.vm.findClass RX6 = some m.cls := findClass_of_methodNamed B.named
  have hlocks := B.notSynchronized
  subst hsz
  have hD := hD0.self (sz := s.heap.size)
  generalize hAe : va_A (cM cyI a v) s.heap.size = A at hD ⊢
  have hA : ∀ q : Nat, s.heap.size ≤ q → A q := fun q h => by rw [← hAe]; exact Or.inr h
  clear hD0
  have hS : va_S A s.heap s.heap [] := va_S.rf
  have hl := lv_entry [.ref (a 0)] (n := 2) (Nat.le_of_ble_eq_true rfl)
  rw [lg_entry_eq]
  generalize (lg_sl [.ref (a 0)] ++ List.replicate (2 - (lg_sl [.ref (a 0)]).length) Slot.unset).toArray = ls at hl ⊢
  have hl : lv_has ls 2 [(0, .ref (a 0))] := hl
  unfold f_X6_putsBack at hF
  refine lv_iconst (v := 0) hx hb dX6_putsBack_0 (by decide) ?_
  refine lv_istore_n (lv' := [(1, .int (0 : Int32)), (0, .ref (a 0))]) hx hb dX6_putsBack_1 rfl hl (by decide) rfl (fun ls hl => ?_)
  obtain ⟨st2, hst2, hF⟩ := lpN_use hF
  have hL2 : ∀ (n : Nat) (s2 : Int32 × MV) (H : Heap) (locs : List Loc) (ls : Array Slot), va_P (dC, dI) vwCl (cM cyI a s2.2) H → va_D A (cM cyI a s2.2) → va_S A s.heap H locs → lv_has ls 2 [(0, .ref (a 0)), (1, .int s2.1)] → lpN st2 n s2 = some out → W p l e (headSpec (Cond.code yX6_putsBack cX6_putsBack 2 none :: wT) ({ frames := 0, cells := 0, slots := 0, locals := 0 } : Room)).room s m ([.ref (a 0)] : List Value).toArray below meth c H locs 0 0 (MQ below (va_Qv (fun (u : MV) => u = out) (fun u t => va_P (dC, dI) vwCl (cM cyI a u) t.heap ∧ va_D A (cM cyI a u)) A) ([.ref (a 0)] : List Value).toArray s 0 0 A) (F0 m 2 ls []) := by
    intro n
    induction n with
    | zero => intro s2 H locs ls hP hD hS hl hF; exact lpN_0 hF
    | succ n ih2 =>
      intro s2 H locs ls hP hD hS hl hF
      have hF := (congrFun (congrFun hst2 s2) (lpN st2 n)).symm.trans (lpN_s hF)
      refine lv_iload_n hx hb dX6_putsBack_2 rfl (lv_at hl 1 rfl) ?_
      refine lv_bipush (v := 103) hx hb dX6_putsBack_3 (by decide) ?_
      refine lv_icmp_ge (tgt := 26) hx hb dX6_putsBack_5 (by decide) (fun c1 => ?_) (fun c1 => ?_)
      · have hF := itp c1 hF
        exact W.vret hx hb hr (fun t ht hW => ⟨⟨_, rfl, Option.some.inj hF, by rw [ht]; exact hP, hD⟩, hS.F ht⟩) hS.2.2 dX6_putsBack_26
      · have hF := itn c1 hF
        refine lv_aload_n hx hb dX6_putsBack_8 rfl (lv_at hl 0 rfl) ?_
        refine va_get (D := (dC, dI)) (ci := 6) (v := .ref (a 1)) (C := RX6) (T := TX6) (N := 23) hx hb hts inX6 hown hK.1 hP 0 rfl rfl 1 (by decide) (hts _ w_fieldLink_X6_7) (fun _ h9 => h9) rfl dX6_putsBack_9 ?_
        refine lv_iload_n hx hb dX6_putsBack_12 rfl (lv_at hl 1 rfl) ?_
        refine lv_aload_n hx hb dX6_putsBack_13 rfl (lv_at hl 0 rfl) ?_
        refine va_get (D := (dC, dI)) (ci := 6) (v := .ref (a 2)) (C := RX6) (T := TX6) (N := 23) hx hb hts inX6 hown hK.1 hP 0 rfl rfl 2 (by decide) (hts _ w_fieldLink_X6_13) (fun _ h9 => h9) rfl dX6_putsBack_14 ?_
        refine lv_iload_n hx hb dX6_putsBack_17 rfl (lv_at hl 1 rfl) ?_
        obtain ⟨hg2, hF⟩ := gd_use hF
        refine va_iald hx hb hK.1 hP 2 0 rfl rfl (i := s2.1) hg2 dX6_putsBack_18 ?_
        obtain ⟨hg3, hF⟩ := gd_use hF
        refine va_iast hx hb hK.1 hP hD hS 1 0 rfl rfl (i := s2.1) (x := ((M_aside s2.2) s2.1.toNatClampNeg)) hg3 dX6_putsBack_19 (fun H locs hP hD hS => ?_)
        have hP : va_P (dC, dI) vwCl (cM cyI a (M_set_s s2.2 (upd (M_s s2.2) s2.1.toNatClampNeg ((M_aside s2.2) s2.1.toNatClampNeg)))) H := hP
        have hD : va_D A (cM cyI a (M_set_s s2.2 (upd (M_s s2.2) s2.1.toNatClampNeg ((M_aside s2.2) s2.1.toNatClampNeg)))) := hD
        refine lv_iinc (v := (s2.1 + (1 : Int32))) (lv' := [(1, .int (s2.1 + (1 : Int32))), (0, .ref (a 0))]) hx hb dX6_putsBack_20 hl (k := 1) rfl rfl (by decide) rfl (fun ls hl => ?_)
        refine lv_goto (tgt := 2) hx hb dX6_putsBack_23 (by decide) ?_
        exact ih2 ((s2.1 + (1 : Int32)), (M_set_s s2.2 (upd (M_s s2.2) s2.1.toNatClampNeg ((M_aside s2.2) s2.1.toNatClampNeg)))) _ _ _ hP hD hS (lv_sub hl [1, 0] rfl) hF
  exact hL2 N ((0 : Int32), v) _ _ _ hP hD hS (lv_sub hl [1, 0] rfl) hF
theorem dX6_thingAt_0 : decode cX6_thingAt 0 = .ok (.aload_n 0, 1) := by decide +kernel
theorem dX6_thingAt_1 : decode cX6_thingAt 1 = .ok (.getfield 7, 3) := by decide +kernel
theorem dX6_thingAt_4 : decode cX6_thingAt 4 = .ok (.iconst 0, 1) := by decide +kernel
theorem dX6_thingAt_5 : decode cX6_thingAt 5 = .ok (.iaload, 1) := by decide +kernel
theorem dX6_thingAt_6 : decode cX6_thingAt 6 = .ok (.iconst 1, 1) := by decide +kernel
theorem dX6_thingAt_7 : decode cX6_thingAt 7 = .ok (.if_icmp .ne 28, 3) := by decide +kernel
theorem dX6_thingAt_10 : decode cX6_thingAt 10 = .ok (.aload_n 0, 1) := by decide +kernel
theorem dX6_thingAt_11 : decode cX6_thingAt 11 = .ok (.getfield 7, 3) := by decide +kernel
theorem dX6_thingAt_14 : decode cX6_thingAt 14 = .ok (.iconst 1, 1) := by decide +kernel
theorem dX6_thingAt_15 : decode cX6_thingAt 15 = .ok (.iaload, 1) := by decide +kernel
theorem dX6_thingAt_16 : decode cX6_thingAt 16 = .ok (.iload_n 1, 1) := by decide +kernel
theorem dX6_thingAt_17 : decode cX6_thingAt 17 = .ok (.if_icmp .ne 18, 3) := by decide +kernel
theorem dX6_thingAt_20 : decode cX6_thingAt 20 = .ok (.aload_n 0, 1) := by decide +kernel
theorem dX6_thingAt_21 : decode cX6_thingAt 21 = .ok (.getfield 7, 3) := by decide +kernel
theorem dX6_thingAt_24 : decode cX6_thingAt 24 = .ok (.iconst 2, 1) := by decide +kernel
theorem dX6_thingAt_25 : decode cX6_thingAt 25 = .ok (.iaload, 1) := by decide +kernel
theorem dX6_thingAt_26 : decode cX6_thingAt 26 = .ok (.iload_n 2, 1) := by decide +kernel
theorem dX6_thingAt_27 : decode cX6_thingAt 27 = .ok (.if_icmp .ne 8, 3) := by decide +kernel
theorem dX6_thingAt_30 : decode cX6_thingAt 30 = .ok (.bipush 8, 2) := by decide +kernel
theorem dX6_thingAt_32 : decode cX6_thingAt 32 = .ok (.goto 4, 3) := by decide +kernel
theorem dX6_thingAt_35 : decode cX6_thingAt 35 = .ok (.iconst (-1), 1) := by decide +kernel
theorem dX6_thingAt_36 : decode cX6_thingAt 36 = .ok (.istore_n 3, 1) := by decide +kernel
theorem dX6_thingAt_37 : decode cX6_thingAt 37 = .ok (.iconst 0, 1) := by decide +kernel
theorem dX6_thingAt_38 : decode cX6_thingAt 38 = .ok (.istore 4, 2) := by decide +kernel
theorem dX6_thingAt_40 : decode cX6_thingAt 40 = .ok (.iload 4, 2) := by decide +kernel
theorem dX6_thingAt_42 : decode cX6_thingAt 42 = .ok (.aload_n 0, 1) := by decide +kernel
theorem dX6_thingAt_43 : decode cX6_thingAt 43 = .ok (.getfield 7, 3) := by decide +kernel
theorem dX6_thingAt_46 : decode cX6_thingAt 46 = .ok (.iconst 3, 1) := by decide +kernel
theorem dX6_thingAt_47 : decode cX6_thingAt 47 = .ok (.iaload, 1) := by decide +kernel
theorem dX6_thingAt_48 : decode cX6_thingAt 48 = .ok (.if_icmp .ge 48, 3) := by decide +kernel
theorem dX6_thingAt_51 : decode cX6_thingAt 51 = .ok (.aload_n 0, 1) := by decide +kernel
theorem dX6_thingAt_52 : decode cX6_thingAt 52 = .ok (.iload 4, 2) := by decide +kernel
theorem dX6_thingAt_54 : decode cX6_thingAt 54 = .ok (.iconst 0, 1) := by decide +kernel
theorem dX6_thingAt_55 : decode cX6_thingAt 55 = .ok (.invokevirtual 42, 3) := by decide +kernel
theorem dX6_thingAt_58 : decode cX6_thingAt 58 = .ok (.ifCond .ne 30, 3) := by decide +kernel
theorem dX6_thingAt_61 : decode cX6_thingAt 61 = .ok (.aload_n 0, 1) := by decide +kernel
theorem dX6_thingAt_62 : decode cX6_thingAt 62 = .ok (.iload 4, 2) := by decide +kernel
theorem dX6_thingAt_64 : decode cX6_thingAt 64 = .ok (.iconst 1, 1) := by decide +kernel
theorem dX6_thingAt_65 : decode cX6_thingAt 65 = .ok (.invokevirtual 42, 3) := by decide +kernel
theorem dX6_thingAt_68 : decode cX6_thingAt 68 = .ok (.iload_n 1, 1) := by decide +kernel
theorem dX6_thingAt_69 : decode cX6_thingAt 69 = .ok (.if_icmp .ne 19, 3) := by decide +kernel
theorem dX6_thingAt_72 : decode cX6_thingAt 72 = .ok (.aload_n 0, 1) := by decide +kernel
theorem dX6_thingAt_73 : decode cX6_thingAt 73 = .ok (.iload 4, 2) := by decide +kernel
theorem dX6_thingAt_75 : decode cX6_thingAt 75 = .ok (.iconst 2, 1) := by decide +kernel
theorem dX6_thingAt_76 : decode cX6_thingAt 76 = .ok (.invokevirtual 42, 3) := by decide +kernel
theorem dX6_thingAt_79 : decode cX6_thingAt 79 = .ok (.iload_n 2, 1) := by decide +kernel
theorem dX6_thingAt_80 : decode cX6_thingAt 80 = .ok (.if_icmp .ne 8, 3) := by decide +kernel
theorem dX6_thingAt_83 : decode cX6_thingAt 83 = .ok (.iload 4, 2) := by decide +kernel
theorem dX6_thingAt_85 : decode cX6_thingAt 85 = .ok (.goto 4, 3) := by decide +kernel
theorem dX6_thingAt_88 : decode cX6_thingAt 88 = .ok (.iload_n 3, 1) := by decide +kernel
theorem dX6_thingAt_89 : decode cX6_thingAt 89 = .ok (.istore_n 3, 1) := by decide +kernel
theorem dX6_thingAt_90 : decode cX6_thingAt 90 = .ok (.iinc 4 1, 3) := by decide +kernel
theorem dX6_thingAt_93 : decode cX6_thingAt 93 = .ok (.goto (-53), 3) := by decide +kernel
theorem dX6_thingAt_96 : decode cX6_thingAt 96 = .ok (.iload_n 3, 1) := by decide +kernel
theorem dX6_thingAt_97 : decode cX6_thingAt 97 = .ok (.ireturn, 1) := by decide +kernel
def f_X6_thingAt (N : Nat) (v : MV) (p1 : Int32) (p2 : Int32) : Option (Int32) :=
  jn (fun (s36 : Int32) => lpN (fun (s40 : Int32 × Int32) (k40 : (Int32 × Int32) → Option (Int32)) => (if ((M_s v) (3 : Int32).toNatClampNeg) ≤ s40.2 then some s40.1 else (f_X6_of N v s40.2 (0 : Int32)).bind (fun o4 => jn (fun (s89 : Int32) => k40 (s89, (s40.2 + (1 : Int32)))) (fun (j89 : (Int32) → Option (Int32)) => jn (fun (s88 : Unit) => j89 s40.1) (fun (j88 : (Unit) → Option (Int32)) => (if o4 = 0 then (f_X6_of N v s40.2 (1 : Int32)).bind (fun o7 => (if o7 = p1 then (f_X6_of N v s40.2 (2 : Int32)).bind (fun o10 => (if o10 = p2 then j89 s40.2 else j88 ())) else j88 ())) else j88 ())))))) N (s36, (0 : Int32))) (fun (j36 : (Int32) → Option (Int32)) => jn (fun (s35 : Unit) => j36 (-1 : Int32)) (fun (j35 : (Unit) → Option (Int32)) => (if ((M_s v) (0 : Int32).toNatClampNeg) = (1 : Int32) then (if ((M_s v) (1 : Int32).toNatClampNeg) = p1 then (if ((M_s v) (2 : Int32).toNatClampNeg) = p2 then j36 (8 : Int32) else j35 ()) else j35 ()) else j35 ())))
set_option maxHeartbeats 4000000 in
set_option maxRecDepth 100000 in
theorem met_X6_thingAt (l : Launch) (dC : Nat → ClassId) (dI : Nat → Nat → Nat) (cyI cyO cyL : ClassId) (a : Nat → Nat) (N : Nat) (v : MV) (p1 : Int32) (p2 : Int32) (out : Int32) (hF : f_X6_thingAt N v p1 p2 = some out) : Met l yX6_thingAt (Cond.code yX6_thingAt cX6_thingAt 5 (some .int) :: wT) ({ frames := 1, cells := 0, slots := 0, locals := 22 } : Room) (wRd dC dI cyI cyO cyL [.ref (a 0), .int p1, .int p2] (cM cyI a v)) (va_Qi (fun (r : Int32) (_ : Unit) => r = out) (fun _ _ => True) wN0) 0 0 wN0 := by
  refine Met.ofW (cc := cX6_thingAt) (maxL := 5) (ret := (some .int)) (by decide) rfl ?_
  intro p e s m args below meth c s₁ B hml hv
  obtain ⟨rfl, hP, hK⟩ := hv
  have hx := B.exec
  have hb := B.bytes
  have hr := B.returns
  have hts0 := atoms_spec (ws := (Cond.code yX6_thingAt cX6_thingAt 5 (some .int) :: wT)) B.pre
  have hts := fun w h => hts0 w (List.mem_cons_of_mem _ h)
  clear hts0
  have hown : s.vm.findClass RX6 = some m.cls := findClass_of_methodNamed B.named
  have hlocks := B.notSynchronized
  have hS : va_S wN0 s.heap s.heap [] := va_S.rf
  have hl := lv_entry [.ref (a 0), .int p1, .int p2] (n := 5) (Nat.le_of_ble_eq_true rfl)
  rw [lg_entry_eq]
  generalize (lg_sl [.ref (a 0), .int p1, .int p2] ++ List.replicate (5 - (lg_sl [.ref (a 0), .int p1, .int p2]).length) Slot.unset).toArray = ls at hl ⊢
  have hl : lv_has ls 5 [(0, .ref (a 0)), (1, .int p1), (2, .int p2)] := hl
  unfold f_X6_thingAt at hF
  refine lv_aload_n hx hb dX6_thingAt_0 rfl (lv_at hl 0 rfl) ?_
  refine va_get (D := (dC, dI)) (ci := 6) (v := .ref (a 1)) (C := RX6) (T := TX6) (N := 23) hx hb hts inX6 hown hK.1 hP 0 rfl rfl 1 (by decide) (hts _ w_fieldLink_X6_7) (fun _ h9 => h9) rfl dX6_thingAt_1 ?_
  refine lv_iconst (v := 0) hx hb dX6_thingAt_4 (by decide) ?_
  refine va_iald hx hb hK.1 hP 1 0 rfl rfl (i := (0 : Int32)) (show ixok (0 : Int32) 103 by decide) dX6_thingAt_5 ?_
  refine lv_iconst (v := 1) hx hb dX6_thingAt_6 (by decide) ?_
  obtain ⟨j36, hj36, hF⟩ := jn_use hF
  have hJ36 : ∀ (s36 : Int32) (H : Heap) (locs : List Loc) (ls : Array Slot), va_P (dC, dI) vwCl (cM cyI a v) H → va_S wN0 s.heap H locs → lv_has ls 5 [(0, .ref (a 0)), (1, .int p1), (2, .int p2)] → j36 s36 = some out → W p l e (headSpec (Cond.code yX6_thingAt cX6_thingAt 5 (some .int) :: wT) ({ frames := 1, cells := 0, slots := 0, locals := 22 } : Room)).room s m ([.ref (a 0), .int p1, .int p2] : List Value).toArray below meth c H locs 0 0 (MQ below (va_Qi (fun (r : Int32) (_ : Unit) => r = out) (fun _ _ => True) wN0) ([.ref (a 0), .int p1, .int p2] : List Value).toArray s 0 0 wN0) (F0 m 36 ls [.int s36]) := by
    intro s36 H locs ls hP hS hl hF
    have hF := (congrFun hj36 s36).symm.trans hF
    refine lv_istore_n (lv' := [(3, .int s36), (0, .ref (a 0)), (1, .int p1), (2, .int p2)]) hx hb dX6_thingAt_36 rfl hl (by decide) rfl (fun ls hl => ?_)
    refine lv_iconst (v := 0) hx hb dX6_thingAt_37 (by decide) ?_
    refine lv_istore (lv' := [(4, .int (0 : Int32)), (3, .int s36), (0, .ref (a 0)), (1, .int p1), (2, .int p2)]) hx hb dX6_thingAt_38 hl (by decide) rfl (fun ls hl => ?_)
    obtain ⟨st40, hst40, hF⟩ := lpN_use hF
    have hL40 : ∀ (n : Nat) (s40 : Int32 × Int32) (H : Heap) (locs : List Loc) (ls : Array Slot), va_P (dC, dI) vwCl (cM cyI a v) H → va_S wN0 s.heap H locs → lv_has ls 5 [(0, .ref (a 0)), (1, .int p1), (2, .int p2), (3, .int s40.1), (4, .int s40.2)] → lpN st40 n s40 = some out → W p l e (headSpec (Cond.code yX6_thingAt cX6_thingAt 5 (some .int) :: wT) ({ frames := 1, cells := 0, slots := 0, locals := 22 } : Room)).room s m ([.ref (a 0), .int p1, .int p2] : List Value).toArray below meth c H locs 0 0 (MQ below (va_Qi (fun (r : Int32) (_ : Unit) => r = out) (fun _ _ => True) wN0) ([.ref (a 0), .int p1, .int p2] : List Value).toArray s 0 0 wN0) (F0 m 40 ls []) := by
      intro n
      induction n with
      | zero => intro s40 H locs ls hP hS hl hF; exact lpN_0 hF
      | succ n ih40 =>
        intro s40 H locs ls hP hS hl hF
        have hF := (congrFun (congrFun hst40 s40) (lpN st40 n)).symm.trans (lpN_s hF)
        refine lv_iload hx hb dX6_thingAt_40 (lv_at hl 4 rfl) ?_
        refine lv_aload_n hx hb dX6_thingAt_42 rfl (lv_at hl 0 rfl) ?_
        refine va_get (D := (dC, dI)) (ci := 6) (v := .ref (a 1)) (C := RX6) (T := TX6) (N := 23) hx hb hts inX6 hown hK.1 hP 0 rfl rfl 1 (by decide) (hts _ w_fieldLink_X6_7) (fun _ h9 => h9) rfl dX6_thingAt_43 ?_
        refine lv_iconst (v := 3) hx hb dX6_thingAt_46 (by decide) ?_
        refine va_iald hx hb hK.1 hP 1 0 rfl rfl (i := (3 : Int32)) (show ixok (3 : Int32) 103 by decide) dX6_thingAt_47 ?_
        refine lv_icmp_ge (tgt := 96) hx hb dX6_thingAt_48 (by decide) (fun c3 => ?_) (fun c3 => ?_)
        · have hF := itp c3 hF
          refine lv_iload_n hx hb dX6_thingAt_96 rfl (lv_at hl 3 rfl) ?_
          exact W.iret (v := s40.1) hx hb hr (fun t ht hW => ⟨⟨_, (), rfl, Option.some.inj hF, trivial⟩, hS.F ht⟩) hS.2.2 dX6_thingAt_97
        · have hF := itn c3 hF
          refine lv_aload_n hx hb dX6_thingAt_51 rfl (lv_at hl 0 rfl) ?_
          refine lv_iload hx hb dX6_thingAt_52 (lv_at hl 4 rfl) ?_
          refine lv_iconst (v := 0) hx hb dX6_thingAt_54 (by decide) ?_
          obtain ⟨o4, h5, hF⟩ := obd hF
          refine wcRVi (As := [.int s40.2, .int (0 : Int32)]) (rest := []) (b := (a 0)) ⟨hx, hb, hml, hown, hts⟩ (met_X6_of l dC dI cyI cyO cyL a N v s40.2 (0 : Int32) o4 h5) (cwV 2 hts (gV w_methodLink_X6_42 w_instanceMethod_X6_of w_selects_X6_of w_initialized_X6 w_code_X6_of) rfl rfl rfl (by decide +kernel) ⟨Nat.le_of_ble_eq_true rfl, Nat.le_of_ble_eq_true rfl⟩) (va_recv hK.1 hP (ci := 6) (q0 := 0) rfl rfl) hP hK [0, 1, 2, 3, 4, 5, 6, 7] rfl rfl hl.1 (Nat.le_of_ble_eq_true rfl) dX6_thingAt_55 ⟨Nat.le_of_ble_eq_true rfl, Nat.le_of_ble_eq_true rfl⟩ hS (fun r H locs hw hP hS => ?_)
          have hw := hw.symm
          subst hw
          obtain ⟨j89, hj89, hF⟩ := jn_use hF
          have hJ89 : ∀ (s89 : Int32) (H : Heap) (locs : List Loc) (ls : Array Slot), va_P (dC, dI) vwCl (cM cyI a v) H → va_S wN0 s.heap H locs → lv_has ls 5 [(0, .ref (a 0)), (1, .int p1), (2, .int p2), (4, .int s40.2)] → j89 s89 = some out → W p l e (headSpec (Cond.code yX6_thingAt cX6_thingAt 5 (some .int) :: wT) ({ frames := 1, cells := 0, slots := 0, locals := 22 } : Room)).room s m ([.ref (a 0), .int p1, .int p2] : List Value).toArray below meth c H locs 0 0 (MQ below (va_Qi (fun (r : Int32) (_ : Unit) => r = out) (fun _ _ => True) wN0) ([.ref (a 0), .int p1, .int p2] : List Value).toArray s 0 0 wN0) (F0 m 89 ls [.int s89]) := by
            intro s89 H locs ls hP hS hl hF
            have hF := (congrFun hj89 s89).symm.trans hF
            refine lv_istore_n (lv' := [(3, .int s89), (0, .ref (a 0)), (1, .int p1), (2, .int p2), (4, .int s40.2)]) hx hb dX6_thingAt_89 rfl hl (by decide) rfl (fun ls hl => ?_)
            refine lv_iinc (v := (s40.2 + (1 : Int32))) (lv' := [(4, .int (s40.2 + (1 : Int32))), (3, .int s89), (0, .ref (a 0)), (1, .int p1), (2, .int p2)]) hx hb dX6_thingAt_90 hl (k := 4) rfl rfl (by decide) rfl (fun ls hl => ?_)
            refine lv_goto (tgt := 40) hx hb dX6_thingAt_93 (by decide) ?_
            exact ih40 (s89, (s40.2 + (1 : Int32))) _ _ _ hP hS (lv_sub hl [2, 3, 4, 1, 0] rfl) hF
          obtain ⟨j88, hj88, hF⟩ := jn_use hF
          have hJ88 : ∀ (s88 : Unit) (H : Heap) (locs : List Loc) (ls : Array Slot), va_P (dC, dI) vwCl (cM cyI a v) H → va_S wN0 s.heap H locs → lv_has ls 5 [(0, .ref (a 0)), (1, .int p1), (2, .int p2), (3, .int s40.1), (4, .int s40.2)] → j88 s88 = some out → W p l e (headSpec (Cond.code yX6_thingAt cX6_thingAt 5 (some .int) :: wT) ({ frames := 1, cells := 0, slots := 0, locals := 22 } : Room)).room s m ([.ref (a 0), .int p1, .int p2] : List Value).toArray below meth c H locs 0 0 (MQ below (va_Qi (fun (r : Int32) (_ : Unit) => r = out) (fun _ _ => True) wN0) ([.ref (a 0), .int p1, .int p2] : List Value).toArray s 0 0 wN0) (F0 m 88 ls []) := by
            intro s88 H locs ls hP hS hl hF
            have hF := (congrFun hj88 s88).symm.trans hF
            refine lv_iload_n hx hb dX6_thingAt_88 rfl (lv_at hl 3 rfl) ?_
            exact hJ89 s40.1 _ _ _ hP hS (lv_sub hl [0, 1, 2, 4] rfl) hF
          refine lv_if_ne (tgt := 88) hx hb dX6_thingAt_58 (by decide) (fun c6 => ?_) (fun c6 => ?_)
          · have hF := itn c6 hF
            exact hJ88 () _ _ _ hP hS (lv_sub hl [0, 1, 2, 3, 4] rfl) hF
          · have hF := itp c6 hF
            refine lv_aload_n hx hb dX6_thingAt_61 rfl (lv_at hl 0 rfl) ?_
            refine lv_iload hx hb dX6_thingAt_62 (lv_at hl 4 rfl) ?_
            refine lv_iconst (v := 1) hx hb dX6_thingAt_64 (by decide) ?_
            obtain ⟨o7, h8, hF⟩ := obd hF
            refine wcRVi (As := [.int s40.2, .int (1 : Int32)]) (rest := []) (b := (a 0)) ⟨hx, hb, hml, hown, hts⟩ (met_X6_of l dC dI cyI cyO cyL a N v s40.2 (1 : Int32) o7 h8) (cwV 2 hts (gV w_methodLink_X6_42 w_instanceMethod_X6_of w_selects_X6_of w_initialized_X6 w_code_X6_of) rfl rfl rfl (by decide +kernel) ⟨Nat.le_of_ble_eq_true rfl, Nat.le_of_ble_eq_true rfl⟩) (va_recv hK.1 hP (ci := 6) (q0 := 0) rfl rfl) hP hK [0, 1, 2, 3, 4, 5, 6, 7] rfl rfl hl.1 (Nat.le_of_ble_eq_true rfl) dX6_thingAt_65 ⟨Nat.le_of_ble_eq_true rfl, Nat.le_of_ble_eq_true rfl⟩ hS (fun r H locs hw hP hS => ?_)
            have hw := hw.symm
            subst hw
            refine lv_iload_n hx hb dX6_thingAt_68 rfl (lv_at hl 1 rfl) ?_
            refine lv_icmp_ne (tgt := 88) hx hb dX6_thingAt_69 (by decide) (fun c9 => ?_) (fun c9 => ?_)
            · have hF := itn c9 hF
              exact hJ88 () _ _ _ hP hS (lv_sub hl [0, 1, 2, 3, 4] rfl) hF
            · have hF := itp c9 hF
              refine lv_aload_n hx hb dX6_thingAt_72 rfl (lv_at hl 0 rfl) ?_
              refine lv_iload hx hb dX6_thingAt_73 (lv_at hl 4 rfl) ?_
              refine lv_iconst (v := 2) hx hb dX6_thingAt_75 (by decide) ?_
              obtain ⟨o10, h11, hF⟩ := obd hF
              refine wcRVi (As := [.int s40.2, .int (2 : Int32)]) (rest := []) (b := (a 0)) ⟨hx, hb, hml, hown, hts⟩ (met_X6_of l dC dI cyI cyO cyL a N v s40.2 (2 : Int32) o10 h11) (cwV 2 hts (gV w_methodLink_X6_42 w_instanceMethod_X6_of w_selects_X6_of w_initialized_X6 w_code_X6_of) rfl rfl rfl (by decide +kernel) ⟨Nat.le_of_ble_eq_true rfl, Nat.le_of_ble_eq_true rfl⟩) (va_recv hK.1 hP (ci := 6) (q0 := 0) rfl rfl) hP hK [0, 1, 2, 3, 4, 5, 6, 7] rfl rfl hl.1 (Nat.le_of_ble_eq_true rfl) dX6_thingAt_76 ⟨Nat.le_of_ble_eq_true rfl, Nat.le_of_ble_eq_true rfl⟩ hS (fun r H locs hw hP hS => ?_)
              have hw := hw.symm
              subst hw
              refine lv_iload_n hx hb dX6_thingAt_79 rfl (lv_at hl 2 rfl) ?_
              refine lv_icmp_ne (tgt := 88) hx hb dX6_thingAt_80 (by decide) (fun c12 => ?_) (fun c12 => ?_)
              · have hF := itn c12 hF
                exact hJ88 () _ _ _ hP hS (lv_sub hl [0, 1, 2, 3, 4] rfl) hF
              · have hF := itp c12 hF
                refine lv_iload hx hb dX6_thingAt_83 (lv_at hl 4 rfl) ?_
                refine lv_goto (tgt := 89) hx hb dX6_thingAt_85 (by decide) ?_
                exact hJ89 s40.2 _ _ _ hP hS (lv_sub hl [0, 1, 2, 4] rfl) hF
    exact hL40 N (s36, (0 : Int32)) _ _ _ hP hS (lv_sub hl [2, 3, 4, 1, 0] rfl) hF
  obtain ⟨j35, hj35, hF⟩ := jn_use hF
  have hJ35 : ∀ (s35 : Unit) (H : Heap) (locs : List Loc) (ls : Array Slot), va_P (dC, dI) vwCl (cM cyI a v) H → va_S wN0 s.heap H locs → lv_has ls 5 [(0, .ref (a 0)), (1, .int p1), (2, .int p2)] → j35 s35 = some out → W p l e (headSpec (Cond.code yX6_thingAt cX6_thingAt 5 (some .int) :: wT) ({ frames := 1, cells := 0, slots := 0, locals := 22 } : Room)).room s m ([.ref (a 0), .int p1, .int p2] : List Value).toArray below meth c H locs 0 0 (MQ below (va_Qi (fun (r : Int32) (_ : Unit) => r = out) (fun _ _ => True) wN0) ([.ref (a 0), .int p1, .int p2] : List Value).toArray s 0 0 wN0) (F0 m 35 ls []) := by
    intro s35 H locs ls hP hS hl hF
    have hF := (congrFun hj35 s35).symm.trans hF
    refine lv_iconst (v := -1) hx hb dX6_thingAt_35 (by decide) ?_
    exact hJ36 (-1 : Int32) _ _ _ hP hS (lv_sub hl [0, 1, 2] rfl) hF
  refine lv_icmp_ne (tgt := 35) hx hb dX6_thingAt_7 (by decide) (fun c13 => ?_) (fun c13 => ?_)
  · have hF := itn c13 hF
    exact hJ35 () _ _ _ hP hS (lv_sub hl [0, 1, 2] rfl) hF
  · have hF := itp c13 hF
    refine lv_aload_n hx hb dX6_thingAt_10 rfl (lv_at hl 0 rfl) ?_
    refine va_get (D := (dC, dI)) (ci := 6) (v := .ref (a 1)) (C := RX6) (T := TX6) (N := 23) hx hb hts inX6 hown hK.1 hP 0 rfl rfl 1 (by decide) (hts _ w_fieldLink_X6_7) (fun _ h9 => h9) rfl dX6_thingAt_11 ?_
    refine lv_iconst (v := 1) hx hb dX6_thingAt_14 (by decide) ?_
    refine va_iald hx hb hK.1 hP 1 0 rfl rfl (i := (1 : Int32)) (show ixok (1 : Int32) 103 by decide) dX6_thingAt_15 ?_
    refine lv_iload_n hx hb dX6_thingAt_16 rfl (lv_at hl 1 rfl) ?_
    refine lv_icmp_ne (tgt := 35) hx hb dX6_thingAt_17 (by decide) (fun c15 => ?_) (fun c15 => ?_)
    · have hF := itn c15 hF
      exact hJ35 () _ _ _ hP hS (lv_sub hl [0, 1, 2] rfl) hF
    · have hF := itp c15 hF
      refine lv_aload_n hx hb dX6_thingAt_20 rfl (lv_at hl 0 rfl) ?_
      refine va_get (D := (dC, dI)) (ci := 6) (v := .ref (a 1)) (C := RX6) (T := TX6) (N := 23) hx hb hts inX6 hown hK.1 hP 0 rfl rfl 1 (by decide) (hts _ w_fieldLink_X6_7) (fun _ h9 => h9) rfl dX6_thingAt_21 ?_
      refine lv_iconst (v := 2) hx hb dX6_thingAt_24 (by decide) ?_
      refine va_iald hx hb hK.1 hP 1 0 rfl rfl (i := (2 : Int32)) (show ixok (2 : Int32) 103 by decide) dX6_thingAt_25 ?_
      refine lv_iload_n hx hb dX6_thingAt_26 rfl (lv_at hl 2 rfl) ?_
      refine lv_icmp_ne (tgt := 35) hx hb dX6_thingAt_27 (by decide) (fun c17 => ?_) (fun c17 => ?_)
      · have hF := itn c17 hF
        exact hJ35 () _ _ _ hP hS (lv_sub hl [0, 1, 2] rfl) hF
      · have hF := itp c17 hF
        refine lv_bipush (v := 8) hx hb dX6_thingAt_30 (by decide) ?_
        refine lv_goto (tgt := 36) hx hb dX6_thingAt_32 (by decide) ?_
        exact hJ36 (8 : Int32) _ _ _ hP hS (lv_sub hl [0, 1, 2] rfl) hF
theorem dX6_column_0 : decode cX6_column 0 = .ok (.sipush 1050, 3) := by decide +kernel
theorem dX6_column_3 : decode cX6_column 3 = .ok (.bipush 10, 2) := by decide +kernel
theorem dX6_column_5 : decode cX6_column 5 = .ok (.iload_n 0, 1) := by decide +kernel
theorem dX6_column_6 : decode cX6_column 6 = .ok (.imul, 1) := by decide +kernel
theorem dX6_column_7 : decode cX6_column 7 = .ok (.iload_n 1, 1) := by decide +kernel
theorem dX6_column_8 : decode cX6_column 8 = .ok (.imul, 1) := by decide +kernel
theorem dX6_column_9 : decode cX6_column 9 = .ok (.iadd, 1) := by decide +kernel
theorem dX6_column_10 : decode cX6_column 10 = .ok (.iload_n 2, 1) := by decide +kernel
theorem dX6_column_11 : decode cX6_column 11 = .ok (.iload_n 0, 1) := by decide +kernel
theorem dX6_column_12 : decode cX6_column 12 = .ok (.iload_n 0, 1) := by decide +kernel
theorem dX6_column_13 : decode cX6_column 13 = .ok (.iconst 1, 1) := by decide +kernel
theorem dX6_column_14 : decode cX6_column 14 = .ok (.iadd, 1) := by decide +kernel
theorem dX6_column_15 : decode cX6_column 15 = .ok (.imul, 1) := by decide +kernel
theorem dX6_column_16 : decode cX6_column 16 = .ok (.iconst 2, 1) := by decide +kernel
theorem dX6_column_17 : decode cX6_column 17 = .ok (.idiv, 1) := by decide +kernel
theorem dX6_column_18 : decode cX6_column 18 = .ok (.imul, 1) := by decide +kernel
theorem dX6_column_19 : decode cX6_column 19 = .ok (.iadd, 1) := by decide +kernel
theorem dX6_column_20 : decode cX6_column 20 = .ok (.istore_n 3, 1) := by decide +kernel
theorem dX6_column_21 : decode cX6_column 21 = .ok (.iload_n 3, 1) := by decide +kernel
theorem dX6_column_22 : decode cX6_column 22 = .ok (.ifCond .lt 10, 3) := by decide +kernel
theorem dX6_column_25 : decode cX6_column 25 = .ok (.iload_n 3, 1) := by decide +kernel
theorem dX6_column_26 : decode cX6_column 26 = .ok (.bipush 100, 2) := by decide +kernel
theorem dX6_column_28 : decode cX6_column 28 = .ok (.idiv, 1) := by decide +kernel
theorem dX6_column_29 : decode cX6_column 29 = .ok (.goto 11, 3) := by decide +kernel
theorem dX6_column_32 : decode cX6_column 32 = .ok (.bipush 99, 2) := by decide +kernel
theorem dX6_column_34 : decode cX6_column 34 = .ok (.iload_n 3, 1) := by decide +kernel
theorem dX6_column_35 : decode cX6_column 35 = .ok (.isub, 1) := by decide +kernel
theorem dX6_column_36 : decode cX6_column 36 = .ok (.bipush 100, 2) := by decide +kernel
theorem dX6_column_38 : decode cX6_column 38 = .ok (.idiv, 1) := by decide +kernel
theorem dX6_column_39 : decode cX6_column 39 = .ok (.ineg, 1) := by decide +kernel
theorem dX6_column_40 : decode cX6_column 40 = .ok (.ireturn, 1) := by decide +kernel
def f_X6_column (N : Nat) (p1 : Int32) (p2 : Int32) (p3 : Int32) : Option (Int32) :=
  jn (fun (s40 : Int32) => some s40) (fun (j40 : (Int32) → Option (Int32)) => (if (((1050 : Int32) + (((10 : Int32) * p1) * p2)) + (p3 * ((p1 * (p1 + (1 : Int32))) / (2 : Int32)))) < 0 then j40 (-(((99 : Int32) - (((1050 : Int32) + (((10 : Int32) * p1) * p2)) + (p3 * ((p1 * (p1 + (1 : Int32))) / (2 : Int32))))) / (100 : Int32))) else j40 ((((1050 : Int32) + (((10 : Int32) * p1) * p2)) + (p3 * ((p1 * (p1 + (1 : Int32))) / (2 : Int32)))) / (100 : Int32))))
set_option maxHeartbeats 4000000 in
set_option maxRecDepth 100000 in
theorem met_X6_column (l : Launch) (dC : Nat → ClassId) (dI : Nat → Nat → Nat) (cyI cyO cyL : ClassId)  (N : Nat) (p1 : Int32) (p2 : Int32) (p3 : Int32) (out : Int32) (hF : f_X6_column N p1 p2 p3 = some out) : Met l yX6_column (Cond.code yX6_column cX6_column 4 (some .int) :: wT) ({ frames := 0, cells := 0, slots := 0, locals := 0 } : Room) (wRd dC dI cyI cyO cyL [.int p1, .int p2, .int p3] ([] : va_W)) (va_Qi (fun (r : Int32) (_ : Unit) => r = out) (fun _ _ => True) wN0) 0 0 wN0 := by
  refine Met.ofW (cc := cX6_column) (maxL := 4) (ret := (some .int)) (by decide) rfl ?_
  intro p e s m args below meth c s₁ B hml hv
  obtain ⟨rfl, hP, hK⟩ := hv
  have hx := B.exec
  have hb := B.bytes
  have hr := B.returns
  have hts0 := atoms_spec (ws := (Cond.code yX6_column cX6_column 4 (some .int) :: wT)) B.pre
  have hts := fun w h => hts0 w (List.mem_cons_of_mem _ h)
  clear hts0
  have hown : s.vm.findClass RX6 = some m.cls := findClass_of_methodNamed B.named
  have hlocks := B.notSynchronized
  have hS : va_S wN0 s.heap s.heap [] := va_S.rf
  have hl := lv_entry [.int p1, .int p2, .int p3] (n := 4) (Nat.le_of_ble_eq_true rfl)
  rw [lg_entry_eq]
  generalize (lg_sl [.int p1, .int p2, .int p3] ++ List.replicate (4 - (lg_sl [.int p1, .int p2, .int p3]).length) Slot.unset).toArray = ls at hl ⊢
  have hl : lv_has ls 4 [(0, .int p1), (1, .int p2), (2, .int p3)] := hl
  unfold f_X6_column at hF
  refine lv_sipush (v := 1050) hx hb dX6_column_0 (by decide) ?_
  refine lv_bipush (v := 10) hx hb dX6_column_3 (by decide) ?_
  refine lv_iload_n hx hb dX6_column_5 rfl (lv_at hl 0 rfl) ?_
  refine lv_imul hx hb dX6_column_6 ?_
  refine lv_iload_n hx hb dX6_column_7 rfl (lv_at hl 1 rfl) ?_
  refine lv_imul hx hb dX6_column_8 ?_
  refine lv_iadd hx hb dX6_column_9 ?_
  refine lv_iload_n hx hb dX6_column_10 rfl (lv_at hl 2 rfl) ?_
  refine lv_iload_n hx hb dX6_column_11 rfl (lv_at hl 0 rfl) ?_
  refine lv_iload_n hx hb dX6_column_12 rfl (lv_at hl 0 rfl) ?_
  refine lv_iconst (v := 1) hx hb dX6_column_13 (by decide) ?_
  refine lv_iadd hx hb dX6_column_14 ?_
  refine lv_imul hx hb dX6_column_15 ?_
  refine lv_iconst (v := 2) hx hb dX6_column_16 (by decide) ?_
  refine lv_idiv hx hb dX6_column_17 (by decide) ?_
  refine lv_imul hx hb dX6_column_18 ?_
  refine lv_iadd hx hb dX6_column_19 ?_
  refine lv_istore_n (lv' := [(3, .int (((1050 : Int32) + (((10 : Int32) * p1) * p2)) + (p3 * ((p1 * (p1 + (1 : Int32))) / (2 : Int32))))), (0, .int p1), (1, .int p2), (2, .int p3)]) hx hb dX6_column_20 rfl hl (by decide) rfl (fun ls hl => ?_)
  refine lv_iload_n hx hb dX6_column_21 rfl (lv_at hl 0 rfl) ?_
  obtain ⟨j40, hj40, hF⟩ := jn_use hF
  have hJ40 : ∀ (s40 : Int32) (H : Heap) (locs : List Loc) (ls : Array Slot), va_P (dC, dI) vwCl ([] : va_W) H → va_S wN0 s.heap H locs → lv_has ls 4 [] → j40 s40 = some out → W p l e (headSpec (Cond.code yX6_column cX6_column 4 (some .int) :: wT) ({ frames := 0, cells := 0, slots := 0, locals := 0 } : Room)).room s m ([.int p1, .int p2, .int p3] : List Value).toArray below meth c H locs 0 0 (MQ below (va_Qi (fun (r : Int32) (_ : Unit) => r = out) (fun _ _ => True) wN0) ([.int p1, .int p2, .int p3] : List Value).toArray s 0 0 wN0) (F0 m 40 ls [.int s40]) := by
    intro s40 H locs ls hP hS hl hF
    have hF := (congrFun hj40 s40).symm.trans hF
    exact W.iret (v := s40) hx hb hr (fun t ht hW => ⟨⟨_, (), rfl, Option.some.inj hF, trivial⟩, hS.F ht⟩) hS.2.2 dX6_column_40
  refine lv_if_lt (tgt := 32) hx hb dX6_column_22 (by decide) (fun c1 => ?_) (fun c1 => ?_)
  · have hF := itp c1 hF
    refine lv_bipush (v := 99) hx hb dX6_column_32 (by decide) ?_
    refine lv_iload_n hx hb dX6_column_34 rfl (lv_at hl 0 rfl) ?_
    refine lv_isub hx hb dX6_column_35 ?_
    refine lv_bipush (v := 100) hx hb dX6_column_36 (by decide) ?_
    refine lv_idiv hx hb dX6_column_38 (by decide) ?_
    refine lv_ineg hx hb dX6_column_39 ?_
    exact hJ40 (-(((99 : Int32) - (((1050 : Int32) + (((10 : Int32) * p1) * p2)) + (p3 * ((p1 * (p1 + (1 : Int32))) / (2 : Int32))))) / (100 : Int32))) _ _ _ hP hS (lv_sub hl [] rfl) hF
  · have hF := itn c1 hF
    refine lv_iload_n hx hb dX6_column_25 rfl (lv_at hl 0 rfl) ?_
    refine lv_bipush (v := 100) hx hb dX6_column_26 (by decide) ?_
    refine lv_idiv hx hb dX6_column_28 (by decide) ?_
    refine lv_goto (tgt := 40) hx hb dX6_column_29 (by decide) ?_
    exact hJ40 ((((1050 : Int32) + (((10 : Int32) * p1) * p2)) + (p3 * ((p1 * (p1 + (1 : Int32))) / (2 : Int32)))) / (100 : Int32)) _ _ _ hP hS (lv_sub hl [] rfl) hF
theorem dX6_lies_0 : decode cX6_lies 0 = .ok (.iload_n 1, 1) := by decide +kernel
theorem dX6_lies_1 : decode cX6_lies 1 = .ok (.bipush 8, 2) := by decide +kernel
theorem dX6_lies_3 : decode cX6_lies 3 = .ok (.if_icmp .ne 13, 3) := by decide +kernel
theorem dX6_lies_6 : decode cX6_lies 6 = .ok (.aload_n 0, 1) := by decide +kernel
theorem dX6_lies_7 : decode cX6_lies 7 = .ok (.getfield 7, 3) := by decide +kernel
theorem dX6_lies_10 : decode cX6_lies 10 = .ok (.iconst 1, 1) := by decide +kernel
theorem dX6_lies_11 : decode cX6_lies 11 = .ok (.iload_n 2, 1) := by decide +kernel
theorem dX6_lies_12 : decode cX6_lies 12 = .ok (.iastore, 1) := by decide +kernel
theorem dX6_lies_13 : decode cX6_lies 13 = .ok (.goto 41, 3) := by decide +kernel
theorem dX6_lies_16 : decode cX6_lies 16 = .ok (.aload_n 0, 1) := by decide +kernel
theorem dX6_lies_17 : decode cX6_lies 17 = .ok (.iload_n 1, 1) := by decide +kernel
theorem dX6_lies_18 : decode cX6_lies 18 = .ok (.iconst 1, 1) := by decide +kernel
theorem dX6_lies_19 : decode cX6_lies 19 = .ok (.iload_n 2, 1) := by decide +kernel
theorem dX6_lies_20 : decode cX6_lies 20 = .ok (.invokevirtual 46, 3) := by decide +kernel
theorem dX6_lies_23 : decode cX6_lies 23 = .ok (.aload_n 0, 1) := by decide +kernel
theorem dX6_lies_24 : decode cX6_lies 24 = .ok (.iload_n 1, 1) := by decide +kernel
theorem dX6_lies_25 : decode cX6_lies 25 = .ok (.iconst 0, 1) := by decide +kernel
theorem dX6_lies_26 : decode cX6_lies 26 = .ok (.iload_n 2, 1) := by decide +kernel
theorem dX6_lies_27 : decode cX6_lies 27 = .ok (.bipush 60, 2) := by decide +kernel
theorem dX6_lies_29 : decode cX6_lies 29 = .ok (.if_icmp .ge 7, 3) := by decide +kernel
theorem dX6_lies_32 : decode cX6_lies 32 = .ok (.iconst 0, 1) := by decide +kernel
theorem dX6_lies_33 : decode cX6_lies 33 = .ok (.goto 18, 3) := by decide +kernel
theorem dX6_lies_36 : decode cX6_lies 36 = .ok (.aload_n 0, 1) := by decide +kernel
theorem dX6_lies_37 : decode cX6_lies 37 = .ok (.iload_n 1, 1) := by decide +kernel
theorem dX6_lies_38 : decode cX6_lies 38 = .ok (.iconst 3, 1) := by decide +kernel
theorem dX6_lies_39 : decode cX6_lies 39 = .ok (.invokevirtual 42, 3) := by decide +kernel
theorem dX6_lies_42 : decode cX6_lies 42 = .ok (.iconst 1, 1) := by decide +kernel
theorem dX6_lies_43 : decode cX6_lies 43 = .ok (.if_icmp .ne 7, 3) := by decide +kernel
theorem dX6_lies_46 : decode cX6_lies 46 = .ok (.iconst 1, 1) := by decide +kernel
theorem dX6_lies_47 : decode cX6_lies 47 = .ok (.goto 4, 3) := by decide +kernel
theorem dX6_lies_50 : decode cX6_lies 50 = .ok (.iconst 2, 1) := by decide +kernel
theorem dX6_lies_51 : decode cX6_lies 51 = .ok (.invokevirtual 46, 3) := by decide +kernel
theorem dX6_lies_54 : decode cX6_lies 54 = .ok (.return_, 1) := by decide +kernel
def f_X6_lies (N : Nat) (v : MV) (p1 : Int32) (p2 : Int32) : Option (MV) :=
  jn (fun (s54 : MV) => some s54) (fun (j54 : (MV) → Option (MV)) => (if p1 = (8 : Int32) then j54 (M_set_s v (upd (M_s v) (1 : Int32).toNatClampNeg p2)) else (f_X6_sets N v p1 (1 : Int32) p2).bind (fun o2 => jn (fun (s51 : Int32) => (f_X6_sets N o2 p1 (0 : Int32) s51).bind (fun o4 => j54 o4)) (fun (j51 : (Int32) → Option (MV)) => (if (60 : Int32) ≤ p2 then (f_X6_of N o2 p1 (3 : Int32)).bind (fun o7 => (if o7 = (1 : Int32) then j51 (1 : Int32) else j51 (2 : Int32))) else j51 (0 : Int32))))))
set_option maxHeartbeats 4000000 in
set_option maxRecDepth 100000 in
theorem met_X6_lies (l : Launch) (dC : Nat → ClassId) (dI : Nat → Nat → Nat) (cyI cyO cyL : ClassId) (a : Nat → Nat) (sz : Nat) (N : Nat) (v : MV) (p1 : Int32) (p2 : Int32) (out : MV) (hF : f_X6_lies N v p1 p2 = some out) : Met l yX6_lies (Cond.code yX6_lies cX6_lies 3 none :: wT) ({ frames := 1, cells := 0, slots := 0, locals := 23 } : Room) (wWr dC dI cyI cyO cyL [.ref (a 0), .int p1, .int p2] (cM cyI a v) sz) (va_Qv (fun (u : MV) => u = out) (fun u t => va_P (dC, dI) vwCl (cM cyI a u) t.heap ∧ va_D (va_A (cM cyI a v) sz) (cM cyI a u)) (va_A (cM cyI a v) sz)) 0 0 (va_A (cM cyI a v) sz) := by
  refine Met.ofW (cc := cX6_lies) (maxL := 3) (ret := none) (by decide) rfl ?_
  intro p e s m args below meth c s₁ B hml hv
  obtain ⟨rfl, hsz, hP, hK, hD0⟩ := hv
  have hx := B.exec
  have hb := B.bytes
  have hr := B.returns
  have hts0 := atoms_spec (ws := (Cond.code yX6_lies cX6_lies 3 none :: wT)) B.pre
  have hts := fun w h => hts0 w (List.mem_cons_of_mem _ h)
  clear hts0
  have hown : s.vm.findClass RX6 = some m.cls := findClass_of_methodNamed B.named
  have hlocks := B.notSynchronized
  subst hsz
  have hD := hD0.self (sz := s.heap.size)
  generalize hAe : va_A (cM cyI a v) s.heap.size = A at hD ⊢
  have hA : ∀ q : Nat, s.heap.size ≤ q → A q := fun q h => by rw [← hAe]; exact Or.inr h
  clear hD0
  have hS : va_S A s.heap s.heap [] := va_S.rf
  have hl := lv_entry [.ref (a 0), .int p1, .int p2] (n := 3) (Nat.le_of_ble_eq_true rfl)
  rw [lg_entry_eq]
  generalize (lg_sl [.ref (a 0), .int p1, .int p2] ++ List.replicate (3 - (lg_sl [.ref (a 0), .int p1, .int p2]).length) Slot.unset).toArray = ls at hl ⊢
  have hl : lv_has ls 3 [(0, .ref (a 0)), (1, .int p1), (2, .int p2)] := hl
  unfold f_X6_lies at hF
  refine lv_iload_n hx hb dX6_lies_0 rfl (lv_at hl 1 rfl) ?_
  refine lv_bipush (v := 8) hx hb dX6_lies_1 (by decide) ?_
  obtain ⟨j54, hj54, hF⟩ := jn_use hF
  have hJ54 : ∀ (s54 : MV) (H : Heap) (locs : List Loc) (ls : Array Slot), va_P (dC, dI) vwCl (cM cyI a s54) H → va_D A (cM cyI a s54) → va_S A s.heap H locs → lv_has ls 3 [] → j54 s54 = some out → W p l e (headSpec (Cond.code yX6_lies cX6_lies 3 none :: wT) ({ frames := 1, cells := 0, slots := 0, locals := 23 } : Room)).room s m ([.ref (a 0), .int p1, .int p2] : List Value).toArray below meth c H locs 0 0 (MQ below (va_Qv (fun (u : MV) => u = out) (fun u t => va_P (dC, dI) vwCl (cM cyI a u) t.heap ∧ va_D A (cM cyI a u)) A) ([.ref (a 0), .int p1, .int p2] : List Value).toArray s 0 0 A) (F0 m 54 ls []) := by
    intro s54 H locs ls hP hD hS hl hF
    have hF := (congrFun hj54 s54).symm.trans hF
    exact W.vret hx hb hr (fun t ht hW => ⟨⟨_, rfl, Option.some.inj hF, by rw [ht]; exact hP, hD⟩, hS.F ht⟩) hS.2.2 dX6_lies_54
  refine lv_icmp_ne (tgt := 16) hx hb dX6_lies_3 (by decide) (fun c1 => ?_) (fun c1 => ?_)
  · have hF := itn c1 hF
    refine lv_aload_n hx hb dX6_lies_16 rfl (lv_at hl 0 rfl) ?_
    refine lv_iload_n hx hb dX6_lies_17 rfl (lv_at hl 1 rfl) ?_
    refine lv_iconst (v := 1) hx hb dX6_lies_18 (by decide) ?_
    refine lv_iload_n hx hb dX6_lies_19 rfl (lv_at hl 2 rfl) ?_
    obtain ⟨o2, h3, hF⟩ := obd hF
    refine wcWVv (As := [.int p1, .int (1 : Int32), .int p2]) (rest := []) (wr := []) (b := (a 0)) ⟨hx, hb, hml, hown, hts⟩ (met_X6_sets l dC dI cyI cyO cyL a _ N v p1 (1 : Int32) p2 o2 h3) (cwV 3 hts (gV w_methodLink_X6_46 w_instanceMethod_X6_sets w_selects_X6_sets w_initialized_X6 w_code_X6_sets) rfl rfl rfl (by decide +kernel) ⟨Nat.le_of_ble_eq_true rfl, Nat.le_of_ble_eq_true rfl⟩) (va_recv hK.1 hP (ci := 6) (q0 := 0) rfl rfl) hP hD hK [0, 1, 2, 3, 4, 5, 6, 7] [] rfl rfl (by decide) (by decide) (by decide) rfl hl.1 (Nat.le_of_ble_eq_true rfl) dX6_lies_20 ⟨Nat.le_of_ble_eq_true rfl, Nat.le_of_ble_eq_true rfl⟩ hS hA (fun u H locs hw hP hD hS => ?_)
    have hw := hw.symm
    subst hw
    have hP : va_P (dC, dI) vwCl (cM cyI a o2) H := hP
    have hD : va_D A (cM cyI a o2) := hD
    refine lv_aload_n hx hb dX6_lies_23 rfl (lv_at hl 0 rfl) ?_
    refine lv_iload_n hx hb dX6_lies_24 rfl (lv_at hl 1 rfl) ?_
    refine lv_iconst (v := 0) hx hb dX6_lies_25 (by decide) ?_
    refine lv_iload_n hx hb dX6_lies_26 rfl (lv_at hl 2 rfl) ?_
    refine lv_bipush (v := 60) hx hb dX6_lies_27 (by decide) ?_
    obtain ⟨j51, hj51, hF⟩ := jn_use hF
    have hJ51 : ∀ (s51 : Int32) (H : Heap) (locs : List Loc) (ls : Array Slot), va_P (dC, dI) vwCl (cM cyI a o2) H → va_D A (cM cyI a o2) → va_S A s.heap H locs → lv_has ls 3 [] → j51 s51 = some out → W p l e (headSpec (Cond.code yX6_lies cX6_lies 3 none :: wT) ({ frames := 1, cells := 0, slots := 0, locals := 23 } : Room)).room s m ([.ref (a 0), .int p1, .int p2] : List Value).toArray below meth c H locs 0 0 (MQ below (va_Qv (fun (u : MV) => u = out) (fun u t => va_P (dC, dI) vwCl (cM cyI a u) t.heap ∧ va_D A (cM cyI a u)) A) ([.ref (a 0), .int p1, .int p2] : List Value).toArray s 0 0 A) (F0 m 51 ls [.int s51, .int (0 : Int32), .int p1, .ref (a 0)]) := by
      intro s51 H locs ls hP hD hS hl hF
      have hF := (congrFun hj51 s51).symm.trans hF
      obtain ⟨o4, h5, hF⟩ := obd hF
      refine wcWVv (As := [.int p1, .int (0 : Int32), .int s51]) (rest := []) (wr := []) (b := (a 0)) ⟨hx, hb, hml, hown, hts⟩ (met_X6_sets l dC dI cyI cyO cyL a _ N o2 p1 (0 : Int32) s51 o4 h5) (cwV 3 hts (gV w_methodLink_X6_46 w_instanceMethod_X6_sets w_selects_X6_sets w_initialized_X6 w_code_X6_sets) rfl rfl rfl (by decide +kernel) ⟨Nat.le_of_ble_eq_true rfl, Nat.le_of_ble_eq_true rfl⟩) (va_recv hK.1 hP (ci := 6) (q0 := 0) rfl rfl) hP hD hK [0, 1, 2, 3, 4, 5, 6, 7] [] rfl rfl (by decide) (by decide) (by decide) rfl hl.1 (Nat.le_of_ble_eq_true rfl) dX6_lies_51 ⟨Nat.le_of_ble_eq_true rfl, Nat.le_of_ble_eq_true rfl⟩ hS hA (fun u H locs hw hP hD hS => ?_)
      have hw := hw.symm
      subst hw
      have hP : va_P (dC, dI) vwCl (cM cyI a o4) H := hP
      have hD : va_D A (cM cyI a o4) := hD
      exact hJ54 o4 _ _ _ hP hD hS (lv_sub hl [] rfl) hF
    refine lv_icmp_ge (tgt := 36) hx hb dX6_lies_29 (by decide) (fun c6 => ?_) (fun c6 => ?_)
    · have hF := itp c6 hF
      refine lv_aload_n hx hb dX6_lies_36 rfl (lv_at hl 0 rfl) ?_
      refine lv_iload_n hx hb dX6_lies_37 rfl (lv_at hl 1 rfl) ?_
      refine lv_iconst (v := 3) hx hb dX6_lies_38 (by decide) ?_
      obtain ⟨o7, h8, hF⟩ := obd hF
      refine wcRVi (As := [.int p1, .int (3 : Int32)]) (rest := [.int (0 : Int32), .int p1, .ref (a 0)]) (b := (a 0)) ⟨hx, hb, hml, hown, hts⟩ (met_X6_of l dC dI cyI cyO cyL a N o2 p1 (3 : Int32) o7 h8) (cwV 2 hts (gV w_methodLink_X6_42 w_instanceMethod_X6_of w_selects_X6_of w_initialized_X6 w_code_X6_of) rfl rfl rfl (by decide +kernel) ⟨Nat.le_of_ble_eq_true rfl, Nat.le_of_ble_eq_true rfl⟩) (va_recv hK.1 hP (ci := 6) (q0 := 0) rfl rfl) hP hK [0, 1, 2, 3, 4, 5, 6, 7] rfl rfl hl.1 (Nat.le_of_ble_eq_true rfl) dX6_lies_39 ⟨Nat.le_of_ble_eq_true rfl, Nat.le_of_ble_eq_true rfl⟩ hS (fun r H locs hw hP hS => ?_)
      have hw := hw.symm
      subst hw
      refine lv_iconst (v := 1) hx hb dX6_lies_42 (by decide) ?_
      refine lv_icmp_ne (tgt := 50) hx hb dX6_lies_43 (by decide) (fun c9 => ?_) (fun c9 => ?_)
      · have hF := itn c9 hF
        refine lv_iconst (v := 2) hx hb dX6_lies_50 (by decide) ?_
        exact hJ51 (2 : Int32) _ _ _ hP hD hS (lv_sub hl [] rfl) hF
      · have hF := itp c9 hF
        refine lv_iconst (v := 1) hx hb dX6_lies_46 (by decide) ?_
        refine lv_goto (tgt := 51) hx hb dX6_lies_47 (by decide) ?_
        exact hJ51 (1 : Int32) _ _ _ hP hD hS (lv_sub hl [] rfl) hF
    · have hF := itn c6 hF
      refine lv_iconst (v := 0) hx hb dX6_lies_32 (by decide) ?_
      refine lv_goto (tgt := 51) hx hb dX6_lies_33 (by decide) ?_
      exact hJ51 (0 : Int32) _ _ _ hP hD hS (lv_sub hl [] rfl) hF
  · have hF := itp c1 hF
    refine lv_aload_n hx hb dX6_lies_6 rfl (lv_at hl 0 rfl) ?_
    refine va_get (D := (dC, dI)) (ci := 6) (v := .ref (a 1)) (C := RX6) (T := TX6) (N := 23) hx hb hts inX6 hown hK.1 hP 0 rfl rfl 1 (by decide) (hts _ w_fieldLink_X6_7) (fun _ h9 => h9) rfl dX6_lies_7 ?_
    refine lv_iconst (v := 1) hx hb dX6_lies_10 (by decide) ?_
    refine lv_iload_n hx hb dX6_lies_11 rfl (lv_at hl 2 rfl) ?_
    refine va_iast hx hb hK.1 hP hD hS 1 0 rfl rfl (i := (1 : Int32)) (x := p2) (show ixok (1 : Int32) 103 by decide) dX6_lies_12 (fun H locs hP hD hS => ?_)
    have hP : va_P (dC, dI) vwCl (cM cyI a (M_set_s v (upd (M_s v) (1 : Int32).toNatClampNeg p2))) H := hP
    have hD : va_D A (cM cyI a (M_set_s v (upd (M_s v) (1 : Int32).toNatClampNeg p2))) := hD
    refine lv_goto (tgt := 54) hx hb dX6_lies_13 (by decide) ?_
    exact hJ54 (M_set_s v (upd (M_s v) (1 : Int32).toNatClampNeg p2)) _ _ _ hP hD hS (lv_sub hl [] rfl) hF
theorem dX6_goesOn_0 : decode cX6_goesOn 0 = .ok (.iload_n 1, 1) := by decide +kernel
theorem dX6_goesOn_1 : decode cX6_goesOn 1 = .ok (.istore_n 3, 1) := by decide +kernel
theorem dX6_goesOn_2 : decode cX6_goesOn 2 = .ok (.iload_n 2, 1) := by decide +kernel
theorem dX6_goesOn_3 : decode cX6_goesOn 3 = .ok (.istore 4, 2) := by decide +kernel
theorem dX6_goesOn_5 : decode cX6_goesOn 5 = .ok (.aload_n 0, 1) := by decide +kernel
theorem dX6_goesOn_6 : decode cX6_goesOn 6 = .ok (.dup, 1) := by decide +kernel
theorem dX6_goesOn_7 : decode cX6_goesOn 7 = .ok (.getfield 50, 3) := by decide +kernel
theorem dX6_goesOn_10 : decode cX6_goesOn 10 = .ok (.iconst 1, 1) := by decide +kernel
theorem dX6_goesOn_11 : decode cX6_goesOn 11 = .ok (.iadd, 1) := by decide +kernel
theorem dX6_goesOn_12 : decode cX6_goesOn 12 = .ok (.putfield 50, 3) := by decide +kernel
theorem dX6_goesOn_15 : decode cX6_goesOn 15 = .ok (.iload 4, 2) := by decide +kernel
theorem dX6_goesOn_17 : decode cX6_goesOn 17 = .ok (.ifCond .le 127, 3) := by decide +kernel
theorem dX6_goesOn_20 : decode cX6_goesOn 20 = .ok (.iinc 4 (-1), 3) := by decide +kernel
theorem dX6_goesOn_23 : decode cX6_goesOn 23 = .ok (.iload_n 3, 1) := by decide +kernel
theorem dX6_goesOn_24 : decode cX6_goesOn 24 = .ok (.bipush 8, 2) := by decide +kernel
theorem dX6_goesOn_26 : decode cX6_goesOn 26 = .ok (.if_icmp .ne 12, 3) := by decide +kernel
theorem dX6_goesOn_29 : decode cX6_goesOn 29 = .ok (.aload_n 0, 1) := by decide +kernel
theorem dX6_goesOn_30 : decode cX6_goesOn 30 = .ok (.getfield 7, 3) := by decide +kernel
theorem dX6_goesOn_33 : decode cX6_goesOn 33 = .ok (.iconst 1, 1) := by decide +kernel
theorem dX6_goesOn_34 : decode cX6_goesOn 34 = .ok (.iaload, 1) := by decide +kernel
theorem dX6_goesOn_35 : decode cX6_goesOn 35 = .ok (.goto 9, 3) := by decide +kernel
theorem dX6_goesOn_38 : decode cX6_goesOn 38 = .ok (.aload_n 0, 1) := by decide +kernel
theorem dX6_goesOn_39 : decode cX6_goesOn 39 = .ok (.iload_n 3, 1) := by decide +kernel
theorem dX6_goesOn_40 : decode cX6_goesOn 40 = .ok (.iconst 1, 1) := by decide +kernel
theorem dX6_goesOn_41 : decode cX6_goesOn 41 = .ok (.invokevirtual 42, 3) := by decide +kernel
theorem dX6_goesOn_44 : decode cX6_goesOn 44 = .ok (.iconst 1, 1) := by decide +kernel
theorem dX6_goesOn_45 : decode cX6_goesOn 45 = .ok (.iadd, 1) := by decide +kernel
theorem dX6_goesOn_46 : decode cX6_goesOn 46 = .ok (.istore 5, 2) := by decide +kernel
theorem dX6_goesOn_48 : decode cX6_goesOn 48 = .ok (.iload_n 3, 1) := by decide +kernel
theorem dX6_goesOn_49 : decode cX6_goesOn 49 = .ok (.bipush 8, 2) := by decide +kernel
theorem dX6_goesOn_51 : decode cX6_goesOn 51 = .ok (.if_icmp .ne 12, 3) := by decide +kernel
theorem dX6_goesOn_54 : decode cX6_goesOn 54 = .ok (.aload_n 0, 1) := by decide +kernel
theorem dX6_goesOn_55 : decode cX6_goesOn 55 = .ok (.getfield 7, 3) := by decide +kernel
theorem dX6_goesOn_58 : decode cX6_goesOn 58 = .ok (.iconst 2, 1) := by decide +kernel
theorem dX6_goesOn_59 : decode cX6_goesOn 59 = .ok (.iaload, 1) := by decide +kernel
theorem dX6_goesOn_60 : decode cX6_goesOn 60 = .ok (.goto 9, 3) := by decide +kernel
theorem dX6_goesOn_63 : decode cX6_goesOn 63 = .ok (.aload_n 0, 1) := by decide +kernel
theorem dX6_goesOn_64 : decode cX6_goesOn 64 = .ok (.iload_n 3, 1) := by decide +kernel
theorem dX6_goesOn_65 : decode cX6_goesOn 65 = .ok (.iconst 2, 1) := by decide +kernel
theorem dX6_goesOn_66 : decode cX6_goesOn 66 = .ok (.invokevirtual 42, 3) := by decide +kernel
theorem dX6_goesOn_69 : decode cX6_goesOn 69 = .ok (.istore 6, 2) := by decide +kernel
theorem dX6_goesOn_71 : decode cX6_goesOn 71 = .ok (.iload 5, 2) := by decide +kernel
theorem dX6_goesOn_73 : decode cX6_goesOn 73 = .ok (.bipush 60, 2) := by decide +kernel
theorem dX6_goesOn_75 : decode cX6_goesOn 75 = .ok (.if_icmp .ne 7, 3) := by decide +kernel
theorem dX6_goesOn_78 : decode cX6_goesOn 78 = .ok (.iconst (-1), 1) := by decide +kernel
theorem dX6_goesOn_79 : decode cX6_goesOn 79 = .ok (.goto 11, 3) := by decide +kernel
theorem dX6_goesOn_82 : decode cX6_goesOn 82 = .ok (.aload_n 0, 1) := by decide +kernel
theorem dX6_goesOn_83 : decode cX6_goesOn 83 = .ok (.iload 5, 2) := by decide +kernel
theorem dX6_goesOn_85 : decode cX6_goesOn 85 = .ok (.iload 6, 2) := by decide +kernel
theorem dX6_goesOn_87 : decode cX6_goesOn 87 = .ok (.invokevirtual 53, 3) := by decide +kernel
theorem dX6_goesOn_90 : decode cX6_goesOn 90 = .ok (.istore 7, 2) := by decide +kernel
theorem dX6_goesOn_92 : decode cX6_goesOn 92 = .ok (.iload 7, 2) := by decide +kernel
theorem dX6_goesOn_94 : decode cX6_goesOn 94 = .ok (.ifCond .lt 25, 3) := by decide +kernel
theorem dX6_goesOn_97 : decode cX6_goesOn 97 = .ok (.iload 7, 2) := by decide +kernel
theorem dX6_goesOn_99 : decode cX6_goesOn 99 = .ok (.istore_n 3, 1) := by decide +kernel
theorem dX6_goesOn_100 : decode cX6_goesOn 100 = .ok (.iload 4, 2) := by decide +kernel
theorem dX6_goesOn_102 : decode cX6_goesOn 102 = .ok (.iconst 2, 1) := by decide +kernel
theorem dX6_goesOn_103 : decode cX6_goesOn 103 = .ok (.idiv, 1) := by decide +kernel
theorem dX6_goesOn_104 : decode cX6_goesOn 104 = .ok (.istore 4, 2) := by decide +kernel
theorem dX6_goesOn_106 : decode cX6_goesOn 106 = .ok (.aload_n 0, 1) := by decide +kernel
theorem dX6_goesOn_107 : decode cX6_goesOn 107 = .ok (.dup, 1) := by decide +kernel
theorem dX6_goesOn_108 : decode cX6_goesOn 108 = .ok (.getfield 50, 3) := by decide +kernel
theorem dX6_goesOn_111 : decode cX6_goesOn 111 = .ok (.iconst 1, 1) := by decide +kernel
theorem dX6_goesOn_112 : decode cX6_goesOn 112 = .ok (.iadd, 1) := by decide +kernel
theorem dX6_goesOn_113 : decode cX6_goesOn 113 = .ok (.putfield 50, 3) := by decide +kernel
theorem dX6_goesOn_116 : decode cX6_goesOn 116 = .ok (.goto 25, 3) := by decide +kernel
theorem dX6_goesOn_119 : decode cX6_goesOn 119 = .ok (.aload_n 0, 1) := by decide +kernel
theorem dX6_goesOn_120 : decode cX6_goesOn 120 = .ok (.iload_n 3, 1) := by decide +kernel
theorem dX6_goesOn_121 : decode cX6_goesOn 121 = .ok (.iload 5, 2) := by decide +kernel
theorem dX6_goesOn_123 : decode cX6_goesOn 123 = .ok (.invokevirtual 56, 3) := by decide +kernel
theorem dX6_goesOn_126 : decode cX6_goesOn 126 = .ok (.iload 5, 2) := by decide +kernel
theorem dX6_goesOn_128 : decode cX6_goesOn 128 = .ok (.bipush 60, 2) := by decide +kernel
theorem dX6_goesOn_130 : decode cX6_goesOn 130 = .ok (.if_icmp .ne 7, 3) := by decide +kernel
theorem dX6_goesOn_133 : decode cX6_goesOn 133 = .ok (.iconst 0, 1) := by decide +kernel
theorem dX6_goesOn_134 : decode cX6_goesOn 134 = .ok (.goto 5, 3) := by decide +kernel
theorem dX6_goesOn_137 : decode cX6_goesOn 137 = .ok (.iload 4, 2) := by decide +kernel
theorem dX6_goesOn_139 : decode cX6_goesOn 139 = .ok (.istore 4, 2) := by decide +kernel
theorem dX6_goesOn_141 : decode cX6_goesOn 141 = .ok (.goto (-126), 3) := by decide +kernel
theorem dX6_goesOn_144 : decode cX6_goesOn 144 = .ok (.return_, 1) := by decide +kernel
def f_X6_goesOn (N : Nat) (v : MV) (p1 : Int32) (p2 : Int32) : Option (MV) :=
  lpN (fun (s15 : Int32 × Int32 × MV) (k15 : (Int32 × Int32 × MV) → Option (MV)) => (if s15.2.1 ≤ 0 then some s15.2.2 else jn (fun (s44 : Int32) => jn (fun (s69 : Int32) => jn (fun (s90 : Int32) => jn (fun (s141 : Int32 × Int32 × MV) => k15 (s141.1, s141.2.1, s141.2.2)) (fun (j141 : (Int32 × Int32 × MV) → Option (MV)) => (if s90 < 0 then (f_X6_lies N s15.2.2 s15.1 (s44 + (1 : Int32))).bind (fun o3 => jn (fun (s139 : Int32) => j141 (s15.1, s139, o3)) (fun (j139 : (Int32) → Option (MV)) => (if (s44 + (1 : Int32)) = (60 : Int32) then j139 (0 : Int32) else j139 (s15.2.1 + (-1 : Int32))))) else j141 (s90, ((s15.2.1 + (-1 : Int32)) / (2 : Int32)), (M_set_strikes s15.2.2 ((M_strikes s15.2.2) + (1 : Int32))))))) (fun (j90 : (Int32) → Option (MV)) => (if (s44 + (1 : Int32)) = (60 : Int32) then j90 (-1 : Int32) else (f_X6_thingAt N s15.2.2 (s44 + (1 : Int32)) s69).bind (fun o7 => j90 o7)))) (fun (j69 : (Int32) → Option (MV)) => (if s15.1 = (8 : Int32) then j69 ((M_s s15.2.2) (2 : Int32).toNatClampNeg) else (f_X6_of N s15.2.2 s15.1 (2 : Int32)).bind (fun o10 => j69 o10)))) (fun (j44 : (Int32) → Option (MV)) => (if s15.1 = (8 : Int32) then j44 ((M_s s15.2.2) (1 : Int32).toNatClampNeg) else (f_X6_of N s15.2.2 s15.1 (1 : Int32)).bind (fun o14 => j44 o14))))) N (p1, p2, (M_set_strikes v ((M_strikes v) + (1 : Int32))))
set_option maxHeartbeats 4000000 in
set_option maxRecDepth 100000 in
theorem met_X6_goesOn (l : Launch) (dC : Nat → ClassId) (dI : Nat → Nat → Nat) (cyI cyO cyL : ClassId) (a : Nat → Nat) (sz : Nat) (N : Nat) (v : MV) (p1 : Int32) (p2 : Int32) (out : MV) (hF : f_X6_goesOn N v p1 p2 = some out) : Met l yX6_goesOn (Cond.code yX6_goesOn cX6_goesOn 8 none :: wT) ({ frames := 2, cells := 0, slots := 0, locals := 46 } : Room) (wWr dC dI cyI cyO cyL [.ref (a 0), .int p1, .int p2] (cM cyI a v) sz) (va_Qv (fun (u : MV) => u = out) (fun u t => va_P (dC, dI) vwCl (cM cyI a u) t.heap ∧ va_D (va_A (cM cyI a v) sz) (cM cyI a u)) (va_A (cM cyI a v) sz)) 0 0 (va_A (cM cyI a v) sz) := by
  refine Met.ofW (cc := cX6_goesOn) (maxL := 8) (ret := none) (by decide) rfl ?_
  intro p e s m args below meth c s₁ B hml hv
  obtain ⟨rfl, hsz, hP, hK, hD0⟩ := hv
  have hx := B.exec
  have hb := B.bytes
  have hr := B.returns
  have hts0 := atoms_spec (ws := (Cond.code yX6_goesOn cX6_goesOn 8 none :: wT)) B.pre
  have hts := fun w h => hts0 w (List.mem_cons_of_mem _ h)
  clear hts0
  have hown : s.vm.findClass RX6 = some m.cls := findClass_of_methodNamed B.named
  have hlocks := B.notSynchronized
  subst hsz
  have hD := hD0.self (sz := s.heap.size)
  generalize hAe : va_A (cM cyI a v) s.heap.size = A at hD ⊢
  have hA : ∀ q : Nat, s.heap.size ≤ q → A q := fun q h => by rw [← hAe]; exact Or.inr h
  clear hD0
  have hS : va_S A s.heap s.heap [] := va_S.rf
  have hl := lv_entry [.ref (a 0), .int p1, .int p2] (n := 8) (Nat.le_of_ble_eq_true rfl)
  rw [lg_entry_eq]
  generalize (lg_sl [.ref (a 0), .int p1, .int p2] ++ List.replicate (8 - (lg_sl [.ref (a 0), .int p1, .int p2]).length) Slot.unset).toArray = ls at hl ⊢
  have hl : lv_has ls 8 [(0, .ref (a 0)), (1, .int p1), (2, .int p2)] := hl
  unfold f_X6_goesOn at hF
  refine lv_iload_n hx hb dX6_goesOn_0 rfl (lv_at hl 1 rfl) ?_
  refine lv_istore_n (lv' := [(3, .int p1), (0, .ref (a 0)), (1, .int p1), (2, .int p2)]) hx hb dX6_goesOn_1 rfl hl (by decide) rfl (fun ls hl => ?_)
  refine lv_iload_n hx hb dX6_goesOn_2 rfl (lv_at hl 3 rfl) ?_
  refine lv_istore (lv' := [(4, .int p2), (3, .int p1), (0, .ref (a 0)), (1, .int p1), (2, .int p2)]) hx hb dX6_goesOn_3 hl (by decide) rfl (fun ls hl => ?_)
  refine lv_aload_n hx hb dX6_goesOn_5 rfl (lv_at hl 2 rfl) ?_
  refine lv_dup hx hb dX6_goesOn_6 rfl ?_
  refine va_get (D := (dC, dI)) (ci := 6) (v := .int (M_strikes v)) (C := RX6) (T := TX6) (N := 23) hx hb hts inX6 hown hK.1 hP 0 rfl rfl 10 (by decide) (hts _ w_fieldLink_X6_50) (fun _ h9 => h9) rfl dX6_goesOn_7 ?_
  refine lv_iconst (v := 1) hx hb dX6_goesOn_10 (by decide) ?_
  refine lv_iadd hx hb dX6_goesOn_11 ?_
  refine va_put (D := (dC, dI)) (ci := 6) (v := .int ((M_strikes v) + (1 : Int32))) (ty := .int) (C := RX6) (T := TX6) (N := 23) hx hb hts inX6 tyX6 tyX6_ok nmX6 hown hK.1 hP hD hS 0 rfl rfl 10 (by decide) (hts _ w_fieldLink_X6_50) (fun _ h9 => h9) rfl (by decide +kernel) rfl rfl (Nat.le_of_ble_eq_true rfl) dX6_goesOn_12 (fun H locs hP hD hS => ?_)
  have hP : va_P (dC, dI) vwCl (cM cyI a (M_set_strikes v ((M_strikes v) + (1 : Int32)))) H := hP
  have hD : va_D A (cM cyI a (M_set_strikes v ((M_strikes v) + (1 : Int32)))) := hD
  obtain ⟨st15, hst15, hF⟩ := lpN_use hF
  have hL15 : ∀ (n : Nat) (s15 : Int32 × Int32 × MV) (H : Heap) (locs : List Loc) (ls : Array Slot), va_P (dC, dI) vwCl (cM cyI a s15.2.2) H → va_D A (cM cyI a s15.2.2) → va_S A s.heap H locs → lv_has ls 8 [(0, .ref (a 0)), (3, .int s15.1), (4, .int s15.2.1)] → lpN st15 n s15 = some out → W p l e (headSpec (Cond.code yX6_goesOn cX6_goesOn 8 none :: wT) ({ frames := 2, cells := 0, slots := 0, locals := 46 } : Room)).room s m ([.ref (a 0), .int p1, .int p2] : List Value).toArray below meth c H locs 0 0 (MQ below (va_Qv (fun (u : MV) => u = out) (fun u t => va_P (dC, dI) vwCl (cM cyI a u) t.heap ∧ va_D A (cM cyI a u)) A) ([.ref (a 0), .int p1, .int p2] : List Value).toArray s 0 0 A) (F0 m 15 ls []) := by
    intro n
    induction n with
    | zero => intro s15 H locs ls hP hD hS hl hF; exact lpN_0 hF
    | succ n ih15 =>
      intro s15 H locs ls hP hD hS hl hF
      have hF := (congrFun (congrFun hst15 s15) (lpN st15 n)).symm.trans (lpN_s hF)
      refine lv_iload hx hb dX6_goesOn_15 (lv_at hl 2 rfl) ?_
      refine lv_if_le (tgt := 144) hx hb dX6_goesOn_17 (by decide) (fun c1 => ?_) (fun c1 => ?_)
      · have hF := itp c1 hF
        exact W.vret hx hb hr (fun t ht hW => ⟨⟨_, rfl, Option.some.inj hF, by rw [ht]; exact hP, hD⟩, hS.F ht⟩) hS.2.2 dX6_goesOn_144
      · have hF := itn c1 hF
        refine lv_iinc (v := (s15.2.1 + (-1 : Int32))) (lv' := [(4, .int (s15.2.1 + (-1 : Int32))), (0, .ref (a 0)), (3, .int s15.1)]) hx hb dX6_goesOn_20 hl (k := 2) rfl rfl (by decide) rfl (fun ls hl => ?_)
        refine lv_iload_n hx hb dX6_goesOn_23 rfl (lv_at hl 2 rfl) ?_
        refine lv_bipush (v := 8) hx hb dX6_goesOn_24 (by decide) ?_
        obtain ⟨j44, hj44, hF⟩ := jn_use hF
        have hJ44 : ∀ (s44 : Int32) (H : Heap) (locs : List Loc) (ls : Array Slot), va_P (dC, dI) vwCl (cM cyI a s15.2.2) H → va_D A (cM cyI a s15.2.2) → va_S A s.heap H locs → lv_has ls 8 [(0, .ref (a 0)), (3, .int s15.1), (4, .int (s15.2.1 + (-1 : Int32)))] → j44 s44 = some out → W p l e (headSpec (Cond.code yX6_goesOn cX6_goesOn 8 none :: wT) ({ frames := 2, cells := 0, slots := 0, locals := 46 } : Room)).room s m ([.ref (a 0), .int p1, .int p2] : List Value).toArray below meth c H locs 0 0 (MQ below (va_Qv (fun (u : MV) => u = out) (fun u t => va_P (dC, dI) vwCl (cM cyI a u) t.heap ∧ va_D A (cM cyI a u)) A) ([.ref (a 0), .int p1, .int p2] : List Value).toArray s 0 0 A) (F0 m 44 ls [.int s44]) := by
          intro s44 H locs ls hP hD hS hl hF
          have hF := (congrFun hj44 s44).symm.trans hF
          refine lv_iconst (v := 1) hx hb dX6_goesOn_44 (by decide) ?_
          refine lv_iadd hx hb dX6_goesOn_45 ?_
          refine lv_istore (lv' := [(5, .int (s44 + (1 : Int32))), (0, .ref (a 0)), (3, .int s15.1), (4, .int (s15.2.1 + (-1 : Int32)))]) hx hb dX6_goesOn_46 hl (by decide) rfl (fun ls hl => ?_)
          refine lv_iload_n hx hb dX6_goesOn_48 rfl (lv_at hl 2 rfl) ?_
          refine lv_bipush (v := 8) hx hb dX6_goesOn_49 (by decide) ?_
          obtain ⟨j69, hj69, hF⟩ := jn_use hF
          have hJ69 : ∀ (s69 : Int32) (H : Heap) (locs : List Loc) (ls : Array Slot), va_P (dC, dI) vwCl (cM cyI a s15.2.2) H → va_D A (cM cyI a s15.2.2) → va_S A s.heap H locs → lv_has ls 8 [(0, .ref (a 0)), (3, .int s15.1), (4, .int (s15.2.1 + (-1 : Int32))), (5, .int (s44 + (1 : Int32)))] → j69 s69 = some out → W p l e (headSpec (Cond.code yX6_goesOn cX6_goesOn 8 none :: wT) ({ frames := 2, cells := 0, slots := 0, locals := 46 } : Room)).room s m ([.ref (a 0), .int p1, .int p2] : List Value).toArray below meth c H locs 0 0 (MQ below (va_Qv (fun (u : MV) => u = out) (fun u t => va_P (dC, dI) vwCl (cM cyI a u) t.heap ∧ va_D A (cM cyI a u)) A) ([.ref (a 0), .int p1, .int p2] : List Value).toArray s 0 0 A) (F0 m 69 ls [.int s69]) := by
            intro s69 H locs ls hP hD hS hl hF
            have hF := (congrFun hj69 s69).symm.trans hF
            refine lv_istore (lv' := [(6, .int s69), (0, .ref (a 0)), (3, .int s15.1), (4, .int (s15.2.1 + (-1 : Int32))), (5, .int (s44 + (1 : Int32)))]) hx hb dX6_goesOn_69 hl (by decide) rfl (fun ls hl => ?_)
            refine lv_iload hx hb dX6_goesOn_71 (lv_at hl 4 rfl) ?_
            refine lv_bipush (v := 60) hx hb dX6_goesOn_73 (by decide) ?_
            obtain ⟨j90, hj90, hF⟩ := jn_use hF
            have hJ90 : ∀ (s90 : Int32) (H : Heap) (locs : List Loc) (ls : Array Slot), va_P (dC, dI) vwCl (cM cyI a s15.2.2) H → va_D A (cM cyI a s15.2.2) → va_S A s.heap H locs → lv_has ls 8 [(0, .ref (a 0)), (3, .int s15.1), (4, .int (s15.2.1 + (-1 : Int32))), (5, .int (s44 + (1 : Int32)))] → j90 s90 = some out → W p l e (headSpec (Cond.code yX6_goesOn cX6_goesOn 8 none :: wT) ({ frames := 2, cells := 0, slots := 0, locals := 46 } : Room)).room s m ([.ref (a 0), .int p1, .int p2] : List Value).toArray below meth c H locs 0 0 (MQ below (va_Qv (fun (u : MV) => u = out) (fun u t => va_P (dC, dI) vwCl (cM cyI a u) t.heap ∧ va_D A (cM cyI a u)) A) ([.ref (a 0), .int p1, .int p2] : List Value).toArray s 0 0 A) (F0 m 90 ls [.int s90]) := by
              intro s90 H locs ls hP hD hS hl hF
              have hF := (congrFun hj90 s90).symm.trans hF
              refine lv_istore (lv' := [(7, .int s90), (0, .ref (a 0)), (3, .int s15.1), (4, .int (s15.2.1 + (-1 : Int32))), (5, .int (s44 + (1 : Int32)))]) hx hb dX6_goesOn_90 hl (by decide) rfl (fun ls hl => ?_)
              refine lv_iload hx hb dX6_goesOn_92 (lv_at hl 0 rfl) ?_
              obtain ⟨j141, hj141, hF⟩ := jn_use hF
              have hJ141 : ∀ (s141 : Int32 × Int32 × MV) (H : Heap) (locs : List Loc) (ls : Array Slot), va_P (dC, dI) vwCl (cM cyI a s141.2.2) H → va_D A (cM cyI a s141.2.2) → va_S A s.heap H locs → lv_has ls 8 [(0, .ref (a 0)), (3, .int s141.1), (4, .int s141.2.1)] → j141 s141 = some out → W p l e (headSpec (Cond.code yX6_goesOn cX6_goesOn 8 none :: wT) ({ frames := 2, cells := 0, slots := 0, locals := 46 } : Room)).room s m ([.ref (a 0), .int p1, .int p2] : List Value).toArray below meth c H locs 0 0 (MQ below (va_Qv (fun (u : MV) => u = out) (fun u t => va_P (dC, dI) vwCl (cM cyI a u) t.heap ∧ va_D A (cM cyI a u)) A) ([.ref (a 0), .int p1, .int p2] : List Value).toArray s 0 0 A) (F0 m 141 ls []) := by
                intro s141 H locs ls hP hD hS hl hF
                have hF := (congrFun hj141 s141).symm.trans hF
                refine lv_goto (tgt := 15) hx hb dX6_goesOn_141 (by decide) ?_
                exact ih15 (s141.1, s141.2.1, s141.2.2) _ _ _ hP hD hS (lv_sub hl [0, 1, 2] rfl) hF
              refine lv_if_lt (tgt := 119) hx hb dX6_goesOn_94 (by decide) (fun c2 => ?_) (fun c2 => ?_)
              · have hF := itp c2 hF
                refine lv_aload_n hx hb dX6_goesOn_119 rfl (lv_at hl 1 rfl) ?_
                refine lv_iload_n hx hb dX6_goesOn_120 rfl (lv_at hl 2 rfl) ?_
                refine lv_iload hx hb dX6_goesOn_121 (lv_at hl 4 rfl) ?_
                obtain ⟨o3, h4, hF⟩ := obd hF
                refine wcWVv (As := [.int s15.1, .int (s44 + (1 : Int32))]) (rest := []) (wr := []) (b := (a 0)) ⟨hx, hb, hml, hown, hts⟩ (met_X6_lies l dC dI cyI cyO cyL a _ N s15.2.2 s15.1 (s44 + (1 : Int32)) o3 h4) (cwV 2 hts (gV w_methodLink_X6_56 w_instanceMethod_X6_lies w_selects_X6_lies w_initialized_X6 w_code_X6_lies) rfl rfl rfl (by decide +kernel) ⟨Nat.le_of_ble_eq_true rfl, Nat.le_of_ble_eq_true rfl⟩) (va_recv hK.1 hP (ci := 6) (q0 := 0) rfl rfl) hP hD hK [0, 1, 2, 3, 4, 5, 6, 7] [] rfl rfl (by decide) (by decide) (by decide) rfl hl.1 (Nat.le_of_ble_eq_true rfl) dX6_goesOn_123 ⟨Nat.le_of_ble_eq_true rfl, Nat.le_of_ble_eq_true rfl⟩ hS hA (fun u H locs hw hP hD hS => ?_)
                have hw := hw.symm
                subst hw
                have hP : va_P (dC, dI) vwCl (cM cyI a o3) H := hP
                have hD : va_D A (cM cyI a o3) := hD
                refine lv_iload hx hb dX6_goesOn_126 (lv_at hl 4 rfl) ?_
                refine lv_bipush (v := 60) hx hb dX6_goesOn_128 (by decide) ?_
                obtain ⟨j139, hj139, hF⟩ := jn_use hF
                have hJ139 : ∀ (s139 : Int32) (H : Heap) (locs : List Loc) (ls : Array Slot), va_P (dC, dI) vwCl (cM cyI a o3) H → va_D A (cM cyI a o3) → va_S A s.heap H locs → lv_has ls 8 [(0, .ref (a 0)), (3, .int s15.1)] → j139 s139 = some out → W p l e (headSpec (Cond.code yX6_goesOn cX6_goesOn 8 none :: wT) ({ frames := 2, cells := 0, slots := 0, locals := 46 } : Room)).room s m ([.ref (a 0), .int p1, .int p2] : List Value).toArray below meth c H locs 0 0 (MQ below (va_Qv (fun (u : MV) => u = out) (fun u t => va_P (dC, dI) vwCl (cM cyI a u) t.heap ∧ va_D A (cM cyI a u)) A) ([.ref (a 0), .int p1, .int p2] : List Value).toArray s 0 0 A) (F0 m 139 ls [.int s139]) := by
                  intro s139 H locs ls hP hD hS hl hF
                  have hF := (congrFun hj139 s139).symm.trans hF
                  refine lv_istore (lv' := [(4, .int s139), (0, .ref (a 0)), (3, .int s15.1)]) hx hb dX6_goesOn_139 hl (by decide) rfl (fun ls hl => ?_)
                  exact hJ141 (s15.1, s139, o3) _ _ _ hP hD hS (lv_sub hl [1, 2, 0] rfl) hF
                refine lv_icmp_ne (tgt := 137) hx hb dX6_goesOn_130 (by decide) (fun c5 => ?_) (fun c5 => ?_)
                · have hF := itn c5 hF
                  refine lv_iload hx hb dX6_goesOn_137 (lv_at hl 3 rfl) ?_
                  exact hJ139 (s15.2.1 + (-1 : Int32)) _ _ _ hP hD hS (lv_sub hl [1, 2] rfl) hF
                · have hF := itp c5 hF
                  refine lv_iconst (v := 0) hx hb dX6_goesOn_133 (by decide) ?_
                  refine lv_goto (tgt := 139) hx hb dX6_goesOn_134 (by decide) ?_
                  exact hJ139 (0 : Int32) _ _ _ hP hD hS (lv_sub hl [1, 2] rfl) hF
              · have hF := itn c2 hF
                refine lv_iload hx hb dX6_goesOn_97 (lv_at hl 0 rfl) ?_
                refine lv_istore_n (lv' := [(3, .int s90), (7, .int s90), (0, .ref (a 0)), (4, .int (s15.2.1 + (-1 : Int32))), (5, .int (s44 + (1 : Int32)))]) hx hb dX6_goesOn_99 rfl hl (by decide) rfl (fun ls hl => ?_)
                refine lv_iload hx hb dX6_goesOn_100 (lv_at hl 3 rfl) ?_
                refine lv_iconst (v := 2) hx hb dX6_goesOn_102 (by decide) ?_
                refine lv_idiv hx hb dX6_goesOn_103 (by decide) ?_
                refine lv_istore (lv' := [(4, .int ((s15.2.1 + (-1 : Int32)) / (2 : Int32))), (3, .int s90), (7, .int s90), (0, .ref (a 0)), (5, .int (s44 + (1 : Int32)))]) hx hb dX6_goesOn_104 hl (by decide) rfl (fun ls hl => ?_)
                refine lv_aload_n hx hb dX6_goesOn_106 rfl (lv_at hl 3 rfl) ?_
                refine lv_dup hx hb dX6_goesOn_107 rfl ?_
                refine va_get (D := (dC, dI)) (ci := 6) (v := .int (M_strikes s15.2.2)) (C := RX6) (T := TX6) (N := 23) hx hb hts inX6 hown hK.1 hP 0 rfl rfl 10 (by decide) (hts _ w_fieldLink_X6_50) (fun _ h9 => h9) rfl dX6_goesOn_108 ?_
                refine lv_iconst (v := 1) hx hb dX6_goesOn_111 (by decide) ?_
                refine lv_iadd hx hb dX6_goesOn_112 ?_
                refine va_put (D := (dC, dI)) (ci := 6) (v := .int ((M_strikes s15.2.2) + (1 : Int32))) (ty := .int) (C := RX6) (T := TX6) (N := 23) hx hb hts inX6 tyX6 tyX6_ok nmX6 hown hK.1 hP hD hS 0 rfl rfl 10 (by decide) (hts _ w_fieldLink_X6_50) (fun _ h9 => h9) rfl (by decide +kernel) rfl rfl (Nat.le_of_ble_eq_true rfl) dX6_goesOn_113 (fun H locs hP hD hS => ?_)
                have hP : va_P (dC, dI) vwCl (cM cyI a (M_set_strikes s15.2.2 ((M_strikes s15.2.2) + (1 : Int32)))) H := hP
                have hD : va_D A (cM cyI a (M_set_strikes s15.2.2 ((M_strikes s15.2.2) + (1 : Int32)))) := hD
                refine lv_goto (tgt := 141) hx hb dX6_goesOn_116 (by decide) ?_
                exact hJ141 (s90, ((s15.2.1 + (-1 : Int32)) / (2 : Int32)), (M_set_strikes s15.2.2 ((M_strikes s15.2.2) + (1 : Int32)))) _ _ _ hP hD hS (lv_sub hl [3, 1, 0] rfl) hF
            refine lv_icmp_ne (tgt := 82) hx hb dX6_goesOn_75 (by decide) (fun c6 => ?_) (fun c6 => ?_)
            · have hF := itn c6 hF
              refine lv_aload_n hx hb dX6_goesOn_82 rfl (lv_at hl 1 rfl) ?_
              refine lv_iload hx hb dX6_goesOn_83 (lv_at hl 4 rfl) ?_
              refine lv_iload hx hb dX6_goesOn_85 (lv_at hl 0 rfl) ?_
              obtain ⟨o7, h8, hF⟩ := obd hF
              refine wcRVi (As := [.int (s44 + (1 : Int32)), .int s69]) (rest := []) (b := (a 0)) ⟨hx, hb, hml, hown, hts⟩ (met_X6_thingAt l dC dI cyI cyO cyL a N s15.2.2 (s44 + (1 : Int32)) s69 o7 h8) (cwV 2 hts (gV w_methodLink_X6_53 w_instanceMethod_X6_thingAt w_selects_X6_thingAt w_initialized_X6 w_code_X6_thingAt) rfl rfl rfl (by decide +kernel) ⟨Nat.le_of_ble_eq_true rfl, Nat.le_of_ble_eq_true rfl⟩) (va_recv hK.1 hP (ci := 6) (q0 := 0) rfl rfl) hP hK [0, 1, 2, 3, 4, 5, 6, 7] rfl rfl hl.1 (Nat.le_of_ble_eq_true rfl) dX6_goesOn_87 ⟨Nat.le_of_ble_eq_true rfl, Nat.le_of_ble_eq_true rfl⟩ hS (fun r H locs hw hP hS => ?_)
              have hw := hw.symm
              subst hw
              exact hJ90 o7 _ _ _ hP hD hS (lv_sub hl [1, 2, 3, 4] rfl) hF
            · have hF := itp c6 hF
              refine lv_iconst (v := -1) hx hb dX6_goesOn_78 (by decide) ?_
              refine lv_goto (tgt := 90) hx hb dX6_goesOn_79 (by decide) ?_
              exact hJ90 (-1 : Int32) _ _ _ hP hD hS (lv_sub hl [1, 2, 3, 4] rfl) hF
          refine lv_icmp_ne (tgt := 63) hx hb dX6_goesOn_51 (by decide) (fun c9 => ?_) (fun c9 => ?_)
          · have hF := itn c9 hF
            refine lv_aload_n hx hb dX6_goesOn_63 rfl (lv_at hl 1 rfl) ?_
            refine lv_iload_n hx hb dX6_goesOn_64 rfl (lv_at hl 2 rfl) ?_
            refine lv_iconst (v := 2) hx hb dX6_goesOn_65 (by decide) ?_
            obtain ⟨o10, h11, hF⟩ := obd hF
            refine wcRVi (As := [.int s15.1, .int (2 : Int32)]) (rest := []) (b := (a 0)) ⟨hx, hb, hml, hown, hts⟩ (met_X6_of l dC dI cyI cyO cyL a N s15.2.2 s15.1 (2 : Int32) o10 h11) (cwV 2 hts (gV w_methodLink_X6_42 w_instanceMethod_X6_of w_selects_X6_of w_initialized_X6 w_code_X6_of) rfl rfl rfl (by decide +kernel) ⟨Nat.le_of_ble_eq_true rfl, Nat.le_of_ble_eq_true rfl⟩) (va_recv hK.1 hP (ci := 6) (q0 := 0) rfl rfl) hP hK [0, 1, 2, 3, 4, 5, 6, 7] rfl rfl hl.1 (Nat.le_of_ble_eq_true rfl) dX6_goesOn_66 ⟨Nat.le_of_ble_eq_true rfl, Nat.le_of_ble_eq_true rfl⟩ hS (fun r H locs hw hP hS => ?_)
            have hw := hw.symm
            subst hw
            exact hJ69 o10 _ _ _ hP hD hS (lv_sub hl [1, 2, 3, 0] rfl) hF
          · have hF := itp c9 hF
            refine lv_aload_n hx hb dX6_goesOn_54 rfl (lv_at hl 1 rfl) ?_
            refine va_get (D := (dC, dI)) (ci := 6) (v := .ref (a 1)) (C := RX6) (T := TX6) (N := 23) hx hb hts inX6 hown hK.1 hP 0 rfl rfl 1 (by decide) (hts _ w_fieldLink_X6_7) (fun _ h9 => h9) rfl dX6_goesOn_55 ?_
            refine lv_iconst (v := 2) hx hb dX6_goesOn_58 (by decide) ?_
            refine va_iald hx hb hK.1 hP 1 0 rfl rfl (i := (2 : Int32)) (show ixok (2 : Int32) 103 by decide) dX6_goesOn_59 ?_
            refine lv_goto (tgt := 69) hx hb dX6_goesOn_60 (by decide) ?_
            exact hJ69 ((M_s s15.2.2) (2 : Int32).toNatClampNeg) _ _ _ hP hD hS (lv_sub hl [1, 2, 3, 0] rfl) hF
        refine lv_icmp_ne (tgt := 38) hx hb dX6_goesOn_26 (by decide) (fun c13 => ?_) (fun c13 => ?_)
        · have hF := itn c13 hF
          refine lv_aload_n hx hb dX6_goesOn_38 rfl (lv_at hl 1 rfl) ?_
          refine lv_iload_n hx hb dX6_goesOn_39 rfl (lv_at hl 2 rfl) ?_
          refine lv_iconst (v := 1) hx hb dX6_goesOn_40 (by decide) ?_
          obtain ⟨o14, h15, hF⟩ := obd hF
          refine wcRVi (As := [.int s15.1, .int (1 : Int32)]) (rest := []) (b := (a 0)) ⟨hx, hb, hml, hown, hts⟩ (met_X6_of l dC dI cyI cyO cyL a N s15.2.2 s15.1 (1 : Int32) o14 h15) (cwV 2 hts (gV w_methodLink_X6_42 w_instanceMethod_X6_of w_selects_X6_of w_initialized_X6 w_code_X6_of) rfl rfl rfl (by decide +kernel) ⟨Nat.le_of_ble_eq_true rfl, Nat.le_of_ble_eq_true rfl⟩) (va_recv hK.1 hP (ci := 6) (q0 := 0) rfl rfl) hP hK [0, 1, 2, 3, 4, 5, 6, 7] rfl rfl hl.1 (Nat.le_of_ble_eq_true rfl) dX6_goesOn_41 ⟨Nat.le_of_ble_eq_true rfl, Nat.le_of_ble_eq_true rfl⟩ hS (fun r H locs hw hP hS => ?_)
          have hw := hw.symm
          subst hw
          exact hJ44 o14 _ _ _ hP hD hS (lv_sub hl [1, 2, 0] rfl) hF
        · have hF := itp c13 hF
          refine lv_aload_n hx hb dX6_goesOn_29 rfl (lv_at hl 1 rfl) ?_
          refine va_get (D := (dC, dI)) (ci := 6) (v := .ref (a 1)) (C := RX6) (T := TX6) (N := 23) hx hb hts inX6 hown hK.1 hP 0 rfl rfl 1 (by decide) (hts _ w_fieldLink_X6_7) (fun _ h9 => h9) rfl dX6_goesOn_30 ?_
          refine lv_iconst (v := 1) hx hb dX6_goesOn_33 (by decide) ?_
          refine va_iald hx hb hK.1 hP 1 0 rfl rfl (i := (1 : Int32)) (show ixok (1 : Int32) 103 by decide) dX6_goesOn_34 ?_
          refine lv_goto (tgt := 44) hx hb dX6_goesOn_35 (by decide) ?_
          exact hJ44 ((M_s s15.2.2) (1 : Int32).toNatClampNeg) _ _ _ hP hD hS (lv_sub hl [1, 2, 0] rfl) hF
  exact hL15 N (p1, p2, (M_set_strikes v ((M_strikes v) + (1 : Int32)))) _ _ _ hP hD hS (lv_sub hl [2, 1, 0] rfl) hF
theorem dX6_goes_0 : decode cX6_goes 0 = .ok (.iconst 0, 1) := by decide +kernel
theorem dX6_goes_1 : decode cX6_goes 1 = .ok (.istore_n 2, 1) := by decide +kernel
theorem dX6_goes_2 : decode cX6_goes 2 = .ok (.bipush 10, 2) := by decide +kernel
theorem dX6_goes_4 : decode cX6_goes 4 = .ok (.istore_n 3, 1) := by decide +kernel
theorem dX6_goes_5 : decode cX6_goes 5 = .ok (.aload_n 0, 1) := by decide +kernel
theorem dX6_goes_6 : decode cX6_goes 6 = .ok (.iload_n 1, 1) := by decide +kernel
theorem dX6_goes_7 : decode cX6_goes 7 = .ok (.iconst 5, 1) := by decide +kernel
theorem dX6_goes_8 : decode cX6_goes 8 = .ok (.invokevirtual 42, 3) := by decide +kernel
theorem dX6_goes_11 : decode cX6_goes 11 = .ok (.istore 4, 2) := by decide +kernel
theorem dX6_goes_13 : decode cX6_goes 13 = .ok (.iload 4, 2) := by decide +kernel
theorem dX6_goes_15 : decode cX6_goes 15 = .ok (.ifCond .le 157, 3) := by decide +kernel
theorem dX6_goes_18 : decode cX6_goes 18 = .ok (.iinc 4 (-1), 3) := by decide +kernel
theorem dX6_goes_21 : decode cX6_goes 21 = .ok (.iinc 2 1, 3) := by decide +kernel
theorem dX6_goes_24 : decode cX6_goes 24 = .ok (.iload_n 2, 1) := by decide +kernel
theorem dX6_goes_25 : decode cX6_goes 25 = .ok (.aload_n 0, 1) := by decide +kernel
theorem dX6_goes_26 : decode cX6_goes 26 = .ok (.iload_n 1, 1) := by decide +kernel
theorem dX6_goes_27 : decode cX6_goes 27 = .ok (.iconst 4, 1) := by decide +kernel
theorem dX6_goes_28 : decode cX6_goes 28 = .ok (.invokevirtual 42, 3) := by decide +kernel
theorem dX6_goes_31 : decode cX6_goes 31 = .ok (.aload_n 0, 1) := by decide +kernel
theorem dX6_goes_32 : decode cX6_goes 32 = .ok (.getfield 7, 3) := by decide +kernel
theorem dX6_goes_35 : decode cX6_goes 35 = .ok (.bipush 62, 2) := by decide +kernel
theorem dX6_goes_37 : decode cX6_goes 37 = .ok (.iaload, 1) := by decide +kernel
theorem dX6_goes_38 : decode cX6_goes 38 = .ok (.iadd, 1) := by decide +kernel
theorem dX6_goes_39 : decode cX6_goes 39 = .ok (.aload_n 0, 1) := by decide +kernel
theorem dX6_goes_40 : decode cX6_goes 40 = .ok (.iload_n 1, 1) := by decide +kernel
theorem dX6_goes_41 : decode cX6_goes 41 = .ok (.bipush 6, 2) := by decide +kernel
theorem dX6_goes_43 : decode cX6_goes 43 = .ok (.invokevirtual 42, 3) := by decide +kernel
theorem dX6_goes_46 : decode cX6_goes 46 = .ok (.invokestatic 60, 3) := by decide +kernel
theorem dX6_goes_49 : decode cX6_goes 49 = .ok (.istore 5, 2) := by decide +kernel
theorem dX6_goes_51 : decode cX6_goes 51 = .ok (.iload 5, 2) := by decide +kernel
theorem dX6_goes_53 : decode cX6_goes 53 = .ok (.iconst 0, 1) := by decide +kernel
theorem dX6_goes_54 : decode cX6_goes 54 = .ok (.bipush 20, 2) := by decide +kernel
theorem dX6_goes_56 : decode cX6_goes 56 = .ok (.invokestatic 35, 3) := by decide +kernel
theorem dX6_goes_59 : decode cX6_goes 59 = .ok (.ifCond .eq 9, 3) := by decide +kernel
theorem dX6_goes_62 : decode cX6_goes 62 = .ok (.iload_n 2, 1) := by decide +kernel
theorem dX6_goes_63 : decode cX6_goes 63 = .ok (.bipush 60, 2) := by decide +kernel
theorem dX6_goes_65 : decode cX6_goes 65 = .ok (.if_icmp .ne 4, 3) := by decide +kernel
theorem dX6_goes_68 : decode cX6_goes 68 = .ok (.return_, 1) := by decide +kernel
theorem dX6_goes_69 : decode cX6_goes 69 = .ok (.aload_n 0, 1) := by decide +kernel
theorem dX6_goes_70 : decode cX6_goes 70 = .ok (.iload_n 2, 1) := by decide +kernel
theorem dX6_goes_71 : decode cX6_goes 71 = .ok (.iload 5, 2) := by decide +kernel
theorem dX6_goes_73 : decode cX6_goes 73 = .ok (.invokevirtual 53, 3) := by decide +kernel
theorem dX6_goes_76 : decode cX6_goes 76 = .ok (.istore 6, 2) := by decide +kernel
theorem dX6_goes_78 : decode cX6_goes 78 = .ok (.iload 6, 2) := by decide +kernel
theorem dX6_goes_80 : decode cX6_goes 80 = .ok (.ifCond .lt 86, 3) := by decide +kernel
theorem dX6_goes_83 : decode cX6_goes 83 = .ok (.aload_n 0, 1) := by decide +kernel
theorem dX6_goes_84 : decode cX6_goes 84 = .ok (.iload_n 1, 1) := by decide +kernel
theorem dX6_goes_85 : decode cX6_goes 85 = .ok (.iconst 3, 1) := by decide +kernel
theorem dX6_goes_86 : decode cX6_goes 86 = .ok (.iload 6, 2) := by decide +kernel
theorem dX6_goes_88 : decode cX6_goes 88 = .ok (.bipush 8, 2) := by decide +kernel
theorem dX6_goes_90 : decode cX6_goes 90 = .ok (.if_icmp .ne 7, 3) := by decide +kernel
theorem dX6_goes_93 : decode cX6_goes 93 = .ok (.iconst 1, 1) := by decide +kernel
theorem dX6_goes_94 : decode cX6_goes 94 = .ok (.goto 4, 3) := by decide +kernel
theorem dX6_goes_97 : decode cX6_goes 97 = .ok (.iconst 0, 1) := by decide +kernel
theorem dX6_goes_98 : decode cX6_goes 98 = .ok (.invokevirtual 46, 3) := by decide +kernel
theorem dX6_goes_101 : decode cX6_goes 101 = .ok (.aload_n 0, 1) := by decide +kernel
theorem dX6_goes_102 : decode cX6_goes 102 = .ok (.getfield 7, 3) := by decide +kernel
theorem dX6_goes_105 : decode cX6_goes 105 = .ok (.bipush 102, 2) := by decide +kernel
theorem dX6_goes_107 : decode cX6_goes 107 = .ok (.dup2, 1) := by decide +kernel
theorem dX6_goes_108 : decode cX6_goes 108 = .ok (.iaload, 1) := by decide +kernel
theorem dX6_goes_109 : decode cX6_goes 109 = .ok (.iload 6, 2) := by decide +kernel
theorem dX6_goes_111 : decode cX6_goes 111 = .ok (.bipush 8, 2) := by decide +kernel
theorem dX6_goes_113 : decode cX6_goes 113 = .ok (.if_icmp .ne 7, 3) := by decide +kernel
theorem dX6_goes_116 : decode cX6_goes 116 = .ok (.iconst 1, 1) := by decide +kernel
theorem dX6_goes_117 : decode cX6_goes 117 = .ok (.goto 4, 3) := by decide +kernel
theorem dX6_goes_120 : decode cX6_goes 120 = .ok (.iconst 0, 1) := by decide +kernel
theorem dX6_goes_121 : decode cX6_goes 121 = .ok (.iadd, 1) := by decide +kernel
theorem dX6_goes_122 : decode cX6_goes 122 = .ok (.iastore, 1) := by decide +kernel
theorem dX6_goes_123 : decode cX6_goes 123 = .ok (.aload_n 0, 1) := by decide +kernel
theorem dX6_goes_124 : decode cX6_goes 124 = .ok (.iload_n 1, 1) := by decide +kernel
theorem dX6_goes_125 : decode cX6_goes 125 = .ok (.iconst 2, 1) := by decide +kernel
theorem dX6_goes_126 : decode cX6_goes 126 = .ok (.iload_n 3, 1) := by decide +kernel
theorem dX6_goes_127 : decode cX6_goes 127 = .ok (.invokevirtual 46, 3) := by decide +kernel
theorem dX6_goes_130 : decode cX6_goes 130 = .ok (.aload_n 0, 1) := by decide +kernel
theorem dX6_goes_131 : decode cX6_goes 131 = .ok (.iload_n 1, 1) := by decide +kernel
theorem dX6_goes_132 : decode cX6_goes 132 = .ok (.iconst 1, 1) := by decide +kernel
theorem dX6_goes_133 : decode cX6_goes 133 = .ok (.iload_n 2, 1) := by decide +kernel
theorem dX6_goes_134 : decode cX6_goes 134 = .ok (.iconst 1, 1) := by decide +kernel
theorem dX6_goes_135 : decode cX6_goes 135 = .ok (.isub, 1) := by decide +kernel
theorem dX6_goes_136 : decode cX6_goes 136 = .ok (.invokevirtual 46, 3) := by decide +kernel
theorem dX6_goes_139 : decode cX6_goes 139 = .ok (.aload_n 0, 1) := by decide +kernel
theorem dX6_goes_140 : decode cX6_goes 140 = .ok (.iload 6, 2) := by decide +kernel
theorem dX6_goes_142 : decode cX6_goes 142 = .ok (.iload 4, 2) := by decide +kernel
theorem dX6_goes_144 : decode cX6_goes 144 = .ok (.iconst 2, 1) := by decide +kernel
theorem dX6_goes_145 : decode cX6_goes 145 = .ok (.idiv, 1) := by decide +kernel
theorem dX6_goes_146 : decode cX6_goes 146 = .ok (.invokevirtual 64, 3) := by decide +kernel
theorem dX6_goes_149 : decode cX6_goes 149 = .ok (.aload_n 0, 1) := by decide +kernel
theorem dX6_goes_150 : decode cX6_goes 150 = .ok (.iload_n 1, 1) := by decide +kernel
theorem dX6_goes_151 : decode cX6_goes 151 = .ok (.iconst 0, 1) := by decide +kernel
theorem dX6_goes_152 : decode cX6_goes 152 = .ok (.iload_n 2, 1) := by decide +kernel
theorem dX6_goes_153 : decode cX6_goes 153 = .ok (.iconst 1, 1) := by decide +kernel
theorem dX6_goes_154 : decode cX6_goes 154 = .ok (.if_icmp .le 7, 3) := by decide +kernel
theorem dX6_goes_157 : decode cX6_goes 157 = .ok (.iconst 0, 1) := by decide +kernel
theorem dX6_goes_158 : decode cX6_goes 158 = .ok (.goto 4, 3) := by decide +kernel
theorem dX6_goes_161 : decode cX6_goes 161 = .ok (.iconst 2, 1) := by decide +kernel
theorem dX6_goes_162 : decode cX6_goes 162 = .ok (.invokevirtual 46, 3) := by decide +kernel
theorem dX6_goes_165 : decode cX6_goes 165 = .ok (.return_, 1) := by decide +kernel
theorem dX6_goes_166 : decode cX6_goes 166 = .ok (.iload 5, 2) := by decide +kernel
theorem dX6_goes_168 : decode cX6_goes 168 = .ok (.istore_n 3, 1) := by decide +kernel
theorem dX6_goes_169 : decode cX6_goes 169 = .ok (.goto (-156), 3) := by decide +kernel
theorem dX6_goes_172 : decode cX6_goes 172 = .ok (.aload_n 0, 1) := by decide +kernel
theorem dX6_goes_173 : decode cX6_goes 173 = .ok (.iload_n 1, 1) := by decide +kernel
theorem dX6_goes_174 : decode cX6_goes 174 = .ok (.iconst 0, 1) := by decide +kernel
theorem dX6_goes_175 : decode cX6_goes 175 = .ok (.iconst 0, 1) := by decide +kernel
theorem dX6_goes_176 : decode cX6_goes 176 = .ok (.invokevirtual 46, 3) := by decide +kernel
theorem dX6_goes_179 : decode cX6_goes 179 = .ok (.aload_n 0, 1) := by decide +kernel
theorem dX6_goes_180 : decode cX6_goes 180 = .ok (.iload_n 1, 1) := by decide +kernel
theorem dX6_goes_181 : decode cX6_goes 181 = .ok (.iconst 1, 1) := by decide +kernel
theorem dX6_goes_182 : decode cX6_goes 182 = .ok (.iload_n 2, 1) := by decide +kernel
theorem dX6_goes_183 : decode cX6_goes 183 = .ok (.invokevirtual 46, 3) := by decide +kernel
theorem dX6_goes_186 : decode cX6_goes 186 = .ok (.aload_n 0, 1) := by decide +kernel
theorem dX6_goes_187 : decode cX6_goes 187 = .ok (.iload_n 1, 1) := by decide +kernel
theorem dX6_goes_188 : decode cX6_goes 188 = .ok (.iconst 2, 1) := by decide +kernel
theorem dX6_goes_189 : decode cX6_goes 189 = .ok (.iload_n 3, 1) := by decide +kernel
theorem dX6_goes_190 : decode cX6_goes 190 = .ok (.invokevirtual 46, 3) := by decide +kernel
theorem dX6_goes_193 : decode cX6_goes 193 = .ok (.return_, 1) := by decide +kernel
def f_X6_goes (N : Nat) (v : MV) (p1 : Int32) : Option (MV) :=
  (f_X6_of N v p1 (5 : Int32)).bind (fun o1 => lpN (fun (s13 : Int32 × Int32 × Int32) (k13 : (Int32 × Int32 × Int32) → Option (MV)) => (if s13.2.2 ≤ 0 then (f_X6_sets N v p1 (0 : Int32) (0 : Int32)).bind (fun o4 => (f_X6_sets N o4 p1 (1 : Int32) s13.1).bind (fun o6 => (f_X6_sets N o6 p1 (2 : Int32) s13.2.1).bind (fun o8 => some o8))) else (f_X6_of N v p1 (4 : Int32)).bind (fun o10 => (f_X6_of N v p1 (6 : Int32)).bind (fun o13 => (f_X6_column N (s13.1 + (1 : Int32)) (o10 + ((M_s v) (62 : Int32).toNatClampNeg)) o13).bind (fun o15 => (f_X6_in N o15 (0 : Int32) (20 : Int32)).bind (fun o17 => jn (fun (s68 : Unit) => some v) (fun (j68 : (Unit) → Option (MV)) => (if o17 = 0 then j68 () else (if (s13.1 + (1 : Int32)) = (60 : Int32) then j68 () else (f_X6_thingAt N v (s13.1 + (1 : Int32)) o15).bind (fun o22 => (if o22 < 0 then k13 ((s13.1 + (1 : Int32)), o15, (s13.2.2 + (-1 : Int32))) else jn (fun (s98 : Int32) => (f_X6_sets N v p1 (3 : Int32) s98).bind (fun o25 => jn (fun (s121 : Int32) => (f_X6_sets N (M_set_s o25 (upd (M_s o25) (102 : Int32).toNatClampNeg (((M_s o25) (102 : Int32).toNatClampNeg) + s121))) p1 (2 : Int32) s13.2.1).bind (fun o29 => (f_X6_sets N o29 p1 (1 : Int32) ((s13.1 + (1 : Int32)) - (1 : Int32))).bind (fun o31 => (f_X6_goesOn N o31 o22 ((s13.2.2 + (-1 : Int32)) / (2 : Int32))).bind (fun o33 => jn (fun (s162 : Int32) => (f_X6_sets N o33 p1 (0 : Int32) s162).bind (fun o35 => some o35)) (fun (j162 : (Int32) → Option (MV)) => (if (s13.1 + (1 : Int32)) ≤ (1 : Int32) then j162 (2 : Int32) else j162 (0 : Int32))))))) (fun (j121 : (Int32) → Option (MV)) => (if o22 = (8 : Int32) then j121 (1 : Int32) else j121 (0 : Int32))))) (fun (j98 : (Int32) → Option (MV)) => (if o22 = (8 : Int32) then j98 (1 : Int32) else j98 (0 : Int32)))))))))))))) N ((0 : Int32), (10 : Int32), o1))
set_option maxHeartbeats 4000000 in
set_option maxRecDepth 100000 in
theorem met_X6_goes (l : Launch) (dC : Nat → ClassId) (dI : Nat → Nat → Nat) (cyI cyO cyL : ClassId) (a : Nat → Nat) (sz : Nat) (N : Nat) (v : MV) (p1 : Int32) (out : MV) (hF : f_X6_goes N v p1 = some out) : Met l yX6_goes (Cond.code yX6_goes cX6_goes 7 none :: wT) ({ frames := 3, cells := 0, slots := 0, locals := 73 } : Room) (wWr dC dI cyI cyO cyL [.ref (a 0), .int p1] (cM cyI a v) sz) (va_Qv (fun (u : MV) => u = out) (fun u t => va_P (dC, dI) vwCl (cM cyI a u) t.heap ∧ va_D (va_A (cM cyI a v) sz) (cM cyI a u)) (va_A (cM cyI a v) sz)) 0 0 (va_A (cM cyI a v) sz) := by
  refine Met.ofW (cc := cX6_goes) (maxL := 7) (ret := none) (by decide) rfl ?_
  intro p e s m args below meth c s₁ B hml hv
  obtain ⟨rfl, hsz, hP, hK, hD0⟩ := hv
  have hx := B.exec
  have hb := B.bytes
  have hr := B.returns
  have hts0 := atoms_spec (ws := (Cond.code yX6_goes cX6_goes 7 none :: wT)) B.pre
  have hts := fun w h => hts0 w (List.mem_cons_of_mem _ h)
  clear hts0
  have hown : s.vm.findClass RX6 = some m.cls := findClass_of_methodNamed B.named
  have hlocks := B.notSynchronized
  subst hsz
  have hD := hD0.self (sz := s.heap.size)
  generalize hAe : va_A (cM cyI a v) s.heap.size = A at hD ⊢
  have hA : ∀ q : Nat, s.heap.size ≤ q → A q := fun q h => by rw [← hAe]; exact Or.inr h
  clear hD0
  have hS : va_S A s.heap s.heap [] := va_S.rf
  have hl := lv_entry [.ref (a 0), .int p1] (n := 7) (Nat.le_of_ble_eq_true rfl)
  rw [lg_entry_eq]
  generalize (lg_sl [.ref (a 0), .int p1] ++ List.replicate (7 - (lg_sl [.ref (a 0), .int p1]).length) Slot.unset).toArray = ls at hl ⊢
  have hl : lv_has ls 7 [(0, .ref (a 0)), (1, .int p1)] := hl
  unfold f_X6_goes at hF
  refine lv_iconst (v := 0) hx hb dX6_goes_0 (by decide) ?_
  refine lv_istore_n (lv' := [(2, .int (0 : Int32)), (0, .ref (a 0)), (1, .int p1)]) hx hb dX6_goes_1 rfl hl (by decide) rfl (fun ls hl => ?_)
  refine lv_bipush (v := 10) hx hb dX6_goes_2 (by decide) ?_
  refine lv_istore_n (lv' := [(3, .int (10 : Int32)), (2, .int (0 : Int32)), (0, .ref (a 0)), (1, .int p1)]) hx hb dX6_goes_4 rfl hl (by decide) rfl (fun ls hl => ?_)
  refine lv_aload_n hx hb dX6_goes_5 rfl (lv_at hl 2 rfl) ?_
  refine lv_iload_n hx hb dX6_goes_6 rfl (lv_at hl 3 rfl) ?_
  refine lv_iconst (v := 5) hx hb dX6_goes_7 (by decide) ?_
  obtain ⟨o1, h2, hF⟩ := obd hF
  refine wcRVi (As := [.int p1, .int (5 : Int32)]) (rest := []) (b := (a 0)) ⟨hx, hb, hml, hown, hts⟩ (met_X6_of l dC dI cyI cyO cyL a N v p1 (5 : Int32) o1 h2) (cwV 2 hts (gV w_methodLink_X6_42 w_instanceMethod_X6_of w_selects_X6_of w_initialized_X6 w_code_X6_of) rfl rfl rfl (by decide +kernel) ⟨Nat.le_of_ble_eq_true rfl, Nat.le_of_ble_eq_true rfl⟩) (va_recv hK.1 hP (ci := 6) (q0 := 0) rfl rfl) hP hK [0, 1, 2, 3, 4, 5, 6, 7] rfl rfl hl.1 (Nat.le_of_ble_eq_true rfl) dX6_goes_8 ⟨Nat.le_of_ble_eq_true rfl, Nat.le_of_ble_eq_true rfl⟩ hS (fun r H locs hw hP hS => ?_)
  have hw := hw.symm
  subst hw
  refine lv_istore (lv' := [(4, .int o1), (3, .int (10 : Int32)), (2, .int (0 : Int32)), (0, .ref (a 0)), (1, .int p1)]) hx hb dX6_goes_11 hl (by decide) rfl (fun ls hl => ?_)
  obtain ⟨st13, hst13, hF⟩ := lpN_use hF
  have hL13 : ∀ (n : Nat) (s13 : Int32 × Int32 × Int32) (H : Heap) (locs : List Loc) (ls : Array Slot), va_P (dC, dI) vwCl (cM cyI a v) H → va_D A (cM cyI a v) → va_S A s.heap H locs → lv_has ls 7 [(0, .ref (a 0)), (1, .int p1), (2, .int s13.1), (3, .int s13.2.1), (4, .int s13.2.2)] → lpN st13 n s13 = some out → W p l e (headSpec (Cond.code yX6_goes cX6_goes 7 none :: wT) ({ frames := 3, cells := 0, slots := 0, locals := 73 } : Room)).room s m ([.ref (a 0), .int p1] : List Value).toArray below meth c H locs 0 0 (MQ below (va_Qv (fun (u : MV) => u = out) (fun u t => va_P (dC, dI) vwCl (cM cyI a u) t.heap ∧ va_D A (cM cyI a u)) A) ([.ref (a 0), .int p1] : List Value).toArray s 0 0 A) (F0 m 13 ls []) := by
    intro n
    induction n with
    | zero => intro s13 H locs ls hP hD hS hl hF; exact lpN_0 hF
    | succ n ih13 =>
      intro s13 H locs ls hP hD hS hl hF
      have hF := (congrFun (congrFun hst13 s13) (lpN st13 n)).symm.trans (lpN_s hF)
      refine lv_iload hx hb dX6_goes_13 (lv_at hl 4 rfl) ?_
      refine lv_if_le (tgt := 172) hx hb dX6_goes_15 (by decide) (fun c3 => ?_) (fun c3 => ?_)
      · have hF := itp c3 hF
        refine lv_aload_n hx hb dX6_goes_172 rfl (lv_at hl 0 rfl) ?_
        refine lv_iload_n hx hb dX6_goes_173 rfl (lv_at hl 1 rfl) ?_
        refine lv_iconst (v := 0) hx hb dX6_goes_174 (by decide) ?_
        refine lv_iconst (v := 0) hx hb dX6_goes_175 (by decide) ?_
        obtain ⟨o4, h5, hF⟩ := obd hF
        refine wcWVv (As := [.int p1, .int (0 : Int32), .int (0 : Int32)]) (rest := []) (wr := []) (b := (a 0)) ⟨hx, hb, hml, hown, hts⟩ (met_X6_sets l dC dI cyI cyO cyL a _ N v p1 (0 : Int32) (0 : Int32) o4 h5) (cwV 3 hts (gV w_methodLink_X6_46 w_instanceMethod_X6_sets w_selects_X6_sets w_initialized_X6 w_code_X6_sets) rfl rfl rfl (by decide +kernel) ⟨Nat.le_of_ble_eq_true rfl, Nat.le_of_ble_eq_true rfl⟩) (va_recv hK.1 hP (ci := 6) (q0 := 0) rfl rfl) hP hD hK [0, 1, 2, 3, 4, 5, 6, 7] [] rfl rfl (by decide) (by decide) (by decide) rfl hl.1 (Nat.le_of_ble_eq_true rfl) dX6_goes_176 ⟨Nat.le_of_ble_eq_true rfl, Nat.le_of_ble_eq_true rfl⟩ hS hA (fun u H locs hw hP hD hS => ?_)
        have hw := hw.symm
        subst hw
        have hP : va_P (dC, dI) vwCl (cM cyI a o4) H := hP
        have hD : va_D A (cM cyI a o4) := hD
        refine lv_aload_n hx hb dX6_goes_179 rfl (lv_at hl 0 rfl) ?_
        refine lv_iload_n hx hb dX6_goes_180 rfl (lv_at hl 1 rfl) ?_
        refine lv_iconst (v := 1) hx hb dX6_goes_181 (by decide) ?_
        refine lv_iload_n hx hb dX6_goes_182 rfl (lv_at hl 2 rfl) ?_
        obtain ⟨o6, h7, hF⟩ := obd hF
        refine wcWVv (As := [.int p1, .int (1 : Int32), .int s13.1]) (rest := []) (wr := []) (b := (a 0)) ⟨hx, hb, hml, hown, hts⟩ (met_X6_sets l dC dI cyI cyO cyL a _ N o4 p1 (1 : Int32) s13.1 o6 h7) (cwV 3 hts (gV w_methodLink_X6_46 w_instanceMethod_X6_sets w_selects_X6_sets w_initialized_X6 w_code_X6_sets) rfl rfl rfl (by decide +kernel) ⟨Nat.le_of_ble_eq_true rfl, Nat.le_of_ble_eq_true rfl⟩) (va_recv hK.1 hP (ci := 6) (q0 := 0) rfl rfl) hP hD hK [0, 1, 2, 3, 4, 5, 6, 7] [] rfl rfl (by decide) (by decide) (by decide) rfl hl.1 (Nat.le_of_ble_eq_true rfl) dX6_goes_183 ⟨Nat.le_of_ble_eq_true rfl, Nat.le_of_ble_eq_true rfl⟩ hS hA (fun u H locs hw hP hD hS => ?_)
        have hw := hw.symm
        subst hw
        have hP : va_P (dC, dI) vwCl (cM cyI a o6) H := hP
        have hD : va_D A (cM cyI a o6) := hD
        refine lv_aload_n hx hb dX6_goes_186 rfl (lv_at hl 0 rfl) ?_
        refine lv_iload_n hx hb dX6_goes_187 rfl (lv_at hl 1 rfl) ?_
        refine lv_iconst (v := 2) hx hb dX6_goes_188 (by decide) ?_
        refine lv_iload_n hx hb dX6_goes_189 rfl (lv_at hl 3 rfl) ?_
        obtain ⟨o8, h9, hF⟩ := obd hF
        refine wcWVv (As := [.int p1, .int (2 : Int32), .int s13.2.1]) (rest := []) (wr := []) (b := (a 0)) ⟨hx, hb, hml, hown, hts⟩ (met_X6_sets l dC dI cyI cyO cyL a _ N o6 p1 (2 : Int32) s13.2.1 o8 h9) (cwV 3 hts (gV w_methodLink_X6_46 w_instanceMethod_X6_sets w_selects_X6_sets w_initialized_X6 w_code_X6_sets) rfl rfl rfl (by decide +kernel) ⟨Nat.le_of_ble_eq_true rfl, Nat.le_of_ble_eq_true rfl⟩) (va_recv hK.1 hP (ci := 6) (q0 := 0) rfl rfl) hP hD hK [0, 1, 2, 3, 4, 5, 6, 7] [] rfl rfl (by decide) (by decide) (by decide) rfl hl.1 (Nat.le_of_ble_eq_true rfl) dX6_goes_190 ⟨Nat.le_of_ble_eq_true rfl, Nat.le_of_ble_eq_true rfl⟩ hS hA (fun u H locs hw hP hD hS => ?_)
        have hw := hw.symm
        subst hw
        have hP : va_P (dC, dI) vwCl (cM cyI a o8) H := hP
        have hD : va_D A (cM cyI a o8) := hD
        exact W.vret hx hb hr (fun t ht hW => ⟨⟨_, rfl, Option.some.inj hF, by rw [ht]; exact hP, hD⟩, hS.F ht⟩) hS.2.2 dX6_goes_193
      · have hF := itn c3 hF
        refine lv_iinc (v := (s13.2.2 + (-1 : Int32))) (lv' := [(4, .int (s13.2.2 + (-1 : Int32))), (0, .ref (a 0)), (1, .int p1), (2, .int s13.1), (3, .int s13.2.1)]) hx hb dX6_goes_18 hl (k := 4) rfl rfl (by decide) rfl (fun ls hl => ?_)
        refine lv_iinc (v := (s13.1 + (1 : Int32))) (lv' := [(2, .int (s13.1 + (1 : Int32))), (4, .int (s13.2.2 + (-1 : Int32))), (0, .ref (a 0)), (1, .int p1), (3, .int s13.2.1)]) hx hb dX6_goes_21 hl (k := 3) rfl rfl (by decide) rfl (fun ls hl => ?_)
        refine lv_iload_n hx hb dX6_goes_24 rfl (lv_at hl 0 rfl) ?_
        refine lv_aload_n hx hb dX6_goes_25 rfl (lv_at hl 2 rfl) ?_
        refine lv_iload_n hx hb dX6_goes_26 rfl (lv_at hl 3 rfl) ?_
        refine lv_iconst (v := 4) hx hb dX6_goes_27 (by decide) ?_
        obtain ⟨o10, h11, hF⟩ := obd hF
        refine wcRVi (As := [.int p1, .int (4 : Int32)]) (rest := [.int (s13.1 + (1 : Int32))]) (b := (a 0)) ⟨hx, hb, hml, hown, hts⟩ (met_X6_of l dC dI cyI cyO cyL a N v p1 (4 : Int32) o10 h11) (cwV 2 hts (gV w_methodLink_X6_42 w_instanceMethod_X6_of w_selects_X6_of w_initialized_X6 w_code_X6_of) rfl rfl rfl (by decide +kernel) ⟨Nat.le_of_ble_eq_true rfl, Nat.le_of_ble_eq_true rfl⟩) (va_recv hK.1 hP (ci := 6) (q0 := 0) rfl rfl) hP hK [0, 1, 2, 3, 4, 5, 6, 7] rfl rfl hl.1 (Nat.le_of_ble_eq_true rfl) dX6_goes_28 ⟨Nat.le_of_ble_eq_true rfl, Nat.le_of_ble_eq_true rfl⟩ hS (fun r H locs hw hP hS => ?_)
        have hw := hw.symm
        subst hw
        refine lv_aload_n hx hb dX6_goes_31 rfl (lv_at hl 2 rfl) ?_
        refine va_get (D := (dC, dI)) (ci := 6) (v := .ref (a 1)) (C := RX6) (T := TX6) (N := 23) hx hb hts inX6 hown hK.1 hP 0 rfl rfl 1 (by decide) (hts _ w_fieldLink_X6_7) (fun _ h9 => h9) rfl dX6_goes_32 ?_
        refine lv_bipush (v := 62) hx hb dX6_goes_35 (by decide) ?_
        refine va_iald hx hb hK.1 hP 1 0 rfl rfl (i := (62 : Int32)) (show ixok (62 : Int32) 103 by decide) dX6_goes_37 ?_
        refine lv_iadd hx hb dX6_goes_38 ?_
        refine lv_aload_n hx hb dX6_goes_39 rfl (lv_at hl 2 rfl) ?_
        refine lv_iload_n hx hb dX6_goes_40 rfl (lv_at hl 3 rfl) ?_
        refine lv_bipush (v := 6) hx hb dX6_goes_41 (by decide) ?_
        obtain ⟨o13, h14, hF⟩ := obd hF
        refine wcRVi (As := [.int p1, .int (6 : Int32)]) (rest := [.int (o10 + ((M_s v) (62 : Int32).toNatClampNeg)), .int (s13.1 + (1 : Int32))]) (b := (a 0)) ⟨hx, hb, hml, hown, hts⟩ (met_X6_of l dC dI cyI cyO cyL a N v p1 (6 : Int32) o13 h14) (cwV 2 hts (gV w_methodLink_X6_42 w_instanceMethod_X6_of w_selects_X6_of w_initialized_X6 w_code_X6_of) rfl rfl rfl (by decide +kernel) ⟨Nat.le_of_ble_eq_true rfl, Nat.le_of_ble_eq_true rfl⟩) (va_recv hK.1 hP (ci := 6) (q0 := 0) rfl rfl) hP hK [0, 1, 2, 3, 4, 5, 6, 7] rfl rfl hl.1 (Nat.le_of_ble_eq_true rfl) dX6_goes_43 ⟨Nat.le_of_ble_eq_true rfl, Nat.le_of_ble_eq_true rfl⟩ hS (fun r H locs hw hP hS => ?_)
        have hw := hw.symm
        subst hw
        obtain ⟨o15, h16, hF⟩ := obd hF
        refine wcRSi (As := [.int (s13.1 + (1 : Int32)), .int (o10 + ((M_s v) (62 : Int32).toNatClampNeg)), .int o13]) (rest := []) ⟨hx, hb, hml, hown, hts⟩ (met_X6_column l dC dI cyI cyO cyL  N  (s13.1 + (1 : Int32)) (o10 + ((M_s v) (62 : Int32).toNatClampNeg)) o13 o15 h16) (va_cwS 3 hts (gS w_methodLink_X6_60 w_static_X6_column w_initialized_X6 w_code_X6_column) rfl rfl rfl (by decide +kernel) ⟨Nat.le_of_ble_eq_true rfl, Nat.le_of_ble_eq_true rfl⟩) hP hK [] rfl rfl hl.1 (Nat.le_of_ble_eq_true rfl) dX6_goes_46 ⟨Nat.le_of_ble_eq_true rfl, Nat.le_of_ble_eq_true rfl⟩ hS (fun r H locs hw hP hS => ?_)
        have hw := hw.symm
        subst hw
        refine lv_istore (lv' := [(5, .int o15), (2, .int (s13.1 + (1 : Int32))), (4, .int (s13.2.2 + (-1 : Int32))), (0, .ref (a 0)), (1, .int p1), (3, .int s13.2.1)]) hx hb dX6_goes_49 hl (by decide) rfl (fun ls hl => ?_)
        refine lv_iload hx hb dX6_goes_51 (lv_at hl 0 rfl) ?_
        refine lv_iconst (v := 0) hx hb dX6_goes_53 (by decide) ?_
        refine lv_bipush (v := 20) hx hb dX6_goes_54 (by decide) ?_
        obtain ⟨o17, h18, hF⟩ := obd hF
        refine wcRSi (As := [.int o15, .int (0 : Int32), .int (20 : Int32)]) (rest := []) ⟨hx, hb, hml, hown, hts⟩ (met_X6_in l dC dI cyI cyO cyL  N  o15 (0 : Int32) (20 : Int32) o17 h18) (va_cwS 3 hts (gS w_methodLink_X6_35 w_static_X6_in w_initialized_X6 w_code_X6_in) rfl rfl rfl (by decide +kernel) ⟨Nat.le_of_ble_eq_true rfl, Nat.le_of_ble_eq_true rfl⟩) hP hK [] rfl rfl hl.1 (Nat.le_of_ble_eq_true rfl) dX6_goes_56 ⟨Nat.le_of_ble_eq_true rfl, Nat.le_of_ble_eq_true rfl⟩ hS (fun r H locs hw hP hS => ?_)
        obtain ⟨hw, hz19⟩ := hw
        have hw := hw.symm
        subst hw
        obtain ⟨j68, hj68, hF⟩ := jn_use hF
        have hJ68 : ∀ (s68 : Unit) (H : Heap) (locs : List Loc) (ls : Array Slot), va_P (dC, dI) vwCl (cM cyI a v) H → va_D A (cM cyI a v) → va_S A s.heap H locs → lv_has ls 7 [] → j68 s68 = some out → W p l e (headSpec (Cond.code yX6_goes cX6_goes 7 none :: wT) ({ frames := 3, cells := 0, slots := 0, locals := 73 } : Room)).room s m ([.ref (a 0), .int p1] : List Value).toArray below meth c H locs 0 0 (MQ below (va_Qv (fun (u : MV) => u = out) (fun u t => va_P (dC, dI) vwCl (cM cyI a u) t.heap ∧ va_D A (cM cyI a u)) A) ([.ref (a 0), .int p1] : List Value).toArray s 0 0 A) (F0 m 68 ls []) := by
          intro s68 H locs ls hP hD hS hl hF
          have hF := (congrFun hj68 s68).symm.trans hF
          exact W.vret hx hb hr (fun t ht hW => ⟨⟨_, rfl, Option.some.inj hF, by rw [ht]; exact hP, hD⟩, hS.F ht⟩) hS.2.2 dX6_goes_68
        refine lv_if_eq (tgt := 68) hx hb dX6_goes_59 (by decide) (fun c20 => ?_) (fun c20 => ?_)
        · have hF := itp c20 hF
          exact hJ68 () _ _ _ hP hD hS (lv_sub hl [] rfl) hF
        · have hF := itn c20 hF
          refine lv_iload_n hx hb dX6_goes_62 rfl (lv_at hl 1 rfl) ?_
          refine lv_bipush (v := 60) hx hb dX6_goes_63 (by decide) ?_
          refine lv_icmp_ne (tgt := 69) hx hb dX6_goes_65 (by decide) (fun c21 => ?_) (fun c21 => ?_)
          · have hF := itn c21 hF
            refine lv_aload_n hx hb dX6_goes_69 rfl (lv_at hl 3 rfl) ?_
            refine lv_iload_n hx hb dX6_goes_70 rfl (lv_at hl 1 rfl) ?_
            refine lv_iload hx hb dX6_goes_71 (lv_at hl 0 rfl) ?_
            obtain ⟨o22, h23, hF⟩ := obd hF
            refine wcRVi (As := [.int (s13.1 + (1 : Int32)), .int o15]) (rest := []) (b := (a 0)) ⟨hx, hb, hml, hown, hts⟩ (met_X6_thingAt l dC dI cyI cyO cyL a N v (s13.1 + (1 : Int32)) o15 o22 h23) (cwV 2 hts (gV w_methodLink_X6_53 w_instanceMethod_X6_thingAt w_selects_X6_thingAt w_initialized_X6 w_code_X6_thingAt) rfl rfl rfl (by decide +kernel) ⟨Nat.le_of_ble_eq_true rfl, Nat.le_of_ble_eq_true rfl⟩) (va_recv hK.1 hP (ci := 6) (q0 := 0) rfl rfl) hP hK [0, 1, 2, 3, 4, 5, 6, 7] rfl rfl hl.1 (Nat.le_of_ble_eq_true rfl) dX6_goes_73 ⟨Nat.le_of_ble_eq_true rfl, Nat.le_of_ble_eq_true rfl⟩ hS (fun r H locs hw hP hS => ?_)
            have hw := hw.symm
            subst hw
            refine lv_istore (lv' := [(6, .int o22), (5, .int o15), (2, .int (s13.1 + (1 : Int32))), (4, .int (s13.2.2 + (-1 : Int32))), (0, .ref (a 0)), (1, .int p1), (3, .int s13.2.1)]) hx hb dX6_goes_76 hl (by decide) rfl (fun ls hl => ?_)
            refine lv_iload hx hb dX6_goes_78 (lv_at hl 0 rfl) ?_
            refine lv_if_lt (tgt := 166) hx hb dX6_goes_80 (by decide) (fun c24 => ?_) (fun c24 => ?_)
            · have hF := itp c24 hF
              refine lv_iload hx hb dX6_goes_166 (lv_at hl 1 rfl) ?_
              refine lv_istore_n (lv' := [(3, .int o15), (6, .int o22), (5, .int o15), (2, .int (s13.1 + (1 : Int32))), (4, .int (s13.2.2 + (-1 : Int32))), (0, .ref (a 0)), (1, .int p1)]) hx hb dX6_goes_168 rfl hl (by decide) rfl (fun ls hl => ?_)
              refine lv_goto (tgt := 13) hx hb dX6_goes_169 (by decide) ?_
              exact ih13 ((s13.1 + (1 : Int32)), o15, (s13.2.2 + (-1 : Int32))) _ _ _ hP hD hS (lv_sub hl [5, 6, 3, 0, 4] rfl) hF
            · have hF := itn c24 hF
              refine lv_aload_n hx hb dX6_goes_83 rfl (lv_at hl 4 rfl) ?_
              refine lv_iload_n hx hb dX6_goes_84 rfl (lv_at hl 5 rfl) ?_
              refine lv_iconst (v := 3) hx hb dX6_goes_85 (by decide) ?_
              refine lv_iload hx hb dX6_goes_86 (lv_at hl 0 rfl) ?_
              refine lv_bipush (v := 8) hx hb dX6_goes_88 (by decide) ?_
              obtain ⟨j98, hj98, hF⟩ := jn_use hF
              have hJ98 : ∀ (s98 : Int32) (H : Heap) (locs : List Loc) (ls : Array Slot) (hz_98_s3 : b01 s98), va_P (dC, dI) vwCl (cM cyI a v) H → va_D A (cM cyI a v) → va_S A s.heap H locs → lv_has ls 7 [(0, .ref (a 0)), (1, .int p1), (2, .int (s13.1 + (1 : Int32))), (3, .int s13.2.1), (4, .int (s13.2.2 + (-1 : Int32))), (6, .int o22)] → j98 s98 = some out → W p l e (headSpec (Cond.code yX6_goes cX6_goes 7 none :: wT) ({ frames := 3, cells := 0, slots := 0, locals := 73 } : Room)).room s m ([.ref (a 0), .int p1] : List Value).toArray below meth c H locs 0 0 (MQ below (va_Qv (fun (u : MV) => u = out) (fun u t => va_P (dC, dI) vwCl (cM cyI a u) t.heap ∧ va_D A (cM cyI a u)) A) ([.ref (a 0), .int p1] : List Value).toArray s 0 0 A) (F0 m 98 ls [.int s98, .int (3 : Int32), .int p1, .ref (a 0)]) := by
                intro s98 H locs ls hz_98_s3 hP hD hS hl hF
                have hF := (congrFun hj98 s98).symm.trans hF
                obtain ⟨o25, h26, hF⟩ := obd hF
                refine wcWVv (As := [.int p1, .int (3 : Int32), .int s98]) (rest := []) (wr := []) (b := (a 0)) ⟨hx, hb, hml, hown, hts⟩ (met_X6_sets l dC dI cyI cyO cyL a _ N v p1 (3 : Int32) s98 o25 h26) (cwV 3 hts (gV w_methodLink_X6_46 w_instanceMethod_X6_sets w_selects_X6_sets w_initialized_X6 w_code_X6_sets) rfl rfl rfl (by decide +kernel) ⟨Nat.le_of_ble_eq_true rfl, Nat.le_of_ble_eq_true rfl⟩) (va_recv hK.1 hP (ci := 6) (q0 := 0) rfl rfl) hP hD hK [0, 1, 2, 3, 4, 5, 6, 7] [] rfl rfl (by decide) (by decide) (by decide) rfl hl.1 (Nat.le_of_ble_eq_true rfl) dX6_goes_98 ⟨Nat.le_of_ble_eq_true rfl, Nat.le_of_ble_eq_true rfl⟩ hS hA (fun u H locs hw hP hD hS => ?_)
                have hw := hw.symm
                subst hw
                have hP : va_P (dC, dI) vwCl (cM cyI a o25) H := hP
                have hD : va_D A (cM cyI a o25) := hD
                refine lv_aload_n hx hb dX6_goes_101 rfl (lv_at hl 0 rfl) ?_
                refine va_get (D := (dC, dI)) (ci := 6) (v := .ref (a 1)) (C := RX6) (T := TX6) (N := 23) hx hb hts inX6 hown hK.1 hP 0 rfl rfl 1 (by decide) (hts _ w_fieldLink_X6_7) (fun _ h9 => h9) rfl dX6_goes_102 ?_
                refine lv_bipush (v := 102) hx hb dX6_goes_105 (by decide) ?_
                refine lv_dup2_11 hx hb dX6_goes_107 rfl rfl ?_
                refine va_iald hx hb hK.1 hP 1 0 rfl rfl (i := (102 : Int32)) (show ixok (102 : Int32) 103 by decide) dX6_goes_108 ?_
                refine lv_iload hx hb dX6_goes_109 (lv_at hl 5 rfl) ?_
                refine lv_bipush (v := 8) hx hb dX6_goes_111 (by decide) ?_
                obtain ⟨j121, hj121, hF⟩ := jn_use hF
                have hJ121 : ∀ (s121 : Int32) (H : Heap) (locs : List Loc) (ls : Array Slot) (hz_121_s3 : b01 s121), va_P (dC, dI) vwCl (cM cyI a o25) H → va_D A (cM cyI a o25) → va_S A s.heap H locs → lv_has ls 7 [(0, .ref (a 0)), (1, .int p1), (2, .int (s13.1 + (1 : Int32))), (3, .int s13.2.1), (4, .int (s13.2.2 + (-1 : Int32))), (6, .int o22)] → j121 s121 = some out → W p l e (headSpec (Cond.code yX6_goes cX6_goes 7 none :: wT) ({ frames := 3, cells := 0, slots := 0, locals := 73 } : Room)).room s m ([.ref (a 0), .int p1] : List Value).toArray below meth c H locs 0 0 (MQ below (va_Qv (fun (u : MV) => u = out) (fun u t => va_P (dC, dI) vwCl (cM cyI a u) t.heap ∧ va_D A (cM cyI a u)) A) ([.ref (a 0), .int p1] : List Value).toArray s 0 0 A) (F0 m 121 ls [.int s121, .int ((M_s o25) (102 : Int32).toNatClampNeg), .int (102 : Int32), .ref (a 1)]) := by
                  intro s121 H locs ls hz_121_s3 hP hD hS hl hF
                  have hF := (congrFun hj121 s121).symm.trans hF
                  refine lv_iadd hx hb dX6_goes_121 ?_
                  refine va_iast hx hb hK.1 hP hD hS 1 0 rfl rfl (i := (102 : Int32)) (x := (((M_s o25) (102 : Int32).toNatClampNeg) + s121)) (show ixok (102 : Int32) 103 by decide) dX6_goes_122 (fun H locs hP hD hS => ?_)
                  have hP : va_P (dC, dI) vwCl (cM cyI a (M_set_s o25 (upd (M_s o25) (102 : Int32).toNatClampNeg (((M_s o25) (102 : Int32).toNatClampNeg) + s121)))) H := hP
                  have hD : va_D A (cM cyI a (M_set_s o25 (upd (M_s o25) (102 : Int32).toNatClampNeg (((M_s o25) (102 : Int32).toNatClampNeg) + s121)))) := hD
                  refine lv_aload_n hx hb dX6_goes_123 rfl (lv_at hl 0 rfl) ?_
                  refine lv_iload_n hx hb dX6_goes_124 rfl (lv_at hl 1 rfl) ?_
                  refine lv_iconst (v := 2) hx hb dX6_goes_125 (by decide) ?_
                  refine lv_iload_n hx hb dX6_goes_126 rfl (lv_at hl 3 rfl) ?_
                  obtain ⟨o29, h30, hF⟩ := obd hF
                  refine wcWVv (As := [.int p1, .int (2 : Int32), .int s13.2.1]) (rest := []) (wr := []) (b := (a 0)) ⟨hx, hb, hml, hown, hts⟩ (met_X6_sets l dC dI cyI cyO cyL a _ N (M_set_s o25 (upd (M_s o25) (102 : Int32).toNatClampNeg (((M_s o25) (102 : Int32).toNatClampNeg) + s121))) p1 (2 : Int32) s13.2.1 o29 h30) (cwV 3 hts (gV w_methodLink_X6_46 w_instanceMethod_X6_sets w_selects_X6_sets w_initialized_X6 w_code_X6_sets) rfl rfl rfl (by decide +kernel) ⟨Nat.le_of_ble_eq_true rfl, Nat.le_of_ble_eq_true rfl⟩) (va_recv hK.1 hP (ci := 6) (q0 := 0) rfl rfl) hP hD hK [0, 1, 2, 3, 4, 5, 6, 7] [] rfl rfl (by decide) (by decide) (by decide) rfl hl.1 (Nat.le_of_ble_eq_true rfl) dX6_goes_127 ⟨Nat.le_of_ble_eq_true rfl, Nat.le_of_ble_eq_true rfl⟩ hS hA (fun u H locs hw hP hD hS => ?_)
                  have hw := hw.symm
                  subst hw
                  have hP : va_P (dC, dI) vwCl (cM cyI a o29) H := hP
                  have hD : va_D A (cM cyI a o29) := hD
                  refine lv_aload_n hx hb dX6_goes_130 rfl (lv_at hl 0 rfl) ?_
                  refine lv_iload_n hx hb dX6_goes_131 rfl (lv_at hl 1 rfl) ?_
                  refine lv_iconst (v := 1) hx hb dX6_goes_132 (by decide) ?_
                  refine lv_iload_n hx hb dX6_goes_133 rfl (lv_at hl 2 rfl) ?_
                  refine lv_iconst (v := 1) hx hb dX6_goes_134 (by decide) ?_
                  refine lv_isub hx hb dX6_goes_135 ?_
                  obtain ⟨o31, h32, hF⟩ := obd hF
                  refine wcWVv (As := [.int p1, .int (1 : Int32), .int ((s13.1 + (1 : Int32)) - (1 : Int32))]) (rest := []) (wr := []) (b := (a 0)) ⟨hx, hb, hml, hown, hts⟩ (met_X6_sets l dC dI cyI cyO cyL a _ N o29 p1 (1 : Int32) ((s13.1 + (1 : Int32)) - (1 : Int32)) o31 h32) (cwV 3 hts (gV w_methodLink_X6_46 w_instanceMethod_X6_sets w_selects_X6_sets w_initialized_X6 w_code_X6_sets) rfl rfl rfl (by decide +kernel) ⟨Nat.le_of_ble_eq_true rfl, Nat.le_of_ble_eq_true rfl⟩) (va_recv hK.1 hP (ci := 6) (q0 := 0) rfl rfl) hP hD hK [0, 1, 2, 3, 4, 5, 6, 7] [] rfl rfl (by decide) (by decide) (by decide) rfl hl.1 (Nat.le_of_ble_eq_true rfl) dX6_goes_136 ⟨Nat.le_of_ble_eq_true rfl, Nat.le_of_ble_eq_true rfl⟩ hS hA (fun u H locs hw hP hD hS => ?_)
                  have hw := hw.symm
                  subst hw
                  have hP : va_P (dC, dI) vwCl (cM cyI a o31) H := hP
                  have hD : va_D A (cM cyI a o31) := hD
                  refine lv_aload_n hx hb dX6_goes_139 rfl (lv_at hl 0 rfl) ?_
                  refine lv_iload hx hb dX6_goes_140 (lv_at hl 5 rfl) ?_
                  refine lv_iload hx hb dX6_goes_142 (lv_at hl 4 rfl) ?_
                  refine lv_iconst (v := 2) hx hb dX6_goes_144 (by decide) ?_
                  refine lv_idiv hx hb dX6_goes_145 (by decide) ?_
                  obtain ⟨o33, h34, hF⟩ := obd hF
                  refine wcWVv (As := [.int o22, .int ((s13.2.2 + (-1 : Int32)) / (2 : Int32))]) (rest := []) (wr := []) (b := (a 0)) ⟨hx, hb, hml, hown, hts⟩ (met_X6_goesOn l dC dI cyI cyO cyL a _ N o31 o22 ((s13.2.2 + (-1 : Int32)) / (2 : Int32)) o33 h34) (cwV 2 hts (gV w_methodLink_X6_64 w_instanceMethod_X6_goesOn w_selects_X6_goesOn w_initialized_X6 w_code_X6_goesOn) rfl rfl rfl (by decide +kernel) ⟨Nat.le_of_ble_eq_true rfl, Nat.le_of_ble_eq_true rfl⟩) (va_recv hK.1 hP (ci := 6) (q0 := 0) rfl rfl) hP hD hK [0, 1, 2, 3, 4, 5, 6, 7] [] rfl rfl (by decide) (by decide) (by decide) rfl hl.1 (Nat.le_of_ble_eq_true rfl) dX6_goes_146 ⟨Nat.le_of_ble_eq_true rfl, Nat.le_of_ble_eq_true rfl⟩ hS hA (fun u H locs hw hP hD hS => ?_)
                  have hw := hw.symm
                  subst hw
                  have hP : va_P (dC, dI) vwCl (cM cyI a o33) H := hP
                  have hD : va_D A (cM cyI a o33) := hD
                  refine lv_aload_n hx hb dX6_goes_149 rfl (lv_at hl 0 rfl) ?_
                  refine lv_iload_n hx hb dX6_goes_150 rfl (lv_at hl 1 rfl) ?_
                  refine lv_iconst (v := 0) hx hb dX6_goes_151 (by decide) ?_
                  refine lv_iload_n hx hb dX6_goes_152 rfl (lv_at hl 2 rfl) ?_
                  refine lv_iconst (v := 1) hx hb dX6_goes_153 (by decide) ?_
                  obtain ⟨j162, hj162, hF⟩ := jn_use hF
                  have hJ162 : ∀ (s162 : Int32) (H : Heap) (locs : List Loc) (ls : Array Slot), va_P (dC, dI) vwCl (cM cyI a o33) H → va_D A (cM cyI a o33) → va_S A s.heap H locs → lv_has ls 7 [] → j162 s162 = some out → W p l e (headSpec (Cond.code yX6_goes cX6_goes 7 none :: wT) ({ frames := 3, cells := 0, slots := 0, locals := 73 } : Room)).room s m ([.ref (a 0), .int p1] : List Value).toArray below meth c H locs 0 0 (MQ below (va_Qv (fun (u : MV) => u = out) (fun u t => va_P (dC, dI) vwCl (cM cyI a u) t.heap ∧ va_D A (cM cyI a u)) A) ([.ref (a 0), .int p1] : List Value).toArray s 0 0 A) (F0 m 162 ls [.int s162, .int (0 : Int32), .int p1, .ref (a 0)]) := by
                    intro s162 H locs ls hP hD hS hl hF
                    have hF := (congrFun hj162 s162).symm.trans hF
                    obtain ⟨o35, h36, hF⟩ := obd hF
                    refine wcWVv (As := [.int p1, .int (0 : Int32), .int s162]) (rest := []) (wr := []) (b := (a 0)) ⟨hx, hb, hml, hown, hts⟩ (met_X6_sets l dC dI cyI cyO cyL a _ N o33 p1 (0 : Int32) s162 o35 h36) (cwV 3 hts (gV w_methodLink_X6_46 w_instanceMethod_X6_sets w_selects_X6_sets w_initialized_X6 w_code_X6_sets) rfl rfl rfl (by decide +kernel) ⟨Nat.le_of_ble_eq_true rfl, Nat.le_of_ble_eq_true rfl⟩) (va_recv hK.1 hP (ci := 6) (q0 := 0) rfl rfl) hP hD hK [0, 1, 2, 3, 4, 5, 6, 7] [] rfl rfl (by decide) (by decide) (by decide) rfl hl.1 (Nat.le_of_ble_eq_true rfl) dX6_goes_162 ⟨Nat.le_of_ble_eq_true rfl, Nat.le_of_ble_eq_true rfl⟩ hS hA (fun u H locs hw hP hD hS => ?_)
                    have hw := hw.symm
                    subst hw
                    have hP : va_P (dC, dI) vwCl (cM cyI a o35) H := hP
                    have hD : va_D A (cM cyI a o35) := hD
                    exact W.vret hx hb hr (fun t ht hW => ⟨⟨_, rfl, Option.some.inj hF, by rw [ht]; exact hP, hD⟩, hS.F ht⟩) hS.2.2 dX6_goes_165
                  refine lv_icmp_le (tgt := 161) hx hb dX6_goes_154 (by decide) (fun c37 => ?_) (fun c37 => ?_)
                  · have hF := itp c37 hF
                    refine lv_iconst (v := 2) hx hb dX6_goes_161 (by decide) ?_
                    exact hJ162 (2 : Int32) _ _ _ hP hD hS (lv_sub hl [] rfl) hF
                  · have hF := itn c37 hF
                    refine lv_iconst (v := 0) hx hb dX6_goes_157 (by decide) ?_
                    refine lv_goto (tgt := 162) hx hb dX6_goes_158 (by decide) ?_
                    exact hJ162 (0 : Int32) _ _ _ hP hD hS (lv_sub hl [] rfl) hF
                refine lv_icmp_ne (tgt := 120) hx hb dX6_goes_113 (by decide) (fun c38 => ?_) (fun c38 => ?_)
                · have hF := itn c38 hF
                  refine lv_iconst (v := 0) hx hb dX6_goes_120 (by decide) ?_
                  exact hJ121 (0 : Int32) _ _ _ b01_0 hP hD hS (lv_sub hl [0, 1, 2, 3, 4, 5] rfl) hF
                · have hF := itp c38 hF
                  refine lv_iconst (v := 1) hx hb dX6_goes_116 (by decide) ?_
                  refine lv_goto (tgt := 121) hx hb dX6_goes_117 (by decide) ?_
                  exact hJ121 (1 : Int32) _ _ _ b01_1 hP hD hS (lv_sub hl [0, 1, 2, 3, 4, 5] rfl) hF
              refine lv_icmp_ne (tgt := 97) hx hb dX6_goes_90 (by decide) (fun c39 => ?_) (fun c39 => ?_)
              · have hF := itn c39 hF
                refine lv_iconst (v := 0) hx hb dX6_goes_97 (by decide) ?_
                exact hJ98 (0 : Int32) _ _ _ b01_0 hP hD hS (lv_sub hl [4, 5, 2, 6, 3, 0] rfl) hF
              · have hF := itp c39 hF
                refine lv_iconst (v := 1) hx hb dX6_goes_93 (by decide) ?_
                refine lv_goto (tgt := 98) hx hb dX6_goes_94 (by decide) ?_
                exact hJ98 (1 : Int32) _ _ _ b01_1 hP hD hS (lv_sub hl [4, 5, 2, 6, 3, 0] rfl) hF
          · have hF := itp c21 hF
            exact hJ68 () _ _ _ hP hD hS (lv_sub hl [] rfl) hF
  exact hL13 N ((0 : Int32), (10 : Int32), o1) _ _ _ hP hD hS (lv_sub hl [3, 4, 2, 1, 0] rfl) hF
theorem dX6_isBurntNow_0 : decode cX6_isBurntNow 0 = .ok (.aload_n 0, 1) := by decide +kernel
theorem dX6_isBurntNow_1 : decode cX6_isBurntNow 1 = .ok (.getfield 7, 3) := by decide +kernel
theorem dX6_isBurntNow_4 : decode cX6_isBurntNow 4 = .ok (.iconst 0, 1) := by decide +kernel
theorem dX6_isBurntNow_5 : decode cX6_isBurntNow 5 = .ok (.iaload, 1) := by decide +kernel
theorem dX6_isBurntNow_6 : decode cX6_isBurntNow 6 = .ok (.iconst 1, 1) := by decide +kernel
theorem dX6_isBurntNow_7 : decode cX6_isBurntNow 7 = .ok (.if_icmp .ne 18, 3) := by decide +kernel
theorem dX6_isBurntNow_10 : decode cX6_isBurntNow 10 = .ok (.aload_n 0, 1) := by decide +kernel
theorem dX6_isBurntNow_11 : decode cX6_isBurntNow 11 = .ok (.getfield 7, 3) := by decide +kernel
theorem dX6_isBurntNow_14 : decode cX6_isBurntNow 14 = .ok (.iconst 1, 1) := by decide +kernel
theorem dX6_isBurntNow_15 : decode cX6_isBurntNow 15 = .ok (.iaload, 1) := by decide +kernel
theorem dX6_isBurntNow_16 : decode cX6_isBurntNow 16 = .ok (.bipush 60, 2) := by decide +kernel
theorem dX6_isBurntNow_18 : decode cX6_isBurntNow 18 = .ok (.if_icmp .ne 7, 3) := by decide +kernel
theorem dX6_isBurntNow_21 : decode cX6_isBurntNow 21 = .ok (.iconst 1, 1) := by decide +kernel
theorem dX6_isBurntNow_22 : decode cX6_isBurntNow 22 = .ok (.goto 4, 3) := by decide +kernel
theorem dX6_isBurntNow_25 : decode cX6_isBurntNow 25 = .ok (.iconst 0, 1) := by decide +kernel
theorem dX6_isBurntNow_26 : decode cX6_isBurntNow 26 = .ok (.istore_n 1, 1) := by decide +kernel
theorem dX6_isBurntNow_27 : decode cX6_isBurntNow 27 = .ok (.iconst 0, 1) := by decide +kernel
theorem dX6_isBurntNow_28 : decode cX6_isBurntNow 28 = .ok (.istore_n 2, 1) := by decide +kernel
theorem dX6_isBurntNow_29 : decode cX6_isBurntNow 29 = .ok (.iload_n 2, 1) := by decide +kernel
theorem dX6_isBurntNow_30 : decode cX6_isBurntNow 30 = .ok (.aload_n 0, 1) := by decide +kernel
theorem dX6_isBurntNow_31 : decode cX6_isBurntNow 31 = .ok (.getfield 7, 3) := by decide +kernel
theorem dX6_isBurntNow_34 : decode cX6_isBurntNow 34 = .ok (.iconst 3, 1) := by decide +kernel
theorem dX6_isBurntNow_35 : decode cX6_isBurntNow 35 = .ok (.iaload, 1) := by decide +kernel
theorem dX6_isBurntNow_36 : decode cX6_isBurntNow 36 = .ok (.if_icmp .ge 28, 3) := by decide +kernel
theorem dX6_isBurntNow_39 : decode cX6_isBurntNow 39 = .ok (.iload_n 1, 1) := by decide +kernel
theorem dX6_isBurntNow_40 : decode cX6_isBurntNow 40 = .ok (.ifCond .eq 16, 3) := by decide +kernel
theorem dX6_isBurntNow_43 : decode cX6_isBurntNow 43 = .ok (.aload_n 0, 1) := by decide +kernel
theorem dX6_isBurntNow_44 : decode cX6_isBurntNow 44 = .ok (.iload_n 2, 1) := by decide +kernel
theorem dX6_isBurntNow_45 : decode cX6_isBurntNow 45 = .ok (.iconst 3, 1) := by decide +kernel
theorem dX6_isBurntNow_46 : decode cX6_isBurntNow 46 = .ok (.invokevirtual 42, 3) := by decide +kernel
theorem dX6_isBurntNow_49 : decode cX6_isBurntNow 49 = .ok (.ifCond .ne 7, 3) := by decide +kernel
theorem dX6_isBurntNow_52 : decode cX6_isBurntNow 52 = .ok (.iconst 1, 1) := by decide +kernel
theorem dX6_isBurntNow_53 : decode cX6_isBurntNow 53 = .ok (.goto 4, 3) := by decide +kernel
theorem dX6_isBurntNow_56 : decode cX6_isBurntNow 56 = .ok (.iconst 0, 1) := by decide +kernel
theorem dX6_isBurntNow_57 : decode cX6_isBurntNow 57 = .ok (.istore_n 1, 1) := by decide +kernel
theorem dX6_isBurntNow_58 : decode cX6_isBurntNow 58 = .ok (.iinc 2 1, 3) := by decide +kernel
theorem dX6_isBurntNow_61 : decode cX6_isBurntNow 61 = .ok (.goto (-32), 3) := by decide +kernel
theorem dX6_isBurntNow_64 : decode cX6_isBurntNow 64 = .ok (.iload_n 1, 1) := by decide +kernel
theorem dX6_isBurntNow_65 : decode cX6_isBurntNow 65 = .ok (.ireturn, 1) := by decide +kernel
def f_X6_isBurntNow (N : Nat) (v : MV) : Option (Int32) :=
  jn (fun (s26 : Int32) => lpN (fun (s29 : Int32 × Int32) (k29 : (Int32 × Int32) → Option (Int32)) => (if ((M_s v) (3 : Int32).toNatClampNeg) ≤ s29.2 then some s29.1 else jn (fun (s57 : Int32) => k29 (s57, (s29.2 + (1 : Int32)))) (fun (j57 : (Int32) → Option (Int32)) => jn (fun (s56 : Unit) => j57 (0 : Int32)) (fun (j56 : (Unit) → Option (Int32)) => (if s29.1 = 0 then j56 () else (f_X6_of N v s29.2 (3 : Int32)).bind (fun o5 => (if o5 = 0 then j57 (1 : Int32) else j56 ()))))))) N (s26, (0 : Int32))) (fun (j26 : (Int32) → Option (Int32)) => jn (fun (s25 : Unit) => j26 (0 : Int32)) (fun (j25 : (Unit) → Option (Int32)) => (if ((M_s v) (0 : Int32).toNatClampNeg) = (1 : Int32) then (if ((M_s v) (1 : Int32).toNatClampNeg) = (60 : Int32) then j26 (1 : Int32) else j25 ()) else j25 ())))
set_option maxHeartbeats 4000000 in
set_option maxRecDepth 100000 in
theorem met_X6_isBurntNow (l : Launch) (dC : Nat → ClassId) (dI : Nat → Nat → Nat) (cyI cyO cyL : ClassId) (a : Nat → Nat) (N : Nat) (v : MV) (out : Int32) (hF : f_X6_isBurntNow N v = some out) : Met l yX6_isBurntNow (Cond.code yX6_isBurntNow cX6_isBurntNow 3 (some .boolean) :: wT) ({ frames := 1, cells := 0, slots := 0, locals := 22 } : Room) (wRd dC dI cyI cyO cyL [.ref (a 0)] (cM cyI a v)) (va_Qi (fun (r : Int32) (_ : Unit) => r = out ∧ b01 r) (fun _ _ => True) wN0) 0 0 wN0 := by
  refine Met.ofW (cc := cX6_isBurntNow) (maxL := 3) (ret := (some .boolean)) (by decide) rfl ?_
  intro p e s m args below meth c s₁ B hml hv
  obtain ⟨rfl, hP, hK⟩ := hv
  have hx := B.exec
  have hb := B.bytes
  have hr := B.returns
  have hts0 := atoms_spec (ws := (Cond.code yX6_isBurntNow cX6_isBurntNow 3 (some .boolean) :: wT)) B.pre
  have hts := fun w h => hts0 w (List.mem_cons_of_mem _ h)
  clear hts0
  have hown : s.vm.findClass RX6 = some m.cls := findClass_of_methodNamed B.named
  have hlocks := B.notSynchronized
  have hS : va_S wN0 s.heap s.heap [] := va_S.rf
  have hl := lv_entry [.ref (a 0)] (n := 3) (Nat.le_of_ble_eq_true rfl)
  rw [lg_entry_eq]
  generalize (lg_sl [.ref (a 0)] ++ List.replicate (3 - (lg_sl [.ref (a 0)]).length) Slot.unset).toArray = ls at hl ⊢
  have hl : lv_has ls 3 [(0, .ref (a 0))] := hl
  unfold f_X6_isBurntNow at hF
  refine lv_aload_n hx hb dX6_isBurntNow_0 rfl (lv_at hl 0 rfl) ?_
  refine va_get (D := (dC, dI)) (ci := 6) (v := .ref (a 1)) (C := RX6) (T := TX6) (N := 23) hx hb hts inX6 hown hK.1 hP 0 rfl rfl 1 (by decide) (hts _ w_fieldLink_X6_7) (fun _ h9 => h9) rfl dX6_isBurntNow_1 ?_
  refine lv_iconst (v := 0) hx hb dX6_isBurntNow_4 (by decide) ?_
  refine va_iald hx hb hK.1 hP 1 0 rfl rfl (i := (0 : Int32)) (show ixok (0 : Int32) 103 by decide) dX6_isBurntNow_5 ?_
  refine lv_iconst (v := 1) hx hb dX6_isBurntNow_6 (by decide) ?_
  obtain ⟨j26, hj26, hF⟩ := jn_use hF
  have hJ26 : ∀ (s26 : Int32) (H : Heap) (locs : List Loc) (ls : Array Slot) (hz_26_s0 : b01 s26), va_P (dC, dI) vwCl (cM cyI a v) H → va_S wN0 s.heap H locs → lv_has ls 3 [(0, .ref (a 0))] → j26 s26 = some out → W p l e (headSpec (Cond.code yX6_isBurntNow cX6_isBurntNow 3 (some .boolean) :: wT) ({ frames := 1, cells := 0, slots := 0, locals := 22 } : Room)).room s m ([.ref (a 0)] : List Value).toArray below meth c H locs 0 0 (MQ below (va_Qi (fun (r : Int32) (_ : Unit) => r = out ∧ b01 r) (fun _ _ => True) wN0) ([.ref (a 0)] : List Value).toArray s 0 0 wN0) (F0 m 26 ls [.int s26]) := by
    intro s26 H locs ls hz_26_s0 hP hS hl hF
    have hF := (congrFun hj26 s26).symm.trans hF
    refine lv_istore_n (lv' := [(1, .int s26), (0, .ref (a 0))]) hx hb dX6_isBurntNow_26 rfl hl (by decide) rfl (fun ls hl => ?_)
    refine lv_iconst (v := 0) hx hb dX6_isBurntNow_27 (by decide) ?_
    refine lv_istore_n (lv' := [(2, .int (0 : Int32)), (1, .int s26), (0, .ref (a 0))]) hx hb dX6_isBurntNow_28 rfl hl (by decide) rfl (fun ls hl => ?_)
    obtain ⟨st29, hst29, hF⟩ := lpN_use hF
    have hL29 : ∀ (n : Nat) (s29 : Int32 × Int32) (H : Heap) (locs : List Loc) (ls : Array Slot) (hz_29_1 : b01 s29.1), va_P (dC, dI) vwCl (cM cyI a v) H → va_S wN0 s.heap H locs → lv_has ls 3 [(0, .ref (a 0)), (1, .int s29.1), (2, .int s29.2)] → lpN st29 n s29 = some out → W p l e (headSpec (Cond.code yX6_isBurntNow cX6_isBurntNow 3 (some .boolean) :: wT) ({ frames := 1, cells := 0, slots := 0, locals := 22 } : Room)).room s m ([.ref (a 0)] : List Value).toArray below meth c H locs 0 0 (MQ below (va_Qi (fun (r : Int32) (_ : Unit) => r = out ∧ b01 r) (fun _ _ => True) wN0) ([.ref (a 0)] : List Value).toArray s 0 0 wN0) (F0 m 29 ls []) := by
      intro n
      induction n with
      | zero => intro s29 H locs ls hz_29_1 hP hS hl hF; exact lpN_0 hF
      | succ n ih29 =>
        intro s29 H locs ls hz_29_1 hP hS hl hF
        have hF := (congrFun (congrFun hst29 s29) (lpN st29 n)).symm.trans (lpN_s hF)
        refine lv_iload_n hx hb dX6_isBurntNow_29 rfl (lv_at hl 2 rfl) ?_
        refine lv_aload_n hx hb dX6_isBurntNow_30 rfl (lv_at hl 0 rfl) ?_
        refine va_get (D := (dC, dI)) (ci := 6) (v := .ref (a 1)) (C := RX6) (T := TX6) (N := 23) hx hb hts inX6 hown hK.1 hP 0 rfl rfl 1 (by decide) (hts _ w_fieldLink_X6_7) (fun _ h9 => h9) rfl dX6_isBurntNow_31 ?_
        refine lv_iconst (v := 3) hx hb dX6_isBurntNow_34 (by decide) ?_
        refine va_iald hx hb hK.1 hP 1 0 rfl rfl (i := (3 : Int32)) (show ixok (3 : Int32) 103 by decide) dX6_isBurntNow_35 ?_
        refine lv_icmp_ge (tgt := 64) hx hb dX6_isBurntNow_36 (by decide) (fun c3 => ?_) (fun c3 => ?_)
        · have hF := itp c3 hF
          refine lv_iload_n hx hb dX6_isBurntNow_64 rfl (lv_at hl 1 rfl) ?_
          exact W.zret (ty := .boolean) (v := s29.1) hx hb hr (b01_n hz_29_1) (fun t ht hW => ⟨⟨_, (), rfl, ⟨Option.some.inj hF, hz_29_1⟩, trivial⟩, hS.F ht⟩) hS.2.2 dX6_isBurntNow_65
        · have hF := itn c3 hF
          refine lv_iload_n hx hb dX6_isBurntNow_39 rfl (lv_at hl 1 rfl) ?_
          obtain ⟨j57, hj57, hF⟩ := jn_use hF
          have hJ57 : ∀ (s57 : Int32) (H : Heap) (locs : List Loc) (ls : Array Slot) (hz_57_s0 : b01 s57), va_P (dC, dI) vwCl (cM cyI a v) H → va_S wN0 s.heap H locs → lv_has ls 3 [(0, .ref (a 0)), (2, .int s29.2)] → j57 s57 = some out → W p l e (headSpec (Cond.code yX6_isBurntNow cX6_isBurntNow 3 (some .boolean) :: wT) ({ frames := 1, cells := 0, slots := 0, locals := 22 } : Room)).room s m ([.ref (a 0)] : List Value).toArray below meth c H locs 0 0 (MQ below (va_Qi (fun (r : Int32) (_ : Unit) => r = out ∧ b01 r) (fun _ _ => True) wN0) ([.ref (a 0)] : List Value).toArray s 0 0 wN0) (F0 m 57 ls [.int s57]) := by
            intro s57 H locs ls hz_57_s0 hP hS hl hF
            have hF := (congrFun hj57 s57).symm.trans hF
            refine lv_istore_n (lv' := [(1, .int s57), (0, .ref (a 0)), (2, .int s29.2)]) hx hb dX6_isBurntNow_57 rfl hl (by decide) rfl (fun ls hl => ?_)
            refine lv_iinc (v := (s29.2 + (1 : Int32))) (lv' := [(2, .int (s29.2 + (1 : Int32))), (1, .int s57), (0, .ref (a 0))]) hx hb dX6_isBurntNow_58 hl (k := 2) rfl rfl (by decide) rfl (fun ls hl => ?_)
            refine lv_goto (tgt := 29) hx hb dX6_isBurntNow_61 (by decide) ?_
            exact ih29 (s57, (s29.2 + (1 : Int32))) _ _ _ hz_57_s0 hP hS (lv_sub hl [2, 1, 0] rfl) hF
          obtain ⟨j56, hj56, hF⟩ := jn_use hF
          have hJ56 : ∀ (s56 : Unit) (H : Heap) (locs : List Loc) (ls : Array Slot), va_P (dC, dI) vwCl (cM cyI a v) H → va_S wN0 s.heap H locs → lv_has ls 3 [(0, .ref (a 0)), (2, .int s29.2)] → j56 s56 = some out → W p l e (headSpec (Cond.code yX6_isBurntNow cX6_isBurntNow 3 (some .boolean) :: wT) ({ frames := 1, cells := 0, slots := 0, locals := 22 } : Room)).room s m ([.ref (a 0)] : List Value).toArray below meth c H locs 0 0 (MQ below (va_Qi (fun (r : Int32) (_ : Unit) => r = out ∧ b01 r) (fun _ _ => True) wN0) ([.ref (a 0)] : List Value).toArray s 0 0 wN0) (F0 m 56 ls []) := by
            intro s56 H locs ls hP hS hl hF
            have hF := (congrFun hj56 s56).symm.trans hF
            refine lv_iconst (v := 0) hx hb dX6_isBurntNow_56 (by decide) ?_
            exact hJ57 (0 : Int32) _ _ _ b01_0 hP hS (lv_sub hl [0, 1] rfl) hF
          refine lv_if_eq (tgt := 56) hx hb dX6_isBurntNow_40 (by decide) (fun c4 => ?_) (fun c4 => ?_)
          · have hF := itp c4 hF
            exact hJ56 () _ _ _ hP hS (lv_sub hl [0, 2] rfl) hF
          · have hF := itn c4 hF
            refine lv_aload_n hx hb dX6_isBurntNow_43 rfl (lv_at hl 0 rfl) ?_
            refine lv_iload_n hx hb dX6_isBurntNow_44 rfl (lv_at hl 2 rfl) ?_
            refine lv_iconst (v := 3) hx hb dX6_isBurntNow_45 (by decide) ?_
            obtain ⟨o5, h6, hF⟩ := obd hF
            refine wcRVi (As := [.int s29.2, .int (3 : Int32)]) (rest := []) (b := (a 0)) ⟨hx, hb, hml, hown, hts⟩ (met_X6_of l dC dI cyI cyO cyL a N v s29.2 (3 : Int32) o5 h6) (cwV 2 hts (gV w_methodLink_X6_42 w_instanceMethod_X6_of w_selects_X6_of w_initialized_X6 w_code_X6_of) rfl rfl rfl (by decide +kernel) ⟨Nat.le_of_ble_eq_true rfl, Nat.le_of_ble_eq_true rfl⟩) (va_recv hK.1 hP (ci := 6) (q0 := 0) rfl rfl) hP hK [0, 1, 2, 3, 4, 5, 6, 7] rfl rfl hl.1 (Nat.le_of_ble_eq_true rfl) dX6_isBurntNow_46 ⟨Nat.le_of_ble_eq_true rfl, Nat.le_of_ble_eq_true rfl⟩ hS (fun r H locs hw hP hS => ?_)
            have hw := hw.symm
            subst hw
            refine lv_if_ne (tgt := 56) hx hb dX6_isBurntNow_49 (by decide) (fun c7 => ?_) (fun c7 => ?_)
            · have hF := itn c7 hF
              exact hJ56 () _ _ _ hP hS (lv_sub hl [0, 2] rfl) hF
            · have hF := itp c7 hF
              refine lv_iconst (v := 1) hx hb dX6_isBurntNow_52 (by decide) ?_
              refine lv_goto (tgt := 57) hx hb dX6_isBurntNow_53 (by decide) ?_
              exact hJ57 (1 : Int32) _ _ _ b01_1 hP hS (lv_sub hl [0, 2] rfl) hF
    exact hL29 N (s26, (0 : Int32)) _ _ _ hz_26_s0 hP hS (lv_sub hl [2, 1, 0] rfl) hF
  obtain ⟨j25, hj25, hF⟩ := jn_use hF
  have hJ25 : ∀ (s25 : Unit) (H : Heap) (locs : List Loc) (ls : Array Slot), va_P (dC, dI) vwCl (cM cyI a v) H → va_S wN0 s.heap H locs → lv_has ls 3 [(0, .ref (a 0))] → j25 s25 = some out → W p l e (headSpec (Cond.code yX6_isBurntNow cX6_isBurntNow 3 (some .boolean) :: wT) ({ frames := 1, cells := 0, slots := 0, locals := 22 } : Room)).room s m ([.ref (a 0)] : List Value).toArray below meth c H locs 0 0 (MQ below (va_Qi (fun (r : Int32) (_ : Unit) => r = out ∧ b01 r) (fun _ _ => True) wN0) ([.ref (a 0)] : List Value).toArray s 0 0 wN0) (F0 m 25 ls []) := by
    intro s25 H locs ls hP hS hl hF
    have hF := (congrFun hj25 s25).symm.trans hF
    refine lv_iconst (v := 0) hx hb dX6_isBurntNow_25 (by decide) ?_
    exact hJ26 (0 : Int32) _ _ _ b01_0 hP hS (lv_sub hl [0] rfl) hF
  refine lv_icmp_ne (tgt := 25) hx hb dX6_isBurntNow_7 (by decide) (fun c8 => ?_) (fun c8 => ?_)
  · have hF := itn c8 hF
    exact hJ25 () _ _ _ hP hS (lv_sub hl [0] rfl) hF
  · have hF := itp c8 hF
    refine lv_aload_n hx hb dX6_isBurntNow_10 rfl (lv_at hl 0 rfl) ?_
    refine va_get (D := (dC, dI)) (ci := 6) (v := .ref (a 1)) (C := RX6) (T := TX6) (N := 23) hx hb hts inX6 hown hK.1 hP 0 rfl rfl 1 (by decide) (hts _ w_fieldLink_X6_7) (fun _ h9 => h9) rfl dX6_isBurntNow_11 ?_
    refine lv_iconst (v := 1) hx hb dX6_isBurntNow_14 (by decide) ?_
    refine va_iald hx hb hK.1 hP 1 0 rfl rfl (i := (1 : Int32)) (show ixok (1 : Int32) 103 by decide) dX6_isBurntNow_15 ?_
    refine lv_bipush (v := 60) hx hb dX6_isBurntNow_16 (by decide) ?_
    refine lv_icmp_ne (tgt := 25) hx hb dX6_isBurntNow_18 (by decide) (fun c10 => ?_) (fun c10 => ?_)
    · have hF := itn c10 hF
      exact hJ25 () _ _ _ hP hS (lv_sub hl [0] rfl) hF
    · have hF := itp c10 hF
      refine lv_iconst (v := 1) hx hb dX6_isBurntNow_21 (by decide) ?_
      refine lv_goto (tgt := 26) hx hb dX6_isBurntNow_22 (by decide) ?_
      exact hJ26 (1 : Int32) _ _ _ b01_1 hP hS (lv_sub hl [0] rfl) hF
theorem dX6_puts_0 : decode cX6_puts 0 = .ok (.aload_n 0, 1) := by decide +kernel
theorem dX6_puts_1 : decode cX6_puts 1 = .ok (.getfield 7, 3) := by decide +kernel
theorem dX6_puts_4 : decode cX6_puts 4 = .ok (.bipush 63, 2) := by decide +kernel
theorem dX6_puts_6 : decode cX6_puts 6 = .ok (.iaload, 1) := by decide +kernel
theorem dX6_puts_7 : decode cX6_puts 7 = .ok (.ifCond .eq 10, 3) := by decide +kernel
theorem dX6_puts_10 : decode cX6_puts 10 = .ok (.aload_n 0, 1) := by decide +kernel
theorem dX6_puts_11 : decode cX6_puts 11 = .ok (.invokevirtual 67, 3) := by decide +kernel
theorem dX6_puts_14 : decode cX6_puts 14 = .ok (.ifCond .ne 4, 3) := by decide +kernel
theorem dX6_puts_17 : decode cX6_puts 17 = .ok (.return_, 1) := by decide +kernel
theorem dX6_puts_18 : decode cX6_puts 18 = .ok (.bipush 40, 2) := by decide +kernel
theorem dX6_puts_20 : decode cX6_puts 20 = .ok (.istore_n 1, 1) := by decide +kernel
theorem dX6_puts_21 : decode cX6_puts 21 = .ok (.aload_n 0, 1) := by decide +kernel
theorem dX6_puts_22 : decode cX6_puts 22 = .ok (.getfield 7, 3) := by decide +kernel
theorem dX6_puts_25 : decode cX6_puts 25 = .ok (.iconst 2, 1) := by decide +kernel
theorem dX6_puts_26 : decode cX6_puts 26 = .ok (.bipush 10, 2) := by decide +kernel
theorem dX6_puts_28 : decode cX6_puts 28 = .ok (.iastore, 1) := by decide +kernel
theorem dX6_puts_29 : decode cX6_puts 29 = .ok (.aload_n 0, 1) := by decide +kernel
theorem dX6_puts_30 : decode cX6_puts 30 = .ok (.iload_n 1, 1) := by decide +kernel
theorem dX6_puts_31 : decode cX6_puts 31 = .ok (.bipush 10, 2) := by decide +kernel
theorem dX6_puts_33 : decode cX6_puts 33 = .ok (.invokevirtual 53, 3) := by decide +kernel
theorem dX6_puts_36 : decode cX6_puts 36 = .ok (.ifCond .lt 9, 3) := by decide +kernel
theorem dX6_puts_39 : decode cX6_puts 39 = .ok (.iinc 1 1, 3) := by decide +kernel
theorem dX6_puts_42 : decode cX6_puts 42 = .ok (.goto (-13), 3) := by decide +kernel
theorem dX6_puts_45 : decode cX6_puts 45 = .ok (.aload_n 0, 1) := by decide +kernel
theorem dX6_puts_46 : decode cX6_puts 46 = .ok (.getfield 7, 3) := by decide +kernel
theorem dX6_puts_49 : decode cX6_puts 49 = .ok (.iconst 1, 1) := by decide +kernel
theorem dX6_puts_50 : decode cX6_puts 50 = .ok (.iload_n 1, 1) := by decide +kernel
theorem dX6_puts_51 : decode cX6_puts 51 = .ok (.iastore, 1) := by decide +kernel
theorem dX6_puts_52 : decode cX6_puts 52 = .ok (.aload_n 0, 1) := by decide +kernel
theorem dX6_puts_53 : decode cX6_puts 53 = .ok (.getfield 7, 3) := by decide +kernel
theorem dX6_puts_56 : decode cX6_puts 56 = .ok (.bipush 100, 2) := by decide +kernel
theorem dX6_puts_58 : decode cX6_puts 58 = .ok (.dup2, 1) := by decide +kernel
theorem dX6_puts_59 : decode cX6_puts 59 = .ok (.iaload, 1) := by decide +kernel
theorem dX6_puts_60 : decode cX6_puts 60 = .ok (.iconst 1, 1) := by decide +kernel
theorem dX6_puts_61 : decode cX6_puts 61 = .ok (.iadd, 1) := by decide +kernel
theorem dX6_puts_62 : decode cX6_puts 62 = .ok (.iastore, 1) := by decide +kernel
theorem dX6_puts_63 : decode cX6_puts 63 = .ok (.return_, 1) := by decide +kernel
def f_X6_puts (N : Nat) (v : MV) : Option (MV) :=
  jn (fun (s17 : Unit) => some v) (fun (j17 : (Unit) → Option (MV)) => (if ((M_s v) (63 : Int32).toNatClampNeg) = 0 then j17 () else (f_X6_isBurntNow N v).bind (fun o3 => (if o3 = 0 then j17 () else lpN (fun (s29 : Int32) (k29 : (Int32) → Option (MV)) => (f_X6_thingAt N (M_set_s v (upd (M_s v) (2 : Int32).toNatClampNeg (10 : Int32))) s29 (10 : Int32)).bind (fun o8 => (if o8 < 0 then some (M_set_s v (upd (upd (upd (M_s v) (2 : Int32).toNatClampNeg (10 : Int32)) (1 : Int32).toNatClampNeg s29) (100 : Int32).toNatClampNeg (((upd (upd (M_s v) (2 : Int32).toNatClampNeg (10 : Int32)) (1 : Int32).toNatClampNeg s29) (100 : Int32).toNatClampNeg) + (1 : Int32)))) else k29 (s29 + (1 : Int32))))) N (40 : Int32)))))
set_option maxHeartbeats 4000000 in
set_option maxRecDepth 100000 in
theorem met_X6_puts (l : Launch) (dC : Nat → ClassId) (dI : Nat → Nat → Nat) (cyI cyO cyL : ClassId) (a : Nat → Nat) (sz : Nat) (N : Nat) (v : MV) (out : MV) (hF : f_X6_puts N v = some out) : Met l yX6_puts (Cond.code yX6_puts cX6_puts 2 none :: wT) ({ frames := 2, cells := 0, slots := 0, locals := 46 } : Room) (wWr dC dI cyI cyO cyL [.ref (a 0)] (cM cyI a v) sz) (va_Qv (fun (u : MV) => u = out) (fun u t => va_P (dC, dI) vwCl (cM cyI a u) t.heap ∧ va_D (va_A (cM cyI a v) sz) (cM cyI a u)) (va_A (cM cyI a v) sz)) 0 0 (va_A (cM cyI a v) sz) := by
  refine Met.ofW (cc := cX6_puts) (maxL := 2) (ret := none) (by decide) rfl ?_
  intro p e s m args below meth c s₁ B hml hv
  obtain ⟨rfl, hsz, hP, hK, hD0⟩ := hv
  have hx := B.exec
  have hb := B.bytes
  have hr := B.returns
  have hts0 := atoms_spec (ws := (Cond.code yX6_puts cX6_puts 2 none :: wT)) B.pre
  have hts := fun w h => hts0 w (List.mem_cons_of_mem _ h)
  clear hts0
  have hown : s.vm.findClass RX6 = some m.cls := findClass_of_methodNamed B.named
  have hlocks := B.notSynchronized
  subst hsz
  have hD := hD0.self (sz := s.heap.size)
  generalize hAe : va_A (cM cyI a v) s.heap.size = A at hD ⊢
  have hA : ∀ q : Nat, s.heap.size ≤ q → A q := fun q h => by rw [← hAe]; exact Or.inr h
  clear hD0
  have hS : va_S A s.heap s.heap [] := va_S.rf
  have hl := lv_entry [.ref (a 0)] (n := 2) (Nat.le_of_ble_eq_true rfl)
  rw [lg_entry_eq]
  generalize (lg_sl [.ref (a 0)] ++ List.replicate (2 - (lg_sl [.ref (a 0)]).length) Slot.unset).toArray = ls at hl ⊢
  have hl : lv_has ls 2 [(0, .ref (a 0))] := hl
  unfold f_X6_puts at hF
  refine lv_aload_n hx hb dX6_puts_0 rfl (lv_at hl 0 rfl) ?_
  refine va_get (D := (dC, dI)) (ci := 6) (v := .ref (a 1)) (C := RX6) (T := TX6) (N := 23) hx hb hts inX6 hown hK.1 hP 0 rfl rfl 1 (by decide) (hts _ w_fieldLink_X6_7) (fun _ h9 => h9) rfl dX6_puts_1 ?_
  refine lv_bipush (v := 63) hx hb dX6_puts_4 (by decide) ?_
  refine va_iald hx hb hK.1 hP 1 0 rfl rfl (i := (63 : Int32)) (show ixok (63 : Int32) 103 by decide) dX6_puts_6 ?_
  obtain ⟨j17, hj17, hF⟩ := jn_use hF
  have hJ17 : ∀ (s17 : Unit) (H : Heap) (locs : List Loc) (ls : Array Slot), va_P (dC, dI) vwCl (cM cyI a v) H → va_D A (cM cyI a v) → va_S A s.heap H locs → lv_has ls 2 [] → j17 s17 = some out → W p l e (headSpec (Cond.code yX6_puts cX6_puts 2 none :: wT) ({ frames := 2, cells := 0, slots := 0, locals := 46 } : Room)).room s m ([.ref (a 0)] : List Value).toArray below meth c H locs 0 0 (MQ below (va_Qv (fun (u : MV) => u = out) (fun u t => va_P (dC, dI) vwCl (cM cyI a u) t.heap ∧ va_D A (cM cyI a u)) A) ([.ref (a 0)] : List Value).toArray s 0 0 A) (F0 m 17 ls []) := by
    intro s17 H locs ls hP hD hS hl hF
    have hF := (congrFun hj17 s17).symm.trans hF
    exact W.vret hx hb hr (fun t ht hW => ⟨⟨_, rfl, Option.some.inj hF, by rw [ht]; exact hP, hD⟩, hS.F ht⟩) hS.2.2 dX6_puts_17
  refine lv_if_eq (tgt := 17) hx hb dX6_puts_7 (by decide) (fun c2 => ?_) (fun c2 => ?_)
  · have hF := itp c2 hF
    exact hJ17 () _ _ _ hP hD hS (lv_sub hl [] rfl) hF
  · have hF := itn c2 hF
    refine lv_aload_n hx hb dX6_puts_10 rfl (lv_at hl 0 rfl) ?_
    obtain ⟨o3, h4, hF⟩ := obd hF
    refine wcRVi (As := []) (rest := []) (b := (a 0)) ⟨hx, hb, hml, hown, hts⟩ (met_X6_isBurntNow l dC dI cyI cyO cyL a N v  o3 h4) (cwV 0 hts (gV w_methodLink_X6_67 w_instanceMethod_X6_isBurntNow w_selects_X6_isBurntNow w_initialized_X6 w_code_X6_isBurntNow) rfl rfl rfl (by decide +kernel) ⟨Nat.le_of_ble_eq_true rfl, Nat.le_of_ble_eq_true rfl⟩) (va_recv hK.1 hP (ci := 6) (q0 := 0) rfl rfl) hP hK [0, 1, 2, 3, 4, 5, 6, 7] rfl rfl hl.1 (Nat.le_of_ble_eq_true rfl) dX6_puts_11 ⟨Nat.le_of_ble_eq_true rfl, Nat.le_of_ble_eq_true rfl⟩ hS (fun r H locs hw hP hS => ?_)
    obtain ⟨hw, hz5⟩ := hw
    have hw := hw.symm
    subst hw
    refine lv_if_ne (tgt := 18) hx hb dX6_puts_14 (by decide) (fun c6 => ?_) (fun c6 => ?_)
    · have hF := itn c6 hF
      refine lv_bipush (v := 40) hx hb dX6_puts_18 (by decide) ?_
      refine lv_istore_n (lv' := [(1, .int (40 : Int32)), (0, .ref (a 0))]) hx hb dX6_puts_20 rfl hl (by decide) rfl (fun ls hl => ?_)
      refine lv_aload_n hx hb dX6_puts_21 rfl (lv_at hl 1 rfl) ?_
      refine va_get (D := (dC, dI)) (ci := 6) (v := .ref (a 1)) (C := RX6) (T := TX6) (N := 23) hx hb hts inX6 hown hK.1 hP 0 rfl rfl 1 (by decide) (hts _ w_fieldLink_X6_7) (fun _ h9 => h9) rfl dX6_puts_22 ?_
      refine lv_iconst (v := 2) hx hb dX6_puts_25 (by decide) ?_
      refine lv_bipush (v := 10) hx hb dX6_puts_26 (by decide) ?_
      refine va_iast hx hb hK.1 hP hD hS 1 0 rfl rfl (i := (2 : Int32)) (x := (10 : Int32)) (show ixok (2 : Int32) 103 by decide) dX6_puts_28 (fun H locs hP hD hS => ?_)
      have hP : va_P (dC, dI) vwCl (cM cyI a (M_set_s v (upd (M_s v) (2 : Int32).toNatClampNeg (10 : Int32)))) H := hP
      have hD : va_D A (cM cyI a (M_set_s v (upd (M_s v) (2 : Int32).toNatClampNeg (10 : Int32)))) := hD
      obtain ⟨st29, hst29, hF⟩ := lpN_use hF
      have hL29 : ∀ (n : Nat) (s29 : Int32) (H : Heap) (locs : List Loc) (ls : Array Slot), va_P (dC, dI) vwCl (cM cyI a (M_set_s v (upd (M_s v) (2 : Int32).toNatClampNeg (10 : Int32)))) H → va_D A (cM cyI a (M_set_s v (upd (M_s v) (2 : Int32).toNatClampNeg (10 : Int32)))) → va_S A s.heap H locs → lv_has ls 2 [(0, .ref (a 0)), (1, .int s29)] → lpN st29 n s29 = some out → W p l e (headSpec (Cond.code yX6_puts cX6_puts 2 none :: wT) ({ frames := 2, cells := 0, slots := 0, locals := 46 } : Room)).room s m ([.ref (a 0)] : List Value).toArray below meth c H locs 0 0 (MQ below (va_Qv (fun (u : MV) => u = out) (fun u t => va_P (dC, dI) vwCl (cM cyI a u) t.heap ∧ va_D A (cM cyI a u)) A) ([.ref (a 0)] : List Value).toArray s 0 0 A) (F0 m 29 ls []) := by
        intro n
        induction n with
        | zero => intro s29 H locs ls hP hD hS hl hF; exact lpN_0 hF
        | succ n ih29 =>
          intro s29 H locs ls hP hD hS hl hF
          have hF := (congrFun (congrFun hst29 s29) (lpN st29 n)).symm.trans (lpN_s hF)
          refine lv_aload_n hx hb dX6_puts_29 rfl (lv_at hl 0 rfl) ?_
          refine lv_iload_n hx hb dX6_puts_30 rfl (lv_at hl 1 rfl) ?_
          refine lv_bipush (v := 10) hx hb dX6_puts_31 (by decide) ?_
          obtain ⟨o8, h9, hF⟩ := obd hF
          refine wcRVi (As := [.int s29, .int (10 : Int32)]) (rest := []) (b := (a 0)) ⟨hx, hb, hml, hown, hts⟩ (met_X6_thingAt l dC dI cyI cyO cyL a N (M_set_s v (upd (M_s v) (2 : Int32).toNatClampNeg (10 : Int32))) s29 (10 : Int32) o8 h9) (cwV 2 hts (gV w_methodLink_X6_53 w_instanceMethod_X6_thingAt w_selects_X6_thingAt w_initialized_X6 w_code_X6_thingAt) rfl rfl rfl (by decide +kernel) ⟨Nat.le_of_ble_eq_true rfl, Nat.le_of_ble_eq_true rfl⟩) (va_recv hK.1 hP (ci := 6) (q0 := 0) rfl rfl) hP hK [0, 1, 2, 3, 4, 5, 6, 7] rfl rfl hl.1 (Nat.le_of_ble_eq_true rfl) dX6_puts_33 ⟨Nat.le_of_ble_eq_true rfl, Nat.le_of_ble_eq_true rfl⟩ hS (fun r H locs hw hP hS => ?_)
          have hw := hw.symm
          subst hw
          refine lv_if_lt (tgt := 45) hx hb dX6_puts_36 (by decide) (fun c10 => ?_) (fun c10 => ?_)
          · have hF := itp c10 hF
            refine lv_aload_n hx hb dX6_puts_45 rfl (lv_at hl 0 rfl) ?_
            refine va_get (D := (dC, dI)) (ci := 6) (v := .ref (a 1)) (C := RX6) (T := TX6) (N := 23) hx hb hts inX6 hown hK.1 hP 0 rfl rfl 1 (by decide) (hts _ w_fieldLink_X6_7) (fun _ h9 => h9) rfl dX6_puts_46 ?_
            refine lv_iconst (v := 1) hx hb dX6_puts_49 (by decide) ?_
            refine lv_iload_n hx hb dX6_puts_50 rfl (lv_at hl 1 rfl) ?_
            refine va_iast hx hb hK.1 hP hD hS 1 0 rfl rfl (i := (1 : Int32)) (x := s29) (show ixok (1 : Int32) 103 by decide) dX6_puts_51 (fun H locs hP hD hS => ?_)
            have hP : va_P (dC, dI) vwCl (cM cyI a (M_set_s v (upd (upd (M_s v) (2 : Int32).toNatClampNeg (10 : Int32)) (1 : Int32).toNatClampNeg s29))) H := hP
            have hD : va_D A (cM cyI a (M_set_s v (upd (upd (M_s v) (2 : Int32).toNatClampNeg (10 : Int32)) (1 : Int32).toNatClampNeg s29))) := hD
            refine lv_aload_n hx hb dX6_puts_52 rfl (lv_at hl 0 rfl) ?_
            refine va_get (D := (dC, dI)) (ci := 6) (v := .ref (a 1)) (C := RX6) (T := TX6) (N := 23) hx hb hts inX6 hown hK.1 hP 0 rfl rfl 1 (by decide) (hts _ w_fieldLink_X6_7) (fun _ h9 => h9) rfl dX6_puts_53 ?_
            refine lv_bipush (v := 100) hx hb dX6_puts_56 (by decide) ?_
            refine lv_dup2_11 hx hb dX6_puts_58 rfl rfl ?_
            refine va_iald hx hb hK.1 hP 1 0 rfl rfl (i := (100 : Int32)) (show ixok (100 : Int32) 103 by decide) dX6_puts_59 ?_
            refine lv_iconst (v := 1) hx hb dX6_puts_60 (by decide) ?_
            refine lv_iadd hx hb dX6_puts_61 ?_
            refine va_iast hx hb hK.1 hP hD hS 1 0 rfl rfl (i := (100 : Int32)) (x := (((upd (upd (M_s v) (2 : Int32).toNatClampNeg (10 : Int32)) (1 : Int32).toNatClampNeg s29) (100 : Int32).toNatClampNeg) + (1 : Int32))) (show ixok (100 : Int32) 103 by decide) dX6_puts_62 (fun H locs hP hD hS => ?_)
            have hP : va_P (dC, dI) vwCl (cM cyI a (M_set_s v (upd (upd (upd (M_s v) (2 : Int32).toNatClampNeg (10 : Int32)) (1 : Int32).toNatClampNeg s29) (100 : Int32).toNatClampNeg (((upd (upd (M_s v) (2 : Int32).toNatClampNeg (10 : Int32)) (1 : Int32).toNatClampNeg s29) (100 : Int32).toNatClampNeg) + (1 : Int32))))) H := hP
            have hD : va_D A (cM cyI a (M_set_s v (upd (upd (upd (M_s v) (2 : Int32).toNatClampNeg (10 : Int32)) (1 : Int32).toNatClampNeg s29) (100 : Int32).toNatClampNeg (((upd (upd (M_s v) (2 : Int32).toNatClampNeg (10 : Int32)) (1 : Int32).toNatClampNeg s29) (100 : Int32).toNatClampNeg) + (1 : Int32))))) := hD
            exact W.vret hx hb hr (fun t ht hW => ⟨⟨_, rfl, Option.some.inj hF, by rw [ht]; exact hP, hD⟩, hS.F ht⟩) hS.2.2 dX6_puts_63
          · have hF := itn c10 hF
            refine lv_iinc (v := (s29 + (1 : Int32))) (lv' := [(1, .int (s29 + (1 : Int32))), (0, .ref (a 0))]) hx hb dX6_puts_39 hl (k := 1) rfl rfl (by decide) rfl (fun ls hl => ?_)
            refine lv_goto (tgt := 29) hx hb dX6_puts_42 (by decide) ?_
            exact ih29 (s29 + (1 : Int32)) _ _ _ hP hD hS (lv_sub hl [1, 0] rfl) hF
      exact hL29 N (40 : Int32) _ _ _ hP hD hS (lv_sub hl [1, 0] rfl) hF
    · have hF := itp c6 hF
      exact hJ17 () _ _ _ hP hD hS (lv_sub hl [] rfl) hF
theorem dX6_canPlay_0 : decode cX6_canPlay 0 = .ok (.aload_n 0, 1) := by decide +kernel
theorem dX6_canPlay_1 : decode cX6_canPlay 1 = .ok (.getfield 7, 3) := by decide +kernel
theorem dX6_canPlay_4 : decode cX6_canPlay 4 = .ok (.iconst 0, 1) := by decide +kernel
theorem dX6_canPlay_5 : decode cX6_canPlay 5 = .ok (.iaload, 1) := by decide +kernel
theorem dX6_canPlay_6 : decode cX6_canPlay 6 = .ok (.iconst 1, 1) := by decide +kernel
theorem dX6_canPlay_7 : decode cX6_canPlay 7 = .ok (.if_icmp .ne 32, 3) := by decide +kernel
theorem dX6_canPlay_10 : decode cX6_canPlay 10 = .ok (.aload_n 0, 1) := by decide +kernel
theorem dX6_canPlay_11 : decode cX6_canPlay 11 = .ok (.getfield 7, 3) := by decide +kernel
theorem dX6_canPlay_14 : decode cX6_canPlay 14 = .ok (.iconst 3, 1) := by decide +kernel
theorem dX6_canPlay_15 : decode cX6_canPlay 15 = .ok (.iaload, 1) := by decide +kernel
theorem dX6_canPlay_16 : decode cX6_canPlay 16 = .ok (.iconst 2, 1) := by decide +kernel
theorem dX6_canPlay_17 : decode cX6_canPlay 17 = .ok (.aload_n 0, 1) := by decide +kernel
theorem dX6_canPlay_18 : decode cX6_canPlay 18 = .ok (.getfield 7, 3) := by decide +kernel
theorem dX6_canPlay_21 : decode cX6_canPlay 21 = .ok (.bipush 60, 2) := by decide +kernel
theorem dX6_canPlay_23 : decode cX6_canPlay 23 = .ok (.iaload, 1) := by decide +kernel
theorem dX6_canPlay_24 : decode cX6_canPlay 24 = .ok (.imul, 1) := by decide +kernel
theorem dX6_canPlay_25 : decode cX6_canPlay 25 = .ok (.if_icmp .ge 14, 3) := by decide +kernel
theorem dX6_canPlay_28 : decode cX6_canPlay 28 = .ok (.aload_n 0, 1) := by decide +kernel
theorem dX6_canPlay_29 : decode cX6_canPlay 29 = .ok (.invokevirtual 67, 3) := by decide +kernel
theorem dX6_canPlay_32 : decode cX6_canPlay 32 = .ok (.ifCond .ne 7, 3) := by decide +kernel
theorem dX6_canPlay_35 : decode cX6_canPlay 35 = .ok (.iconst 1, 1) := by decide +kernel
theorem dX6_canPlay_36 : decode cX6_canPlay 36 = .ok (.goto 4, 3) := by decide +kernel
theorem dX6_canPlay_39 : decode cX6_canPlay 39 = .ok (.iconst 0, 1) := by decide +kernel
theorem dX6_canPlay_40 : decode cX6_canPlay 40 = .ok (.ireturn, 1) := by decide +kernel
def f_X6_canPlay (N : Nat) (v : MV) : Option (Int32) :=
  jn (fun (s40 : Int32) => some s40) (fun (j40 : (Int32) → Option (Int32)) => jn (fun (s39 : Unit) => j40 (0 : Int32)) (fun (j39 : (Unit) → Option (Int32)) => (if ((M_s v) (0 : Int32).toNatClampNeg) = (1 : Int32) then (if ((2 : Int32) * ((M_s v) (60 : Int32).toNatClampNeg)) ≤ ((M_s v) (3 : Int32).toNatClampNeg) then j39 () else (f_X6_isBurntNow N v).bind (fun o6 => (if o6 = 0 then j40 (1 : Int32) else j39 ()))) else j39 ())))
set_option maxHeartbeats 4000000 in
set_option maxRecDepth 100000 in
theorem met_X6_canPlay (l : Launch) (dC : Nat → ClassId) (dI : Nat → Nat → Nat) (cyI cyO cyL : ClassId) (a : Nat → Nat) (N : Nat) (v : MV) (out : Int32) (hF : f_X6_canPlay N v = some out) : Met l yX6_canPlay (Cond.code yX6_canPlay cX6_canPlay 1 (some .boolean) :: wT) ({ frames := 2, cells := 0, slots := 0, locals := 44 } : Room) (wRd dC dI cyI cyO cyL [.ref (a 0)] (cM cyI a v)) (va_Qi (fun (r : Int32) (_ : Unit) => r = out ∧ b01 r) (fun _ _ => True) wN0) 0 0 wN0 := by
  refine Met.ofW (cc := cX6_canPlay) (maxL := 1) (ret := (some .boolean)) (by decide) rfl ?_
  intro p e s m args below meth c s₁ B hml hv
  obtain ⟨rfl, hP, hK⟩ := hv
  have hx := B.exec
  have hb := B.bytes
  have hr := B.returns
  have hts0 := atoms_spec (ws := (Cond.code yX6_canPlay cX6_canPlay 1 (some .boolean) :: wT)) B.pre
  have hts := fun w h => hts0 w (List.mem_cons_of_mem _ h)
  clear hts0
  have hown : s.vm.findClass RX6 = some m.cls := findClass_of_methodNamed B.named
  have hlocks := B.notSynchronized
  have hS : va_S wN0 s.heap s.heap [] := va_S.rf
  have hl := lv_entry [.ref (a 0)] (n := 1) (Nat.le_of_ble_eq_true rfl)
  rw [lg_entry_eq]
  generalize (lg_sl [.ref (a 0)] ++ List.replicate (1 - (lg_sl [.ref (a 0)]).length) Slot.unset).toArray = ls at hl ⊢
  have hl : lv_has ls 1 [(0, .ref (a 0))] := hl
  unfold f_X6_canPlay at hF
  refine lv_aload_n hx hb dX6_canPlay_0 rfl (lv_at hl 0 rfl) ?_
  refine va_get (D := (dC, dI)) (ci := 6) (v := .ref (a 1)) (C := RX6) (T := TX6) (N := 23) hx hb hts inX6 hown hK.1 hP 0 rfl rfl 1 (by decide) (hts _ w_fieldLink_X6_7) (fun _ h9 => h9) rfl dX6_canPlay_1 ?_
  refine lv_iconst (v := 0) hx hb dX6_canPlay_4 (by decide) ?_
  refine va_iald hx hb hK.1 hP 1 0 rfl rfl (i := (0 : Int32)) (show ixok (0 : Int32) 103 by decide) dX6_canPlay_5 ?_
  refine lv_iconst (v := 1) hx hb dX6_canPlay_6 (by decide) ?_
  obtain ⟨j40, hj40, hF⟩ := jn_use hF
  have hJ40 : ∀ (s40 : Int32) (H : Heap) (locs : List Loc) (ls : Array Slot) (hz_40_s0 : b01 s40), va_P (dC, dI) vwCl (cM cyI a v) H → va_S wN0 s.heap H locs → lv_has ls 1 [] → j40 s40 = some out → W p l e (headSpec (Cond.code yX6_canPlay cX6_canPlay 1 (some .boolean) :: wT) ({ frames := 2, cells := 0, slots := 0, locals := 44 } : Room)).room s m ([.ref (a 0)] : List Value).toArray below meth c H locs 0 0 (MQ below (va_Qi (fun (r : Int32) (_ : Unit) => r = out ∧ b01 r) (fun _ _ => True) wN0) ([.ref (a 0)] : List Value).toArray s 0 0 wN0) (F0 m 40 ls [.int s40]) := by
    intro s40 H locs ls hz_40_s0 hP hS hl hF
    have hF := (congrFun hj40 s40).symm.trans hF
    exact W.zret (ty := .boolean) (v := s40) hx hb hr (b01_n hz_40_s0) (fun t ht hW => ⟨⟨_, (), rfl, ⟨Option.some.inj hF, hz_40_s0⟩, trivial⟩, hS.F ht⟩) hS.2.2 dX6_canPlay_40
  obtain ⟨j39, hj39, hF⟩ := jn_use hF
  have hJ39 : ∀ (s39 : Unit) (H : Heap) (locs : List Loc) (ls : Array Slot), va_P (dC, dI) vwCl (cM cyI a v) H → va_S wN0 s.heap H locs → lv_has ls 1 [] → j39 s39 = some out → W p l e (headSpec (Cond.code yX6_canPlay cX6_canPlay 1 (some .boolean) :: wT) ({ frames := 2, cells := 0, slots := 0, locals := 44 } : Room)).room s m ([.ref (a 0)] : List Value).toArray below meth c H locs 0 0 (MQ below (va_Qi (fun (r : Int32) (_ : Unit) => r = out ∧ b01 r) (fun _ _ => True) wN0) ([.ref (a 0)] : List Value).toArray s 0 0 wN0) (F0 m 39 ls []) := by
    intro s39 H locs ls hP hS hl hF
    have hF := (congrFun hj39 s39).symm.trans hF
    refine lv_iconst (v := 0) hx hb dX6_canPlay_39 (by decide) ?_
    exact hJ40 (0 : Int32) _ _ _ b01_0 hP hS (lv_sub hl [] rfl) hF
  refine lv_icmp_ne (tgt := 39) hx hb dX6_canPlay_7 (by decide) (fun c2 => ?_) (fun c2 => ?_)
  · have hF := itn c2 hF
    exact hJ39 () _ _ _ hP hS (lv_sub hl [] rfl) hF
  · have hF := itp c2 hF
    refine lv_aload_n hx hb dX6_canPlay_10 rfl (lv_at hl 0 rfl) ?_
    refine va_get (D := (dC, dI)) (ci := 6) (v := .ref (a 1)) (C := RX6) (T := TX6) (N := 23) hx hb hts inX6 hown hK.1 hP 0 rfl rfl 1 (by decide) (hts _ w_fieldLink_X6_7) (fun _ h9 => h9) rfl dX6_canPlay_11 ?_
    refine lv_iconst (v := 3) hx hb dX6_canPlay_14 (by decide) ?_
    refine va_iald hx hb hK.1 hP 1 0 rfl rfl (i := (3 : Int32)) (show ixok (3 : Int32) 103 by decide) dX6_canPlay_15 ?_
    refine lv_iconst (v := 2) hx hb dX6_canPlay_16 (by decide) ?_
    refine lv_aload_n hx hb dX6_canPlay_17 rfl (lv_at hl 0 rfl) ?_
    refine va_get (D := (dC, dI)) (ci := 6) (v := .ref (a 1)) (C := RX6) (T := TX6) (N := 23) hx hb hts inX6 hown hK.1 hP 0 rfl rfl 1 (by decide) (hts _ w_fieldLink_X6_7) (fun _ h9 => h9) rfl dX6_canPlay_18 ?_
    refine lv_bipush (v := 60) hx hb dX6_canPlay_21 (by decide) ?_
    refine va_iald hx hb hK.1 hP 1 0 rfl rfl (i := (60 : Int32)) (show ixok (60 : Int32) 103 by decide) dX6_canPlay_23 ?_
    refine lv_imul hx hb dX6_canPlay_24 ?_
    refine lv_icmp_ge (tgt := 39) hx hb dX6_canPlay_25 (by decide) (fun c5 => ?_) (fun c5 => ?_)
    · have hF := itp c5 hF
      exact hJ39 () _ _ _ hP hS (lv_sub hl [] rfl) hF
    · have hF := itn c5 hF
      refine lv_aload_n hx hb dX6_canPlay_28 rfl (lv_at hl 0 rfl) ?_
      obtain ⟨o6, h7, hF⟩ := obd hF
      refine wcRVi (As := []) (rest := []) (b := (a 0)) ⟨hx, hb, hml, hown, hts⟩ (met_X6_isBurntNow l dC dI cyI cyO cyL a N v  o6 h7) (cwV 0 hts (gV w_methodLink_X6_67 w_instanceMethod_X6_isBurntNow w_selects_X6_isBurntNow w_initialized_X6 w_code_X6_isBurntNow) rfl rfl rfl (by decide +kernel) ⟨Nat.le_of_ble_eq_true rfl, Nat.le_of_ble_eq_true rfl⟩) (va_recv hK.1 hP (ci := 6) (q0 := 0) rfl rfl) hP hK [0, 1, 2, 3, 4, 5, 6, 7] rfl rfl hl.1 (Nat.le_of_ble_eq_true rfl) dX6_canPlay_29 ⟨Nat.le_of_ble_eq_true rfl, Nat.le_of_ble_eq_true rfl⟩ hS (fun r H locs hw hP hS => ?_)
      obtain ⟨hw, hz8⟩ := hw
      have hw := hw.symm
      subst hw
      refine lv_if_ne (tgt := 39) hx hb dX6_canPlay_32 (by decide) (fun c9 => ?_) (fun c9 => ?_)
      · have hF := itn c9 hF
        exact hJ39 () _ _ _ hP hS (lv_sub hl [] rfl) hF
      · have hF := itp c9 hF
        refine lv_iconst (v := 1) hx hb dX6_canPlay_35 (by decide) ?_
        refine lv_goto (tgt := 40) hx hb dX6_canPlay_36 (by decide) ?_
        exact hJ40 (1 : Int32) _ _ _ b01_1 hP hS (lv_sub hl [] rfl) hF
theorem dX6_plays_0 : decode cX6_plays 0 = .ok (.aload_n 0, 1) := by decide +kernel
theorem dX6_plays_1 : decode cX6_plays 1 = .ok (.getfield 7, 3) := by decide +kernel
theorem dX6_plays_4 : decode cX6_plays 4 = .ok (.iconst 3, 1) := by decide +kernel
theorem dX6_plays_5 : decode cX6_plays 5 = .ok (.iaload, 1) := by decide +kernel
theorem dX6_plays_6 : decode cX6_plays 6 = .ok (.istore 4, 2) := by decide +kernel
theorem dX6_plays_8 : decode cX6_plays 8 = .ok (.aload_n 0, 1) := by decide +kernel
theorem dX6_plays_9 : decode cX6_plays 9 = .ok (.getfield 7, 3) := by decide +kernel
theorem dX6_plays_12 : decode cX6_plays 12 = .ok (.iconst 3, 1) := by decide +kernel
theorem dX6_plays_13 : decode cX6_plays 13 = .ok (.dup2, 1) := by decide +kernel
theorem dX6_plays_14 : decode cX6_plays 14 = .ok (.iaload, 1) := by decide +kernel
theorem dX6_plays_15 : decode cX6_plays 15 = .ok (.iconst 1, 1) := by decide +kernel
theorem dX6_plays_16 : decode cX6_plays 16 = .ok (.iadd, 1) := by decide +kernel
theorem dX6_plays_17 : decode cX6_plays 17 = .ok (.iastore, 1) := by decide +kernel
theorem dX6_plays_18 : decode cX6_plays 18 = .ok (.aload_n 0, 1) := by decide +kernel
theorem dX6_plays_19 : decode cX6_plays 19 = .ok (.getfield 7, 3) := by decide +kernel
theorem dX6_plays_22 : decode cX6_plays 22 = .ok (.bipush 101, 2) := by decide +kernel
theorem dX6_plays_24 : decode cX6_plays 24 = .ok (.dup2, 1) := by decide +kernel
theorem dX6_plays_25 : decode cX6_plays 25 = .ok (.iaload, 1) := by decide +kernel
theorem dX6_plays_26 : decode cX6_plays 26 = .ok (.iconst 1, 1) := by decide +kernel
theorem dX6_plays_27 : decode cX6_plays 27 = .ok (.iadd, 1) := by decide +kernel
theorem dX6_plays_28 : decode cX6_plays 28 = .ok (.iastore, 1) := by decide +kernel
theorem dX6_plays_29 : decode cX6_plays 29 = .ok (.aload_n 0, 1) := by decide +kernel
theorem dX6_plays_30 : decode cX6_plays 30 = .ok (.iload 4, 2) := by decide +kernel
theorem dX6_plays_32 : decode cX6_plays 32 = .ok (.iconst 0, 1) := by decide +kernel
theorem dX6_plays_33 : decode cX6_plays 33 = .ok (.iconst 2, 1) := by decide +kernel
theorem dX6_plays_34 : decode cX6_plays 34 = .ok (.invokevirtual 46, 3) := by decide +kernel
theorem dX6_plays_37 : decode cX6_plays 37 = .ok (.aload_n 0, 1) := by decide +kernel
theorem dX6_plays_38 : decode cX6_plays 38 = .ok (.iload 4, 2) := by decide +kernel
theorem dX6_plays_40 : decode cX6_plays 40 = .ok (.iconst 1, 1) := by decide +kernel
theorem dX6_plays_41 : decode cX6_plays 41 = .ok (.iconst 0, 1) := by decide +kernel
theorem dX6_plays_42 : decode cX6_plays 42 = .ok (.invokevirtual 46, 3) := by decide +kernel
theorem dX6_plays_45 : decode cX6_plays 45 = .ok (.aload_n 0, 1) := by decide +kernel
theorem dX6_plays_46 : decode cX6_plays 46 = .ok (.iload 4, 2) := by decide +kernel
theorem dX6_plays_48 : decode cX6_plays 48 = .ok (.iconst 2, 1) := by decide +kernel
theorem dX6_plays_49 : decode cX6_plays 49 = .ok (.iconst 0, 1) := by decide +kernel
theorem dX6_plays_50 : decode cX6_plays 50 = .ok (.invokevirtual 46, 3) := by decide +kernel
theorem dX6_plays_53 : decode cX6_plays 53 = .ok (.aload_n 0, 1) := by decide +kernel
theorem dX6_plays_54 : decode cX6_plays 54 = .ok (.iload 4, 2) := by decide +kernel
theorem dX6_plays_56 : decode cX6_plays 56 = .ok (.iconst 3, 1) := by decide +kernel
theorem dX6_plays_57 : decode cX6_plays 57 = .ok (.iconst 0, 1) := by decide +kernel
theorem dX6_plays_58 : decode cX6_plays 58 = .ok (.invokevirtual 46, 3) := by decide +kernel
theorem dX6_plays_61 : decode cX6_plays 61 = .ok (.aload_n 0, 1) := by decide +kernel
theorem dX6_plays_62 : decode cX6_plays 62 = .ok (.iload 4, 2) := by decide +kernel
theorem dX6_plays_64 : decode cX6_plays 64 = .ok (.iconst 4, 1) := by decide +kernel
theorem dX6_plays_65 : decode cX6_plays 65 = .ok (.iload_n 1, 1) := by decide +kernel
theorem dX6_plays_66 : decode cX6_plays 66 = .ok (.invokevirtual 46, 3) := by decide +kernel
theorem dX6_plays_69 : decode cX6_plays 69 = .ok (.aload_n 0, 1) := by decide +kernel
theorem dX6_plays_70 : decode cX6_plays 70 = .ok (.iload 4, 2) := by decide +kernel
theorem dX6_plays_72 : decode cX6_plays 72 = .ok (.iconst 5, 1) := by decide +kernel
theorem dX6_plays_73 : decode cX6_plays 73 = .ok (.iload_n 2, 1) := by decide +kernel
theorem dX6_plays_74 : decode cX6_plays 74 = .ok (.invokevirtual 46, 3) := by decide +kernel
theorem dX6_plays_77 : decode cX6_plays 77 = .ok (.aload_n 0, 1) := by decide +kernel
theorem dX6_plays_78 : decode cX6_plays 78 = .ok (.iload 4, 2) := by decide +kernel
theorem dX6_plays_80 : decode cX6_plays 80 = .ok (.bipush 6, 2) := by decide +kernel
theorem dX6_plays_82 : decode cX6_plays 82 = .ok (.iload_n 3, 1) := by decide +kernel
theorem dX6_plays_83 : decode cX6_plays 83 = .ok (.invokevirtual 46, 3) := by decide +kernel
theorem dX6_plays_86 : decode cX6_plays 86 = .ok (.aload_n 0, 1) := by decide +kernel
theorem dX6_plays_87 : decode cX6_plays 87 = .ok (.iconst 0, 1) := by decide +kernel
theorem dX6_plays_88 : decode cX6_plays 88 = .ok (.putfield 50, 3) := by decide +kernel
theorem dX6_plays_91 : decode cX6_plays 91 = .ok (.aload_n 0, 1) := by decide +kernel
theorem dX6_plays_92 : decode cX6_plays 92 = .ok (.iload 4, 2) := by decide +kernel
theorem dX6_plays_94 : decode cX6_plays 94 = .ok (.invokevirtual 71, 3) := by decide +kernel
theorem dX6_plays_97 : decode cX6_plays 97 = .ok (.aload_n 0, 1) := by decide +kernel
theorem dX6_plays_98 : decode cX6_plays 98 = .ok (.invokevirtual 75, 3) := by decide +kernel
theorem dX6_plays_101 : decode cX6_plays 101 = .ok (.aload_n 0, 1) := by decide +kernel
theorem dX6_plays_102 : decode cX6_plays 102 = .ok (.iload 4, 2) := by decide +kernel
theorem dX6_plays_104 : decode cX6_plays 104 = .ok (.iconst 0, 1) := by decide +kernel
theorem dX6_plays_105 : decode cX6_plays 105 = .ok (.invokevirtual 42, 3) := by decide +kernel
theorem dX6_plays_108 : decode cX6_plays 108 = .ok (.ireturn, 1) := by decide +kernel
def f_X6_plays (N : Nat) (v : MV) (p1 : Int32) (p2 : Int32) (p3 : Int32) : Option (Int32 × MV) :=
  (f_X6_sets N (M_set_s v (upd (upd (M_s v) (3 : Int32).toNatClampNeg (((M_s v) (3 : Int32).toNatClampNeg) + (1 : Int32))) (101 : Int32).toNatClampNeg (((upd (M_s v) (3 : Int32).toNatClampNeg (((M_s v) (3 : Int32).toNatClampNeg) + (1 : Int32))) (101 : Int32).toNatClampNeg) + (1 : Int32)))) ((M_s v) (3 : Int32).toNatClampNeg) (0 : Int32) (2 : Int32)).bind (fun o6 => (f_X6_sets N o6 ((M_s v) (3 : Int32).toNatClampNeg) (1 : Int32) (0 : Int32)).bind (fun o8 => (f_X6_sets N o8 ((M_s v) (3 : Int32).toNatClampNeg) (2 : Int32) (0 : Int32)).bind (fun o10 => (f_X6_sets N o10 ((M_s v) (3 : Int32).toNatClampNeg) (3 : Int32) (0 : Int32)).bind (fun o12 => (f_X6_sets N o12 ((M_s v) (3 : Int32).toNatClampNeg) (4 : Int32) p1).bind (fun o14 => (f_X6_sets N o14 ((M_s v) (3 : Int32).toNatClampNeg) (5 : Int32) p2).bind (fun o16 => (f_X6_sets N o16 ((M_s v) (3 : Int32).toNatClampNeg) (6 : Int32) p3).bind (fun o18 => (f_X6_goes N (M_set_strikes o18 (0 : Int32)) ((M_s v) (3 : Int32).toNatClampNeg)).bind (fun o20 => (f_X6_puts N o20).bind (fun o22 => (f_X6_of N o22 ((M_s v) (3 : Int32).toNatClampNeg) (0 : Int32)).bind (fun o24 => some (o24, o22)))))))))))
set_option maxHeartbeats 4000000 in
set_option maxRecDepth 100000 in
theorem met_X6_plays (l : Launch) (dC : Nat → ClassId) (dI : Nat → Nat → Nat) (cyI cyO cyL : ClassId) (a : Nat → Nat) (sz : Nat) (N : Nat) (v : MV) (p1 : Int32) (p2 : Int32) (p3 : Int32) (out : Int32 × MV) (hF : f_X6_plays N v p1 p2 p3 = some out) : Met l yX6_plays (Cond.code yX6_plays cX6_plays 5 (some .int) :: wT) ({ frames := 4, cells := 0, slots := 0, locals := 99 } : Room) (wWr dC dI cyI cyO cyL [.ref (a 0), .int p1, .int p2, .int p3] (cM cyI a v) sz) (va_Qi (fun (r : Int32) (u : MV) => (r, u) = out) (fun u t => va_P (dC, dI) vwCl (cM cyI a u) t.heap ∧ va_D (va_A (cM cyI a v) sz) (cM cyI a u)) (va_A (cM cyI a v) sz)) 0 0 (va_A (cM cyI a v) sz) := by
  refine Met.ofW (cc := cX6_plays) (maxL := 5) (ret := (some .int)) (by decide) rfl ?_
  intro p e s m args below meth c s₁ B hml hv
  obtain ⟨rfl, hsz, hP, hK, hD0⟩ := hv
  have hx := B.exec
  have hb := B.bytes
  have hr := B.returns
  have hts0 := atoms_spec (ws := (Cond.code yX6_plays cX6_plays 5 (some .int) :: wT)) B.pre
  have hts := fun w h => hts0 w (List.mem_cons_of_mem _ h)
  clear hts0
  have hown : s.vm.findClass RX6 = some m.cls := findClass_of_methodNamed B.named
  have hlocks := B.notSynchronized
  subst hsz
  have hD := hD0.self (sz := s.heap.size)
  generalize hAe : va_A (cM cyI a v) s.heap.size = A at hD ⊢
  have hA : ∀ q : Nat, s.heap.size ≤ q → A q := fun q h => by rw [← hAe]; exact Or.inr h
  clear hD0
  have hS : va_S A s.heap s.heap [] := va_S.rf
  have hl := lv_entry [.ref (a 0), .int p1, .int p2, .int p3] (n := 5) (Nat.le_of_ble_eq_true rfl)
  rw [lg_entry_eq]
  generalize (lg_sl [.ref (a 0), .int p1, .int p2, .int p3] ++ List.replicate (5 - (lg_sl [.ref (a 0), .int p1, .int p2, .int p3]).length) Slot.unset).toArray = ls at hl ⊢
  have hl : lv_has ls 5 [(0, .ref (a 0)), (1, .int p1), (2, .int p2), (3, .int p3)] := hl
  unfold f_X6_plays at hF
  refine lv_aload_n hx hb dX6_plays_0 rfl (lv_at hl 0 rfl) ?_
  refine va_get (D := (dC, dI)) (ci := 6) (v := .ref (a 1)) (C := RX6) (T := TX6) (N := 23) hx hb hts inX6 hown hK.1 hP 0 rfl rfl 1 (by decide) (hts _ w_fieldLink_X6_7) (fun _ h9 => h9) rfl dX6_plays_1 ?_
  refine lv_iconst (v := 3) hx hb dX6_plays_4 (by decide) ?_
  refine va_iald hx hb hK.1 hP 1 0 rfl rfl (i := (3 : Int32)) (show ixok (3 : Int32) 103 by decide) dX6_plays_5 ?_
  refine lv_istore (lv' := [(4, .int ((M_s v) (3 : Int32).toNatClampNeg)), (0, .ref (a 0)), (1, .int p1), (2, .int p2), (3, .int p3)]) hx hb dX6_plays_6 hl (by decide) rfl (fun ls hl => ?_)
  refine lv_aload_n hx hb dX6_plays_8 rfl (lv_at hl 1 rfl) ?_
  refine va_get (D := (dC, dI)) (ci := 6) (v := .ref (a 1)) (C := RX6) (T := TX6) (N := 23) hx hb hts inX6 hown hK.1 hP 0 rfl rfl 1 (by decide) (hts _ w_fieldLink_X6_7) (fun _ h9 => h9) rfl dX6_plays_9 ?_
  refine lv_iconst (v := 3) hx hb dX6_plays_12 (by decide) ?_
  refine lv_dup2_11 hx hb dX6_plays_13 rfl rfl ?_
  refine va_iald hx hb hK.1 hP 1 0 rfl rfl (i := (3 : Int32)) (show ixok (3 : Int32) 103 by decide) dX6_plays_14 ?_
  refine lv_iconst (v := 1) hx hb dX6_plays_15 (by decide) ?_
  refine lv_iadd hx hb dX6_plays_16 ?_
  refine va_iast hx hb hK.1 hP hD hS 1 0 rfl rfl (i := (3 : Int32)) (x := (((M_s v) (3 : Int32).toNatClampNeg) + (1 : Int32))) (show ixok (3 : Int32) 103 by decide) dX6_plays_17 (fun H locs hP hD hS => ?_)
  have hP : va_P (dC, dI) vwCl (cM cyI a (M_set_s v (upd (M_s v) (3 : Int32).toNatClampNeg (((M_s v) (3 : Int32).toNatClampNeg) + (1 : Int32))))) H := hP
  have hD : va_D A (cM cyI a (M_set_s v (upd (M_s v) (3 : Int32).toNatClampNeg (((M_s v) (3 : Int32).toNatClampNeg) + (1 : Int32))))) := hD
  refine lv_aload_n hx hb dX6_plays_18 rfl (lv_at hl 1 rfl) ?_
  refine va_get (D := (dC, dI)) (ci := 6) (v := .ref (a 1)) (C := RX6) (T := TX6) (N := 23) hx hb hts inX6 hown hK.1 hP 0 rfl rfl 1 (by decide) (hts _ w_fieldLink_X6_7) (fun _ h9 => h9) rfl dX6_plays_19 ?_
  refine lv_bipush (v := 101) hx hb dX6_plays_22 (by decide) ?_
  refine lv_dup2_11 hx hb dX6_plays_24 rfl rfl ?_
  refine va_iald hx hb hK.1 hP 1 0 rfl rfl (i := (101 : Int32)) (show ixok (101 : Int32) 103 by decide) dX6_plays_25 ?_
  refine lv_iconst (v := 1) hx hb dX6_plays_26 (by decide) ?_
  refine lv_iadd hx hb dX6_plays_27 ?_
  refine va_iast hx hb hK.1 hP hD hS 1 0 rfl rfl (i := (101 : Int32)) (x := (((upd (M_s v) (3 : Int32).toNatClampNeg (((M_s v) (3 : Int32).toNatClampNeg) + (1 : Int32))) (101 : Int32).toNatClampNeg) + (1 : Int32))) (show ixok (101 : Int32) 103 by decide) dX6_plays_28 (fun H locs hP hD hS => ?_)
  have hP : va_P (dC, dI) vwCl (cM cyI a (M_set_s v (upd (upd (M_s v) (3 : Int32).toNatClampNeg (((M_s v) (3 : Int32).toNatClampNeg) + (1 : Int32))) (101 : Int32).toNatClampNeg (((upd (M_s v) (3 : Int32).toNatClampNeg (((M_s v) (3 : Int32).toNatClampNeg) + (1 : Int32))) (101 : Int32).toNatClampNeg) + (1 : Int32))))) H := hP
  have hD : va_D A (cM cyI a (M_set_s v (upd (upd (M_s v) (3 : Int32).toNatClampNeg (((M_s v) (3 : Int32).toNatClampNeg) + (1 : Int32))) (101 : Int32).toNatClampNeg (((upd (M_s v) (3 : Int32).toNatClampNeg (((M_s v) (3 : Int32).toNatClampNeg) + (1 : Int32))) (101 : Int32).toNatClampNeg) + (1 : Int32))))) := hD
  refine lv_aload_n hx hb dX6_plays_29 rfl (lv_at hl 1 rfl) ?_
  refine lv_iload hx hb dX6_plays_30 (lv_at hl 0 rfl) ?_
  refine lv_iconst (v := 0) hx hb dX6_plays_32 (by decide) ?_
  refine lv_iconst (v := 2) hx hb dX6_plays_33 (by decide) ?_
  obtain ⟨o6, h7, hF⟩ := obd hF
  refine wcWVv (As := [.int ((M_s v) (3 : Int32).toNatClampNeg), .int (0 : Int32), .int (2 : Int32)]) (rest := []) (wr := []) (b := (a 0)) ⟨hx, hb, hml, hown, hts⟩ (met_X6_sets l dC dI cyI cyO cyL a _ N (M_set_s v (upd (upd (M_s v) (3 : Int32).toNatClampNeg (((M_s v) (3 : Int32).toNatClampNeg) + (1 : Int32))) (101 : Int32).toNatClampNeg (((upd (M_s v) (3 : Int32).toNatClampNeg (((M_s v) (3 : Int32).toNatClampNeg) + (1 : Int32))) (101 : Int32).toNatClampNeg) + (1 : Int32)))) ((M_s v) (3 : Int32).toNatClampNeg) (0 : Int32) (2 : Int32) o6 h7) (cwV 3 hts (gV w_methodLink_X6_46 w_instanceMethod_X6_sets w_selects_X6_sets w_initialized_X6 w_code_X6_sets) rfl rfl rfl (by decide +kernel) ⟨Nat.le_of_ble_eq_true rfl, Nat.le_of_ble_eq_true rfl⟩) (va_recv hK.1 hP (ci := 6) (q0 := 0) rfl rfl) hP hD hK [0, 1, 2, 3, 4, 5, 6, 7] [] rfl rfl (by decide) (by decide) (by decide) rfl hl.1 (Nat.le_of_ble_eq_true rfl) dX6_plays_34 ⟨Nat.le_of_ble_eq_true rfl, Nat.le_of_ble_eq_true rfl⟩ hS hA (fun u H locs hw hP hD hS => ?_)
  have hw := hw.symm
  subst hw
  have hP : va_P (dC, dI) vwCl (cM cyI a o6) H := hP
  have hD : va_D A (cM cyI a o6) := hD
  refine lv_aload_n hx hb dX6_plays_37 rfl (lv_at hl 1 rfl) ?_
  refine lv_iload hx hb dX6_plays_38 (lv_at hl 0 rfl) ?_
  refine lv_iconst (v := 1) hx hb dX6_plays_40 (by decide) ?_
  refine lv_iconst (v := 0) hx hb dX6_plays_41 (by decide) ?_
  obtain ⟨o8, h9, hF⟩ := obd hF
  refine wcWVv (As := [.int ((M_s v) (3 : Int32).toNatClampNeg), .int (1 : Int32), .int (0 : Int32)]) (rest := []) (wr := []) (b := (a 0)) ⟨hx, hb, hml, hown, hts⟩ (met_X6_sets l dC dI cyI cyO cyL a _ N o6 ((M_s v) (3 : Int32).toNatClampNeg) (1 : Int32) (0 : Int32) o8 h9) (cwV 3 hts (gV w_methodLink_X6_46 w_instanceMethod_X6_sets w_selects_X6_sets w_initialized_X6 w_code_X6_sets) rfl rfl rfl (by decide +kernel) ⟨Nat.le_of_ble_eq_true rfl, Nat.le_of_ble_eq_true rfl⟩) (va_recv hK.1 hP (ci := 6) (q0 := 0) rfl rfl) hP hD hK [0, 1, 2, 3, 4, 5, 6, 7] [] rfl rfl (by decide) (by decide) (by decide) rfl hl.1 (Nat.le_of_ble_eq_true rfl) dX6_plays_42 ⟨Nat.le_of_ble_eq_true rfl, Nat.le_of_ble_eq_true rfl⟩ hS hA (fun u H locs hw hP hD hS => ?_)
  have hw := hw.symm
  subst hw
  have hP : va_P (dC, dI) vwCl (cM cyI a o8) H := hP
  have hD : va_D A (cM cyI a o8) := hD
  refine lv_aload_n hx hb dX6_plays_45 rfl (lv_at hl 1 rfl) ?_
  refine lv_iload hx hb dX6_plays_46 (lv_at hl 0 rfl) ?_
  refine lv_iconst (v := 2) hx hb dX6_plays_48 (by decide) ?_
  refine lv_iconst (v := 0) hx hb dX6_plays_49 (by decide) ?_
  obtain ⟨o10, h11, hF⟩ := obd hF
  refine wcWVv (As := [.int ((M_s v) (3 : Int32).toNatClampNeg), .int (2 : Int32), .int (0 : Int32)]) (rest := []) (wr := []) (b := (a 0)) ⟨hx, hb, hml, hown, hts⟩ (met_X6_sets l dC dI cyI cyO cyL a _ N o8 ((M_s v) (3 : Int32).toNatClampNeg) (2 : Int32) (0 : Int32) o10 h11) (cwV 3 hts (gV w_methodLink_X6_46 w_instanceMethod_X6_sets w_selects_X6_sets w_initialized_X6 w_code_X6_sets) rfl rfl rfl (by decide +kernel) ⟨Nat.le_of_ble_eq_true rfl, Nat.le_of_ble_eq_true rfl⟩) (va_recv hK.1 hP (ci := 6) (q0 := 0) rfl rfl) hP hD hK [0, 1, 2, 3, 4, 5, 6, 7] [] rfl rfl (by decide) (by decide) (by decide) rfl hl.1 (Nat.le_of_ble_eq_true rfl) dX6_plays_50 ⟨Nat.le_of_ble_eq_true rfl, Nat.le_of_ble_eq_true rfl⟩ hS hA (fun u H locs hw hP hD hS => ?_)
  have hw := hw.symm
  subst hw
  have hP : va_P (dC, dI) vwCl (cM cyI a o10) H := hP
  have hD : va_D A (cM cyI a o10) := hD
  refine lv_aload_n hx hb dX6_plays_53 rfl (lv_at hl 1 rfl) ?_
  refine lv_iload hx hb dX6_plays_54 (lv_at hl 0 rfl) ?_
  refine lv_iconst (v := 3) hx hb dX6_plays_56 (by decide) ?_
  refine lv_iconst (v := 0) hx hb dX6_plays_57 (by decide) ?_
  obtain ⟨o12, h13, hF⟩ := obd hF
  refine wcWVv (As := [.int ((M_s v) (3 : Int32).toNatClampNeg), .int (3 : Int32), .int (0 : Int32)]) (rest := []) (wr := []) (b := (a 0)) ⟨hx, hb, hml, hown, hts⟩ (met_X6_sets l dC dI cyI cyO cyL a _ N o10 ((M_s v) (3 : Int32).toNatClampNeg) (3 : Int32) (0 : Int32) o12 h13) (cwV 3 hts (gV w_methodLink_X6_46 w_instanceMethod_X6_sets w_selects_X6_sets w_initialized_X6 w_code_X6_sets) rfl rfl rfl (by decide +kernel) ⟨Nat.le_of_ble_eq_true rfl, Nat.le_of_ble_eq_true rfl⟩) (va_recv hK.1 hP (ci := 6) (q0 := 0) rfl rfl) hP hD hK [0, 1, 2, 3, 4, 5, 6, 7] [] rfl rfl (by decide) (by decide) (by decide) rfl hl.1 (Nat.le_of_ble_eq_true rfl) dX6_plays_58 ⟨Nat.le_of_ble_eq_true rfl, Nat.le_of_ble_eq_true rfl⟩ hS hA (fun u H locs hw hP hD hS => ?_)
  have hw := hw.symm
  subst hw
  have hP : va_P (dC, dI) vwCl (cM cyI a o12) H := hP
  have hD : va_D A (cM cyI a o12) := hD
  refine lv_aload_n hx hb dX6_plays_61 rfl (lv_at hl 1 rfl) ?_
  refine lv_iload hx hb dX6_plays_62 (lv_at hl 0 rfl) ?_
  refine lv_iconst (v := 4) hx hb dX6_plays_64 (by decide) ?_
  refine lv_iload_n hx hb dX6_plays_65 rfl (lv_at hl 2 rfl) ?_
  obtain ⟨o14, h15, hF⟩ := obd hF
  refine wcWVv (As := [.int ((M_s v) (3 : Int32).toNatClampNeg), .int (4 : Int32), .int p1]) (rest := []) (wr := []) (b := (a 0)) ⟨hx, hb, hml, hown, hts⟩ (met_X6_sets l dC dI cyI cyO cyL a _ N o12 ((M_s v) (3 : Int32).toNatClampNeg) (4 : Int32) p1 o14 h15) (cwV 3 hts (gV w_methodLink_X6_46 w_instanceMethod_X6_sets w_selects_X6_sets w_initialized_X6 w_code_X6_sets) rfl rfl rfl (by decide +kernel) ⟨Nat.le_of_ble_eq_true rfl, Nat.le_of_ble_eq_true rfl⟩) (va_recv hK.1 hP (ci := 6) (q0 := 0) rfl rfl) hP hD hK [0, 1, 2, 3, 4, 5, 6, 7] [] rfl rfl (by decide) (by decide) (by decide) rfl hl.1 (Nat.le_of_ble_eq_true rfl) dX6_plays_66 ⟨Nat.le_of_ble_eq_true rfl, Nat.le_of_ble_eq_true rfl⟩ hS hA (fun u H locs hw hP hD hS => ?_)
  have hw := hw.symm
  subst hw
  have hP : va_P (dC, dI) vwCl (cM cyI a o14) H := hP
  have hD : va_D A (cM cyI a o14) := hD
  refine lv_aload_n hx hb dX6_plays_69 rfl (lv_at hl 1 rfl) ?_
  refine lv_iload hx hb dX6_plays_70 (lv_at hl 0 rfl) ?_
  refine lv_iconst (v := 5) hx hb dX6_plays_72 (by decide) ?_
  refine lv_iload_n hx hb dX6_plays_73 rfl (lv_at hl 3 rfl) ?_
  obtain ⟨o16, h17, hF⟩ := obd hF
  refine wcWVv (As := [.int ((M_s v) (3 : Int32).toNatClampNeg), .int (5 : Int32), .int p2]) (rest := []) (wr := []) (b := (a 0)) ⟨hx, hb, hml, hown, hts⟩ (met_X6_sets l dC dI cyI cyO cyL a _ N o14 ((M_s v) (3 : Int32).toNatClampNeg) (5 : Int32) p2 o16 h17) (cwV 3 hts (gV w_methodLink_X6_46 w_instanceMethod_X6_sets w_selects_X6_sets w_initialized_X6 w_code_X6_sets) rfl rfl rfl (by decide +kernel) ⟨Nat.le_of_ble_eq_true rfl, Nat.le_of_ble_eq_true rfl⟩) (va_recv hK.1 hP (ci := 6) (q0 := 0) rfl rfl) hP hD hK [0, 1, 2, 3, 4, 5, 6, 7] [] rfl rfl (by decide) (by decide) (by decide) rfl hl.1 (Nat.le_of_ble_eq_true rfl) dX6_plays_74 ⟨Nat.le_of_ble_eq_true rfl, Nat.le_of_ble_eq_true rfl⟩ hS hA (fun u H locs hw hP hD hS => ?_)
  have hw := hw.symm
  subst hw
  have hP : va_P (dC, dI) vwCl (cM cyI a o16) H := hP
  have hD : va_D A (cM cyI a o16) := hD
  refine lv_aload_n hx hb dX6_plays_77 rfl (lv_at hl 1 rfl) ?_
  refine lv_iload hx hb dX6_plays_78 (lv_at hl 0 rfl) ?_
  refine lv_bipush (v := 6) hx hb dX6_plays_80 (by decide) ?_
  refine lv_iload_n hx hb dX6_plays_82 rfl (lv_at hl 4 rfl) ?_
  obtain ⟨o18, h19, hF⟩ := obd hF
  refine wcWVv (As := [.int ((M_s v) (3 : Int32).toNatClampNeg), .int (6 : Int32), .int p3]) (rest := []) (wr := []) (b := (a 0)) ⟨hx, hb, hml, hown, hts⟩ (met_X6_sets l dC dI cyI cyO cyL a _ N o16 ((M_s v) (3 : Int32).toNatClampNeg) (6 : Int32) p3 o18 h19) (cwV 3 hts (gV w_methodLink_X6_46 w_instanceMethod_X6_sets w_selects_X6_sets w_initialized_X6 w_code_X6_sets) rfl rfl rfl (by decide +kernel) ⟨Nat.le_of_ble_eq_true rfl, Nat.le_of_ble_eq_true rfl⟩) (va_recv hK.1 hP (ci := 6) (q0 := 0) rfl rfl) hP hD hK [0, 1, 2, 3, 4, 5, 6, 7] [] rfl rfl (by decide) (by decide) (by decide) rfl hl.1 (Nat.le_of_ble_eq_true rfl) dX6_plays_83 ⟨Nat.le_of_ble_eq_true rfl, Nat.le_of_ble_eq_true rfl⟩ hS hA (fun u H locs hw hP hD hS => ?_)
  have hw := hw.symm
  subst hw
  have hP : va_P (dC, dI) vwCl (cM cyI a o18) H := hP
  have hD : va_D A (cM cyI a o18) := hD
  refine lv_aload_n hx hb dX6_plays_86 rfl (lv_at hl 1 rfl) ?_
  refine lv_iconst (v := 0) hx hb dX6_plays_87 (by decide) ?_
  refine va_put (D := (dC, dI)) (ci := 6) (v := .int (0 : Int32)) (ty := .int) (C := RX6) (T := TX6) (N := 23) hx hb hts inX6 tyX6 tyX6_ok nmX6 hown hK.1 hP hD hS 0 rfl rfl 10 (by decide) (hts _ w_fieldLink_X6_50) (fun _ h9 => h9) rfl (by decide +kernel) rfl rfl (Nat.le_of_ble_eq_true rfl) dX6_plays_88 (fun H locs hP hD hS => ?_)
  have hP : va_P (dC, dI) vwCl (cM cyI a (M_set_strikes o18 (0 : Int32))) H := hP
  have hD : va_D A (cM cyI a (M_set_strikes o18 (0 : Int32))) := hD
  refine lv_aload_n hx hb dX6_plays_91 rfl (lv_at hl 1 rfl) ?_
  refine lv_iload hx hb dX6_plays_92 (lv_at hl 0 rfl) ?_
  obtain ⟨o20, h21, hF⟩ := obd hF
  refine wcWVv (As := [.int ((M_s v) (3 : Int32).toNatClampNeg)]) (rest := []) (wr := []) (b := (a 0)) ⟨hx, hb, hml, hown, hts⟩ (met_X6_goes l dC dI cyI cyO cyL a _ N (M_set_strikes o18 (0 : Int32)) ((M_s v) (3 : Int32).toNatClampNeg) o20 h21) (cwV 1 hts (gV w_methodLink_X6_71 w_instanceMethod_X6_goes w_selects_X6_goes w_initialized_X6 w_code_X6_goes) rfl rfl rfl (by decide +kernel) ⟨Nat.le_of_ble_eq_true rfl, Nat.le_of_ble_eq_true rfl⟩) (va_recv hK.1 hP (ci := 6) (q0 := 0) rfl rfl) hP hD hK [0, 1, 2, 3, 4, 5, 6, 7] [] rfl rfl (by decide) (by decide) (by decide) rfl hl.1 (Nat.le_of_ble_eq_true rfl) dX6_plays_94 ⟨Nat.le_of_ble_eq_true rfl, Nat.le_of_ble_eq_true rfl⟩ hS hA (fun u H locs hw hP hD hS => ?_)
  have hw := hw.symm
  subst hw
  have hP : va_P (dC, dI) vwCl (cM cyI a o20) H := hP
  have hD : va_D A (cM cyI a o20) := hD
  refine lv_aload_n hx hb dX6_plays_97 rfl (lv_at hl 1 rfl) ?_
  obtain ⟨o22, h23, hF⟩ := obd hF
  refine wcWVv (As := []) (rest := []) (wr := []) (b := (a 0)) ⟨hx, hb, hml, hown, hts⟩ (met_X6_puts l dC dI cyI cyO cyL a _ N o20  o22 h23) (cwV 0 hts (gV w_methodLink_X6_75 w_instanceMethod_X6_puts w_selects_X6_puts w_initialized_X6 w_code_X6_puts) rfl rfl rfl (by decide +kernel) ⟨Nat.le_of_ble_eq_true rfl, Nat.le_of_ble_eq_true rfl⟩) (va_recv hK.1 hP (ci := 6) (q0 := 0) rfl rfl) hP hD hK [0, 1, 2, 3, 4, 5, 6, 7] [] rfl rfl (by decide) (by decide) (by decide) rfl hl.1 (Nat.le_of_ble_eq_true rfl) dX6_plays_98 ⟨Nat.le_of_ble_eq_true rfl, Nat.le_of_ble_eq_true rfl⟩ hS hA (fun u H locs hw hP hD hS => ?_)
  have hw := hw.symm
  subst hw
  have hP : va_P (dC, dI) vwCl (cM cyI a o22) H := hP
  have hD : va_D A (cM cyI a o22) := hD
  refine lv_aload_n hx hb dX6_plays_101 rfl (lv_at hl 1 rfl) ?_
  refine lv_iload hx hb dX6_plays_102 (lv_at hl 0 rfl) ?_
  refine lv_iconst (v := 0) hx hb dX6_plays_104 (by decide) ?_
  obtain ⟨o24, h25, hF⟩ := obd hF
  refine wcRVi (As := [.int ((M_s v) (3 : Int32).toNatClampNeg), .int (0 : Int32)]) (rest := []) (b := (a 0)) ⟨hx, hb, hml, hown, hts⟩ (met_X6_of l dC dI cyI cyO cyL a N o22 ((M_s v) (3 : Int32).toNatClampNeg) (0 : Int32) o24 h25) (cwV 2 hts (gV w_methodLink_X6_42 w_instanceMethod_X6_of w_selects_X6_of w_initialized_X6 w_code_X6_of) rfl rfl rfl (by decide +kernel) ⟨Nat.le_of_ble_eq_true rfl, Nat.le_of_ble_eq_true rfl⟩) (va_recv hK.1 hP (ci := 6) (q0 := 0) rfl rfl) hP hK [0, 1, 2, 3, 4, 5, 6, 7] rfl rfl hl.1 (Nat.le_of_ble_eq_true rfl) dX6_plays_105 ⟨Nat.le_of_ble_eq_true rfl, Nat.le_of_ble_eq_true rfl⟩ hS (fun r H locs hw hP hS => ?_)
  have hw := hw.symm
  subst hw
  exact W.iret (v := o24) hx hb hr (fun t ht hW => ⟨⟨_, o22, rfl, Option.some.inj hF, by rw [ht]; exact hP, hD⟩, hS.F ht⟩) hS.2.2 dX6_plays_108
theorem dX6_sideNow_0 : decode cX6_sideNow 0 = .ok (.aload_n 0, 1) := by decide +kernel
theorem dX6_sideNow_1 : decode cX6_sideNow 1 = .ok (.getfield 7, 3) := by decide +kernel
theorem dX6_sideNow_4 : decode cX6_sideNow 4 = .ok (.bipush 61, 2) := by decide +kernel
theorem dX6_sideNow_6 : decode cX6_sideNow 6 = .ok (.iaload, 1) := by decide +kernel
theorem dX6_sideNow_7 : decode cX6_sideNow 7 = .ok (.iload_n 1, 1) := by decide +kernel
theorem dX6_sideNow_8 : decode cX6_sideNow 8 = .ok (.iadd, 1) := by decide +kernel
theorem dX6_sideNow_9 : decode cX6_sideNow 9 = .ok (.iconst 2, 1) := by decide +kernel
theorem dX6_sideNow_10 : decode cX6_sideNow 10 = .ok (.irem, 1) := by decide +kernel
theorem dX6_sideNow_11 : decode cX6_sideNow 11 = .ok (.ireturn, 1) := by decide +kernel
def f_X6_sideNow (N : Nat) (v : MV) (p1 : Int32) : Option (Int32) :=
  some ((((M_s v) (61 : Int32).toNatClampNeg) + p1) - (((M_s v) (61 : Int32).toNatClampNeg) + p1) / (2 : Int32) * (2 : Int32))
set_option maxHeartbeats 4000000 in
set_option maxRecDepth 100000 in
theorem met_X6_sideNow (l : Launch) (dC : Nat → ClassId) (dI : Nat → Nat → Nat) (cyI cyO cyL : ClassId) (a : Nat → Nat) (N : Nat) (v : MV) (p1 : Int32) (out : Int32) (hF : f_X6_sideNow N v p1 = some out) : Met l yX6_sideNow (Cond.code yX6_sideNow cX6_sideNow 2 (some .int) :: wT) ({ frames := 0, cells := 0, slots := 0, locals := 0 } : Room) (wRd dC dI cyI cyO cyL [.ref (a 0), .int p1] (cM cyI a v)) (va_Qi (fun (r : Int32) (_ : Unit) => r = out) (fun _ _ => True) wN0) 0 0 wN0 := by
  refine Met.ofW (cc := cX6_sideNow) (maxL := 2) (ret := (some .int)) (by decide) rfl ?_
  intro p e s m args below meth c s₁ B hml hv
  obtain ⟨rfl, hP, hK⟩ := hv
  have hx := B.exec
  have hb := B.bytes
  have hr := B.returns
  have hts0 := atoms_spec (ws := (Cond.code yX6_sideNow cX6_sideNow 2 (some .int) :: wT)) B.pre
  have hts := fun w h => hts0 w (List.mem_cons_of_mem _ h)
  clear hts0
  have hown : s.vm.findClass RX6 = some m.cls := findClass_of_methodNamed B.named
  have hlocks := B.notSynchronized
  have hS : va_S wN0 s.heap s.heap [] := va_S.rf
  have hl := lv_entry [.ref (a 0), .int p1] (n := 2) (Nat.le_of_ble_eq_true rfl)
  rw [lg_entry_eq]
  generalize (lg_sl [.ref (a 0), .int p1] ++ List.replicate (2 - (lg_sl [.ref (a 0), .int p1]).length) Slot.unset).toArray = ls at hl ⊢
  have hl : lv_has ls 2 [(0, .ref (a 0)), (1, .int p1)] := hl
  unfold f_X6_sideNow at hF
  refine lv_aload_n hx hb dX6_sideNow_0 rfl (lv_at hl 0 rfl) ?_
  refine va_get (D := (dC, dI)) (ci := 6) (v := .ref (a 1)) (C := RX6) (T := TX6) (N := 23) hx hb hts inX6 hown hK.1 hP 0 rfl rfl 1 (by decide) (hts _ w_fieldLink_X6_7) (fun _ h9 => h9) rfl dX6_sideNow_1 ?_
  refine lv_bipush (v := 61) hx hb dX6_sideNow_4 (by decide) ?_
  refine va_iald hx hb hK.1 hP 1 0 rfl rfl (i := (61 : Int32)) (show ixok (61 : Int32) 103 by decide) dX6_sideNow_6 ?_
  refine lv_iload_n hx hb dX6_sideNow_7 rfl (lv_at hl 1 rfl) ?_
  refine lv_iadd hx hb dX6_sideNow_8 ?_
  refine lv_iconst (v := 2) hx hb dX6_sideNow_9 (by decide) ?_
  refine lv_irem hx hb dX6_sideNow_10 (by decide) ?_
  exact W.iret (v := ((((M_s v) (61 : Int32).toNatClampNeg) + p1) - (((M_s v) (61 : Int32).toNatClampNeg) + p1) / (2 : Int32) * (2 : Int32))) hx hb hr (fun t ht hW => ⟨⟨_, (), rfl, Option.some.inj hF, trivial⟩, hS.F ht⟩) hS.2.2 dX6_sideNow_11
theorem dX6_distance_0 : decode cX6_distance 0 = .ok (.aload_n 0, 1) := by decide +kernel
theorem dX6_distance_1 : decode cX6_distance 1 = .ok (.iload_n 1, 1) := by decide +kernel
theorem dX6_distance_2 : decode cX6_distance 2 = .ok (.iconst 1, 1) := by decide +kernel
theorem dX6_distance_3 : decode cX6_distance 3 = .ok (.invokevirtual 42, 3) := by decide +kernel
theorem dX6_distance_6 : decode cX6_distance 6 = .ok (.aload_n 0, 1) := by decide +kernel
theorem dX6_distance_7 : decode cX6_distance 7 = .ok (.getfield 7, 3) := by decide +kernel
theorem dX6_distance_10 : decode cX6_distance 10 = .ok (.iconst 1, 1) := by decide +kernel
theorem dX6_distance_11 : decode cX6_distance 11 = .ok (.iaload, 1) := by decide +kernel
theorem dX6_distance_12 : decode cX6_distance 12 = .ok (.isub, 1) := by decide +kernel
theorem dX6_distance_13 : decode cX6_distance 13 = .ok (.istore_n 2, 1) := by decide +kernel
theorem dX6_distance_14 : decode cX6_distance 14 = .ok (.aload_n 0, 1) := by decide +kernel
theorem dX6_distance_15 : decode cX6_distance 15 = .ok (.iload_n 1, 1) := by decide +kernel
theorem dX6_distance_16 : decode cX6_distance 16 = .ok (.iconst 2, 1) := by decide +kernel
theorem dX6_distance_17 : decode cX6_distance 17 = .ok (.invokevirtual 42, 3) := by decide +kernel
theorem dX6_distance_20 : decode cX6_distance 20 = .ok (.aload_n 0, 1) := by decide +kernel
theorem dX6_distance_21 : decode cX6_distance 21 = .ok (.getfield 7, 3) := by decide +kernel
theorem dX6_distance_24 : decode cX6_distance 24 = .ok (.iconst 2, 1) := by decide +kernel
theorem dX6_distance_25 : decode cX6_distance 25 = .ok (.iaload, 1) := by decide +kernel
theorem dX6_distance_26 : decode cX6_distance 26 = .ok (.isub, 1) := by decide +kernel
theorem dX6_distance_27 : decode cX6_distance 27 = .ok (.istore_n 3, 1) := by decide +kernel
theorem dX6_distance_28 : decode cX6_distance 28 = .ok (.iload_n 2, 1) := by decide +kernel
theorem dX6_distance_29 : decode cX6_distance 29 = .ok (.iload_n 2, 1) := by decide +kernel
theorem dX6_distance_30 : decode cX6_distance 30 = .ok (.imul, 1) := by decide +kernel
theorem dX6_distance_31 : decode cX6_distance 31 = .ok (.iload_n 3, 1) := by decide +kernel
theorem dX6_distance_32 : decode cX6_distance 32 = .ok (.iload_n 3, 1) := by decide +kernel
theorem dX6_distance_33 : decode cX6_distance 33 = .ok (.imul, 1) := by decide +kernel
theorem dX6_distance_34 : decode cX6_distance 34 = .ok (.iadd, 1) := by decide +kernel
theorem dX6_distance_35 : decode cX6_distance 35 = .ok (.ireturn, 1) := by decide +kernel
def f_X6_distance (N : Nat) (v : MV) (p1 : Int32) : Option (Int32) :=
  (f_X6_of N v p1 (1 : Int32)).bind (fun o1 => (f_X6_of N v p1 (2 : Int32)).bind (fun o4 => some (((o1 - ((M_s v) (1 : Int32).toNatClampNeg)) * (o1 - ((M_s v) (1 : Int32).toNatClampNeg))) + ((o4 - ((M_s v) (2 : Int32).toNatClampNeg)) * (o4 - ((M_s v) (2 : Int32).toNatClampNeg))))))
set_option maxHeartbeats 4000000 in
set_option maxRecDepth 100000 in
theorem met_X6_distance (l : Launch) (dC : Nat → ClassId) (dI : Nat → Nat → Nat) (cyI cyO cyL : ClassId) (a : Nat → Nat) (N : Nat) (v : MV) (p1 : Int32) (out : Int32) (hF : f_X6_distance N v p1 = some out) : Met l yX6_distance (Cond.code yX6_distance cX6_distance 4 (some .int) :: wT) ({ frames := 1, cells := 0, slots := 0, locals := 22 } : Room) (wRd dC dI cyI cyO cyL [.ref (a 0), .int p1] (cM cyI a v)) (va_Qi (fun (r : Int32) (_ : Unit) => r = out) (fun _ _ => True) wN0) 0 0 wN0 := by
  refine Met.ofW (cc := cX6_distance) (maxL := 4) (ret := (some .int)) (by decide) rfl ?_
  intro p e s m args below meth c s₁ B hml hv
  obtain ⟨rfl, hP, hK⟩ := hv
  have hx := B.exec
  have hb := B.bytes
  have hr := B.returns
  have hts0 := atoms_spec (ws := (Cond.code yX6_distance cX6_distance 4 (some .int) :: wT)) B.pre
  have hts := fun w h => hts0 w (List.mem_cons_of_mem _ h)
  clear hts0
  have hown : s.vm.findClass RX6 = some m.cls := findClass_of_methodNamed B.named
  have hlocks := B.notSynchronized
  have hS : va_S wN0 s.heap s.heap [] := va_S.rf
  have hl := lv_entry [.ref (a 0), .int p1] (n := 4) (Nat.le_of_ble_eq_true rfl)
  rw [lg_entry_eq]
  generalize (lg_sl [.ref (a 0), .int p1] ++ List.replicate (4 - (lg_sl [.ref (a 0), .int p1]).length) Slot.unset).toArray = ls at hl ⊢
  have hl : lv_has ls 4 [(0, .ref (a 0)), (1, .int p1)] := hl
  unfold f_X6_distance at hF
  refine lv_aload_n hx hb dX6_distance_0 rfl (lv_at hl 0 rfl) ?_
  refine lv_iload_n hx hb dX6_distance_1 rfl (lv_at hl 1 rfl) ?_
  refine lv_iconst (v := 1) hx hb dX6_distance_2 (by decide) ?_
  obtain ⟨o1, h2, hF⟩ := obd hF
  refine wcRVi (As := [.int p1, .int (1 : Int32)]) (rest := []) (b := (a 0)) ⟨hx, hb, hml, hown, hts⟩ (met_X6_of l dC dI cyI cyO cyL a N v p1 (1 : Int32) o1 h2) (cwV 2 hts (gV w_methodLink_X6_42 w_instanceMethod_X6_of w_selects_X6_of w_initialized_X6 w_code_X6_of) rfl rfl rfl (by decide +kernel) ⟨Nat.le_of_ble_eq_true rfl, Nat.le_of_ble_eq_true rfl⟩) (va_recv hK.1 hP (ci := 6) (q0 := 0) rfl rfl) hP hK [0, 1, 2, 3, 4, 5, 6, 7] rfl rfl hl.1 (Nat.le_of_ble_eq_true rfl) dX6_distance_3 ⟨Nat.le_of_ble_eq_true rfl, Nat.le_of_ble_eq_true rfl⟩ hS (fun r H locs hw hP hS => ?_)
  have hw := hw.symm
  subst hw
  refine lv_aload_n hx hb dX6_distance_6 rfl (lv_at hl 0 rfl) ?_
  refine va_get (D := (dC, dI)) (ci := 6) (v := .ref (a 1)) (C := RX6) (T := TX6) (N := 23) hx hb hts inX6 hown hK.1 hP 0 rfl rfl 1 (by decide) (hts _ w_fieldLink_X6_7) (fun _ h9 => h9) rfl dX6_distance_7 ?_
  refine lv_iconst (v := 1) hx hb dX6_distance_10 (by decide) ?_
  refine va_iald hx hb hK.1 hP 1 0 rfl rfl (i := (1 : Int32)) (show ixok (1 : Int32) 103 by decide) dX6_distance_11 ?_
  refine lv_isub hx hb dX6_distance_12 ?_
  refine lv_istore_n (lv' := [(2, .int (o1 - ((M_s v) (1 : Int32).toNatClampNeg))), (0, .ref (a 0)), (1, .int p1)]) hx hb dX6_distance_13 rfl hl (by decide) rfl (fun ls hl => ?_)
  refine lv_aload_n hx hb dX6_distance_14 rfl (lv_at hl 1 rfl) ?_
  refine lv_iload_n hx hb dX6_distance_15 rfl (lv_at hl 2 rfl) ?_
  refine lv_iconst (v := 2) hx hb dX6_distance_16 (by decide) ?_
  obtain ⟨o4, h5, hF⟩ := obd hF
  refine wcRVi (As := [.int p1, .int (2 : Int32)]) (rest := []) (b := (a 0)) ⟨hx, hb, hml, hown, hts⟩ (met_X6_of l dC dI cyI cyO cyL a N v p1 (2 : Int32) o4 h5) (cwV 2 hts (gV w_methodLink_X6_42 w_instanceMethod_X6_of w_selects_X6_of w_initialized_X6 w_code_X6_of) rfl rfl rfl (by decide +kernel) ⟨Nat.le_of_ble_eq_true rfl, Nat.le_of_ble_eq_true rfl⟩) (va_recv hK.1 hP (ci := 6) (q0 := 0) rfl rfl) hP hK [0, 1, 2, 3, 4, 5, 6, 7] rfl rfl hl.1 (Nat.le_of_ble_eq_true rfl) dX6_distance_17 ⟨Nat.le_of_ble_eq_true rfl, Nat.le_of_ble_eq_true rfl⟩ hS (fun r H locs hw hP hS => ?_)
  have hw := hw.symm
  subst hw
  refine lv_aload_n hx hb dX6_distance_20 rfl (lv_at hl 1 rfl) ?_
  refine va_get (D := (dC, dI)) (ci := 6) (v := .ref (a 1)) (C := RX6) (T := TX6) (N := 23) hx hb hts inX6 hown hK.1 hP 0 rfl rfl 1 (by decide) (hts _ w_fieldLink_X6_7) (fun _ h9 => h9) rfl dX6_distance_21 ?_
  refine lv_iconst (v := 2) hx hb dX6_distance_24 (by decide) ?_
  refine va_iald hx hb hK.1 hP 1 0 rfl rfl (i := (2 : Int32)) (show ixok (2 : Int32) 103 by decide) dX6_distance_25 ?_
  refine lv_isub hx hb dX6_distance_26 ?_
  refine lv_istore_n (lv' := [(3, .int (o4 - ((M_s v) (2 : Int32).toNatClampNeg))), (2, .int (o1 - ((M_s v) (1 : Int32).toNatClampNeg))), (0, .ref (a 0)), (1, .int p1)]) hx hb dX6_distance_27 rfl hl (by decide) rfl (fun ls hl => ?_)
  refine lv_iload_n hx hb dX6_distance_28 rfl (lv_at hl 1 rfl) ?_
  refine lv_iload_n hx hb dX6_distance_29 rfl (lv_at hl 1 rfl) ?_
  refine lv_imul hx hb dX6_distance_30 ?_
  refine lv_iload_n hx hb dX6_distance_31 rfl (lv_at hl 0 rfl) ?_
  refine lv_iload_n hx hb dX6_distance_32 rfl (lv_at hl 0 rfl) ?_
  refine lv_imul hx hb dX6_distance_33 ?_
  refine lv_iadd hx hb dX6_distance_34 ?_
  exact W.iret (v := (((o1 - ((M_s v) (1 : Int32).toNatClampNeg)) * (o1 - ((M_s v) (1 : Int32).toNatClampNeg))) + ((o4 - ((M_s v) (2 : Int32).toNatClampNeg)) * (o4 - ((M_s v) (2 : Int32).toNatClampNeg))))) hx hb hr (fun t ht hW => ⟨⟨_, (), rfl, Option.some.inj hF, trivial⟩, hS.F ht⟩) hS.2.2 dX6_distance_35
theorem dX6_laysOrder_0 : decode cX6_laysOrder 0 = .ok (.aload_n 0, 1) := by decide +kernel
theorem dX6_laysOrder_1 : decode cX6_laysOrder 1 = .ok (.iconst 0, 1) := by decide +kernel
theorem dX6_laysOrder_2 : decode cX6_laysOrder 2 = .ok (.putfield 78, 3) := by decide +kernel
theorem dX6_laysOrder_5 : decode cX6_laysOrder 5 = .ok (.iconst 0, 1) := by decide +kernel
theorem dX6_laysOrder_6 : decode cX6_laysOrder 6 = .ok (.istore_n 1, 1) := by decide +kernel
theorem dX6_laysOrder_7 : decode cX6_laysOrder 7 = .ok (.iload_n 1, 1) := by decide +kernel
theorem dX6_laysOrder_8 : decode cX6_laysOrder 8 = .ok (.aload_n 0, 1) := by decide +kernel
theorem dX6_laysOrder_9 : decode cX6_laysOrder 9 = .ok (.getfield 7, 3) := by decide +kernel
theorem dX6_laysOrder_12 : decode cX6_laysOrder 12 = .ok (.iconst 3, 1) := by decide +kernel
theorem dX6_laysOrder_13 : decode cX6_laysOrder 13 = .ok (.iaload, 1) := by decide +kernel
theorem dX6_laysOrder_14 : decode cX6_laysOrder 14 = .ok (.if_icmp .ge 85, 3) := by decide +kernel
theorem dX6_laysOrder_17 : decode cX6_laysOrder 17 = .ok (.aload_n 0, 1) := by decide +kernel
theorem dX6_laysOrder_18 : decode cX6_laysOrder 18 = .ok (.iload_n 1, 1) := by decide +kernel
theorem dX6_laysOrder_19 : decode cX6_laysOrder 19 = .ok (.iconst 0, 1) := by decide +kernel
theorem dX6_laysOrder_20 : decode cX6_laysOrder 20 = .ok (.invokevirtual 42, 3) := by decide +kernel
theorem dX6_laysOrder_23 : decode cX6_laysOrder 23 = .ok (.iconst 2, 1) := by decide +kernel
theorem dX6_laysOrder_24 : decode cX6_laysOrder 24 = .ok (.if_icmp .eq 69, 3) := by decide +kernel
theorem dX6_laysOrder_27 : decode cX6_laysOrder 27 = .ok (.aload_n 0, 1) := by decide +kernel
theorem dX6_laysOrder_28 : decode cX6_laysOrder 28 = .ok (.getfield 78, 3) := by decide +kernel
theorem dX6_laysOrder_31 : decode cX6_laysOrder 31 = .ok (.istore_n 2, 1) := by decide +kernel
theorem dX6_laysOrder_32 : decode cX6_laysOrder 32 = .ok (.iload_n 2, 1) := by decide +kernel
theorem dX6_laysOrder_33 : decode cX6_laysOrder 33 = .ok (.ifCond .le 43, 3) := by decide +kernel
theorem dX6_laysOrder_36 : decode cX6_laysOrder 36 = .ok (.aload_n 0, 1) := by decide +kernel
theorem dX6_laysOrder_37 : decode cX6_laysOrder 37 = .ok (.aload_n 0, 1) := by decide +kernel
theorem dX6_laysOrder_38 : decode cX6_laysOrder 38 = .ok (.getfield 28, 3) := by decide +kernel
theorem dX6_laysOrder_41 : decode cX6_laysOrder 41 = .ok (.iload_n 2, 1) := by decide +kernel
theorem dX6_laysOrder_42 : decode cX6_laysOrder 42 = .ok (.iconst 1, 1) := by decide +kernel
theorem dX6_laysOrder_43 : decode cX6_laysOrder 43 = .ok (.isub, 1) := by decide +kernel
theorem dX6_laysOrder_44 : decode cX6_laysOrder 44 = .ok (.iaload, 1) := by decide +kernel
theorem dX6_laysOrder_45 : decode cX6_laysOrder 45 = .ok (.invokevirtual 81, 3) := by decide +kernel
theorem dX6_laysOrder_48 : decode cX6_laysOrder 48 = .ok (.aload_n 0, 1) := by decide +kernel
theorem dX6_laysOrder_49 : decode cX6_laysOrder 49 = .ok (.iload_n 1, 1) := by decide +kernel
theorem dX6_laysOrder_50 : decode cX6_laysOrder 50 = .ok (.invokevirtual 81, 3) := by decide +kernel
theorem dX6_laysOrder_53 : decode cX6_laysOrder 53 = .ok (.if_icmp .le 23, 3) := by decide +kernel
theorem dX6_laysOrder_56 : decode cX6_laysOrder 56 = .ok (.aload_n 0, 1) := by decide +kernel
theorem dX6_laysOrder_57 : decode cX6_laysOrder 57 = .ok (.getfield 28, 3) := by decide +kernel
theorem dX6_laysOrder_60 : decode cX6_laysOrder 60 = .ok (.iload_n 2, 1) := by decide +kernel
theorem dX6_laysOrder_61 : decode cX6_laysOrder 61 = .ok (.aload_n 0, 1) := by decide +kernel
theorem dX6_laysOrder_62 : decode cX6_laysOrder 62 = .ok (.getfield 28, 3) := by decide +kernel
theorem dX6_laysOrder_65 : decode cX6_laysOrder 65 = .ok (.iload_n 2, 1) := by decide +kernel
theorem dX6_laysOrder_66 : decode cX6_laysOrder 66 = .ok (.iconst 1, 1) := by decide +kernel
theorem dX6_laysOrder_67 : decode cX6_laysOrder 67 = .ok (.isub, 1) := by decide +kernel
theorem dX6_laysOrder_68 : decode cX6_laysOrder 68 = .ok (.iaload, 1) := by decide +kernel
theorem dX6_laysOrder_69 : decode cX6_laysOrder 69 = .ok (.iastore, 1) := by decide +kernel
theorem dX6_laysOrder_70 : decode cX6_laysOrder 70 = .ok (.iinc 2 (-1), 3) := by decide +kernel
theorem dX6_laysOrder_73 : decode cX6_laysOrder 73 = .ok (.goto (-41), 3) := by decide +kernel
theorem dX6_laysOrder_76 : decode cX6_laysOrder 76 = .ok (.aload_n 0, 1) := by decide +kernel
theorem dX6_laysOrder_77 : decode cX6_laysOrder 77 = .ok (.getfield 28, 3) := by decide +kernel
theorem dX6_laysOrder_80 : decode cX6_laysOrder 80 = .ok (.iload_n 2, 1) := by decide +kernel
theorem dX6_laysOrder_81 : decode cX6_laysOrder 81 = .ok (.iload_n 1, 1) := by decide +kernel
theorem dX6_laysOrder_82 : decode cX6_laysOrder 82 = .ok (.iastore, 1) := by decide +kernel
theorem dX6_laysOrder_83 : decode cX6_laysOrder 83 = .ok (.aload_n 0, 1) := by decide +kernel
theorem dX6_laysOrder_84 : decode cX6_laysOrder 84 = .ok (.dup, 1) := by decide +kernel
theorem dX6_laysOrder_85 : decode cX6_laysOrder 85 = .ok (.getfield 78, 3) := by decide +kernel
theorem dX6_laysOrder_88 : decode cX6_laysOrder 88 = .ok (.iconst 1, 1) := by decide +kernel
theorem dX6_laysOrder_89 : decode cX6_laysOrder 89 = .ok (.iadd, 1) := by decide +kernel
theorem dX6_laysOrder_90 : decode cX6_laysOrder 90 = .ok (.putfield 78, 3) := by decide +kernel
theorem dX6_laysOrder_93 : decode cX6_laysOrder 93 = .ok (.iinc 1 1, 3) := by decide +kernel
theorem dX6_laysOrder_96 : decode cX6_laysOrder 96 = .ok (.goto (-89), 3) := by decide +kernel
theorem dX6_laysOrder_99 : decode cX6_laysOrder 99 = .ok (.return_, 1) := by decide +kernel
def f_X6_laysOrder (N : Nat) (v : MV) : Option (MV) :=
  lpN (fun (s7 : Int32 × MV) (k7 : (Int32 × MV) → Option (MV)) => (if ((M_s s7.2) (3 : Int32).toNatClampNeg) ≤ s7.1 then some s7.2 else (f_X6_of N s7.2 s7.1 (0 : Int32)).bind (fun o3 => jn (fun (s93 : MV) => k7 ((s7.1 + (1 : Int32)), s93)) (fun (j93 : (MV) → Option (MV)) => (if o3 = (2 : Int32) then j93 s7.2 else lpN (fun (s32 : Int32 × MV) (k32 : (Int32 × MV) → Option (MV)) => jn (fun (s76 : Unit) => gd (ixok s32.1 8) (j93 (M_set_orderMany (M_set_order s32.2 (upd (M_order s32.2) s32.1.toNatClampNeg s7.1)) ((M_orderMany s32.2) + (1 : Int32))))) (fun (j76 : (Unit) → Option (MV)) => (if s32.1 ≤ 0 then j76 () else gd (ixok (s32.1 - (1 : Int32)) 8) ((f_X6_distance N s32.2 ((M_order s32.2) (s32.1 - (1 : Int32)).toNatClampNeg)).bind (fun o9 => (f_X6_distance N s32.2 s7.1).bind (fun o11 => (if o9 ≤ o11 then j76 () else gd (ixok (s32.1 - (1 : Int32)) 8) (gd (ixok s32.1 8) (k32 ((s32.1 + (-1 : Int32)), (M_set_order s32.2 (upd (M_order s32.2) s32.1.toNatClampNeg ((M_order s32.2) (s32.1 - (1 : Int32)).toNatClampNeg))))))))))))) N ((M_orderMany s7.2), s7.2)))))) N ((0 : Int32), (M_set_orderMany v (0 : Int32)))
set_option maxHeartbeats 4000000 in
set_option maxRecDepth 100000 in
theorem met_X6_laysOrder (l : Launch) (dC : Nat → ClassId) (dI : Nat → Nat → Nat) (cyI cyO cyL : ClassId) (a : Nat → Nat) (sz : Nat) (N : Nat) (v : MV) (out : MV) (hF : f_X6_laysOrder N v = some out) : Met l yX6_laysOrder (Cond.code yX6_laysOrder cX6_laysOrder 3 none :: wT) ({ frames := 2, cells := 0, slots := 0, locals := 45 } : Room) (wWr dC dI cyI cyO cyL [.ref (a 0)] (cM cyI a v) sz) (va_Qv (fun (u : MV) => u = out) (fun u t => va_P (dC, dI) vwCl (cM cyI a u) t.heap ∧ va_D (va_A (cM cyI a v) sz) (cM cyI a u)) (va_A (cM cyI a v) sz)) 0 0 (va_A (cM cyI a v) sz) := by
  refine Met.ofW (cc := cX6_laysOrder) (maxL := 3) (ret := none) (by decide) rfl ?_
  intro p e s m args below meth c s₁ B hml hv
  obtain ⟨rfl, hsz, hP, hK, hD0⟩ := hv
  have hx := B.exec
  have hb := B.bytes
  have hr := B.returns
  have hts0 := atoms_spec (ws := (Cond.code yX6_laysOrder cX6_laysOrder 3 none :: wT)) B.pre
  have hts := fun w h => hts0 w (List.mem_cons_of_mem _ h)
  clear hts0
  have hown : s.vm.findClass RX6 = some m.cls := findClass_of_methodNamed B.named
  have hlocks := B.notSynchronized
  subst hsz
  have hD := hD0.self (sz := s.heap.size)
  generalize hAe : va_A (cM cyI a v) s.heap.size = A at hD ⊢
  have hA : ∀ q : Nat, s.heap.size ≤ q → A q := fun q h => by rw [← hAe]; exact Or.inr h
  clear hD0
  have hS : va_S A s.heap s.heap [] := va_S.rf
  have hl := lv_entry [.ref (a 0)] (n := 3) (Nat.le_of_ble_eq_true rfl)
  rw [lg_entry_eq]
  generalize (lg_sl [.ref (a 0)] ++ List.replicate (3 - (lg_sl [.ref (a 0)]).length) Slot.unset).toArray = ls at hl ⊢
  have hl : lv_has ls 3 [(0, .ref (a 0))] := hl
  unfold f_X6_laysOrder at hF
  refine lv_aload_n hx hb dX6_laysOrder_0 rfl (lv_at hl 0 rfl) ?_
  refine lv_iconst (v := 0) hx hb dX6_laysOrder_1 (by decide) ?_
  refine va_put (D := (dC, dI)) (ci := 6) (v := .int (0 : Int32)) (ty := .int) (C := RX6) (T := TX6) (N := 23) hx hb hts inX6 tyX6 tyX6_ok nmX6 hown hK.1 hP hD hS 0 rfl rfl 12 (by decide) (hts _ w_fieldLink_X6_78) (fun _ h9 => h9) rfl (by decide +kernel) rfl rfl (Nat.le_of_ble_eq_true rfl) dX6_laysOrder_2 (fun H locs hP hD hS => ?_)
  have hP : va_P (dC, dI) vwCl (cM cyI a (M_set_orderMany v (0 : Int32))) H := hP
  have hD : va_D A (cM cyI a (M_set_orderMany v (0 : Int32))) := hD
  refine lv_iconst (v := 0) hx hb dX6_laysOrder_5 (by decide) ?_
  refine lv_istore_n (lv' := [(1, .int (0 : Int32)), (0, .ref (a 0))]) hx hb dX6_laysOrder_6 rfl hl (by decide) rfl (fun ls hl => ?_)
  obtain ⟨st7, hst7, hF⟩ := lpN_use hF
  have hL7 : ∀ (n : Nat) (s7 : Int32 × MV) (H : Heap) (locs : List Loc) (ls : Array Slot), va_P (dC, dI) vwCl (cM cyI a s7.2) H → va_D A (cM cyI a s7.2) → va_S A s.heap H locs → lv_has ls 3 [(0, .ref (a 0)), (1, .int s7.1)] → lpN st7 n s7 = some out → W p l e (headSpec (Cond.code yX6_laysOrder cX6_laysOrder 3 none :: wT) ({ frames := 2, cells := 0, slots := 0, locals := 45 } : Room)).room s m ([.ref (a 0)] : List Value).toArray below meth c H locs 0 0 (MQ below (va_Qv (fun (u : MV) => u = out) (fun u t => va_P (dC, dI) vwCl (cM cyI a u) t.heap ∧ va_D A (cM cyI a u)) A) ([.ref (a 0)] : List Value).toArray s 0 0 A) (F0 m 7 ls []) := by
    intro n
    induction n with
    | zero => intro s7 H locs ls hP hD hS hl hF; exact lpN_0 hF
    | succ n ih7 =>
      intro s7 H locs ls hP hD hS hl hF
      have hF := (congrFun (congrFun hst7 s7) (lpN st7 n)).symm.trans (lpN_s hF)
      refine lv_iload_n hx hb dX6_laysOrder_7 rfl (lv_at hl 1 rfl) ?_
      refine lv_aload_n hx hb dX6_laysOrder_8 rfl (lv_at hl 0 rfl) ?_
      refine va_get (D := (dC, dI)) (ci := 6) (v := .ref (a 1)) (C := RX6) (T := TX6) (N := 23) hx hb hts inX6 hown hK.1 hP 0 rfl rfl 1 (by decide) (hts _ w_fieldLink_X6_7) (fun _ h9 => h9) rfl dX6_laysOrder_9 ?_
      refine lv_iconst (v := 3) hx hb dX6_laysOrder_12 (by decide) ?_
      refine va_iald hx hb hK.1 hP 1 0 rfl rfl (i := (3 : Int32)) (show ixok (3 : Int32) 103 by decide) dX6_laysOrder_13 ?_
      refine lv_icmp_ge (tgt := 99) hx hb dX6_laysOrder_14 (by decide) (fun c2 => ?_) (fun c2 => ?_)
      · have hF := itp c2 hF
        exact W.vret hx hb hr (fun t ht hW => ⟨⟨_, rfl, Option.some.inj hF, by rw [ht]; exact hP, hD⟩, hS.F ht⟩) hS.2.2 dX6_laysOrder_99
      · have hF := itn c2 hF
        refine lv_aload_n hx hb dX6_laysOrder_17 rfl (lv_at hl 0 rfl) ?_
        refine lv_iload_n hx hb dX6_laysOrder_18 rfl (lv_at hl 1 rfl) ?_
        refine lv_iconst (v := 0) hx hb dX6_laysOrder_19 (by decide) ?_
        obtain ⟨o3, h4, hF⟩ := obd hF
        refine wcRVi (As := [.int s7.1, .int (0 : Int32)]) (rest := []) (b := (a 0)) ⟨hx, hb, hml, hown, hts⟩ (met_X6_of l dC dI cyI cyO cyL a N s7.2 s7.1 (0 : Int32) o3 h4) (cwV 2 hts (gV w_methodLink_X6_42 w_instanceMethod_X6_of w_selects_X6_of w_initialized_X6 w_code_X6_of) rfl rfl rfl (by decide +kernel) ⟨Nat.le_of_ble_eq_true rfl, Nat.le_of_ble_eq_true rfl⟩) (va_recv hK.1 hP (ci := 6) (q0 := 0) rfl rfl) hP hK [0, 1, 2, 3, 4, 5, 6, 7] rfl rfl hl.1 (Nat.le_of_ble_eq_true rfl) dX6_laysOrder_20 ⟨Nat.le_of_ble_eq_true rfl, Nat.le_of_ble_eq_true rfl⟩ hS (fun r H locs hw hP hS => ?_)
        have hw := hw.symm
        subst hw
        refine lv_iconst (v := 2) hx hb dX6_laysOrder_23 (by decide) ?_
        obtain ⟨j93, hj93, hF⟩ := jn_use hF
        have hJ93 : ∀ (s93 : MV) (H : Heap) (locs : List Loc) (ls : Array Slot), va_P (dC, dI) vwCl (cM cyI a s93) H → va_D A (cM cyI a s93) → va_S A s.heap H locs → lv_has ls 3 [(0, .ref (a 0)), (1, .int s7.1)] → j93 s93 = some out → W p l e (headSpec (Cond.code yX6_laysOrder cX6_laysOrder 3 none :: wT) ({ frames := 2, cells := 0, slots := 0, locals := 45 } : Room)).room s m ([.ref (a 0)] : List Value).toArray below meth c H locs 0 0 (MQ below (va_Qv (fun (u : MV) => u = out) (fun u t => va_P (dC, dI) vwCl (cM cyI a u) t.heap ∧ va_D A (cM cyI a u)) A) ([.ref (a 0)] : List Value).toArray s 0 0 A) (F0 m 93 ls []) := by
          intro s93 H locs ls hP hD hS hl hF
          have hF := (congrFun hj93 s93).symm.trans hF
          refine lv_iinc (v := (s7.1 + (1 : Int32))) (lv' := [(1, .int (s7.1 + (1 : Int32))), (0, .ref (a 0))]) hx hb dX6_laysOrder_93 hl (k := 1) rfl rfl (by decide) rfl (fun ls hl => ?_)
          refine lv_goto (tgt := 7) hx hb dX6_laysOrder_96 (by decide) ?_
          exact ih7 ((s7.1 + (1 : Int32)), s93) _ _ _ hP hD hS (lv_sub hl [1, 0] rfl) hF
        refine lv_icmp_eq (tgt := 93) hx hb dX6_laysOrder_24 (by decide) (fun c5 => ?_) (fun c5 => ?_)
        · have hF := itp c5 hF
          exact hJ93 s7.2 _ _ _ hP hD hS (lv_sub hl [0, 1] rfl) hF
        · have hF := itn c5 hF
          refine lv_aload_n hx hb dX6_laysOrder_27 rfl (lv_at hl 0 rfl) ?_
          refine va_get (D := (dC, dI)) (ci := 6) (v := .int (M_orderMany s7.2)) (C := RX6) (T := TX6) (N := 23) hx hb hts inX6 hown hK.1 hP 0 rfl rfl 12 (by decide) (hts _ w_fieldLink_X6_78) (fun _ h9 => h9) rfl dX6_laysOrder_28 ?_
          refine lv_istore_n (lv' := [(2, .int (M_orderMany s7.2)), (0, .ref (a 0)), (1, .int s7.1)]) hx hb dX6_laysOrder_31 rfl hl (by decide) rfl (fun ls hl => ?_)
          obtain ⟨st32, hst32, hF⟩ := lpN_use hF
          have hL32 : ∀ (n : Nat) (s32 : Int32 × MV) (H : Heap) (locs : List Loc) (ls : Array Slot), va_P (dC, dI) vwCl (cM cyI a s32.2) H → va_D A (cM cyI a s32.2) → va_S A s.heap H locs → lv_has ls 3 [(0, .ref (a 0)), (1, .int s7.1), (2, .int s32.1)] → lpN st32 n s32 = some out → W p l e (headSpec (Cond.code yX6_laysOrder cX6_laysOrder 3 none :: wT) ({ frames := 2, cells := 0, slots := 0, locals := 45 } : Room)).room s m ([.ref (a 0)] : List Value).toArray below meth c H locs 0 0 (MQ below (va_Qv (fun (u : MV) => u = out) (fun u t => va_P (dC, dI) vwCl (cM cyI a u) t.heap ∧ va_D A (cM cyI a u)) A) ([.ref (a 0)] : List Value).toArray s 0 0 A) (F0 m 32 ls []) := by
            intro n
            induction n with
            | zero => intro s32 H locs ls hP hD hS hl hF; exact lpN_0 hF
            | succ n ih32 =>
              intro s32 H locs ls hP hD hS hl hF
              have hF := (congrFun (congrFun hst32 s32) (lpN st32 n)).symm.trans (lpN_s hF)
              refine lv_iload_n hx hb dX6_laysOrder_32 rfl (lv_at hl 2 rfl) ?_
              obtain ⟨j76, hj76, hF⟩ := jn_use hF
              have hJ76 : ∀ (s76 : Unit) (H : Heap) (locs : List Loc) (ls : Array Slot), va_P (dC, dI) vwCl (cM cyI a s32.2) H → va_D A (cM cyI a s32.2) → va_S A s.heap H locs → lv_has ls 3 [(0, .ref (a 0)), (1, .int s7.1), (2, .int s32.1)] → j76 s76 = some out → W p l e (headSpec (Cond.code yX6_laysOrder cX6_laysOrder 3 none :: wT) ({ frames := 2, cells := 0, slots := 0, locals := 45 } : Room)).room s m ([.ref (a 0)] : List Value).toArray below meth c H locs 0 0 (MQ below (va_Qv (fun (u : MV) => u = out) (fun u t => va_P (dC, dI) vwCl (cM cyI a u) t.heap ∧ va_D A (cM cyI a u)) A) ([.ref (a 0)] : List Value).toArray s 0 0 A) (F0 m 76 ls []) := by
                intro s76 H locs ls hP hD hS hl hF
                have hF := (congrFun hj76 s76).symm.trans hF
                refine lv_aload_n hx hb dX6_laysOrder_76 rfl (lv_at hl 0 rfl) ?_
                refine va_get (D := (dC, dI)) (ci := 6) (v := .ref (a 7)) (C := RX6) (T := TX6) (N := 23) hx hb hts inX6 hown hK.1 hP 0 rfl rfl 11 (by decide) (hts _ w_fieldLink_X6_28) (fun _ h9 => h9) rfl dX6_laysOrder_77 ?_
                refine lv_iload_n hx hb dX6_laysOrder_80 rfl (lv_at hl 2 rfl) ?_
                refine lv_iload_n hx hb dX6_laysOrder_81 rfl (lv_at hl 1 rfl) ?_
                obtain ⟨hg6, hF⟩ := gd_use hF
                refine va_iast hx hb hK.1 hP hD hS 7 0 rfl rfl (i := s32.1) (x := s7.1) hg6 dX6_laysOrder_82 (fun H locs hP hD hS => ?_)
                have hP : va_P (dC, dI) vwCl (cM cyI a (M_set_order s32.2 (upd (M_order s32.2) s32.1.toNatClampNeg s7.1))) H := hP
                have hD : va_D A (cM cyI a (M_set_order s32.2 (upd (M_order s32.2) s32.1.toNatClampNeg s7.1))) := hD
                refine lv_aload_n hx hb dX6_laysOrder_83 rfl (lv_at hl 0 rfl) ?_
                refine lv_dup hx hb dX6_laysOrder_84 rfl ?_
                refine va_get (D := (dC, dI)) (ci := 6) (v := .int (M_orderMany s32.2)) (C := RX6) (T := TX6) (N := 23) hx hb hts inX6 hown hK.1 hP 0 rfl rfl 12 (by decide) (hts _ w_fieldLink_X6_78) (fun _ h9 => h9) rfl dX6_laysOrder_85 ?_
                refine lv_iconst (v := 1) hx hb dX6_laysOrder_88 (by decide) ?_
                refine lv_iadd hx hb dX6_laysOrder_89 ?_
                refine va_put (D := (dC, dI)) (ci := 6) (v := .int ((M_orderMany s32.2) + (1 : Int32))) (ty := .int) (C := RX6) (T := TX6) (N := 23) hx hb hts inX6 tyX6 tyX6_ok nmX6 hown hK.1 hP hD hS 0 rfl rfl 12 (by decide) (hts _ w_fieldLink_X6_78) (fun _ h9 => h9) rfl (by decide +kernel) rfl rfl (Nat.le_of_ble_eq_true rfl) dX6_laysOrder_90 (fun H locs hP hD hS => ?_)
                have hP : va_P (dC, dI) vwCl (cM cyI a (M_set_orderMany (M_set_order s32.2 (upd (M_order s32.2) s32.1.toNatClampNeg s7.1)) ((M_orderMany s32.2) + (1 : Int32)))) H := hP
                have hD : va_D A (cM cyI a (M_set_orderMany (M_set_order s32.2 (upd (M_order s32.2) s32.1.toNatClampNeg s7.1)) ((M_orderMany s32.2) + (1 : Int32)))) := hD
                exact hJ93 (M_set_orderMany (M_set_order s32.2 (upd (M_order s32.2) s32.1.toNatClampNeg s7.1)) ((M_orderMany s32.2) + (1 : Int32))) _ _ _ hP hD hS (lv_sub hl [0, 1] rfl) hF
              refine lv_if_le (tgt := 76) hx hb dX6_laysOrder_33 (by decide) (fun c7 => ?_) (fun c7 => ?_)
              · have hF := itp c7 hF
                exact hJ76 () _ _ _ hP hD hS (lv_sub hl [0, 1, 2] rfl) hF
              · have hF := itn c7 hF
                refine lv_aload_n hx hb dX6_laysOrder_36 rfl (lv_at hl 0 rfl) ?_
                refine lv_aload_n hx hb dX6_laysOrder_37 rfl (lv_at hl 0 rfl) ?_
                refine va_get (D := (dC, dI)) (ci := 6) (v := .ref (a 7)) (C := RX6) (T := TX6) (N := 23) hx hb hts inX6 hown hK.1 hP 0 rfl rfl 11 (by decide) (hts _ w_fieldLink_X6_28) (fun _ h9 => h9) rfl dX6_laysOrder_38 ?_
                refine lv_iload_n hx hb dX6_laysOrder_41 rfl (lv_at hl 2 rfl) ?_
                refine lv_iconst (v := 1) hx hb dX6_laysOrder_42 (by decide) ?_
                refine lv_isub hx hb dX6_laysOrder_43 ?_
                obtain ⟨hg8, hF⟩ := gd_use hF
                refine va_iald hx hb hK.1 hP 7 0 rfl rfl (i := (s32.1 - (1 : Int32))) hg8 dX6_laysOrder_44 ?_
                obtain ⟨o9, h10, hF⟩ := obd hF
                refine wcRVi (As := [.int ((M_order s32.2) (s32.1 - (1 : Int32)).toNatClampNeg)]) (rest := []) (b := (a 0)) ⟨hx, hb, hml, hown, hts⟩ (met_X6_distance l dC dI cyI cyO cyL a N s32.2 ((M_order s32.2) (s32.1 - (1 : Int32)).toNatClampNeg) o9 h10) (cwV 1 hts (gV w_methodLink_X6_81 w_instanceMethod_X6_distance w_selects_X6_distance w_initialized_X6 w_code_X6_distance) rfl rfl rfl (by decide +kernel) ⟨Nat.le_of_ble_eq_true rfl, Nat.le_of_ble_eq_true rfl⟩) (va_recv hK.1 hP (ci := 6) (q0 := 0) rfl rfl) hP hK [0, 1, 2, 3, 4, 5, 6, 7] rfl rfl hl.1 (Nat.le_of_ble_eq_true rfl) dX6_laysOrder_45 ⟨Nat.le_of_ble_eq_true rfl, Nat.le_of_ble_eq_true rfl⟩ hS (fun r H locs hw hP hS => ?_)
                have hw := hw.symm
                subst hw
                refine lv_aload_n hx hb dX6_laysOrder_48 rfl (lv_at hl 0 rfl) ?_
                refine lv_iload_n hx hb dX6_laysOrder_49 rfl (lv_at hl 1 rfl) ?_
                obtain ⟨o11, h12, hF⟩ := obd hF
                refine wcRVi (As := [.int s7.1]) (rest := [.int o9]) (b := (a 0)) ⟨hx, hb, hml, hown, hts⟩ (met_X6_distance l dC dI cyI cyO cyL a N s32.2 s7.1 o11 h12) (cwV 1 hts (gV w_methodLink_X6_81 w_instanceMethod_X6_distance w_selects_X6_distance w_initialized_X6 w_code_X6_distance) rfl rfl rfl (by decide +kernel) ⟨Nat.le_of_ble_eq_true rfl, Nat.le_of_ble_eq_true rfl⟩) (va_recv hK.1 hP (ci := 6) (q0 := 0) rfl rfl) hP hK [0, 1, 2, 3, 4, 5, 6, 7] rfl rfl hl.1 (Nat.le_of_ble_eq_true rfl) dX6_laysOrder_50 ⟨Nat.le_of_ble_eq_true rfl, Nat.le_of_ble_eq_true rfl⟩ hS (fun r H locs hw hP hS => ?_)
                have hw := hw.symm
                subst hw
                refine lv_icmp_le (tgt := 76) hx hb dX6_laysOrder_53 (by decide) (fun c13 => ?_) (fun c13 => ?_)
                · have hF := itp c13 hF
                  exact hJ76 () _ _ _ hP hD hS (lv_sub hl [0, 1, 2] rfl) hF
                · have hF := itn c13 hF
                  refine lv_aload_n hx hb dX6_laysOrder_56 rfl (lv_at hl 0 rfl) ?_
                  refine va_get (D := (dC, dI)) (ci := 6) (v := .ref (a 7)) (C := RX6) (T := TX6) (N := 23) hx hb hts inX6 hown hK.1 hP 0 rfl rfl 11 (by decide) (hts _ w_fieldLink_X6_28) (fun _ h9 => h9) rfl dX6_laysOrder_57 ?_
                  refine lv_iload_n hx hb dX6_laysOrder_60 rfl (lv_at hl 2 rfl) ?_
                  refine lv_aload_n hx hb dX6_laysOrder_61 rfl (lv_at hl 0 rfl) ?_
                  refine va_get (D := (dC, dI)) (ci := 6) (v := .ref (a 7)) (C := RX6) (T := TX6) (N := 23) hx hb hts inX6 hown hK.1 hP 0 rfl rfl 11 (by decide) (hts _ w_fieldLink_X6_28) (fun _ h9 => h9) rfl dX6_laysOrder_62 ?_
                  refine lv_iload_n hx hb dX6_laysOrder_65 rfl (lv_at hl 2 rfl) ?_
                  refine lv_iconst (v := 1) hx hb dX6_laysOrder_66 (by decide) ?_
                  refine lv_isub hx hb dX6_laysOrder_67 ?_
                  obtain ⟨hg14, hF⟩ := gd_use hF
                  refine va_iald hx hb hK.1 hP 7 0 rfl rfl (i := (s32.1 - (1 : Int32))) hg14 dX6_laysOrder_68 ?_
                  obtain ⟨hg15, hF⟩ := gd_use hF
                  refine va_iast hx hb hK.1 hP hD hS 7 0 rfl rfl (i := s32.1) (x := ((M_order s32.2) (s32.1 - (1 : Int32)).toNatClampNeg)) hg15 dX6_laysOrder_69 (fun H locs hP hD hS => ?_)
                  have hP : va_P (dC, dI) vwCl (cM cyI a (M_set_order s32.2 (upd (M_order s32.2) s32.1.toNatClampNeg ((M_order s32.2) (s32.1 - (1 : Int32)).toNatClampNeg)))) H := hP
                  have hD : va_D A (cM cyI a (M_set_order s32.2 (upd (M_order s32.2) s32.1.toNatClampNeg ((M_order s32.2) (s32.1 - (1 : Int32)).toNatClampNeg)))) := hD
                  refine lv_iinc (v := (s32.1 + (-1 : Int32))) (lv' := [(2, .int (s32.1 + (-1 : Int32))), (0, .ref (a 0)), (1, .int s7.1)]) hx hb dX6_laysOrder_70 hl (k := 2) rfl rfl (by decide) rfl (fun ls hl => ?_)
                  refine lv_goto (tgt := 32) hx hb dX6_laysOrder_73 (by decide) ?_
                  exact ih32 ((s32.1 + (-1 : Int32)), (M_set_order s32.2 (upd (M_order s32.2) s32.1.toNatClampNeg ((M_order s32.2) (s32.1 - (1 : Int32)).toNatClampNeg)))) _ _ _ hP hD hS (lv_sub hl [1, 2, 0] rfl) hF
          exact hL32 N ((M_orderMany s7.2), s7.2) _ _ _ hP hD hS (lv_sub hl [1, 2, 0] rfl) hF
  exact hL7 N ((0 : Int32), (M_set_orderMany v (0 : Int32))) _ _ _ hP hD hS (lv_sub hl [1, 0] rfl) hF
theorem dX6_abs_0 : decode cX6_abs 0 = .ok (.iload_n 0, 1) := by decide +kernel
theorem dX6_abs_1 : decode cX6_abs 1 = .ok (.ifCond .ge 8, 3) := by decide +kernel
theorem dX6_abs_4 : decode cX6_abs 4 = .ok (.iload_n 0, 1) := by decide +kernel
theorem dX6_abs_5 : decode cX6_abs 5 = .ok (.ineg, 1) := by decide +kernel
theorem dX6_abs_6 : decode cX6_abs 6 = .ok (.goto 4, 3) := by decide +kernel
theorem dX6_abs_9 : decode cX6_abs 9 = .ok (.iload_n 0, 1) := by decide +kernel
theorem dX6_abs_10 : decode cX6_abs 10 = .ok (.ireturn, 1) := by decide +kernel
def f_X6_abs (N : Nat) (p1 : Int32) : Option (Int32) :=
  jn (fun (s10 : Int32) => some s10) (fun (j10 : (Int32) → Option (Int32)) => (if 0 ≤ p1 then j10 p1 else j10 (-p1)))
set_option maxHeartbeats 4000000 in
set_option maxRecDepth 100000 in
theorem met_X6_abs (l : Launch) (dC : Nat → ClassId) (dI : Nat → Nat → Nat) (cyI cyO cyL : ClassId)  (N : Nat) (p1 : Int32) (out : Int32) (hF : f_X6_abs N p1 = some out) : Met l yX6_abs (Cond.code yX6_abs cX6_abs 1 (some .int) :: wT) ({ frames := 0, cells := 0, slots := 0, locals := 0 } : Room) (wRd dC dI cyI cyO cyL [.int p1] ([] : va_W)) (va_Qi (fun (r : Int32) (_ : Unit) => r = out) (fun _ _ => True) wN0) 0 0 wN0 := by
  refine Met.ofW (cc := cX6_abs) (maxL := 1) (ret := (some .int)) (by decide) rfl ?_
  intro p e s m args below meth c s₁ B hml hv
  obtain ⟨rfl, hP, hK⟩ := hv
  have hx := B.exec
  have hb := B.bytes
  have hr := B.returns
  have hts0 := atoms_spec (ws := (Cond.code yX6_abs cX6_abs 1 (some .int) :: wT)) B.pre
  have hts := fun w h => hts0 w (List.mem_cons_of_mem _ h)
  clear hts0
  have hown : s.vm.findClass RX6 = some m.cls := findClass_of_methodNamed B.named
  have hlocks := B.notSynchronized
  have hS : va_S wN0 s.heap s.heap [] := va_S.rf
  have hl := lv_entry [.int p1] (n := 1) (Nat.le_of_ble_eq_true rfl)
  rw [lg_entry_eq]
  generalize (lg_sl [.int p1] ++ List.replicate (1 - (lg_sl [.int p1]).length) Slot.unset).toArray = ls at hl ⊢
  have hl : lv_has ls 1 [(0, .int p1)] := hl
  unfold f_X6_abs at hF
  refine lv_iload_n hx hb dX6_abs_0 rfl (lv_at hl 0 rfl) ?_
  obtain ⟨j10, hj10, hF⟩ := jn_use hF
  have hJ10 : ∀ (s10 : Int32) (H : Heap) (locs : List Loc) (ls : Array Slot), va_P (dC, dI) vwCl ([] : va_W) H → va_S wN0 s.heap H locs → lv_has ls 1 [] → j10 s10 = some out → W p l e (headSpec (Cond.code yX6_abs cX6_abs 1 (some .int) :: wT) ({ frames := 0, cells := 0, slots := 0, locals := 0 } : Room)).room s m ([.int p1] : List Value).toArray below meth c H locs 0 0 (MQ below (va_Qi (fun (r : Int32) (_ : Unit) => r = out) (fun _ _ => True) wN0) ([.int p1] : List Value).toArray s 0 0 wN0) (F0 m 10 ls [.int s10]) := by
    intro s10 H locs ls hP hS hl hF
    have hF := (congrFun hj10 s10).symm.trans hF
    exact W.iret (v := s10) hx hb hr (fun t ht hW => ⟨⟨_, (), rfl, Option.some.inj hF, trivial⟩, hS.F ht⟩) hS.2.2 dX6_abs_10
  refine lv_if_ge (tgt := 9) hx hb dX6_abs_1 (by decide) (fun c1 => ?_) (fun c1 => ?_)
  · have hF := itp c1 hF
    refine lv_iload_n hx hb dX6_abs_9 rfl (lv_at hl 0 rfl) ?_
    exact hJ10 p1 _ _ _ hP hS (lv_sub hl [] rfl) hF
  · have hF := itn c1 hF
    refine lv_iload_n hx hb dX6_abs_4 rfl (lv_at hl 0 rfl) ?_
    refine lv_ineg hx hb dX6_abs_5 ?_
    refine lv_goto (tgt := 10) hx hb dX6_abs_6 (by decide) ?_
    exact hJ10 (-p1) _ _ _ hP hS (lv_sub hl [] rfl) hF
theorem dX6_score_0 : decode cX6_score 0 = .ok (.aload_n 0, 1) := by decide +kernel
theorem dX6_score_1 : decode cX6_score 1 = .ok (.invokevirtual 85, 3) := by decide +kernel
theorem dX6_score_4 : decode cX6_score 4 = .ok (.aload_n 0, 1) := by decide +kernel
theorem dX6_score_5 : decode cX6_score 5 = .ok (.getfield 7, 3) := by decide +kernel
theorem dX6_score_8 : decode cX6_score 8 = .ok (.iconst 0, 1) := by decide +kernel
theorem dX6_score_9 : decode cX6_score 9 = .ok (.iaload, 1) := by decide +kernel
theorem dX6_score_10 : decode cX6_score 10 = .ok (.ifCond .eq 17, 3) := by decide +kernel
theorem dX6_score_13 : decode cX6_score 13 = .ok (.aload_n 0, 1) := by decide +kernel
theorem dX6_score_14 : decode cX6_score 14 = .ok (.invokevirtual 67, 3) := by decide +kernel
theorem dX6_score_17 : decode cX6_score 17 = .ok (.ifCond .ne 10, 3) := by decide +kernel
theorem dX6_score_20 : decode cX6_score 20 = .ok (.aload_n 0, 1) := by decide +kernel
theorem dX6_score_21 : decode cX6_score 21 = .ok (.getfield 78, 3) := by decide +kernel
theorem dX6_score_24 : decode cX6_score 24 = .ok (.ifCond .ne 5, 3) := by decide +kernel
theorem dX6_score_27 : decode cX6_score 27 = .ok (.iconst 0, 1) := by decide +kernel
theorem dX6_score_28 : decode cX6_score 28 = .ok (.ireturn, 1) := by decide +kernel
theorem dX6_score_29 : decode cX6_score 29 = .ok (.aload_n 0, 1) := by decide +kernel
theorem dX6_score_30 : decode cX6_score 30 = .ok (.aload_n 0, 1) := by decide +kernel
theorem dX6_score_31 : decode cX6_score 31 = .ok (.getfield 28, 3) := by decide +kernel
theorem dX6_score_34 : decode cX6_score 34 = .ok (.iconst 0, 1) := by decide +kernel
theorem dX6_score_35 : decode cX6_score 35 = .ok (.iaload, 1) := by decide +kernel
theorem dX6_score_36 : decode cX6_score 36 = .ok (.invokevirtual 88, 3) := by decide +kernel
theorem dX6_score_39 : decode cX6_score 39 = .ok (.istore_n 1, 1) := by decide +kernel
theorem dX6_score_40 : decode cX6_score 40 = .ok (.iconst (-1), 1) := by decide +kernel
theorem dX6_score_41 : decode cX6_score 41 = .ok (.istore_n 2, 1) := by decide +kernel
theorem dX6_score_42 : decode cX6_score 42 = .ok (.iconst 0, 1) := by decide +kernel
theorem dX6_score_43 : decode cX6_score 43 = .ok (.istore_n 3, 1) := by decide +kernel
theorem dX6_score_44 : decode cX6_score 44 = .ok (.iconst 0, 1) := by decide +kernel
theorem dX6_score_45 : decode cX6_score 45 = .ok (.istore 4, 2) := by decide +kernel
theorem dX6_score_47 : decode cX6_score 47 = .ok (.iload 4, 2) := by decide +kernel
theorem dX6_score_49 : decode cX6_score 49 = .ok (.aload_n 0, 1) := by decide +kernel
theorem dX6_score_50 : decode cX6_score 50 = .ok (.getfield 78, 3) := by decide +kernel
theorem dX6_score_53 : decode cX6_score 53 = .ok (.if_icmp .ge 44, 3) := by decide +kernel
theorem dX6_score_56 : decode cX6_score 56 = .ok (.iload_n 2, 1) := by decide +kernel
theorem dX6_score_57 : decode cX6_score 57 = .ok (.ifCond .ge 32, 3) := by decide +kernel
theorem dX6_score_60 : decode cX6_score 60 = .ok (.aload_n 0, 1) := by decide +kernel
theorem dX6_score_61 : decode cX6_score 61 = .ok (.aload_n 0, 1) := by decide +kernel
theorem dX6_score_62 : decode cX6_score 62 = .ok (.getfield 28, 3) := by decide +kernel
theorem dX6_score_65 : decode cX6_score 65 = .ok (.iload 4, 2) := by decide +kernel
theorem dX6_score_67 : decode cX6_score 67 = .ok (.iaload, 1) := by decide +kernel
theorem dX6_score_68 : decode cX6_score 68 = .ok (.invokevirtual 88, 3) := by decide +kernel
theorem dX6_score_71 : decode cX6_score 71 = .ok (.iload_n 1, 1) := by decide +kernel
theorem dX6_score_72 : decode cX6_score 72 = .ok (.if_icmp .eq 17, 3) := by decide +kernel
theorem dX6_score_75 : decode cX6_score 75 = .ok (.aload_n 0, 1) := by decide +kernel
theorem dX6_score_76 : decode cX6_score 76 = .ok (.aload_n 0, 1) := by decide +kernel
theorem dX6_score_77 : decode cX6_score 77 = .ok (.getfield 28, 3) := by decide +kernel
theorem dX6_score_80 : decode cX6_score 80 = .ok (.iload 4, 2) := by decide +kernel
theorem dX6_score_82 : decode cX6_score 82 = .ok (.iaload, 1) := by decide +kernel
theorem dX6_score_83 : decode cX6_score 83 = .ok (.invokevirtual 81, 3) := by decide +kernel
theorem dX6_score_86 : decode cX6_score 86 = .ok (.goto 4, 3) := by decide +kernel
theorem dX6_score_89 : decode cX6_score 89 = .ok (.iload_n 2, 1) := by decide +kernel
theorem dX6_score_90 : decode cX6_score 90 = .ok (.istore_n 2, 1) := by decide +kernel
theorem dX6_score_91 : decode cX6_score 91 = .ok (.iinc 4 1, 3) := by decide +kernel
theorem dX6_score_94 : decode cX6_score 94 = .ok (.goto (-47), 3) := by decide +kernel
theorem dX6_score_97 : decode cX6_score 97 = .ok (.iconst 0, 1) := by decide +kernel
theorem dX6_score_98 : decode cX6_score 98 = .ok (.istore 4, 2) := by decide +kernel
theorem dX6_score_100 : decode cX6_score 100 = .ok (.iload 4, 2) := by decide +kernel
theorem dX6_score_102 : decode cX6_score 102 = .ok (.aload_n 0, 1) := by decide +kernel
theorem dX6_score_103 : decode cX6_score 103 = .ok (.getfield 78, 3) := by decide +kernel
theorem dX6_score_106 : decode cX6_score 106 = .ok (.if_icmp .ge 84, 3) := by decide +kernel
theorem dX6_score_109 : decode cX6_score 109 = .ok (.aload_n 0, 1) := by decide +kernel
theorem dX6_score_110 : decode cX6_score 110 = .ok (.aload_n 0, 1) := by decide +kernel
theorem dX6_score_111 : decode cX6_score 111 = .ok (.getfield 28, 3) := by decide +kernel
theorem dX6_score_114 : decode cX6_score 114 = .ok (.iload 4, 2) := by decide +kernel
theorem dX6_score_116 : decode cX6_score 116 = .ok (.iaload, 1) := by decide +kernel
theorem dX6_score_117 : decode cX6_score 117 = .ok (.invokevirtual 88, 3) := by decide +kernel
theorem dX6_score_120 : decode cX6_score 120 = .ok (.iload_n 1, 1) := by decide +kernel
theorem dX6_score_121 : decode cX6_score 121 = .ok (.if_icmp .ne 26, 3) := by decide +kernel
theorem dX6_score_124 : decode cX6_score 124 = .ok (.iload_n 2, 1) := by decide +kernel
theorem dX6_score_125 : decode cX6_score 125 = .ok (.ifCond .lt 18, 3) := by decide +kernel
theorem dX6_score_128 : decode cX6_score 128 = .ok (.aload_n 0, 1) := by decide +kernel
theorem dX6_score_129 : decode cX6_score 129 = .ok (.aload_n 0, 1) := by decide +kernel
theorem dX6_score_130 : decode cX6_score 130 = .ok (.getfield 28, 3) := by decide +kernel
theorem dX6_score_133 : decode cX6_score 133 = .ok (.iload 4, 2) := by decide +kernel
theorem dX6_score_135 : decode cX6_score 135 = .ok (.iaload, 1) := by decide +kernel
theorem dX6_score_136 : decode cX6_score 136 = .ok (.invokevirtual 81, 3) := by decide +kernel
theorem dX6_score_139 : decode cX6_score 139 = .ok (.iload_n 2, 1) := by decide +kernel
theorem dX6_score_140 : decode cX6_score 140 = .ok (.if_icmp .ge 7, 3) := by decide +kernel
theorem dX6_score_143 : decode cX6_score 143 = .ok (.iconst 1, 1) := by decide +kernel
theorem dX6_score_144 : decode cX6_score 144 = .ok (.goto 4, 3) := by decide +kernel
theorem dX6_score_147 : decode cX6_score 147 = .ok (.iconst 0, 1) := by decide +kernel
theorem dX6_score_148 : decode cX6_score 148 = .ok (.istore 5, 2) := by decide +kernel
theorem dX6_score_150 : decode cX6_score 150 = .ok (.iload_n 3, 1) := by decide +kernel
theorem dX6_score_151 : decode cX6_score 151 = .ok (.iload 5, 2) := by decide +kernel
theorem dX6_score_153 : decode cX6_score 153 = .ok (.ifCond .eq 28, 3) := by decide +kernel
theorem dX6_score_156 : decode cX6_score 156 = .ok (.iconst 1, 1) := by decide +kernel
theorem dX6_score_157 : decode cX6_score 157 = .ok (.aload_n 0, 1) := by decide +kernel
theorem dX6_score_158 : decode cX6_score 158 = .ok (.getfield 7, 3) := by decide +kernel
theorem dX6_score_161 : decode cX6_score 161 = .ok (.bipush 64, 2) := by decide +kernel
theorem dX6_score_163 : decode cX6_score 163 = .ok (.iaload, 1) := by decide +kernel
theorem dX6_score_164 : decode cX6_score 164 = .ok (.aload_n 0, 1) := by decide +kernel
theorem dX6_score_165 : decode cX6_score 165 = .ok (.aload_n 0, 1) := by decide +kernel
theorem dX6_score_166 : decode cX6_score 166 = .ok (.getfield 28, 3) := by decide +kernel
theorem dX6_score_169 : decode cX6_score 169 = .ok (.iload 4, 2) := by decide +kernel
theorem dX6_score_171 : decode cX6_score 171 = .ok (.iaload, 1) := by decide +kernel
theorem dX6_score_172 : decode cX6_score 172 = .ok (.iconst 3, 1) := by decide +kernel
theorem dX6_score_173 : decode cX6_score 173 = .ok (.invokevirtual 42, 3) := by decide +kernel
theorem dX6_score_176 : decode cX6_score 176 = .ok (.imul, 1) := by decide +kernel
theorem dX6_score_177 : decode cX6_score 177 = .ok (.iadd, 1) := by decide +kernel
theorem dX6_score_178 : decode cX6_score 178 = .ok (.goto 4, 3) := by decide +kernel
theorem dX6_score_181 : decode cX6_score 181 = .ok (.iconst 0, 1) := by decide +kernel
theorem dX6_score_182 : decode cX6_score 182 = .ok (.iadd, 1) := by decide +kernel
theorem dX6_score_183 : decode cX6_score 183 = .ok (.istore_n 3, 1) := by decide +kernel
theorem dX6_score_184 : decode cX6_score 184 = .ok (.iinc 4 1, 3) := by decide +kernel
theorem dX6_score_187 : decode cX6_score 187 = .ok (.goto (-87), 3) := by decide +kernel
theorem dX6_score_190 : decode cX6_score 190 = .ok (.iload_n 1, 1) := by decide +kernel
theorem dX6_score_191 : decode cX6_score 191 = .ok (.ifCond .ne 7, 3) := by decide +kernel
theorem dX6_score_194 : decode cX6_score 194 = .ok (.iload_n 3, 1) := by decide +kernel
theorem dX6_score_195 : decode cX6_score 195 = .ok (.goto 5, 3) := by decide +kernel
theorem dX6_score_198 : decode cX6_score 198 = .ok (.iload_n 3, 1) := by decide +kernel
theorem dX6_score_199 : decode cX6_score 199 = .ok (.ineg, 1) := by decide +kernel
theorem dX6_score_200 : decode cX6_score 200 = .ok (.ireturn, 1) := by decide +kernel
def f_X6_score (N : Nat) (v : MV) : Option (Int32 × MV) :=
  (f_X6_laysOrder N v).bind (fun o1 => jn (fun (s27 : Unit) => some ((0 : Int32), o1)) (fun (j27 : (Unit) → Option (Int32 × MV)) => (if ((M_s o1) (0 : Int32).toNatClampNeg) = 0 then j27 () else (f_X6_isBurntNow N o1).bind (fun o5 => (if o5 = 0 then (if (M_orderMany o1) = 0 then j27 () else (f_X6_sideNow N o1 ((M_order o1) (0 : Int32).toNatClampNeg)).bind (fun o11 => lpN (fun (s47 : Int32 × Int32) (k47 : (Int32 × Int32) → Option (Int32 × MV)) => (if (M_orderMany o1) ≤ s47.2 then lpN (fun (s100 : Int32 × Int32) (k100 : (Int32 × Int32) → Option (Int32 × MV)) => (if (M_orderMany o1) ≤ s100.2 then jn (fun (s200 : Int32) => some (s200, o1)) (fun (j200 : (Int32) → Option (Int32 × MV)) => (if o11 = 0 then j200 s100.1 else j200 (-s100.1))) else gd (ixok s100.2 8) ((f_X6_sideNow N o1 ((M_order o1) s100.2.toNatClampNeg)).bind (fun o17 => jn (fun (s148 : Int32) => jn (fun (s182 : Int32) => k100 ((s100.1 + s182), (s100.2 + (1 : Int32)))) (fun (j182 : (Int32) → Option (Int32 × MV)) => (if s148 = 0 then j182 (0 : Int32) else gd (ixok s100.2 8) ((f_X6_of N o1 ((M_order o1) s100.2.toNatClampNeg) (3 : Int32)).bind (fun o22 => j182 ((1 : Int32) + (((M_s o1) (64 : Int32).toNatClampNeg) * o22))))))) (fun (j148 : (Int32) → Option (Int32 × MV)) => jn (fun (s147 : Unit) => j148 (0 : Int32)) (fun (j147 : (Unit) → Option (Int32 × MV)) => (if o17 = o11 then jn (fun (s143 : Unit) => j148 (1 : Int32)) (fun (j143 : (Unit) → Option (Int32 × MV)) => (if s47.1 < 0 then j143 () else gd (ixok s100.2 8) ((f_X6_distance N o1 ((M_order o1) s100.2.toNatClampNeg)).bind (fun o27 => (if s47.1 ≤ o27 then j147 () else j143 ()))))) else j147 ()))))))) N ((0 : Int32), (0 : Int32)) else jn (fun (s90 : Int32) => k47 (s90, (s47.2 + (1 : Int32)))) (fun (j90 : (Int32) → Option (Int32 × MV)) => jn (fun (s89 : Unit) => j90 s47.1) (fun (j89 : (Unit) → Option (Int32 × MV)) => (if 0 ≤ s47.1 then j89 () else gd (ixok s47.2 8) ((f_X6_sideNow N o1 ((M_order o1) s47.2.toNatClampNeg)).bind (fun o32 => (if o32 = o11 then j89 () else gd (ixok s47.2 8) ((f_X6_distance N o1 ((M_order o1) s47.2.toNatClampNeg)).bind (fun o36 => j90 o36)))))))))) N ((-1 : Int32), (0 : Int32)))) else j27 ())))))
set_option maxHeartbeats 4000000 in
set_option maxRecDepth 100000 in
theorem met_X6_score (l : Launch) (dC : Nat → ClassId) (dI : Nat → Nat → Nat) (cyI cyO cyL : ClassId) (a : Nat → Nat) (sz : Nat) (N : Nat) (v : MV) (out : Int32 × MV) (hF : f_X6_score N v = some out) : Met l yX6_score (Cond.code yX6_score cX6_score 6 (some .int) :: wT) ({ frames := 3, cells := 0, slots := 0, locals := 67 } : Room) (wWr dC dI cyI cyO cyL [.ref (a 0)] (cM cyI a v) sz) (va_Qi (fun (r : Int32) (u : MV) => (r, u) = out) (fun u t => va_P (dC, dI) vwCl (cM cyI a u) t.heap ∧ va_D (va_A (cM cyI a v) sz) (cM cyI a u)) (va_A (cM cyI a v) sz)) 0 0 (va_A (cM cyI a v) sz) := by
  refine Met.ofW (cc := cX6_score) (maxL := 6) (ret := (some .int)) (by decide) rfl ?_
  intro p e s m args below meth c s₁ B hml hv
  obtain ⟨rfl, hsz, hP, hK, hD0⟩ := hv
  have hx := B.exec
  have hb := B.bytes
  have hr := B.returns
  have hts0 := atoms_spec (ws := (Cond.code yX6_score cX6_score 6 (some .int) :: wT)) B.pre
  have hts := fun w h => hts0 w (List.mem_cons_of_mem _ h)
  clear hts0
  have hown : s.vm.findClass RX6 = some m.cls := findClass_of_methodNamed B.named
  have hlocks := B.notSynchronized
  subst hsz
  have hD := hD0.self (sz := s.heap.size)
  generalize hAe : va_A (cM cyI a v) s.heap.size = A at hD ⊢
  have hA : ∀ q : Nat, s.heap.size ≤ q → A q := fun q h => by rw [← hAe]; exact Or.inr h
  clear hD0
  have hS : va_S A s.heap s.heap [] := va_S.rf
  have hl := lv_entry [.ref (a 0)] (n := 6) (Nat.le_of_ble_eq_true rfl)
  rw [lg_entry_eq]
  generalize (lg_sl [.ref (a 0)] ++ List.replicate (6 - (lg_sl [.ref (a 0)]).length) Slot.unset).toArray = ls at hl ⊢
  have hl : lv_has ls 6 [(0, .ref (a 0))] := hl
  unfold f_X6_score at hF
  refine lv_aload_n hx hb dX6_score_0 rfl (lv_at hl 0 rfl) ?_
  obtain ⟨o1, h2, hF⟩ := obd hF
  refine wcWVv (As := []) (rest := []) (wr := []) (b := (a 0)) ⟨hx, hb, hml, hown, hts⟩ (met_X6_laysOrder l dC dI cyI cyO cyL a _ N v  o1 h2) (cwV 0 hts (gV w_methodLink_X6_85 w_instanceMethod_X6_laysOrder w_selects_X6_laysOrder w_initialized_X6 w_code_X6_laysOrder) rfl rfl rfl (by decide +kernel) ⟨Nat.le_of_ble_eq_true rfl, Nat.le_of_ble_eq_true rfl⟩) (va_recv hK.1 hP (ci := 6) (q0 := 0) rfl rfl) hP hD hK [0, 1, 2, 3, 4, 5, 6, 7] [] rfl rfl (by decide) (by decide) (by decide) rfl hl.1 (Nat.le_of_ble_eq_true rfl) dX6_score_1 ⟨Nat.le_of_ble_eq_true rfl, Nat.le_of_ble_eq_true rfl⟩ hS hA (fun u H locs hw hP hD hS => ?_)
  have hw := hw.symm
  subst hw
  have hP : va_P (dC, dI) vwCl (cM cyI a o1) H := hP
  have hD : va_D A (cM cyI a o1) := hD
  refine lv_aload_n hx hb dX6_score_4 rfl (lv_at hl 0 rfl) ?_
  refine va_get (D := (dC, dI)) (ci := 6) (v := .ref (a 1)) (C := RX6) (T := TX6) (N := 23) hx hb hts inX6 hown hK.1 hP 0 rfl rfl 1 (by decide) (hts _ w_fieldLink_X6_7) (fun _ h9 => h9) rfl dX6_score_5 ?_
  refine lv_iconst (v := 0) hx hb dX6_score_8 (by decide) ?_
  refine va_iald hx hb hK.1 hP 1 0 rfl rfl (i := (0 : Int32)) (show ixok (0 : Int32) 103 by decide) dX6_score_9 ?_
  obtain ⟨j27, hj27, hF⟩ := jn_use hF
  have hJ27 : ∀ (s27 : Unit) (H : Heap) (locs : List Loc) (ls : Array Slot), va_P (dC, dI) vwCl (cM cyI a o1) H → va_D A (cM cyI a o1) → va_S A s.heap H locs → lv_has ls 6 [] → j27 s27 = some out → W p l e (headSpec (Cond.code yX6_score cX6_score 6 (some .int) :: wT) ({ frames := 3, cells := 0, slots := 0, locals := 67 } : Room)).room s m ([.ref (a 0)] : List Value).toArray below meth c H locs 0 0 (MQ below (va_Qi (fun (r : Int32) (u : MV) => (r, u) = out) (fun u t => va_P (dC, dI) vwCl (cM cyI a u) t.heap ∧ va_D A (cM cyI a u)) A) ([.ref (a 0)] : List Value).toArray s 0 0 A) (F0 m 27 ls []) := by
    intro s27 H locs ls hP hD hS hl hF
    have hF := (congrFun hj27 s27).symm.trans hF
    refine lv_iconst (v := 0) hx hb dX6_score_27 (by decide) ?_
    exact W.iret (v := (0 : Int32)) hx hb hr (fun t ht hW => ⟨⟨_, o1, rfl, Option.some.inj hF, by rw [ht]; exact hP, hD⟩, hS.F ht⟩) hS.2.2 dX6_score_28
  refine lv_if_eq (tgt := 27) hx hb dX6_score_10 (by decide) (fun c4 => ?_) (fun c4 => ?_)
  · have hF := itp c4 hF
    exact hJ27 () _ _ _ hP hD hS (lv_sub hl [] rfl) hF
  · have hF := itn c4 hF
    refine lv_aload_n hx hb dX6_score_13 rfl (lv_at hl 0 rfl) ?_
    obtain ⟨o5, h6, hF⟩ := obd hF
    refine wcRVi (As := []) (rest := []) (b := (a 0)) ⟨hx, hb, hml, hown, hts⟩ (met_X6_isBurntNow l dC dI cyI cyO cyL a N o1  o5 h6) (cwV 0 hts (gV w_methodLink_X6_67 w_instanceMethod_X6_isBurntNow w_selects_X6_isBurntNow w_initialized_X6 w_code_X6_isBurntNow) rfl rfl rfl (by decide +kernel) ⟨Nat.le_of_ble_eq_true rfl, Nat.le_of_ble_eq_true rfl⟩) (va_recv hK.1 hP (ci := 6) (q0 := 0) rfl rfl) hP hK [0, 1, 2, 3, 4, 5, 6, 7] rfl rfl hl.1 (Nat.le_of_ble_eq_true rfl) dX6_score_14 ⟨Nat.le_of_ble_eq_true rfl, Nat.le_of_ble_eq_true rfl⟩ hS (fun r H locs hw hP hS => ?_)
    obtain ⟨hw, hz7⟩ := hw
    have hw := hw.symm
    subst hw
    refine lv_if_ne (tgt := 27) hx hb dX6_score_17 (by decide) (fun c8 => ?_) (fun c8 => ?_)
    · have hF := itn c8 hF
      exact hJ27 () _ _ _ hP hD hS (lv_sub hl [] rfl) hF
    · have hF := itp c8 hF
      refine lv_aload_n hx hb dX6_score_20 rfl (lv_at hl 0 rfl) ?_
      refine va_get (D := (dC, dI)) (ci := 6) (v := .int (M_orderMany o1)) (C := RX6) (T := TX6) (N := 23) hx hb hts inX6 hown hK.1 hP 0 rfl rfl 12 (by decide) (hts _ w_fieldLink_X6_78) (fun _ h9 => h9) rfl dX6_score_21 ?_
      refine lv_if_ne (tgt := 29) hx hb dX6_score_24 (by decide) (fun c9 => ?_) (fun c9 => ?_)
      · have hF := itn c9 hF
        refine lv_aload_n hx hb dX6_score_29 rfl (lv_at hl 0 rfl) ?_
        refine lv_aload_n hx hb dX6_score_30 rfl (lv_at hl 0 rfl) ?_
        refine va_get (D := (dC, dI)) (ci := 6) (v := .ref (a 7)) (C := RX6) (T := TX6) (N := 23) hx hb hts inX6 hown hK.1 hP 0 rfl rfl 11 (by decide) (hts _ w_fieldLink_X6_28) (fun _ h9 => h9) rfl dX6_score_31 ?_
        refine lv_iconst (v := 0) hx hb dX6_score_34 (by decide) ?_
        refine va_iald hx hb hK.1 hP 7 0 rfl rfl (i := (0 : Int32)) (show ixok (0 : Int32) 8 by decide) dX6_score_35 ?_
        obtain ⟨o11, h12, hF⟩ := obd hF
        refine wcRVi (As := [.int ((M_order o1) (0 : Int32).toNatClampNeg)]) (rest := []) (b := (a 0)) ⟨hx, hb, hml, hown, hts⟩ (met_X6_sideNow l dC dI cyI cyO cyL a N o1 ((M_order o1) (0 : Int32).toNatClampNeg) o11 h12) (cwV 1 hts (gV w_methodLink_X6_88 w_instanceMethod_X6_sideNow w_selects_X6_sideNow w_initialized_X6 w_code_X6_sideNow) rfl rfl rfl (by decide +kernel) ⟨Nat.le_of_ble_eq_true rfl, Nat.le_of_ble_eq_true rfl⟩) (va_recv hK.1 hP (ci := 6) (q0 := 0) rfl rfl) hP hK [0, 1, 2, 3, 4, 5, 6, 7] rfl rfl hl.1 (Nat.le_of_ble_eq_true rfl) dX6_score_36 ⟨Nat.le_of_ble_eq_true rfl, Nat.le_of_ble_eq_true rfl⟩ hS (fun r H locs hw hP hS => ?_)
        have hw := hw.symm
        subst hw
        refine lv_istore_n (lv' := [(1, .int o11), (0, .ref (a 0))]) hx hb dX6_score_39 rfl hl (by decide) rfl (fun ls hl => ?_)
        refine lv_iconst (v := -1) hx hb dX6_score_40 (by decide) ?_
        refine lv_istore_n (lv' := [(2, .int (-1 : Int32)), (1, .int o11), (0, .ref (a 0))]) hx hb dX6_score_41 rfl hl (by decide) rfl (fun ls hl => ?_)
        refine lv_iconst (v := 0) hx hb dX6_score_42 (by decide) ?_
        refine lv_istore_n (lv' := [(3, .int (0 : Int32)), (2, .int (-1 : Int32)), (1, .int o11), (0, .ref (a 0))]) hx hb dX6_score_43 rfl hl (by decide) rfl (fun ls hl => ?_)
        refine lv_iconst (v := 0) hx hb dX6_score_44 (by decide) ?_
        refine lv_istore (lv' := [(4, .int (0 : Int32)), (3, .int (0 : Int32)), (2, .int (-1 : Int32)), (1, .int o11), (0, .ref (a 0))]) hx hb dX6_score_45 hl (by decide) rfl (fun ls hl => ?_)
        obtain ⟨st47, hst47, hF⟩ := lpN_use hF
        have hL47 : ∀ (n : Nat) (s47 : Int32 × Int32) (H : Heap) (locs : List Loc) (ls : Array Slot), va_P (dC, dI) vwCl (cM cyI a o1) H → va_D A (cM cyI a o1) → va_S A s.heap H locs → lv_has ls 6 [(0, .ref (a 0)), (1, .int o11), (2, .int s47.1), (3, .int (0 : Int32)), (4, .int s47.2)] → lpN st47 n s47 = some out → W p l e (headSpec (Cond.code yX6_score cX6_score 6 (some .int) :: wT) ({ frames := 3, cells := 0, slots := 0, locals := 67 } : Room)).room s m ([.ref (a 0)] : List Value).toArray below meth c H locs 0 0 (MQ below (va_Qi (fun (r : Int32) (u : MV) => (r, u) = out) (fun u t => va_P (dC, dI) vwCl (cM cyI a u) t.heap ∧ va_D A (cM cyI a u)) A) ([.ref (a 0)] : List Value).toArray s 0 0 A) (F0 m 47 ls []) := by
          intro n
          induction n with
          | zero => intro s47 H locs ls hP hD hS hl hF; exact lpN_0 hF
          | succ n ih47 =>
            intro s47 H locs ls hP hD hS hl hF
            have hF := (congrFun (congrFun hst47 s47) (lpN st47 n)).symm.trans (lpN_s hF)
            refine lv_iload hx hb dX6_score_47 (lv_at hl 4 rfl) ?_
            refine lv_aload_n hx hb dX6_score_49 rfl (lv_at hl 0 rfl) ?_
            refine va_get (D := (dC, dI)) (ci := 6) (v := .int (M_orderMany o1)) (C := RX6) (T := TX6) (N := 23) hx hb hts inX6 hown hK.1 hP 0 rfl rfl 12 (by decide) (hts _ w_fieldLink_X6_78) (fun _ h9 => h9) rfl dX6_score_50 ?_
            refine lv_icmp_ge (tgt := 97) hx hb dX6_score_53 (by decide) (fun c13 => ?_) (fun c13 => ?_)
            · have hF := itp c13 hF
              refine lv_iconst (v := 0) hx hb dX6_score_97 (by decide) ?_
              refine lv_istore (lv' := [(4, .int (0 : Int32)), (0, .ref (a 0)), (1, .int o11), (2, .int s47.1), (3, .int (0 : Int32))]) hx hb dX6_score_98 hl (by decide) rfl (fun ls hl => ?_)
              obtain ⟨st100, hst100, hF⟩ := lpN_use hF
              have hL100 : ∀ (n : Nat) (s100 : Int32 × Int32) (H : Heap) (locs : List Loc) (ls : Array Slot), va_P (dC, dI) vwCl (cM cyI a o1) H → va_D A (cM cyI a o1) → va_S A s.heap H locs → lv_has ls 6 [(0, .ref (a 0)), (1, .int o11), (2, .int s47.1), (3, .int s100.1), (4, .int s100.2)] → lpN st100 n s100 = some out → W p l e (headSpec (Cond.code yX6_score cX6_score 6 (some .int) :: wT) ({ frames := 3, cells := 0, slots := 0, locals := 67 } : Room)).room s m ([.ref (a 0)] : List Value).toArray below meth c H locs 0 0 (MQ below (va_Qi (fun (r : Int32) (u : MV) => (r, u) = out) (fun u t => va_P (dC, dI) vwCl (cM cyI a u) t.heap ∧ va_D A (cM cyI a u)) A) ([.ref (a 0)] : List Value).toArray s 0 0 A) (F0 m 100 ls []) := by
                intro n
                induction n with
                | zero => intro s100 H locs ls hP hD hS hl hF; exact lpN_0 hF
                | succ n ih100 =>
                  intro s100 H locs ls hP hD hS hl hF
                  have hF := (congrFun (congrFun hst100 s100) (lpN st100 n)).symm.trans (lpN_s hF)
                  refine lv_iload hx hb dX6_score_100 (lv_at hl 4 rfl) ?_
                  refine lv_aload_n hx hb dX6_score_102 rfl (lv_at hl 0 rfl) ?_
                  refine va_get (D := (dC, dI)) (ci := 6) (v := .int (M_orderMany o1)) (C := RX6) (T := TX6) (N := 23) hx hb hts inX6 hown hK.1 hP 0 rfl rfl 12 (by decide) (hts _ w_fieldLink_X6_78) (fun _ h9 => h9) rfl dX6_score_103 ?_
                  refine lv_icmp_ge (tgt := 190) hx hb dX6_score_106 (by decide) (fun c14 => ?_) (fun c14 => ?_)
                  · have hF := itp c14 hF
                    refine lv_iload_n hx hb dX6_score_190 rfl (lv_at hl 1 rfl) ?_
                    obtain ⟨j200, hj200, hF⟩ := jn_use hF
                    have hJ200 : ∀ (s200 : Int32) (H : Heap) (locs : List Loc) (ls : Array Slot), va_P (dC, dI) vwCl (cM cyI a o1) H → va_D A (cM cyI a o1) → va_S A s.heap H locs → lv_has ls 6 [] → j200 s200 = some out → W p l e (headSpec (Cond.code yX6_score cX6_score 6 (some .int) :: wT) ({ frames := 3, cells := 0, slots := 0, locals := 67 } : Room)).room s m ([.ref (a 0)] : List Value).toArray below meth c H locs 0 0 (MQ below (va_Qi (fun (r : Int32) (u : MV) => (r, u) = out) (fun u t => va_P (dC, dI) vwCl (cM cyI a u) t.heap ∧ va_D A (cM cyI a u)) A) ([.ref (a 0)] : List Value).toArray s 0 0 A) (F0 m 200 ls [.int s200]) := by
                      intro s200 H locs ls hP hD hS hl hF
                      have hF := (congrFun hj200 s200).symm.trans hF
                      exact W.iret (v := s200) hx hb hr (fun t ht hW => ⟨⟨_, o1, rfl, Option.some.inj hF, by rw [ht]; exact hP, hD⟩, hS.F ht⟩) hS.2.2 dX6_score_200
                    refine lv_if_ne (tgt := 198) hx hb dX6_score_191 (by decide) (fun c15 => ?_) (fun c15 => ?_)
                    · have hF := itn c15 hF
                      refine lv_iload_n hx hb dX6_score_198 rfl (lv_at hl 3 rfl) ?_
                      refine lv_ineg hx hb dX6_score_199 ?_
                      exact hJ200 (-s100.1) _ _ _ hP hD hS (lv_sub hl [] rfl) hF
                    · have hF := itp c15 hF
                      refine lv_iload_n hx hb dX6_score_194 rfl (lv_at hl 3 rfl) ?_
                      refine lv_goto (tgt := 200) hx hb dX6_score_195 (by decide) ?_
                      exact hJ200 s100.1 _ _ _ hP hD hS (lv_sub hl [] rfl) hF
                  · have hF := itn c14 hF
                    refine lv_aload_n hx hb dX6_score_109 rfl (lv_at hl 0 rfl) ?_
                    refine lv_aload_n hx hb dX6_score_110 rfl (lv_at hl 0 rfl) ?_
                    refine va_get (D := (dC, dI)) (ci := 6) (v := .ref (a 7)) (C := RX6) (T := TX6) (N := 23) hx hb hts inX6 hown hK.1 hP 0 rfl rfl 11 (by decide) (hts _ w_fieldLink_X6_28) (fun _ h9 => h9) rfl dX6_score_111 ?_
                    refine lv_iload hx hb dX6_score_114 (lv_at hl 4 rfl) ?_
                    obtain ⟨hg16, hF⟩ := gd_use hF
                    refine va_iald hx hb hK.1 hP 7 0 rfl rfl (i := s100.2) hg16 dX6_score_116 ?_
                    obtain ⟨o17, h18, hF⟩ := obd hF
                    refine wcRVi (As := [.int ((M_order o1) s100.2.toNatClampNeg)]) (rest := []) (b := (a 0)) ⟨hx, hb, hml, hown, hts⟩ (met_X6_sideNow l dC dI cyI cyO cyL a N o1 ((M_order o1) s100.2.toNatClampNeg) o17 h18) (cwV 1 hts (gV w_methodLink_X6_88 w_instanceMethod_X6_sideNow w_selects_X6_sideNow w_initialized_X6 w_code_X6_sideNow) rfl rfl rfl (by decide +kernel) ⟨Nat.le_of_ble_eq_true rfl, Nat.le_of_ble_eq_true rfl⟩) (va_recv hK.1 hP (ci := 6) (q0 := 0) rfl rfl) hP hK [0, 1, 2, 3, 4, 5, 6, 7] rfl rfl hl.1 (Nat.le_of_ble_eq_true rfl) dX6_score_117 ⟨Nat.le_of_ble_eq_true rfl, Nat.le_of_ble_eq_true rfl⟩ hS (fun r H locs hw hP hS => ?_)
                    have hw := hw.symm
                    subst hw
                    refine lv_iload_n hx hb dX6_score_120 rfl (lv_at hl 1 rfl) ?_
                    obtain ⟨j148, hj148, hF⟩ := jn_use hF
                    have hJ148 : ∀ (s148 : Int32) (H : Heap) (locs : List Loc) (ls : Array Slot) (hz_148_s0 : b01 s148), va_P (dC, dI) vwCl (cM cyI a o1) H → va_D A (cM cyI a o1) → va_S A s.heap H locs → lv_has ls 6 [(0, .ref (a 0)), (1, .int o11), (2, .int s47.1), (3, .int s100.1), (4, .int s100.2)] → j148 s148 = some out → W p l e (headSpec (Cond.code yX6_score cX6_score 6 (some .int) :: wT) ({ frames := 3, cells := 0, slots := 0, locals := 67 } : Room)).room s m ([.ref (a 0)] : List Value).toArray below meth c H locs 0 0 (MQ below (va_Qi (fun (r : Int32) (u : MV) => (r, u) = out) (fun u t => va_P (dC, dI) vwCl (cM cyI a u) t.heap ∧ va_D A (cM cyI a u)) A) ([.ref (a 0)] : List Value).toArray s 0 0 A) (F0 m 148 ls [.int s148]) := by
                      intro s148 H locs ls hz_148_s0 hP hD hS hl hF
                      have hF := (congrFun hj148 s148).symm.trans hF
                      refine lv_istore (lv' := [(5, .int s148), (0, .ref (a 0)), (1, .int o11), (2, .int s47.1), (3, .int s100.1), (4, .int s100.2)]) hx hb dX6_score_148 hl (by decide) rfl (fun ls hl => ?_)
                      refine lv_iload_n hx hb dX6_score_150 rfl (lv_at hl 4 rfl) ?_
                      refine lv_iload hx hb dX6_score_151 (lv_at hl 0 rfl) ?_
                      obtain ⟨j182, hj182, hF⟩ := jn_use hF
                      have hJ182 : ∀ (s182 : Int32) (H : Heap) (locs : List Loc) (ls : Array Slot), va_P (dC, dI) vwCl (cM cyI a o1) H → va_D A (cM cyI a o1) → va_S A s.heap H locs → lv_has ls 6 [(0, .ref (a 0)), (1, .int o11), (2, .int s47.1), (4, .int s100.2)] → j182 s182 = some out → W p l e (headSpec (Cond.code yX6_score cX6_score 6 (some .int) :: wT) ({ frames := 3, cells := 0, slots := 0, locals := 67 } : Room)).room s m ([.ref (a 0)] : List Value).toArray below meth c H locs 0 0 (MQ below (va_Qi (fun (r : Int32) (u : MV) => (r, u) = out) (fun u t => va_P (dC, dI) vwCl (cM cyI a u) t.heap ∧ va_D A (cM cyI a u)) A) ([.ref (a 0)] : List Value).toArray s 0 0 A) (F0 m 182 ls [.int s182, .int s100.1]) := by
                        intro s182 H locs ls hP hD hS hl hF
                        have hF := (congrFun hj182 s182).symm.trans hF
                        refine lv_iadd hx hb dX6_score_182 ?_
                        refine lv_istore_n (lv' := [(3, .int (s100.1 + s182)), (0, .ref (a 0)), (1, .int o11), (2, .int s47.1), (4, .int s100.2)]) hx hb dX6_score_183 rfl hl (by decide) rfl (fun ls hl => ?_)
                        refine lv_iinc (v := (s100.2 + (1 : Int32))) (lv' := [(4, .int (s100.2 + (1 : Int32))), (3, .int (s100.1 + s182)), (0, .ref (a 0)), (1, .int o11), (2, .int s47.1)]) hx hb dX6_score_184 hl (k := 4) rfl rfl (by decide) rfl (fun ls hl => ?_)
                        refine lv_goto (tgt := 100) hx hb dX6_score_187 (by decide) ?_
                        exact ih100 ((s100.1 + s182), (s100.2 + (1 : Int32))) _ _ _ hP hD hS (lv_sub hl [2, 3, 4, 1, 0] rfl) hF
                      refine lv_if_eq (tgt := 181) hx hb dX6_score_153 (by decide) (fun c19 => ?_) (fun c19 => ?_)
                      · have hF := itp c19 hF
                        refine lv_iconst (v := 0) hx hb dX6_score_181 (by decide) ?_
                        exact hJ182 (0 : Int32) _ _ _ hP hD hS (lv_sub hl [1, 2, 3, 5] rfl) hF
                      · have hF := itn c19 hF
                        refine lv_iconst (v := 1) hx hb dX6_score_156 (by decide) ?_
                        refine lv_aload_n hx hb dX6_score_157 rfl (lv_at hl 1 rfl) ?_
                        refine va_get (D := (dC, dI)) (ci := 6) (v := .ref (a 1)) (C := RX6) (T := TX6) (N := 23) hx hb hts inX6 hown hK.1 hP 0 rfl rfl 1 (by decide) (hts _ w_fieldLink_X6_7) (fun _ h9 => h9) rfl dX6_score_158 ?_
                        refine lv_bipush (v := 64) hx hb dX6_score_161 (by decide) ?_
                        refine va_iald hx hb hK.1 hP 1 0 rfl rfl (i := (64 : Int32)) (show ixok (64 : Int32) 103 by decide) dX6_score_163 ?_
                        refine lv_aload_n hx hb dX6_score_164 rfl (lv_at hl 1 rfl) ?_
                        refine lv_aload_n hx hb dX6_score_165 rfl (lv_at hl 1 rfl) ?_
                        refine va_get (D := (dC, dI)) (ci := 6) (v := .ref (a 7)) (C := RX6) (T := TX6) (N := 23) hx hb hts inX6 hown hK.1 hP 0 rfl rfl 11 (by decide) (hts _ w_fieldLink_X6_28) (fun _ h9 => h9) rfl dX6_score_166 ?_
                        refine lv_iload hx hb dX6_score_169 (lv_at hl 5 rfl) ?_
                        obtain ⟨hg21, hF⟩ := gd_use hF
                        refine va_iald hx hb hK.1 hP 7 0 rfl rfl (i := s100.2) hg21 dX6_score_171 ?_
                        refine lv_iconst (v := 3) hx hb dX6_score_172 (by decide) ?_
                        obtain ⟨o22, h23, hF⟩ := obd hF
                        refine wcRVi (As := [.int ((M_order o1) s100.2.toNatClampNeg), .int (3 : Int32)]) (rest := [.int ((M_s o1) (64 : Int32).toNatClampNeg), .int (1 : Int32), .int s100.1]) (b := (a 0)) ⟨hx, hb, hml, hown, hts⟩ (met_X6_of l dC dI cyI cyO cyL a N o1 ((M_order o1) s100.2.toNatClampNeg) (3 : Int32) o22 h23) (cwV 2 hts (gV w_methodLink_X6_42 w_instanceMethod_X6_of w_selects_X6_of w_initialized_X6 w_code_X6_of) rfl rfl rfl (by decide +kernel) ⟨Nat.le_of_ble_eq_true rfl, Nat.le_of_ble_eq_true rfl⟩) (va_recv hK.1 hP (ci := 6) (q0 := 0) rfl rfl) hP hK [0, 1, 2, 3, 4, 5, 6, 7] rfl rfl hl.1 (Nat.le_of_ble_eq_true rfl) dX6_score_173 ⟨Nat.le_of_ble_eq_true rfl, Nat.le_of_ble_eq_true rfl⟩ hS (fun r H locs hw hP hS => ?_)
                        have hw := hw.symm
                        subst hw
                        refine lv_imul hx hb dX6_score_176 ?_
                        refine lv_iadd hx hb dX6_score_177 ?_
                        refine lv_goto (tgt := 182) hx hb dX6_score_178 (by decide) ?_
                        exact hJ182 ((1 : Int32) + (((M_s o1) (64 : Int32).toNatClampNeg) * o22)) _ _ _ hP hD hS (lv_sub hl [1, 2, 3, 5] rfl) hF
                    obtain ⟨j147, hj147, hF⟩ := jn_use hF
                    have hJ147 : ∀ (s147 : Unit) (H : Heap) (locs : List Loc) (ls : Array Slot), va_P (dC, dI) vwCl (cM cyI a o1) H → va_D A (cM cyI a o1) → va_S A s.heap H locs → lv_has ls 6 [(0, .ref (a 0)), (1, .int o11), (2, .int s47.1), (3, .int s100.1), (4, .int s100.2)] → j147 s147 = some out → W p l e (headSpec (Cond.code yX6_score cX6_score 6 (some .int) :: wT) ({ frames := 3, cells := 0, slots := 0, locals := 67 } : Room)).room s m ([.ref (a 0)] : List Value).toArray below meth c H locs 0 0 (MQ below (va_Qi (fun (r : Int32) (u : MV) => (r, u) = out) (fun u t => va_P (dC, dI) vwCl (cM cyI a u) t.heap ∧ va_D A (cM cyI a u)) A) ([.ref (a 0)] : List Value).toArray s 0 0 A) (F0 m 147 ls []) := by
                      intro s147 H locs ls hP hD hS hl hF
                      have hF := (congrFun hj147 s147).symm.trans hF
                      refine lv_iconst (v := 0) hx hb dX6_score_147 (by decide) ?_
                      exact hJ148 (0 : Int32) _ _ _ b01_0 hP hD hS (lv_sub hl [0, 1, 2, 3, 4] rfl) hF
                    refine lv_icmp_ne (tgt := 147) hx hb dX6_score_121 (by decide) (fun c24 => ?_) (fun c24 => ?_)
                    · have hF := itn c24 hF
                      exact hJ147 () _ _ _ hP hD hS (lv_sub hl [0, 1, 2, 3, 4] rfl) hF
                    · have hF := itp c24 hF
                      refine lv_iload_n hx hb dX6_score_124 rfl (lv_at hl 2 rfl) ?_
                      obtain ⟨j143, hj143, hF⟩ := jn_use hF
                      have hJ143 : ∀ (s143 : Unit) (H : Heap) (locs : List Loc) (ls : Array Slot), va_P (dC, dI) vwCl (cM cyI a o1) H → va_D A (cM cyI a o1) → va_S A s.heap H locs → lv_has ls 6 [(0, .ref (a 0)), (1, .int o11), (2, .int s47.1), (3, .int s100.1), (4, .int s100.2)] → j143 s143 = some out → W p l e (headSpec (Cond.code yX6_score cX6_score 6 (some .int) :: wT) ({ frames := 3, cells := 0, slots := 0, locals := 67 } : Room)).room s m ([.ref (a 0)] : List Value).toArray below meth c H locs 0 0 (MQ below (va_Qi (fun (r : Int32) (u : MV) => (r, u) = out) (fun u t => va_P (dC, dI) vwCl (cM cyI a u) t.heap ∧ va_D A (cM cyI a u)) A) ([.ref (a 0)] : List Value).toArray s 0 0 A) (F0 m 143 ls []) := by
                        intro s143 H locs ls hP hD hS hl hF
                        have hF := (congrFun hj143 s143).symm.trans hF
                        refine lv_iconst (v := 1) hx hb dX6_score_143 (by decide) ?_
                        refine lv_goto (tgt := 148) hx hb dX6_score_144 (by decide) ?_
                        exact hJ148 (1 : Int32) _ _ _ b01_1 hP hD hS (lv_sub hl [0, 1, 2, 3, 4] rfl) hF
                      refine lv_if_lt (tgt := 143) hx hb dX6_score_125 (by decide) (fun c25 => ?_) (fun c25 => ?_)
                      · have hF := itp c25 hF
                        exact hJ143 () _ _ _ hP hD hS (lv_sub hl [0, 1, 2, 3, 4] rfl) hF
                      · have hF := itn c25 hF
                        refine lv_aload_n hx hb dX6_score_128 rfl (lv_at hl 0 rfl) ?_
                        refine lv_aload_n hx hb dX6_score_129 rfl (lv_at hl 0 rfl) ?_
                        refine va_get (D := (dC, dI)) (ci := 6) (v := .ref (a 7)) (C := RX6) (T := TX6) (N := 23) hx hb hts inX6 hown hK.1 hP 0 rfl rfl 11 (by decide) (hts _ w_fieldLink_X6_28) (fun _ h9 => h9) rfl dX6_score_130 ?_
                        refine lv_iload hx hb dX6_score_133 (lv_at hl 4 rfl) ?_
                        obtain ⟨hg26, hF⟩ := gd_use hF
                        refine va_iald hx hb hK.1 hP 7 0 rfl rfl (i := s100.2) hg26 dX6_score_135 ?_
                        obtain ⟨o27, h28, hF⟩ := obd hF
                        refine wcRVi (As := [.int ((M_order o1) s100.2.toNatClampNeg)]) (rest := []) (b := (a 0)) ⟨hx, hb, hml, hown, hts⟩ (met_X6_distance l dC dI cyI cyO cyL a N o1 ((M_order o1) s100.2.toNatClampNeg) o27 h28) (cwV 1 hts (gV w_methodLink_X6_81 w_instanceMethod_X6_distance w_selects_X6_distance w_initialized_X6 w_code_X6_distance) rfl rfl rfl (by decide +kernel) ⟨Nat.le_of_ble_eq_true rfl, Nat.le_of_ble_eq_true rfl⟩) (va_recv hK.1 hP (ci := 6) (q0 := 0) rfl rfl) hP hK [0, 1, 2, 3, 4, 5, 6, 7] rfl rfl hl.1 (Nat.le_of_ble_eq_true rfl) dX6_score_136 ⟨Nat.le_of_ble_eq_true rfl, Nat.le_of_ble_eq_true rfl⟩ hS (fun r H locs hw hP hS => ?_)
                        have hw := hw.symm
                        subst hw
                        refine lv_iload_n hx hb dX6_score_139 rfl (lv_at hl 2 rfl) ?_
                        refine lv_icmp_ge (tgt := 147) hx hb dX6_score_140 (by decide) (fun c29 => ?_) (fun c29 => ?_)
                        · have hF := itp c29 hF
                          exact hJ147 () _ _ _ hP hD hS (lv_sub hl [0, 1, 2, 3, 4] rfl) hF
                        · have hF := itn c29 hF
                          exact hJ143 () _ _ _ hP hD hS (lv_sub hl [0, 1, 2, 3, 4] rfl) hF
              exact hL100 N ((0 : Int32), (0 : Int32)) _ _ _ hP hD hS (lv_sub hl [1, 2, 3, 4, 0] rfl) hF
            · have hF := itn c13 hF
              refine lv_iload_n hx hb dX6_score_56 rfl (lv_at hl 2 rfl) ?_
              obtain ⟨j90, hj90, hF⟩ := jn_use hF
              have hJ90 : ∀ (s90 : Int32) (H : Heap) (locs : List Loc) (ls : Array Slot), va_P (dC, dI) vwCl (cM cyI a o1) H → va_D A (cM cyI a o1) → va_S A s.heap H locs → lv_has ls 6 [(0, .ref (a 0)), (1, .int o11), (3, .int (0 : Int32)), (4, .int s47.2)] → j90 s90 = some out → W p l e (headSpec (Cond.code yX6_score cX6_score 6 (some .int) :: wT) ({ frames := 3, cells := 0, slots := 0, locals := 67 } : Room)).room s m ([.ref (a 0)] : List Value).toArray below meth c H locs 0 0 (MQ below (va_Qi (fun (r : Int32) (u : MV) => (r, u) = out) (fun u t => va_P (dC, dI) vwCl (cM cyI a u) t.heap ∧ va_D A (cM cyI a u)) A) ([.ref (a 0)] : List Value).toArray s 0 0 A) (F0 m 90 ls [.int s90]) := by
                intro s90 H locs ls hP hD hS hl hF
                have hF := (congrFun hj90 s90).symm.trans hF
                refine lv_istore_n (lv' := [(2, .int s90), (0, .ref (a 0)), (1, .int o11), (3, .int (0 : Int32)), (4, .int s47.2)]) hx hb dX6_score_90 rfl hl (by decide) rfl (fun ls hl => ?_)
                refine lv_iinc (v := (s47.2 + (1 : Int32))) (lv' := [(4, .int (s47.2 + (1 : Int32))), (2, .int s90), (0, .ref (a 0)), (1, .int o11), (3, .int (0 : Int32))]) hx hb dX6_score_91 hl (k := 4) rfl rfl (by decide) rfl (fun ls hl => ?_)
                refine lv_goto (tgt := 47) hx hb dX6_score_94 (by decide) ?_
                exact ih47 (s90, (s47.2 + (1 : Int32))) _ _ _ hP hD hS (lv_sub hl [2, 3, 1, 4, 0] rfl) hF
              obtain ⟨j89, hj89, hF⟩ := jn_use hF
              have hJ89 : ∀ (s89 : Unit) (H : Heap) (locs : List Loc) (ls : Array Slot), va_P (dC, dI) vwCl (cM cyI a o1) H → va_D A (cM cyI a o1) → va_S A s.heap H locs → lv_has ls 6 [(0, .ref (a 0)), (1, .int o11), (2, .int s47.1), (3, .int (0 : Int32)), (4, .int s47.2)] → j89 s89 = some out → W p l e (headSpec (Cond.code yX6_score cX6_score 6 (some .int) :: wT) ({ frames := 3, cells := 0, slots := 0, locals := 67 } : Room)).room s m ([.ref (a 0)] : List Value).toArray below meth c H locs 0 0 (MQ below (va_Qi (fun (r : Int32) (u : MV) => (r, u) = out) (fun u t => va_P (dC, dI) vwCl (cM cyI a u) t.heap ∧ va_D A (cM cyI a u)) A) ([.ref (a 0)] : List Value).toArray s 0 0 A) (F0 m 89 ls []) := by
                intro s89 H locs ls hP hD hS hl hF
                have hF := (congrFun hj89 s89).symm.trans hF
                refine lv_iload_n hx hb dX6_score_89 rfl (lv_at hl 2 rfl) ?_
                exact hJ90 s47.1 _ _ _ hP hD hS (lv_sub hl [0, 1, 3, 4] rfl) hF
              refine lv_if_ge (tgt := 89) hx hb dX6_score_57 (by decide) (fun c30 => ?_) (fun c30 => ?_)
              · have hF := itp c30 hF
                exact hJ89 () _ _ _ hP hD hS (lv_sub hl [0, 1, 2, 3, 4] rfl) hF
              · have hF := itn c30 hF
                refine lv_aload_n hx hb dX6_score_60 rfl (lv_at hl 0 rfl) ?_
                refine lv_aload_n hx hb dX6_score_61 rfl (lv_at hl 0 rfl) ?_
                refine va_get (D := (dC, dI)) (ci := 6) (v := .ref (a 7)) (C := RX6) (T := TX6) (N := 23) hx hb hts inX6 hown hK.1 hP 0 rfl rfl 11 (by decide) (hts _ w_fieldLink_X6_28) (fun _ h9 => h9) rfl dX6_score_62 ?_
                refine lv_iload hx hb dX6_score_65 (lv_at hl 4 rfl) ?_
                obtain ⟨hg31, hF⟩ := gd_use hF
                refine va_iald hx hb hK.1 hP 7 0 rfl rfl (i := s47.2) hg31 dX6_score_67 ?_
                obtain ⟨o32, h33, hF⟩ := obd hF
                refine wcRVi (As := [.int ((M_order o1) s47.2.toNatClampNeg)]) (rest := []) (b := (a 0)) ⟨hx, hb, hml, hown, hts⟩ (met_X6_sideNow l dC dI cyI cyO cyL a N o1 ((M_order o1) s47.2.toNatClampNeg) o32 h33) (cwV 1 hts (gV w_methodLink_X6_88 w_instanceMethod_X6_sideNow w_selects_X6_sideNow w_initialized_X6 w_code_X6_sideNow) rfl rfl rfl (by decide +kernel) ⟨Nat.le_of_ble_eq_true rfl, Nat.le_of_ble_eq_true rfl⟩) (va_recv hK.1 hP (ci := 6) (q0 := 0) rfl rfl) hP hK [0, 1, 2, 3, 4, 5, 6, 7] rfl rfl hl.1 (Nat.le_of_ble_eq_true rfl) dX6_score_68 ⟨Nat.le_of_ble_eq_true rfl, Nat.le_of_ble_eq_true rfl⟩ hS (fun r H locs hw hP hS => ?_)
                have hw := hw.symm
                subst hw
                refine lv_iload_n hx hb dX6_score_71 rfl (lv_at hl 1 rfl) ?_
                refine lv_icmp_eq (tgt := 89) hx hb dX6_score_72 (by decide) (fun c34 => ?_) (fun c34 => ?_)
                · have hF := itp c34 hF
                  exact hJ89 () _ _ _ hP hD hS (lv_sub hl [0, 1, 2, 3, 4] rfl) hF
                · have hF := itn c34 hF
                  refine lv_aload_n hx hb dX6_score_75 rfl (lv_at hl 0 rfl) ?_
                  refine lv_aload_n hx hb dX6_score_76 rfl (lv_at hl 0 rfl) ?_
                  refine va_get (D := (dC, dI)) (ci := 6) (v := .ref (a 7)) (C := RX6) (T := TX6) (N := 23) hx hb hts inX6 hown hK.1 hP 0 rfl rfl 11 (by decide) (hts _ w_fieldLink_X6_28) (fun _ h9 => h9) rfl dX6_score_77 ?_
                  refine lv_iload hx hb dX6_score_80 (lv_at hl 4 rfl) ?_
                  obtain ⟨hg35, hF⟩ := gd_use hF
                  refine va_iald hx hb hK.1 hP 7 0 rfl rfl (i := s47.2) hg35 dX6_score_82 ?_
                  obtain ⟨o36, h37, hF⟩ := obd hF
                  refine wcRVi (As := [.int ((M_order o1) s47.2.toNatClampNeg)]) (rest := []) (b := (a 0)) ⟨hx, hb, hml, hown, hts⟩ (met_X6_distance l dC dI cyI cyO cyL a N o1 ((M_order o1) s47.2.toNatClampNeg) o36 h37) (cwV 1 hts (gV w_methodLink_X6_81 w_instanceMethod_X6_distance w_selects_X6_distance w_initialized_X6 w_code_X6_distance) rfl rfl rfl (by decide +kernel) ⟨Nat.le_of_ble_eq_true rfl, Nat.le_of_ble_eq_true rfl⟩) (va_recv hK.1 hP (ci := 6) (q0 := 0) rfl rfl) hP hK [0, 1, 2, 3, 4, 5, 6, 7] rfl rfl hl.1 (Nat.le_of_ble_eq_true rfl) dX6_score_83 ⟨Nat.le_of_ble_eq_true rfl, Nat.le_of_ble_eq_true rfl⟩ hS (fun r H locs hw hP hS => ?_)
                  have hw := hw.symm
                  subst hw
                  refine lv_goto (tgt := 90) hx hb dX6_score_86 (by decide) ?_
                  exact hJ90 o36 _ _ _ hP hD hS (lv_sub hl [0, 1, 3, 4] rfl) hF
        exact hL47 N ((-1 : Int32), (0 : Int32)) _ _ _ hP hD hS (lv_sub hl [4, 3, 2, 1, 0] rfl) hF
      · have hF := itp c9 hF
        exact hJ27 () _ _ _ hP hD hS (lv_sub hl [] rfl) hF
theorem dX6_isOverNow_0 : decode cX6_isOverNow 0 = .ok (.aload_n 0, 1) := by decide +kernel
theorem dX6_isOverNow_1 : decode cX6_isOverNow 1 = .ok (.getfield 7, 3) := by decide +kernel
theorem dX6_isOverNow_4 : decode cX6_isOverNow 4 = .ok (.bipush 65, 2) := by decide +kernel
theorem dX6_isOverNow_6 : decode cX6_isOverNow 6 = .ok (.iaload, 1) := by decide +kernel
theorem dX6_isOverNow_7 : decode cX6_isOverNow 7 = .ok (.aload_n 0, 1) := by decide +kernel
theorem dX6_isOverNow_8 : decode cX6_isOverNow 8 = .ok (.getfield 7, 3) := by decide +kernel
theorem dX6_isOverNow_11 : decode cX6_isOverNow 11 = .ok (.bipush 67, 2) := by decide +kernel
theorem dX6_isOverNow_13 : decode cX6_isOverNow 13 = .ok (.iaload, 1) := by decide +kernel
theorem dX6_isOverNow_14 : decode cX6_isOverNow 14 = .ok (.if_icmp .ge 20, 3) := by decide +kernel
theorem dX6_isOverNow_17 : decode cX6_isOverNow 17 = .ok (.aload_n 0, 1) := by decide +kernel
theorem dX6_isOverNow_18 : decode cX6_isOverNow 18 = .ok (.getfield 7, 3) := by decide +kernel
theorem dX6_isOverNow_21 : decode cX6_isOverNow 21 = .ok (.bipush 66, 2) := by decide +kernel
theorem dX6_isOverNow_23 : decode cX6_isOverNow 23 = .ok (.iaload, 1) := by decide +kernel
theorem dX6_isOverNow_24 : decode cX6_isOverNow 24 = .ok (.aload_n 0, 1) := by decide +kernel
theorem dX6_isOverNow_25 : decode cX6_isOverNow 25 = .ok (.getfield 7, 3) := by decide +kernel
theorem dX6_isOverNow_28 : decode cX6_isOverNow 28 = .ok (.bipush 67, 2) := by decide +kernel
theorem dX6_isOverNow_30 : decode cX6_isOverNow 30 = .ok (.iaload, 1) := by decide +kernel
theorem dX6_isOverNow_31 : decode cX6_isOverNow 31 = .ok (.if_icmp .lt 7, 3) := by decide +kernel
theorem dX6_isOverNow_34 : decode cX6_isOverNow 34 = .ok (.iconst 1, 1) := by decide +kernel
theorem dX6_isOverNow_35 : decode cX6_isOverNow 35 = .ok (.goto 4, 3) := by decide +kernel
theorem dX6_isOverNow_38 : decode cX6_isOverNow 38 = .ok (.iconst 0, 1) := by decide +kernel
theorem dX6_isOverNow_39 : decode cX6_isOverNow 39 = .ok (.ireturn, 1) := by decide +kernel
def f_X6_isOverNow (N : Nat) (v : MV) : Option (Int32) :=
  jn (fun (s39 : Int32) => some s39) (fun (j39 : (Int32) → Option (Int32)) => jn (fun (s34 : Unit) => j39 (1 : Int32)) (fun (j34 : (Unit) → Option (Int32)) => (if ((M_s v) (67 : Int32).toNatClampNeg) ≤ ((M_s v) (65 : Int32).toNatClampNeg) then j34 () else (if ((M_s v) (66 : Int32).toNatClampNeg) < ((M_s v) (67 : Int32).toNatClampNeg) then j39 (0 : Int32) else j34 ()))))
set_option maxHeartbeats 4000000 in
set_option maxRecDepth 100000 in
theorem met_X6_isOverNow (l : Launch) (dC : Nat → ClassId) (dI : Nat → Nat → Nat) (cyI cyO cyL : ClassId) (a : Nat → Nat) (N : Nat) (v : MV) (out : Int32) (hF : f_X6_isOverNow N v = some out) : Met l yX6_isOverNow (Cond.code yX6_isOverNow cX6_isOverNow 1 (some .boolean) :: wT) ({ frames := 0, cells := 0, slots := 0, locals := 0 } : Room) (wRd dC dI cyI cyO cyL [.ref (a 0)] (cM cyI a v)) (va_Qi (fun (r : Int32) (_ : Unit) => r = out ∧ b01 r) (fun _ _ => True) wN0) 0 0 wN0 := by
  refine Met.ofW (cc := cX6_isOverNow) (maxL := 1) (ret := (some .boolean)) (by decide) rfl ?_
  intro p e s m args below meth c s₁ B hml hv
  obtain ⟨rfl, hP, hK⟩ := hv
  have hx := B.exec
  have hb := B.bytes
  have hr := B.returns
  have hts0 := atoms_spec (ws := (Cond.code yX6_isOverNow cX6_isOverNow 1 (some .boolean) :: wT)) B.pre
  have hts := fun w h => hts0 w (List.mem_cons_of_mem _ h)
  clear hts0
  have hown : s.vm.findClass RX6 = some m.cls := findClass_of_methodNamed B.named
  have hlocks := B.notSynchronized
  have hS : va_S wN0 s.heap s.heap [] := va_S.rf
  have hl := lv_entry [.ref (a 0)] (n := 1) (Nat.le_of_ble_eq_true rfl)
  rw [lg_entry_eq]
  generalize (lg_sl [.ref (a 0)] ++ List.replicate (1 - (lg_sl [.ref (a 0)]).length) Slot.unset).toArray = ls at hl ⊢
  have hl : lv_has ls 1 [(0, .ref (a 0))] := hl
  unfold f_X6_isOverNow at hF
  refine lv_aload_n hx hb dX6_isOverNow_0 rfl (lv_at hl 0 rfl) ?_
  refine va_get (D := (dC, dI)) (ci := 6) (v := .ref (a 1)) (C := RX6) (T := TX6) (N := 23) hx hb hts inX6 hown hK.1 hP 0 rfl rfl 1 (by decide) (hts _ w_fieldLink_X6_7) (fun _ h9 => h9) rfl dX6_isOverNow_1 ?_
  refine lv_bipush (v := 65) hx hb dX6_isOverNow_4 (by decide) ?_
  refine va_iald hx hb hK.1 hP 1 0 rfl rfl (i := (65 : Int32)) (show ixok (65 : Int32) 103 by decide) dX6_isOverNow_6 ?_
  refine lv_aload_n hx hb dX6_isOverNow_7 rfl (lv_at hl 0 rfl) ?_
  refine va_get (D := (dC, dI)) (ci := 6) (v := .ref (a 1)) (C := RX6) (T := TX6) (N := 23) hx hb hts inX6 hown hK.1 hP 0 rfl rfl 1 (by decide) (hts _ w_fieldLink_X6_7) (fun _ h9 => h9) rfl dX6_isOverNow_8 ?_
  refine lv_bipush (v := 67) hx hb dX6_isOverNow_11 (by decide) ?_
  refine va_iald hx hb hK.1 hP 1 0 rfl rfl (i := (67 : Int32)) (show ixok (67 : Int32) 103 by decide) dX6_isOverNow_13 ?_
  obtain ⟨j39, hj39, hF⟩ := jn_use hF
  have hJ39 : ∀ (s39 : Int32) (H : Heap) (locs : List Loc) (ls : Array Slot) (hz_39_s0 : b01 s39), va_P (dC, dI) vwCl (cM cyI a v) H → va_S wN0 s.heap H locs → lv_has ls 1 [] → j39 s39 = some out → W p l e (headSpec (Cond.code yX6_isOverNow cX6_isOverNow 1 (some .boolean) :: wT) ({ frames := 0, cells := 0, slots := 0, locals := 0 } : Room)).room s m ([.ref (a 0)] : List Value).toArray below meth c H locs 0 0 (MQ below (va_Qi (fun (r : Int32) (_ : Unit) => r = out ∧ b01 r) (fun _ _ => True) wN0) ([.ref (a 0)] : List Value).toArray s 0 0 wN0) (F0 m 39 ls [.int s39]) := by
    intro s39 H locs ls hz_39_s0 hP hS hl hF
    have hF := (congrFun hj39 s39).symm.trans hF
    exact W.zret (ty := .boolean) (v := s39) hx hb hr (b01_n hz_39_s0) (fun t ht hW => ⟨⟨_, (), rfl, ⟨Option.some.inj hF, hz_39_s0⟩, trivial⟩, hS.F ht⟩) hS.2.2 dX6_isOverNow_39
  obtain ⟨j34, hj34, hF⟩ := jn_use hF
  have hJ34 : ∀ (s34 : Unit) (H : Heap) (locs : List Loc) (ls : Array Slot), va_P (dC, dI) vwCl (cM cyI a v) H → va_S wN0 s.heap H locs → lv_has ls 1 [] → j34 s34 = some out → W p l e (headSpec (Cond.code yX6_isOverNow cX6_isOverNow 1 (some .boolean) :: wT) ({ frames := 0, cells := 0, slots := 0, locals := 0 } : Room)).room s m ([.ref (a 0)] : List Value).toArray below meth c H locs 0 0 (MQ below (va_Qi (fun (r : Int32) (_ : Unit) => r = out ∧ b01 r) (fun _ _ => True) wN0) ([.ref (a 0)] : List Value).toArray s 0 0 wN0) (F0 m 34 ls []) := by
    intro s34 H locs ls hP hS hl hF
    have hF := (congrFun hj34 s34).symm.trans hF
    refine lv_iconst (v := 1) hx hb dX6_isOverNow_34 (by decide) ?_
    refine lv_goto (tgt := 39) hx hb dX6_isOverNow_35 (by decide) ?_
    exact hJ39 (1 : Int32) _ _ _ b01_1 hP hS (lv_sub hl [] rfl) hF
  refine lv_icmp_ge (tgt := 34) hx hb dX6_isOverNow_14 (by decide) (fun c3 => ?_) (fun c3 => ?_)
  · have hF := itp c3 hF
    exact hJ34 () _ _ _ hP hS (lv_sub hl [] rfl) hF
  · have hF := itn c3 hF
    refine lv_aload_n hx hb dX6_isOverNow_17 rfl (lv_at hl 0 rfl) ?_
    refine va_get (D := (dC, dI)) (ci := 6) (v := .ref (a 1)) (C := RX6) (T := TX6) (N := 23) hx hb hts inX6 hown hK.1 hP 0 rfl rfl 1 (by decide) (hts _ w_fieldLink_X6_7) (fun _ h9 => h9) rfl dX6_isOverNow_18 ?_
    refine lv_bipush (v := 66) hx hb dX6_isOverNow_21 (by decide) ?_
    refine va_iald hx hb hK.1 hP 1 0 rfl rfl (i := (66 : Int32)) (show ixok (66 : Int32) 103 by decide) dX6_isOverNow_23 ?_
    refine lv_aload_n hx hb dX6_isOverNow_24 rfl (lv_at hl 0 rfl) ?_
    refine va_get (D := (dC, dI)) (ci := 6) (v := .ref (a 1)) (C := RX6) (T := TX6) (N := 23) hx hb hts inX6 hown hK.1 hP 0 rfl rfl 1 (by decide) (hts _ w_fieldLink_X6_7) (fun _ h9 => h9) rfl dX6_isOverNow_25 ?_
    refine lv_bipush (v := 67) hx hb dX6_isOverNow_28 (by decide) ?_
    refine va_iald hx hb hK.1 hP 1 0 rfl rfl (i := (67 : Int32)) (show ixok (67 : Int32) 103 by decide) dX6_isOverNow_30 ?_
    refine lv_icmp_lt (tgt := 38) hx hb dX6_isOverNow_31 (by decide) (fun c6 => ?_) (fun c6 => ?_)
    · have hF := itp c6 hF
      refine lv_iconst (v := 0) hx hb dX6_isOverNow_38 (by decide) ?_
      exact hJ39 (0 : Int32) _ _ _ b01_0 hP hS (lv_sub hl [] rfl) hF
    · have hF := itn c6 hF
      exact hJ34 () _ _ _ hP hS (lv_sub hl [] rfl) hF
theorem dX6_canRoll_0 : decode cX6_canRoll 0 = .ok (.aload_n 0, 1) := by decide +kernel
theorem dX6_canRoll_1 : decode cX6_canRoll 1 = .ok (.invokevirtual 91, 3) := by decide +kernel
theorem dX6_canRoll_4 : decode cX6_canRoll 4 = .ok (.ifCond .ne 16, 3) := by decide +kernel
theorem dX6_canRoll_7 : decode cX6_canRoll 7 = .ok (.aload_n 0, 1) := by decide +kernel
theorem dX6_canRoll_8 : decode cX6_canRoll 8 = .ok (.getfield 7, 3) := by decide +kernel
theorem dX6_canRoll_11 : decode cX6_canRoll 11 = .ok (.iconst 0, 1) := by decide +kernel
theorem dX6_canRoll_12 : decode cX6_canRoll 12 = .ok (.iaload, 1) := by decide +kernel
theorem dX6_canRoll_13 : decode cX6_canRoll 13 = .ok (.ifCond .ne 7, 3) := by decide +kernel
theorem dX6_canRoll_16 : decode cX6_canRoll 16 = .ok (.iconst 1, 1) := by decide +kernel
theorem dX6_canRoll_17 : decode cX6_canRoll 17 = .ok (.goto 4, 3) := by decide +kernel
theorem dX6_canRoll_20 : decode cX6_canRoll 20 = .ok (.iconst 0, 1) := by decide +kernel
theorem dX6_canRoll_21 : decode cX6_canRoll 21 = .ok (.ireturn, 1) := by decide +kernel
def f_X6_canRoll (N : Nat) (v : MV) : Option (Int32) :=
  (f_X6_isOverNow N v).bind (fun o1 => jn (fun (s21 : Int32) => some s21) (fun (j21 : (Int32) → Option (Int32)) => jn (fun (s20 : Unit) => j21 (0 : Int32)) (fun (j20 : (Unit) → Option (Int32)) => (if o1 = 0 then (if ((M_s v) (0 : Int32).toNatClampNeg) = 0 then j21 (1 : Int32) else j20 ()) else j20 ()))))
set_option maxHeartbeats 4000000 in
set_option maxRecDepth 100000 in
theorem met_X6_canRoll (l : Launch) (dC : Nat → ClassId) (dI : Nat → Nat → Nat) (cyI cyO cyL : ClassId) (a : Nat → Nat) (N : Nat) (v : MV) (out : Int32) (hF : f_X6_canRoll N v = some out) : Met l yX6_canRoll (Cond.code yX6_canRoll cX6_canRoll 1 (some .boolean) :: wT) ({ frames := 1, cells := 0, slots := 0, locals := 20 } : Room) (wRd dC dI cyI cyO cyL [.ref (a 0)] (cM cyI a v)) (va_Qi (fun (r : Int32) (_ : Unit) => r = out ∧ b01 r) (fun _ _ => True) wN0) 0 0 wN0 := by
  refine Met.ofW (cc := cX6_canRoll) (maxL := 1) (ret := (some .boolean)) (by decide) rfl ?_
  intro p e s m args below meth c s₁ B hml hv
  obtain ⟨rfl, hP, hK⟩ := hv
  have hx := B.exec
  have hb := B.bytes
  have hr := B.returns
  have hts0 := atoms_spec (ws := (Cond.code yX6_canRoll cX6_canRoll 1 (some .boolean) :: wT)) B.pre
  have hts := fun w h => hts0 w (List.mem_cons_of_mem _ h)
  clear hts0
  have hown : s.vm.findClass RX6 = some m.cls := findClass_of_methodNamed B.named
  have hlocks := B.notSynchronized
  have hS : va_S wN0 s.heap s.heap [] := va_S.rf
  have hl := lv_entry [.ref (a 0)] (n := 1) (Nat.le_of_ble_eq_true rfl)
  rw [lg_entry_eq]
  generalize (lg_sl [.ref (a 0)] ++ List.replicate (1 - (lg_sl [.ref (a 0)]).length) Slot.unset).toArray = ls at hl ⊢
  have hl : lv_has ls 1 [(0, .ref (a 0))] := hl
  unfold f_X6_canRoll at hF
  refine lv_aload_n hx hb dX6_canRoll_0 rfl (lv_at hl 0 rfl) ?_
  obtain ⟨o1, h2, hF⟩ := obd hF
  refine wcRVi (As := []) (rest := []) (b := (a 0)) ⟨hx, hb, hml, hown, hts⟩ (met_X6_isOverNow l dC dI cyI cyO cyL a N v  o1 h2) (cwV 0 hts (gV w_methodLink_X6_91 w_instanceMethod_X6_isOverNow w_selects_X6_isOverNow w_initialized_X6 w_code_X6_isOverNow) rfl rfl rfl (by decide +kernel) ⟨Nat.le_of_ble_eq_true rfl, Nat.le_of_ble_eq_true rfl⟩) (va_recv hK.1 hP (ci := 6) (q0 := 0) rfl rfl) hP hK [0, 1, 2, 3, 4, 5, 6, 7] rfl rfl hl.1 (Nat.le_of_ble_eq_true rfl) dX6_canRoll_1 ⟨Nat.le_of_ble_eq_true rfl, Nat.le_of_ble_eq_true rfl⟩ hS (fun r H locs hw hP hS => ?_)
  obtain ⟨hw, hz3⟩ := hw
  have hw := hw.symm
  subst hw
  obtain ⟨j21, hj21, hF⟩ := jn_use hF
  have hJ21 : ∀ (s21 : Int32) (H : Heap) (locs : List Loc) (ls : Array Slot) (hz_21_s0 : b01 s21), va_P (dC, dI) vwCl (cM cyI a v) H → va_S wN0 s.heap H locs → lv_has ls 1 [] → j21 s21 = some out → W p l e (headSpec (Cond.code yX6_canRoll cX6_canRoll 1 (some .boolean) :: wT) ({ frames := 1, cells := 0, slots := 0, locals := 20 } : Room)).room s m ([.ref (a 0)] : List Value).toArray below meth c H locs 0 0 (MQ below (va_Qi (fun (r : Int32) (_ : Unit) => r = out ∧ b01 r) (fun _ _ => True) wN0) ([.ref (a 0)] : List Value).toArray s 0 0 wN0) (F0 m 21 ls [.int s21]) := by
    intro s21 H locs ls hz_21_s0 hP hS hl hF
    have hF := (congrFun hj21 s21).symm.trans hF
    exact W.zret (ty := .boolean) (v := s21) hx hb hr (b01_n hz_21_s0) (fun t ht hW => ⟨⟨_, (), rfl, ⟨Option.some.inj hF, hz_21_s0⟩, trivial⟩, hS.F ht⟩) hS.2.2 dX6_canRoll_21
  obtain ⟨j20, hj20, hF⟩ := jn_use hF
  have hJ20 : ∀ (s20 : Unit) (H : Heap) (locs : List Loc) (ls : Array Slot), va_P (dC, dI) vwCl (cM cyI a v) H → va_S wN0 s.heap H locs → lv_has ls 1 [] → j20 s20 = some out → W p l e (headSpec (Cond.code yX6_canRoll cX6_canRoll 1 (some .boolean) :: wT) ({ frames := 1, cells := 0, slots := 0, locals := 20 } : Room)).room s m ([.ref (a 0)] : List Value).toArray below meth c H locs 0 0 (MQ below (va_Qi (fun (r : Int32) (_ : Unit) => r = out ∧ b01 r) (fun _ _ => True) wN0) ([.ref (a 0)] : List Value).toArray s 0 0 wN0) (F0 m 20 ls []) := by
    intro s20 H locs ls hP hS hl hF
    have hF := (congrFun hj20 s20).symm.trans hF
    refine lv_iconst (v := 0) hx hb dX6_canRoll_20 (by decide) ?_
    exact hJ21 (0 : Int32) _ _ _ b01_0 hP hS (lv_sub hl [] rfl) hF
  refine lv_if_ne (tgt := 20) hx hb dX6_canRoll_4 (by decide) (fun c4 => ?_) (fun c4 => ?_)
  · have hF := itn c4 hF
    exact hJ20 () _ _ _ hP hS (lv_sub hl [] rfl) hF
  · have hF := itp c4 hF
    refine lv_aload_n hx hb dX6_canRoll_7 rfl (lv_at hl 0 rfl) ?_
    refine va_get (D := (dC, dI)) (ci := 6) (v := .ref (a 1)) (C := RX6) (T := TX6) (N := 23) hx hb hts inX6 hown hK.1 hP 0 rfl rfl 1 (by decide) (hts _ w_fieldLink_X6_7) (fun _ h9 => h9) rfl dX6_canRoll_8 ?_
    refine lv_iconst (v := 0) hx hb dX6_canRoll_11 (by decide) ?_
    refine va_iald hx hb hK.1 hP 1 0 rfl rfl (i := (0 : Int32)) (show ixok (0 : Int32) 103 by decide) dX6_canRoll_12 ?_
    refine lv_if_ne (tgt := 20) hx hb dX6_canRoll_13 (by decide) (fun c6 => ?_) (fun c6 => ?_)
    · have hF := itn c6 hF
      exact hJ20 () _ _ _ hP hS (lv_sub hl [] rfl) hF
    · have hF := itp c6 hF
      refine lv_iconst (v := 1) hx hb dX6_canRoll_16 (by decide) ?_
      refine lv_goto (tgt := 21) hx hb dX6_canRoll_17 (by decide) ?_
      exact hJ21 (1 : Int32) _ _ _ b01_1 hP hS (lv_sub hl [] rfl) hF
theorem dX6_rolls_0 : decode cX6_rolls 0 = .ok (.aload_n 0, 1) := by decide +kernel
theorem dX6_rolls_1 : decode cX6_rolls 1 = .ok (.getfield 7, 3) := by decide +kernel
theorem dX6_rolls_4 : decode cX6_rolls 4 = .ok (.iconst 0, 1) := by decide +kernel
theorem dX6_rolls_5 : decode cX6_rolls 5 = .ok (.iconst 1, 1) := by decide +kernel
theorem dX6_rolls_6 : decode cX6_rolls 6 = .ok (.iastore, 1) := by decide +kernel
theorem dX6_rolls_7 : decode cX6_rolls 7 = .ok (.aload_n 0, 1) := by decide +kernel
theorem dX6_rolls_8 : decode cX6_rolls 8 = .ok (.getfield 7, 3) := by decide +kernel
theorem dX6_rolls_11 : decode cX6_rolls 11 = .ok (.iconst 1, 1) := by decide +kernel
theorem dX6_rolls_12 : decode cX6_rolls 12 = .ok (.iload_n 1, 1) := by decide +kernel
theorem dX6_rolls_13 : decode cX6_rolls 13 = .ok (.iastore, 1) := by decide +kernel
theorem dX6_rolls_14 : decode cX6_rolls 14 = .ok (.aload_n 0, 1) := by decide +kernel
theorem dX6_rolls_15 : decode cX6_rolls 15 = .ok (.getfield 7, 3) := by decide +kernel
theorem dX6_rolls_18 : decode cX6_rolls 18 = .ok (.iconst 2, 1) := by decide +kernel
theorem dX6_rolls_19 : decode cX6_rolls 19 = .ok (.bipush 10, 2) := by decide +kernel
theorem dX6_rolls_21 : decode cX6_rolls 21 = .ok (.iastore, 1) := by decide +kernel
theorem dX6_rolls_22 : decode cX6_rolls 22 = .ok (.aload_n 0, 1) := by decide +kernel
theorem dX6_rolls_23 : decode cX6_rolls 23 = .ok (.getfield 7, 3) := by decide +kernel
theorem dX6_rolls_26 : decode cX6_rolls 26 = .ok (.bipush 61, 2) := by decide +kernel
theorem dX6_rolls_28 : decode cX6_rolls 28 = .ok (.iaload, 1) := by decide +kernel
theorem dX6_rolls_29 : decode cX6_rolls 29 = .ok (.ireturn, 1) := by decide +kernel
def f_X6_rolls (N : Nat) (v : MV) (p1 : Int32) : Option (Int32 × MV) :=
  some (((upd (upd (upd (M_s v) (0 : Int32).toNatClampNeg (1 : Int32)) (1 : Int32).toNatClampNeg p1) (2 : Int32).toNatClampNeg (10 : Int32)) (61 : Int32).toNatClampNeg), (M_set_s v (upd (upd (upd (M_s v) (0 : Int32).toNatClampNeg (1 : Int32)) (1 : Int32).toNatClampNeg p1) (2 : Int32).toNatClampNeg (10 : Int32))))
set_option maxHeartbeats 4000000 in
set_option maxRecDepth 100000 in
theorem met_X6_rolls (l : Launch) (dC : Nat → ClassId) (dI : Nat → Nat → Nat) (cyI cyO cyL : ClassId) (a : Nat → Nat) (sz : Nat) (N : Nat) (v : MV) (p1 : Int32) (out : Int32 × MV) (hF : f_X6_rolls N v p1 = some out) : Met l yX6_rolls (Cond.code yX6_rolls cX6_rolls 2 (some .int) :: wT) ({ frames := 0, cells := 0, slots := 0, locals := 0 } : Room) (wWr dC dI cyI cyO cyL [.ref (a 0), .int p1] (cM cyI a v) sz) (va_Qi (fun (r : Int32) (u : MV) => (r, u) = out) (fun u t => va_P (dC, dI) vwCl (cM cyI a u) t.heap ∧ va_D (va_A (cM cyI a v) sz) (cM cyI a u)) (va_A (cM cyI a v) sz)) 0 0 (va_A (cM cyI a v) sz) := by
  refine Met.ofW (cc := cX6_rolls) (maxL := 2) (ret := (some .int)) (by decide) rfl ?_
  intro p e s m args below meth c s₁ B hml hv
  obtain ⟨rfl, hsz, hP, hK, hD0⟩ := hv
  have hx := B.exec
  have hb := B.bytes
  have hr := B.returns
  have hts0 := atoms_spec (ws := (Cond.code yX6_rolls cX6_rolls 2 (some .int) :: wT)) B.pre
  have hts := fun w h => hts0 w (List.mem_cons_of_mem _ h)
  clear hts0
  have hown : s.vm.findClass RX6 = some m.cls := findClass_of_methodNamed B.named
  have hlocks := B.notSynchronized
  subst hsz
  have hD := hD0.self (sz := s.heap.size)
  generalize hAe : va_A (cM cyI a v) s.heap.size = A at hD ⊢
  have hA : ∀ q : Nat, s.heap.size ≤ q → A q := fun q h => by rw [← hAe]; exact Or.inr h
  clear hD0
  have hS : va_S A s.heap s.heap [] := va_S.rf
  have hl := lv_entry [.ref (a 0), .int p1] (n := 2) (Nat.le_of_ble_eq_true rfl)
  rw [lg_entry_eq]
  generalize (lg_sl [.ref (a 0), .int p1] ++ List.replicate (2 - (lg_sl [.ref (a 0), .int p1]).length) Slot.unset).toArray = ls at hl ⊢
  have hl : lv_has ls 2 [(0, .ref (a 0)), (1, .int p1)] := hl
  unfold f_X6_rolls at hF
  refine lv_aload_n hx hb dX6_rolls_0 rfl (lv_at hl 0 rfl) ?_
  refine va_get (D := (dC, dI)) (ci := 6) (v := .ref (a 1)) (C := RX6) (T := TX6) (N := 23) hx hb hts inX6 hown hK.1 hP 0 rfl rfl 1 (by decide) (hts _ w_fieldLink_X6_7) (fun _ h9 => h9) rfl dX6_rolls_1 ?_
  refine lv_iconst (v := 0) hx hb dX6_rolls_4 (by decide) ?_
  refine lv_iconst (v := 1) hx hb dX6_rolls_5 (by decide) ?_
  refine va_iast hx hb hK.1 hP hD hS 1 0 rfl rfl (i := (0 : Int32)) (x := (1 : Int32)) (show ixok (0 : Int32) 103 by decide) dX6_rolls_6 (fun H locs hP hD hS => ?_)
  have hP : va_P (dC, dI) vwCl (cM cyI a (M_set_s v (upd (M_s v) (0 : Int32).toNatClampNeg (1 : Int32)))) H := hP
  have hD : va_D A (cM cyI a (M_set_s v (upd (M_s v) (0 : Int32).toNatClampNeg (1 : Int32)))) := hD
  refine lv_aload_n hx hb dX6_rolls_7 rfl (lv_at hl 0 rfl) ?_
  refine va_get (D := (dC, dI)) (ci := 6) (v := .ref (a 1)) (C := RX6) (T := TX6) (N := 23) hx hb hts inX6 hown hK.1 hP 0 rfl rfl 1 (by decide) (hts _ w_fieldLink_X6_7) (fun _ h9 => h9) rfl dX6_rolls_8 ?_
  refine lv_iconst (v := 1) hx hb dX6_rolls_11 (by decide) ?_
  refine lv_iload_n hx hb dX6_rolls_12 rfl (lv_at hl 1 rfl) ?_
  refine va_iast hx hb hK.1 hP hD hS 1 0 rfl rfl (i := (1 : Int32)) (x := p1) (show ixok (1 : Int32) 103 by decide) dX6_rolls_13 (fun H locs hP hD hS => ?_)
  have hP : va_P (dC, dI) vwCl (cM cyI a (M_set_s v (upd (upd (M_s v) (0 : Int32).toNatClampNeg (1 : Int32)) (1 : Int32).toNatClampNeg p1))) H := hP
  have hD : va_D A (cM cyI a (M_set_s v (upd (upd (M_s v) (0 : Int32).toNatClampNeg (1 : Int32)) (1 : Int32).toNatClampNeg p1))) := hD
  refine lv_aload_n hx hb dX6_rolls_14 rfl (lv_at hl 0 rfl) ?_
  refine va_get (D := (dC, dI)) (ci := 6) (v := .ref (a 1)) (C := RX6) (T := TX6) (N := 23) hx hb hts inX6 hown hK.1 hP 0 rfl rfl 1 (by decide) (hts _ w_fieldLink_X6_7) (fun _ h9 => h9) rfl dX6_rolls_15 ?_
  refine lv_iconst (v := 2) hx hb dX6_rolls_18 (by decide) ?_
  refine lv_bipush (v := 10) hx hb dX6_rolls_19 (by decide) ?_
  refine va_iast hx hb hK.1 hP hD hS 1 0 rfl rfl (i := (2 : Int32)) (x := (10 : Int32)) (show ixok (2 : Int32) 103 by decide) dX6_rolls_21 (fun H locs hP hD hS => ?_)
  have hP : va_P (dC, dI) vwCl (cM cyI a (M_set_s v (upd (upd (upd (M_s v) (0 : Int32).toNatClampNeg (1 : Int32)) (1 : Int32).toNatClampNeg p1) (2 : Int32).toNatClampNeg (10 : Int32)))) H := hP
  have hD : va_D A (cM cyI a (M_set_s v (upd (upd (upd (M_s v) (0 : Int32).toNatClampNeg (1 : Int32)) (1 : Int32).toNatClampNeg p1) (2 : Int32).toNatClampNeg (10 : Int32)))) := hD
  refine lv_aload_n hx hb dX6_rolls_22 rfl (lv_at hl 0 rfl) ?_
  refine va_get (D := (dC, dI)) (ci := 6) (v := .ref (a 1)) (C := RX6) (T := TX6) (N := 23) hx hb hts inX6 hown hK.1 hP 0 rfl rfl 1 (by decide) (hts _ w_fieldLink_X6_7) (fun _ h9 => h9) rfl dX6_rolls_23 ?_
  refine lv_bipush (v := 61) hx hb dX6_rolls_26 (by decide) ?_
  refine va_iald hx hb hK.1 hP 1 0 rfl rfl (i := (61 : Int32)) (show ixok (61 : Int32) 103 by decide) dX6_rolls_28 ?_
  exact W.iret (v := ((upd (upd (upd (M_s v) (0 : Int32).toNatClampNeg (1 : Int32)) (1 : Int32).toNatClampNeg p1) (2 : Int32).toNatClampNeg (10 : Int32)) (61 : Int32).toNatClampNeg)) hx hb hr (fun t ht hW => ⟨⟨_, (M_set_s v (upd (upd (upd (M_s v) (0 : Int32).toNatClampNeg (1 : Int32)) (1 : Int32).toNatClampNeg p1) (2 : Int32).toNatClampNeg (10 : Int32))), rfl, Option.some.inj hF, by rw [ht]; exact hP, hD⟩, hS.F ht⟩) hS.2.2 dX6_rolls_29
theorem dX6_canCount_0 : decode cX6_canCount 0 = .ok (.aload_n 0, 1) := by decide +kernel
theorem dX6_canCount_1 : decode cX6_canCount 1 = .ok (.getfield 7, 3) := by decide +kernel
theorem dX6_canCount_4 : decode cX6_canCount 4 = .ok (.iconst 0, 1) := by decide +kernel
theorem dX6_canCount_5 : decode cX6_canCount 5 = .ok (.iaload, 1) := by decide +kernel
theorem dX6_canCount_6 : decode cX6_canCount 6 = .ok (.iconst 1, 1) := by decide +kernel
theorem dX6_canCount_7 : decode cX6_canCount 7 = .ok (.if_icmp .ne 32, 3) := by decide +kernel
theorem dX6_canCount_10 : decode cX6_canCount 10 = .ok (.aload_n 0, 1) := by decide +kernel
theorem dX6_canCount_11 : decode cX6_canCount 11 = .ok (.getfield 7, 3) := by decide +kernel
theorem dX6_canCount_14 : decode cX6_canCount 14 = .ok (.iconst 3, 1) := by decide +kernel
theorem dX6_canCount_15 : decode cX6_canCount 15 = .ok (.iaload, 1) := by decide +kernel
theorem dX6_canCount_16 : decode cX6_canCount 16 = .ok (.iconst 2, 1) := by decide +kernel
theorem dX6_canCount_17 : decode cX6_canCount 17 = .ok (.aload_n 0, 1) := by decide +kernel
theorem dX6_canCount_18 : decode cX6_canCount 18 = .ok (.getfield 7, 3) := by decide +kernel
theorem dX6_canCount_21 : decode cX6_canCount 21 = .ok (.bipush 60, 2) := by decide +kernel
theorem dX6_canCount_23 : decode cX6_canCount 23 = .ok (.iaload, 1) := by decide +kernel
theorem dX6_canCount_24 : decode cX6_canCount 24 = .ok (.imul, 1) := by decide +kernel
theorem dX6_canCount_25 : decode cX6_canCount 25 = .ok (.if_icmp .eq 10, 3) := by decide +kernel
theorem dX6_canCount_28 : decode cX6_canCount 28 = .ok (.aload_n 0, 1) := by decide +kernel
theorem dX6_canCount_29 : decode cX6_canCount 29 = .ok (.invokevirtual 67, 3) := by decide +kernel
theorem dX6_canCount_32 : decode cX6_canCount 32 = .ok (.ifCond .eq 7, 3) := by decide +kernel
theorem dX6_canCount_35 : decode cX6_canCount 35 = .ok (.iconst 1, 1) := by decide +kernel
theorem dX6_canCount_36 : decode cX6_canCount 36 = .ok (.goto 4, 3) := by decide +kernel
theorem dX6_canCount_39 : decode cX6_canCount 39 = .ok (.iconst 0, 1) := by decide +kernel
theorem dX6_canCount_40 : decode cX6_canCount 40 = .ok (.ireturn, 1) := by decide +kernel
def f_X6_canCount (N : Nat) (v : MV) : Option (Int32) :=
  jn (fun (s40 : Int32) => some s40) (fun (j40 : (Int32) → Option (Int32)) => jn (fun (s39 : Unit) => j40 (0 : Int32)) (fun (j39 : (Unit) → Option (Int32)) => (if ((M_s v) (0 : Int32).toNatClampNeg) = (1 : Int32) then jn (fun (s35 : Unit) => j40 (1 : Int32)) (fun (j35 : (Unit) → Option (Int32)) => (if ((M_s v) (3 : Int32).toNatClampNeg) = ((2 : Int32) * ((M_s v) (60 : Int32).toNatClampNeg)) then j35 () else (f_X6_isBurntNow N v).bind (fun o6 => (if o6 = 0 then j39 () else j35 ())))) else j39 ())))
set_option maxHeartbeats 4000000 in
set_option maxRecDepth 100000 in
theorem met_X6_canCount (l : Launch) (dC : Nat → ClassId) (dI : Nat → Nat → Nat) (cyI cyO cyL : ClassId) (a : Nat → Nat) (N : Nat) (v : MV) (out : Int32) (hF : f_X6_canCount N v = some out) : Met l yX6_canCount (Cond.code yX6_canCount cX6_canCount 1 (some .boolean) :: wT) ({ frames := 2, cells := 0, slots := 0, locals := 44 } : Room) (wRd dC dI cyI cyO cyL [.ref (a 0)] (cM cyI a v)) (va_Qi (fun (r : Int32) (_ : Unit) => r = out ∧ b01 r) (fun _ _ => True) wN0) 0 0 wN0 := by
  refine Met.ofW (cc := cX6_canCount) (maxL := 1) (ret := (some .boolean)) (by decide) rfl ?_
  intro p e s m args below meth c s₁ B hml hv
  obtain ⟨rfl, hP, hK⟩ := hv
  have hx := B.exec
  have hb := B.bytes
  have hr := B.returns
  have hts0 := atoms_spec (ws := (Cond.code yX6_canCount cX6_canCount 1 (some .boolean) :: wT)) B.pre
  have hts := fun w h => hts0 w (List.mem_cons_of_mem _ h)
  clear hts0
  have hown : s.vm.findClass RX6 = some m.cls := findClass_of_methodNamed B.named
  have hlocks := B.notSynchronized
  have hS : va_S wN0 s.heap s.heap [] := va_S.rf
  have hl := lv_entry [.ref (a 0)] (n := 1) (Nat.le_of_ble_eq_true rfl)
  rw [lg_entry_eq]
  generalize (lg_sl [.ref (a 0)] ++ List.replicate (1 - (lg_sl [.ref (a 0)]).length) Slot.unset).toArray = ls at hl ⊢
  have hl : lv_has ls 1 [(0, .ref (a 0))] := hl
  unfold f_X6_canCount at hF
  refine lv_aload_n hx hb dX6_canCount_0 rfl (lv_at hl 0 rfl) ?_
  refine va_get (D := (dC, dI)) (ci := 6) (v := .ref (a 1)) (C := RX6) (T := TX6) (N := 23) hx hb hts inX6 hown hK.1 hP 0 rfl rfl 1 (by decide) (hts _ w_fieldLink_X6_7) (fun _ h9 => h9) rfl dX6_canCount_1 ?_
  refine lv_iconst (v := 0) hx hb dX6_canCount_4 (by decide) ?_
  refine va_iald hx hb hK.1 hP 1 0 rfl rfl (i := (0 : Int32)) (show ixok (0 : Int32) 103 by decide) dX6_canCount_5 ?_
  refine lv_iconst (v := 1) hx hb dX6_canCount_6 (by decide) ?_
  obtain ⟨j40, hj40, hF⟩ := jn_use hF
  have hJ40 : ∀ (s40 : Int32) (H : Heap) (locs : List Loc) (ls : Array Slot) (hz_40_s0 : b01 s40), va_P (dC, dI) vwCl (cM cyI a v) H → va_S wN0 s.heap H locs → lv_has ls 1 [] → j40 s40 = some out → W p l e (headSpec (Cond.code yX6_canCount cX6_canCount 1 (some .boolean) :: wT) ({ frames := 2, cells := 0, slots := 0, locals := 44 } : Room)).room s m ([.ref (a 0)] : List Value).toArray below meth c H locs 0 0 (MQ below (va_Qi (fun (r : Int32) (_ : Unit) => r = out ∧ b01 r) (fun _ _ => True) wN0) ([.ref (a 0)] : List Value).toArray s 0 0 wN0) (F0 m 40 ls [.int s40]) := by
    intro s40 H locs ls hz_40_s0 hP hS hl hF
    have hF := (congrFun hj40 s40).symm.trans hF
    exact W.zret (ty := .boolean) (v := s40) hx hb hr (b01_n hz_40_s0) (fun t ht hW => ⟨⟨_, (), rfl, ⟨Option.some.inj hF, hz_40_s0⟩, trivial⟩, hS.F ht⟩) hS.2.2 dX6_canCount_40
  obtain ⟨j39, hj39, hF⟩ := jn_use hF
  have hJ39 : ∀ (s39 : Unit) (H : Heap) (locs : List Loc) (ls : Array Slot), va_P (dC, dI) vwCl (cM cyI a v) H → va_S wN0 s.heap H locs → lv_has ls 1 [] → j39 s39 = some out → W p l e (headSpec (Cond.code yX6_canCount cX6_canCount 1 (some .boolean) :: wT) ({ frames := 2, cells := 0, slots := 0, locals := 44 } : Room)).room s m ([.ref (a 0)] : List Value).toArray below meth c H locs 0 0 (MQ below (va_Qi (fun (r : Int32) (_ : Unit) => r = out ∧ b01 r) (fun _ _ => True) wN0) ([.ref (a 0)] : List Value).toArray s 0 0 wN0) (F0 m 39 ls []) := by
    intro s39 H locs ls hP hS hl hF
    have hF := (congrFun hj39 s39).symm.trans hF
    refine lv_iconst (v := 0) hx hb dX6_canCount_39 (by decide) ?_
    exact hJ40 (0 : Int32) _ _ _ b01_0 hP hS (lv_sub hl [] rfl) hF
  refine lv_icmp_ne (tgt := 39) hx hb dX6_canCount_7 (by decide) (fun c2 => ?_) (fun c2 => ?_)
  · have hF := itn c2 hF
    exact hJ39 () _ _ _ hP hS (lv_sub hl [] rfl) hF
  · have hF := itp c2 hF
    refine lv_aload_n hx hb dX6_canCount_10 rfl (lv_at hl 0 rfl) ?_
    refine va_get (D := (dC, dI)) (ci := 6) (v := .ref (a 1)) (C := RX6) (T := TX6) (N := 23) hx hb hts inX6 hown hK.1 hP 0 rfl rfl 1 (by decide) (hts _ w_fieldLink_X6_7) (fun _ h9 => h9) rfl dX6_canCount_11 ?_
    refine lv_iconst (v := 3) hx hb dX6_canCount_14 (by decide) ?_
    refine va_iald hx hb hK.1 hP 1 0 rfl rfl (i := (3 : Int32)) (show ixok (3 : Int32) 103 by decide) dX6_canCount_15 ?_
    refine lv_iconst (v := 2) hx hb dX6_canCount_16 (by decide) ?_
    refine lv_aload_n hx hb dX6_canCount_17 rfl (lv_at hl 0 rfl) ?_
    refine va_get (D := (dC, dI)) (ci := 6) (v := .ref (a 1)) (C := RX6) (T := TX6) (N := 23) hx hb hts inX6 hown hK.1 hP 0 rfl rfl 1 (by decide) (hts _ w_fieldLink_X6_7) (fun _ h9 => h9) rfl dX6_canCount_18 ?_
    refine lv_bipush (v := 60) hx hb dX6_canCount_21 (by decide) ?_
    refine va_iald hx hb hK.1 hP 1 0 rfl rfl (i := (60 : Int32)) (show ixok (60 : Int32) 103 by decide) dX6_canCount_23 ?_
    refine lv_imul hx hb dX6_canCount_24 ?_
    obtain ⟨j35, hj35, hF⟩ := jn_use hF
    have hJ35 : ∀ (s35 : Unit) (H : Heap) (locs : List Loc) (ls : Array Slot), va_P (dC, dI) vwCl (cM cyI a v) H → va_S wN0 s.heap H locs → lv_has ls 1 [] → j35 s35 = some out → W p l e (headSpec (Cond.code yX6_canCount cX6_canCount 1 (some .boolean) :: wT) ({ frames := 2, cells := 0, slots := 0, locals := 44 } : Room)).room s m ([.ref (a 0)] : List Value).toArray below meth c H locs 0 0 (MQ below (va_Qi (fun (r : Int32) (_ : Unit) => r = out ∧ b01 r) (fun _ _ => True) wN0) ([.ref (a 0)] : List Value).toArray s 0 0 wN0) (F0 m 35 ls []) := by
      intro s35 H locs ls hP hS hl hF
      have hF := (congrFun hj35 s35).symm.trans hF
      refine lv_iconst (v := 1) hx hb dX6_canCount_35 (by decide) ?_
      refine lv_goto (tgt := 40) hx hb dX6_canCount_36 (by decide) ?_
      exact hJ40 (1 : Int32) _ _ _ b01_1 hP hS (lv_sub hl [] rfl) hF
    refine lv_icmp_eq (tgt := 35) hx hb dX6_canCount_25 (by decide) (fun c5 => ?_) (fun c5 => ?_)
    · have hF := itp c5 hF
      exact hJ35 () _ _ _ hP hS (lv_sub hl [] rfl) hF
    · have hF := itn c5 hF
      refine lv_aload_n hx hb dX6_canCount_28 rfl (lv_at hl 0 rfl) ?_
      obtain ⟨o6, h7, hF⟩ := obd hF
      refine wcRVi (As := []) (rest := []) (b := (a 0)) ⟨hx, hb, hml, hown, hts⟩ (met_X6_isBurntNow l dC dI cyI cyO cyL a N v  o6 h7) (cwV 0 hts (gV w_methodLink_X6_67 w_instanceMethod_X6_isBurntNow w_selects_X6_isBurntNow w_initialized_X6 w_code_X6_isBurntNow) rfl rfl rfl (by decide +kernel) ⟨Nat.le_of_ble_eq_true rfl, Nat.le_of_ble_eq_true rfl⟩) (va_recv hK.1 hP (ci := 6) (q0 := 0) rfl rfl) hP hK [0, 1, 2, 3, 4, 5, 6, 7] rfl rfl hl.1 (Nat.le_of_ble_eq_true rfl) dX6_canCount_29 ⟨Nat.le_of_ble_eq_true rfl, Nat.le_of_ble_eq_true rfl⟩ hS (fun r H locs hw hP hS => ?_)
      obtain ⟨hw, hz8⟩ := hw
      have hw := hw.symm
      subst hw
      refine lv_if_eq (tgt := 39) hx hb dX6_canCount_32 (by decide) (fun c9 => ?_) (fun c9 => ?_)
      · have hF := itp c9 hF
        exact hJ39 () _ _ _ hP hS (lv_sub hl [] rfl) hF
      · have hF := itn c9 hF
        exact hJ35 () _ _ _ hP hS (lv_sub hl [] rfl) hF
theorem dX6_takesAway_0 : decode cX6_takesAway 0 = .ok (.aload_n 0, 1) := by decide +kernel
theorem dX6_takesAway_1 : decode cX6_takesAway 1 = .ok (.getfield 7, 3) := by decide +kernel
theorem dX6_takesAway_4 : decode cX6_takesAway 4 = .ok (.iconst 0, 1) := by decide +kernel
theorem dX6_takesAway_5 : decode cX6_takesAway 5 = .ok (.iconst 0, 1) := by decide +kernel
theorem dX6_takesAway_6 : decode cX6_takesAway 6 = .ok (.iastore, 1) := by decide +kernel
theorem dX6_takesAway_7 : decode cX6_takesAway 7 = .ok (.aload_n 0, 1) := by decide +kernel
theorem dX6_takesAway_8 : decode cX6_takesAway 8 = .ok (.getfield 7, 3) := by decide +kernel
theorem dX6_takesAway_11 : decode cX6_takesAway 11 = .ok (.iconst 1, 1) := by decide +kernel
theorem dX6_takesAway_12 : decode cX6_takesAway 12 = .ok (.iconst 0, 1) := by decide +kernel
theorem dX6_takesAway_13 : decode cX6_takesAway 13 = .ok (.iastore, 1) := by decide +kernel
theorem dX6_takesAway_14 : decode cX6_takesAway 14 = .ok (.aload_n 0, 1) := by decide +kernel
theorem dX6_takesAway_15 : decode cX6_takesAway 15 = .ok (.getfield 7, 3) := by decide +kernel
theorem dX6_takesAway_18 : decode cX6_takesAway 18 = .ok (.iconst 2, 1) := by decide +kernel
theorem dX6_takesAway_19 : decode cX6_takesAway 19 = .ok (.iconst 0, 1) := by decide +kernel
theorem dX6_takesAway_20 : decode cX6_takesAway 20 = .ok (.iastore, 1) := by decide +kernel
theorem dX6_takesAway_21 : decode cX6_takesAway 21 = .ok (.aload_n 0, 1) := by decide +kernel
theorem dX6_takesAway_22 : decode cX6_takesAway 22 = .ok (.getfield 7, 3) := by decide +kernel
theorem dX6_takesAway_25 : decode cX6_takesAway 25 = .ok (.iconst 3, 1) := by decide +kernel
theorem dX6_takesAway_26 : decode cX6_takesAway 26 = .ok (.iconst 0, 1) := by decide +kernel
theorem dX6_takesAway_27 : decode cX6_takesAway 27 = .ok (.iastore, 1) := by decide +kernel
theorem dX6_takesAway_28 : decode cX6_takesAway 28 = .ok (.iconst 4, 1) := by decide +kernel
theorem dX6_takesAway_29 : decode cX6_takesAway 29 = .ok (.istore_n 1, 1) := by decide +kernel
theorem dX6_takesAway_30 : decode cX6_takesAway 30 = .ok (.iload_n 1, 1) := by decide +kernel
theorem dX6_takesAway_31 : decode cX6_takesAway 31 = .ok (.bipush 60, 2) := by decide +kernel
theorem dX6_takesAway_33 : decode cX6_takesAway 33 = .ok (.if_icmp .ge 16, 3) := by decide +kernel
theorem dX6_takesAway_36 : decode cX6_takesAway 36 = .ok (.aload_n 0, 1) := by decide +kernel
theorem dX6_takesAway_37 : decode cX6_takesAway 37 = .ok (.getfield 7, 3) := by decide +kernel
theorem dX6_takesAway_40 : decode cX6_takesAway 40 = .ok (.iload_n 1, 1) := by decide +kernel
theorem dX6_takesAway_41 : decode cX6_takesAway 41 = .ok (.iconst 0, 1) := by decide +kernel
theorem dX6_takesAway_42 : decode cX6_takesAway 42 = .ok (.iastore, 1) := by decide +kernel
theorem dX6_takesAway_43 : decode cX6_takesAway 43 = .ok (.iinc 1 1, 3) := by decide +kernel
theorem dX6_takesAway_46 : decode cX6_takesAway 46 = .ok (.goto (-16), 3) := by decide +kernel
theorem dX6_takesAway_49 : decode cX6_takesAway 49 = .ok (.return_, 1) := by decide +kernel
def f_X6_takesAway (N : Nat) (v : MV) : Option (MV) :=
  lpN (fun (s30 : Int32 × MV) (k30 : (Int32 × MV) → Option (MV)) => (if (60 : Int32) ≤ s30.1 then some s30.2 else gd (ixok s30.1 103) (k30 ((s30.1 + (1 : Int32)), (M_set_s s30.2 (upd (M_s s30.2) s30.1.toNatClampNeg (0 : Int32))))))) N ((4 : Int32), (M_set_s v (upd (upd (upd (upd (M_s v) (0 : Int32).toNatClampNeg (0 : Int32)) (1 : Int32).toNatClampNeg (0 : Int32)) (2 : Int32).toNatClampNeg (0 : Int32)) (3 : Int32).toNatClampNeg (0 : Int32))))
set_option maxHeartbeats 4000000 in
set_option maxRecDepth 100000 in
theorem met_X6_takesAway (l : Launch) (dC : Nat → ClassId) (dI : Nat → Nat → Nat) (cyI cyO cyL : ClassId) (a : Nat → Nat) (sz : Nat) (N : Nat) (v : MV) (out : MV) (hF : f_X6_takesAway N v = some out) : Met l yX6_takesAway (Cond.code yX6_takesAway cX6_takesAway 2 none :: wT) ({ frames := 0, cells := 0, slots := 0, locals := 0 } : Room) (wWr dC dI cyI cyO cyL [.ref (a 0)] (cM cyI a v) sz) (va_Qv (fun (u : MV) => u = out) (fun u t => va_P (dC, dI) vwCl (cM cyI a u) t.heap ∧ va_D (va_A (cM cyI a v) sz) (cM cyI a u)) (va_A (cM cyI a v) sz)) 0 0 (va_A (cM cyI a v) sz) := by
  refine Met.ofW (cc := cX6_takesAway) (maxL := 2) (ret := none) (by decide) rfl ?_
  intro p e s m args below meth c s₁ B hml hv
  obtain ⟨rfl, hsz, hP, hK, hD0⟩ := hv
  have hx := B.exec
  have hb := B.bytes
  have hr := B.returns
  have hts0 := atoms_spec (ws := (Cond.code yX6_takesAway cX6_takesAway 2 none :: wT)) B.pre
  have hts := fun w h => hts0 w (List.mem_cons_of_mem _ h)
  clear hts0
  have hown : s.vm.findClass RX6 = some m.cls := findClass_of_methodNamed B.named
  have hlocks := B.notSynchronized
  subst hsz
  have hD := hD0.self (sz := s.heap.size)
  generalize hAe : va_A (cM cyI a v) s.heap.size = A at hD ⊢
  have hA : ∀ q : Nat, s.heap.size ≤ q → A q := fun q h => by rw [← hAe]; exact Or.inr h
  clear hD0
  have hS : va_S A s.heap s.heap [] := va_S.rf
  have hl := lv_entry [.ref (a 0)] (n := 2) (Nat.le_of_ble_eq_true rfl)
  rw [lg_entry_eq]
  generalize (lg_sl [.ref (a 0)] ++ List.replicate (2 - (lg_sl [.ref (a 0)]).length) Slot.unset).toArray = ls at hl ⊢
  have hl : lv_has ls 2 [(0, .ref (a 0))] := hl
  unfold f_X6_takesAway at hF
  refine lv_aload_n hx hb dX6_takesAway_0 rfl (lv_at hl 0 rfl) ?_
  refine va_get (D := (dC, dI)) (ci := 6) (v := .ref (a 1)) (C := RX6) (T := TX6) (N := 23) hx hb hts inX6 hown hK.1 hP 0 rfl rfl 1 (by decide) (hts _ w_fieldLink_X6_7) (fun _ h9 => h9) rfl dX6_takesAway_1 ?_
  refine lv_iconst (v := 0) hx hb dX6_takesAway_4 (by decide) ?_
  refine lv_iconst (v := 0) hx hb dX6_takesAway_5 (by decide) ?_
  refine va_iast hx hb hK.1 hP hD hS 1 0 rfl rfl (i := (0 : Int32)) (x := (0 : Int32)) (show ixok (0 : Int32) 103 by decide) dX6_takesAway_6 (fun H locs hP hD hS => ?_)
  have hP : va_P (dC, dI) vwCl (cM cyI a (M_set_s v (upd (M_s v) (0 : Int32).toNatClampNeg (0 : Int32)))) H := hP
  have hD : va_D A (cM cyI a (M_set_s v (upd (M_s v) (0 : Int32).toNatClampNeg (0 : Int32)))) := hD
  refine lv_aload_n hx hb dX6_takesAway_7 rfl (lv_at hl 0 rfl) ?_
  refine va_get (D := (dC, dI)) (ci := 6) (v := .ref (a 1)) (C := RX6) (T := TX6) (N := 23) hx hb hts inX6 hown hK.1 hP 0 rfl rfl 1 (by decide) (hts _ w_fieldLink_X6_7) (fun _ h9 => h9) rfl dX6_takesAway_8 ?_
  refine lv_iconst (v := 1) hx hb dX6_takesAway_11 (by decide) ?_
  refine lv_iconst (v := 0) hx hb dX6_takesAway_12 (by decide) ?_
  refine va_iast hx hb hK.1 hP hD hS 1 0 rfl rfl (i := (1 : Int32)) (x := (0 : Int32)) (show ixok (1 : Int32) 103 by decide) dX6_takesAway_13 (fun H locs hP hD hS => ?_)
  have hP : va_P (dC, dI) vwCl (cM cyI a (M_set_s v (upd (upd (M_s v) (0 : Int32).toNatClampNeg (0 : Int32)) (1 : Int32).toNatClampNeg (0 : Int32)))) H := hP
  have hD : va_D A (cM cyI a (M_set_s v (upd (upd (M_s v) (0 : Int32).toNatClampNeg (0 : Int32)) (1 : Int32).toNatClampNeg (0 : Int32)))) := hD
  refine lv_aload_n hx hb dX6_takesAway_14 rfl (lv_at hl 0 rfl) ?_
  refine va_get (D := (dC, dI)) (ci := 6) (v := .ref (a 1)) (C := RX6) (T := TX6) (N := 23) hx hb hts inX6 hown hK.1 hP 0 rfl rfl 1 (by decide) (hts _ w_fieldLink_X6_7) (fun _ h9 => h9) rfl dX6_takesAway_15 ?_
  refine lv_iconst (v := 2) hx hb dX6_takesAway_18 (by decide) ?_
  refine lv_iconst (v := 0) hx hb dX6_takesAway_19 (by decide) ?_
  refine va_iast hx hb hK.1 hP hD hS 1 0 rfl rfl (i := (2 : Int32)) (x := (0 : Int32)) (show ixok (2 : Int32) 103 by decide) dX6_takesAway_20 (fun H locs hP hD hS => ?_)
  have hP : va_P (dC, dI) vwCl (cM cyI a (M_set_s v (upd (upd (upd (M_s v) (0 : Int32).toNatClampNeg (0 : Int32)) (1 : Int32).toNatClampNeg (0 : Int32)) (2 : Int32).toNatClampNeg (0 : Int32)))) H := hP
  have hD : va_D A (cM cyI a (M_set_s v (upd (upd (upd (M_s v) (0 : Int32).toNatClampNeg (0 : Int32)) (1 : Int32).toNatClampNeg (0 : Int32)) (2 : Int32).toNatClampNeg (0 : Int32)))) := hD
  refine lv_aload_n hx hb dX6_takesAway_21 rfl (lv_at hl 0 rfl) ?_
  refine va_get (D := (dC, dI)) (ci := 6) (v := .ref (a 1)) (C := RX6) (T := TX6) (N := 23) hx hb hts inX6 hown hK.1 hP 0 rfl rfl 1 (by decide) (hts _ w_fieldLink_X6_7) (fun _ h9 => h9) rfl dX6_takesAway_22 ?_
  refine lv_iconst (v := 3) hx hb dX6_takesAway_25 (by decide) ?_
  refine lv_iconst (v := 0) hx hb dX6_takesAway_26 (by decide) ?_
  refine va_iast hx hb hK.1 hP hD hS 1 0 rfl rfl (i := (3 : Int32)) (x := (0 : Int32)) (show ixok (3 : Int32) 103 by decide) dX6_takesAway_27 (fun H locs hP hD hS => ?_)
  have hP : va_P (dC, dI) vwCl (cM cyI a (M_set_s v (upd (upd (upd (upd (M_s v) (0 : Int32).toNatClampNeg (0 : Int32)) (1 : Int32).toNatClampNeg (0 : Int32)) (2 : Int32).toNatClampNeg (0 : Int32)) (3 : Int32).toNatClampNeg (0 : Int32)))) H := hP
  have hD : va_D A (cM cyI a (M_set_s v (upd (upd (upd (upd (M_s v) (0 : Int32).toNatClampNeg (0 : Int32)) (1 : Int32).toNatClampNeg (0 : Int32)) (2 : Int32).toNatClampNeg (0 : Int32)) (3 : Int32).toNatClampNeg (0 : Int32)))) := hD
  refine lv_iconst (v := 4) hx hb dX6_takesAway_28 (by decide) ?_
  refine lv_istore_n (lv' := [(1, .int (4 : Int32)), (0, .ref (a 0))]) hx hb dX6_takesAway_29 rfl hl (by decide) rfl (fun ls hl => ?_)
  obtain ⟨st30, hst30, hF⟩ := lpN_use hF
  have hL30 : ∀ (n : Nat) (s30 : Int32 × MV) (H : Heap) (locs : List Loc) (ls : Array Slot), va_P (dC, dI) vwCl (cM cyI a s30.2) H → va_D A (cM cyI a s30.2) → va_S A s.heap H locs → lv_has ls 2 [(0, .ref (a 0)), (1, .int s30.1)] → lpN st30 n s30 = some out → W p l e (headSpec (Cond.code yX6_takesAway cX6_takesAway 2 none :: wT) ({ frames := 0, cells := 0, slots := 0, locals := 0 } : Room)).room s m ([.ref (a 0)] : List Value).toArray below meth c H locs 0 0 (MQ below (va_Qv (fun (u : MV) => u = out) (fun u t => va_P (dC, dI) vwCl (cM cyI a u) t.heap ∧ va_D A (cM cyI a u)) A) ([.ref (a 0)] : List Value).toArray s 0 0 A) (F0 m 30 ls []) := by
    intro n
    induction n with
    | zero => intro s30 H locs ls hP hD hS hl hF; exact lpN_0 hF
    | succ n ih30 =>
      intro s30 H locs ls hP hD hS hl hF
      have hF := (congrFun (congrFun hst30 s30) (lpN st30 n)).symm.trans (lpN_s hF)
      refine lv_iload_n hx hb dX6_takesAway_30 rfl (lv_at hl 1 rfl) ?_
      refine lv_bipush (v := 60) hx hb dX6_takesAway_31 (by decide) ?_
      refine lv_icmp_ge (tgt := 49) hx hb dX6_takesAway_33 (by decide) (fun c5 => ?_) (fun c5 => ?_)
      · have hF := itp c5 hF
        exact W.vret hx hb hr (fun t ht hW => ⟨⟨_, rfl, Option.some.inj hF, by rw [ht]; exact hP, hD⟩, hS.F ht⟩) hS.2.2 dX6_takesAway_49
      · have hF := itn c5 hF
        refine lv_aload_n hx hb dX6_takesAway_36 rfl (lv_at hl 0 rfl) ?_
        refine va_get (D := (dC, dI)) (ci := 6) (v := .ref (a 1)) (C := RX6) (T := TX6) (N := 23) hx hb hts inX6 hown hK.1 hP 0 rfl rfl 1 (by decide) (hts _ w_fieldLink_X6_7) (fun _ h9 => h9) rfl dX6_takesAway_37 ?_
        refine lv_iload_n hx hb dX6_takesAway_40 rfl (lv_at hl 1 rfl) ?_
        refine lv_iconst (v := 0) hx hb dX6_takesAway_41 (by decide) ?_
        obtain ⟨hg6, hF⟩ := gd_use hF
        refine va_iast hx hb hK.1 hP hD hS 1 0 rfl rfl (i := s30.1) (x := (0 : Int32)) hg6 dX6_takesAway_42 (fun H locs hP hD hS => ?_)
        have hP : va_P (dC, dI) vwCl (cM cyI a (M_set_s s30.2 (upd (M_s s30.2) s30.1.toNatClampNeg (0 : Int32)))) H := hP
        have hD : va_D A (cM cyI a (M_set_s s30.2 (upd (M_s s30.2) s30.1.toNatClampNeg (0 : Int32)))) := hD
        refine lv_iinc (v := (s30.1 + (1 : Int32))) (lv' := [(1, .int (s30.1 + (1 : Int32))), (0, .ref (a 0))]) hx hb dX6_takesAway_43 hl (k := 1) rfl rfl (by decide) rfl (fun ls hl => ?_)
        refine lv_goto (tgt := 30) hx hb dX6_takesAway_46 (by decide) ?_
        exact ih30 ((s30.1 + (1 : Int32)), (M_set_s s30.2 (upd (M_s s30.2) s30.1.toNatClampNeg (0 : Int32)))) _ _ _ hP hD hS (lv_sub hl [1, 0] rfl) hF
  exact hL30 N ((4 : Int32), (M_set_s v (upd (upd (upd (upd (M_s v) (0 : Int32).toNatClampNeg (0 : Int32)) (1 : Int32).toNatClampNeg (0 : Int32)) (2 : Int32).toNatClampNeg (0 : Int32)) (3 : Int32).toNatClampNeg (0 : Int32)))) _ _ _ hP hD hS (lv_sub hl [1, 0] rfl) hF
theorem dX6_counts_0 : decode cX6_counts 0 = .ok (.aload_n 0, 1) := by decide +kernel
theorem dX6_counts_1 : decode cX6_counts 1 = .ok (.invokevirtual 94, 3) := by decide +kernel
theorem dX6_counts_4 : decode cX6_counts 4 = .ok (.istore_n 1, 1) := by decide +kernel
theorem dX6_counts_5 : decode cX6_counts 5 = .ok (.aload_n 0, 1) := by decide +kernel
theorem dX6_counts_6 : decode cX6_counts 6 = .ok (.getfield 7, 3) := by decide +kernel
theorem dX6_counts_9 : decode cX6_counts 9 = .ok (.bipush 68, 2) := by decide +kernel
theorem dX6_counts_11 : decode cX6_counts 11 = .ok (.dup2, 1) := by decide +kernel
theorem dX6_counts_12 : decode cX6_counts 12 = .ok (.iaload, 1) := by decide +kernel
theorem dX6_counts_13 : decode cX6_counts 13 = .ok (.iconst 1, 1) := by decide +kernel
theorem dX6_counts_14 : decode cX6_counts 14 = .ok (.iadd, 1) := by decide +kernel
theorem dX6_counts_15 : decode cX6_counts 15 = .ok (.iastore, 1) := by decide +kernel
theorem dX6_counts_16 : decode cX6_counts 16 = .ok (.aload_n 0, 1) := by decide +kernel
theorem dX6_counts_17 : decode cX6_counts 17 = .ok (.getfield 7, 3) := by decide +kernel
theorem dX6_counts_20 : decode cX6_counts 20 = .ok (.bipush 69, 2) := by decide +kernel
theorem dX6_counts_22 : decode cX6_counts 22 = .ok (.dup2, 1) := by decide +kernel
theorem dX6_counts_23 : decode cX6_counts 23 = .ok (.iaload, 1) := by decide +kernel
theorem dX6_counts_24 : decode cX6_counts 24 = .ok (.aload_n 0, 1) := by decide +kernel
theorem dX6_counts_25 : decode cX6_counts 25 = .ok (.invokevirtual 67, 3) := by decide +kernel
theorem dX6_counts_28 : decode cX6_counts 28 = .ok (.ifCond .eq 7, 3) := by decide +kernel
theorem dX6_counts_31 : decode cX6_counts 31 = .ok (.iconst 1, 1) := by decide +kernel
theorem dX6_counts_32 : decode cX6_counts 32 = .ok (.goto 4, 3) := by decide +kernel
theorem dX6_counts_35 : decode cX6_counts 35 = .ok (.iconst 0, 1) := by decide +kernel
theorem dX6_counts_36 : decode cX6_counts 36 = .ok (.iadd, 1) := by decide +kernel
theorem dX6_counts_37 : decode cX6_counts 37 = .ok (.iastore, 1) := by decide +kernel
theorem dX6_counts_38 : decode cX6_counts 38 = .ok (.aload_n 0, 1) := by decide +kernel
theorem dX6_counts_39 : decode cX6_counts 39 = .ok (.getfield 7, 3) := by decide +kernel
theorem dX6_counts_42 : decode cX6_counts 42 = .ok (.bipush 65, 2) := by decide +kernel
theorem dX6_counts_44 : decode cX6_counts 44 = .ok (.dup2, 1) := by decide +kernel
theorem dX6_counts_45 : decode cX6_counts 45 = .ok (.iaload, 1) := by decide +kernel
theorem dX6_counts_46 : decode cX6_counts 46 = .ok (.iload_n 1, 1) := by decide +kernel
theorem dX6_counts_47 : decode cX6_counts 47 = .ok (.ifCond .le 7, 3) := by decide +kernel
theorem dX6_counts_50 : decode cX6_counts 50 = .ok (.iload_n 1, 1) := by decide +kernel
theorem dX6_counts_51 : decode cX6_counts 51 = .ok (.goto 4, 3) := by decide +kernel
theorem dX6_counts_54 : decode cX6_counts 54 = .ok (.iconst 0, 1) := by decide +kernel
theorem dX6_counts_55 : decode cX6_counts 55 = .ok (.iadd, 1) := by decide +kernel
theorem dX6_counts_56 : decode cX6_counts 56 = .ok (.iastore, 1) := by decide +kernel
theorem dX6_counts_57 : decode cX6_counts 57 = .ok (.aload_n 0, 1) := by decide +kernel
theorem dX6_counts_58 : decode cX6_counts 58 = .ok (.getfield 7, 3) := by decide +kernel
theorem dX6_counts_61 : decode cX6_counts 61 = .ok (.bipush 66, 2) := by decide +kernel
theorem dX6_counts_63 : decode cX6_counts 63 = .ok (.dup2, 1) := by decide +kernel
theorem dX6_counts_64 : decode cX6_counts 64 = .ok (.iaload, 1) := by decide +kernel
theorem dX6_counts_65 : decode cX6_counts 65 = .ok (.iload_n 1, 1) := by decide +kernel
theorem dX6_counts_66 : decode cX6_counts 66 = .ok (.ifCond .ge 7, 3) := by decide +kernel
theorem dX6_counts_69 : decode cX6_counts 69 = .ok (.iload_n 1, 1) := by decide +kernel
theorem dX6_counts_70 : decode cX6_counts 70 = .ok (.goto 4, 3) := by decide +kernel
theorem dX6_counts_73 : decode cX6_counts 73 = .ok (.iconst 0, 1) := by decide +kernel
theorem dX6_counts_74 : decode cX6_counts 74 = .ok (.isub, 1) := by decide +kernel
theorem dX6_counts_75 : decode cX6_counts 75 = .ok (.iastore, 1) := by decide +kernel
theorem dX6_counts_76 : decode cX6_counts 76 = .ok (.aload_n 0, 1) := by decide +kernel
theorem dX6_counts_77 : decode cX6_counts 77 = .ok (.getfield 7, 3) := by decide +kernel
theorem dX6_counts_80 : decode cX6_counts 80 = .ok (.bipush 61, 2) := by decide +kernel
theorem dX6_counts_82 : decode cX6_counts 82 = .ok (.iload_n 1, 1) := by decide +kernel
theorem dX6_counts_83 : decode cX6_counts 83 = .ok (.ifCond .ne 13, 3) := by decide +kernel
theorem dX6_counts_86 : decode cX6_counts 86 = .ok (.aload_n 0, 1) := by decide +kernel
theorem dX6_counts_87 : decode cX6_counts 87 = .ok (.getfield 7, 3) := by decide +kernel
theorem dX6_counts_90 : decode cX6_counts 90 = .ok (.bipush 61, 2) := by decide +kernel
theorem dX6_counts_92 : decode cX6_counts 92 = .ok (.iaload, 1) := by decide +kernel
theorem dX6_counts_93 : decode cX6_counts 93 = .ok (.goto 12, 3) := by decide +kernel
theorem dX6_counts_96 : decode cX6_counts 96 = .ok (.iload_n 1, 1) := by decide +kernel
theorem dX6_counts_97 : decode cX6_counts 97 = .ok (.ifCond .le 7, 3) := by decide +kernel
theorem dX6_counts_100 : decode cX6_counts 100 = .ok (.iconst 0, 1) := by decide +kernel
theorem dX6_counts_101 : decode cX6_counts 101 = .ok (.goto 4, 3) := by decide +kernel
theorem dX6_counts_104 : decode cX6_counts 104 = .ok (.iconst 1, 1) := by decide +kernel
theorem dX6_counts_105 : decode cX6_counts 105 = .ok (.iastore, 1) := by decide +kernel
theorem dX6_counts_106 : decode cX6_counts 106 = .ok (.aload_n 0, 1) := by decide +kernel
theorem dX6_counts_107 : decode cX6_counts 107 = .ok (.getfield 7, 3) := by decide +kernel
theorem dX6_counts_110 : decode cX6_counts 110 = .ok (.bipush 91, 2) := by decide +kernel
theorem dX6_counts_112 : decode cX6_counts 112 = .ok (.iload_n 1, 1) := by decide +kernel
theorem dX6_counts_113 : decode cX6_counts 113 = .ok (.iadd, 1) := by decide +kernel
theorem dX6_counts_114 : decode cX6_counts 114 = .ok (.dup2, 1) := by decide +kernel
theorem dX6_counts_115 : decode cX6_counts 115 = .ok (.iaload, 1) := by decide +kernel
theorem dX6_counts_116 : decode cX6_counts 116 = .ok (.iconst 1, 1) := by decide +kernel
theorem dX6_counts_117 : decode cX6_counts 117 = .ok (.iadd, 1) := by decide +kernel
theorem dX6_counts_118 : decode cX6_counts 118 = .ok (.iastore, 1) := by decide +kernel
theorem dX6_counts_119 : decode cX6_counts 119 = .ok (.aload_n 0, 1) := by decide +kernel
theorem dX6_counts_120 : decode cX6_counts 120 = .ok (.getfield 7, 3) := by decide +kernel
theorem dX6_counts_123 : decode cX6_counts 123 = .ok (.bipush 70, 2) := by decide +kernel
theorem dX6_counts_125 : decode cX6_counts 125 = .ok (.iaload, 1) := by decide +kernel
theorem dX6_counts_126 : decode cX6_counts 126 = .ok (.bipush 12, 2) := by decide +kernel
theorem dX6_counts_128 : decode cX6_counts 128 = .ok (.if_icmp .ne 48, 3) := by decide +kernel
theorem dX6_counts_131 : decode cX6_counts 131 = .ok (.iconst 0, 1) := by decide +kernel
theorem dX6_counts_132 : decode cX6_counts 132 = .ok (.istore_n 2, 1) := by decide +kernel
theorem dX6_counts_133 : decode cX6_counts 133 = .ok (.iload_n 2, 1) := by decide +kernel
theorem dX6_counts_134 : decode cX6_counts 134 = .ok (.bipush 11, 2) := by decide +kernel
theorem dX6_counts_136 : decode cX6_counts 136 = .ok (.if_icmp .ge 29, 3) := by decide +kernel
theorem dX6_counts_139 : decode cX6_counts 139 = .ok (.aload_n 0, 1) := by decide +kernel
theorem dX6_counts_140 : decode cX6_counts 140 = .ok (.getfield 7, 3) := by decide +kernel
theorem dX6_counts_143 : decode cX6_counts 143 = .ok (.bipush 71, 2) := by decide +kernel
theorem dX6_counts_145 : decode cX6_counts 145 = .ok (.iload_n 2, 1) := by decide +kernel
theorem dX6_counts_146 : decode cX6_counts 146 = .ok (.iadd, 1) := by decide +kernel
theorem dX6_counts_147 : decode cX6_counts 147 = .ok (.aload_n 0, 1) := by decide +kernel
theorem dX6_counts_148 : decode cX6_counts 148 = .ok (.getfield 7, 3) := by decide +kernel
theorem dX6_counts_151 : decode cX6_counts 151 = .ok (.bipush 71, 2) := by decide +kernel
theorem dX6_counts_153 : decode cX6_counts 153 = .ok (.iload_n 2, 1) := by decide +kernel
theorem dX6_counts_154 : decode cX6_counts 154 = .ok (.iadd, 1) := by decide +kernel
theorem dX6_counts_155 : decode cX6_counts 155 = .ok (.iconst 1, 1) := by decide +kernel
theorem dX6_counts_156 : decode cX6_counts 156 = .ok (.iadd, 1) := by decide +kernel
theorem dX6_counts_157 : decode cX6_counts 157 = .ok (.iaload, 1) := by decide +kernel
theorem dX6_counts_158 : decode cX6_counts 158 = .ok (.iastore, 1) := by decide +kernel
theorem dX6_counts_159 : decode cX6_counts 159 = .ok (.iinc 2 1, 3) := by decide +kernel
theorem dX6_counts_162 : decode cX6_counts 162 = .ok (.goto (-29), 3) := by decide +kernel
theorem dX6_counts_165 : decode cX6_counts 165 = .ok (.aload_n 0, 1) := by decide +kernel
theorem dX6_counts_166 : decode cX6_counts 166 = .ok (.getfield 7, 3) := by decide +kernel
theorem dX6_counts_169 : decode cX6_counts 169 = .ok (.bipush 70, 2) := by decide +kernel
theorem dX6_counts_171 : decode cX6_counts 171 = .ok (.dup2, 1) := by decide +kernel
theorem dX6_counts_172 : decode cX6_counts 172 = .ok (.iaload, 1) := by decide +kernel
theorem dX6_counts_173 : decode cX6_counts 173 = .ok (.iconst 1, 1) := by decide +kernel
theorem dX6_counts_174 : decode cX6_counts 174 = .ok (.isub, 1) := by decide +kernel
theorem dX6_counts_175 : decode cX6_counts 175 = .ok (.iastore, 1) := by decide +kernel
theorem dX6_counts_176 : decode cX6_counts 176 = .ok (.aload_n 0, 1) := by decide +kernel
theorem dX6_counts_177 : decode cX6_counts 177 = .ok (.getfield 7, 3) := by decide +kernel
theorem dX6_counts_180 : decode cX6_counts 180 = .ok (.bipush 71, 2) := by decide +kernel
theorem dX6_counts_182 : decode cX6_counts 182 = .ok (.aload_n 0, 1) := by decide +kernel
theorem dX6_counts_183 : decode cX6_counts 183 = .ok (.getfield 7, 3) := by decide +kernel
theorem dX6_counts_186 : decode cX6_counts 186 = .ok (.bipush 70, 2) := by decide +kernel
theorem dX6_counts_188 : decode cX6_counts 188 = .ok (.iaload, 1) := by decide +kernel
theorem dX6_counts_189 : decode cX6_counts 189 = .ok (.iadd, 1) := by decide +kernel
theorem dX6_counts_190 : decode cX6_counts 190 = .ok (.iload_n 1, 1) := by decide +kernel
theorem dX6_counts_191 : decode cX6_counts 191 = .ok (.iastore, 1) := by decide +kernel
theorem dX6_counts_192 : decode cX6_counts 192 = .ok (.aload_n 0, 1) := by decide +kernel
theorem dX6_counts_193 : decode cX6_counts 193 = .ok (.getfield 7, 3) := by decide +kernel
theorem dX6_counts_196 : decode cX6_counts 196 = .ok (.bipush 70, 2) := by decide +kernel
theorem dX6_counts_198 : decode cX6_counts 198 = .ok (.dup2, 1) := by decide +kernel
theorem dX6_counts_199 : decode cX6_counts 199 = .ok (.iaload, 1) := by decide +kernel
theorem dX6_counts_200 : decode cX6_counts 200 = .ok (.iconst 1, 1) := by decide +kernel
theorem dX6_counts_201 : decode cX6_counts 201 = .ok (.iadd, 1) := by decide +kernel
theorem dX6_counts_202 : decode cX6_counts 202 = .ok (.iastore, 1) := by decide +kernel
theorem dX6_counts_203 : decode cX6_counts 203 = .ok (.aload_n 0, 1) := by decide +kernel
theorem dX6_counts_204 : decode cX6_counts 204 = .ok (.invokevirtual 98, 3) := by decide +kernel
theorem dX6_counts_207 : decode cX6_counts 207 = .ok (.iload_n 1, 1) := by decide +kernel
theorem dX6_counts_208 : decode cX6_counts 208 = .ok (.invokestatic 101, 3) := by decide +kernel
theorem dX6_counts_211 : decode cX6_counts 211 = .ok (.ireturn, 1) := by decide +kernel
def f_X6_counts (N : Nat) (v : MV) : Option (Int32 × MV) :=
  (f_X6_score N v).bind (fun o1 => (f_X6_isBurntNow N (M_set_s o1.2 (upd (M_s o1.2) (68 : Int32).toNatClampNeg (((M_s o1.2) (68 : Int32).toNatClampNeg) + (1 : Int32))))).bind (fun o6 => jn (fun (s36 : Int32) => jn (fun (s55 : Int32) => jn (fun (s74 : Int32) => jn (fun (s105 : Int32) => gd (ixok ((91 : Int32) + o1.1) 103) (gd (ixok ((91 : Int32) + o1.1) 103) (jn (fun (s176 : MV) => gd (ixok ((71 : Int32) + ((M_s s176) (70 : Int32).toNatClampNeg)) 103) ((f_X6_takesAway N (M_set_s s176 (upd (upd (M_s s176) ((71 : Int32) + ((M_s s176) (70 : Int32).toNatClampNeg)).toNatClampNeg o1.1) (70 : Int32).toNatClampNeg (((upd (M_s s176) ((71 : Int32) + ((M_s s176) (70 : Int32).toNatClampNeg)).toNatClampNeg o1.1) (70 : Int32).toNatClampNeg) + (1 : Int32))))).bind (fun o22 => (f_X6_abs N o1.1).bind (fun o24 => some (o24, o22))))) (fun (j176 : (MV) → Option (Int32 × MV)) => (if ((upd (upd (upd (upd (upd (upd (M_s o1.2) (68 : Int32).toNatClampNeg (((M_s o1.2) (68 : Int32).toNatClampNeg) + (1 : Int32))) (69 : Int32).toNatClampNeg (((upd (M_s o1.2) (68 : Int32).toNatClampNeg (((M_s o1.2) (68 : Int32).toNatClampNeg) + (1 : Int32))) (69 : Int32).toNatClampNeg) + s36)) (65 : Int32).toNatClampNeg (((upd (upd (M_s o1.2) (68 : Int32).toNatClampNeg (((M_s o1.2) (68 : Int32).toNatClampNeg) + (1 : Int32))) (69 : Int32).toNatClampNeg (((upd (M_s o1.2) (68 : Int32).toNatClampNeg (((M_s o1.2) (68 : Int32).toNatClampNeg) + (1 : Int32))) (69 : Int32).toNatClampNeg) + s36)) (65 : Int32).toNatClampNeg) + s55)) (66 : Int32).toNatClampNeg (((upd (upd (upd (M_s o1.2) (68 : Int32).toNatClampNeg (((M_s o1.2) (68 : Int32).toNatClampNeg) + (1 : Int32))) (69 : Int32).toNatClampNeg (((upd (M_s o1.2) (68 : Int32).toNatClampNeg (((M_s o1.2) (68 : Int32).toNatClampNeg) + (1 : Int32))) (69 : Int32).toNatClampNeg) + s36)) (65 : Int32).toNatClampNeg (((upd (upd (M_s o1.2) (68 : Int32).toNatClampNeg (((M_s o1.2) (68 : Int32).toNatClampNeg) + (1 : Int32))) (69 : Int32).toNatClampNeg (((upd (M_s o1.2) (68 : Int32).toNatClampNeg (((M_s o1.2) (68 : Int32).toNatClampNeg) + (1 : Int32))) (69 : Int32).toNatClampNeg) + s36)) (65 : Int32).toNatClampNeg) + s55)) (66 : Int32).toNatClampNeg) - s74)) (61 : Int32).toNatClampNeg s105) ((91 : Int32) + o1.1).toNatClampNeg (((upd (upd (upd (upd (upd (M_s o1.2) (68 : Int32).toNatClampNeg (((M_s o1.2) (68 : Int32).toNatClampNeg) + (1 : Int32))) (69 : Int32).toNatClampNeg (((upd (M_s o1.2) (68 : Int32).toNatClampNeg (((M_s o1.2) (68 : Int32).toNatClampNeg) + (1 : Int32))) (69 : Int32).toNatClampNeg) + s36)) (65 : Int32).toNatClampNeg (((upd (upd (M_s o1.2) (68 : Int32).toNatClampNeg (((M_s o1.2) (68 : Int32).toNatClampNeg) + (1 : Int32))) (69 : Int32).toNatClampNeg (((upd (M_s o1.2) (68 : Int32).toNatClampNeg (((M_s o1.2) (68 : Int32).toNatClampNeg) + (1 : Int32))) (69 : Int32).toNatClampNeg) + s36)) (65 : Int32).toNatClampNeg) + s55)) (66 : Int32).toNatClampNeg (((upd (upd (upd (M_s o1.2) (68 : Int32).toNatClampNeg (((M_s o1.2) (68 : Int32).toNatClampNeg) + (1 : Int32))) (69 : Int32).toNatClampNeg (((upd (M_s o1.2) (68 : Int32).toNatClampNeg (((M_s o1.2) (68 : Int32).toNatClampNeg) + (1 : Int32))) (69 : Int32).toNatClampNeg) + s36)) (65 : Int32).toNatClampNeg (((upd (upd (M_s o1.2) (68 : Int32).toNatClampNeg (((M_s o1.2) (68 : Int32).toNatClampNeg) + (1 : Int32))) (69 : Int32).toNatClampNeg (((upd (M_s o1.2) (68 : Int32).toNatClampNeg (((M_s o1.2) (68 : Int32).toNatClampNeg) + (1 : Int32))) (69 : Int32).toNatClampNeg) + s36)) (65 : Int32).toNatClampNeg) + s55)) (66 : Int32).toNatClampNeg) - s74)) (61 : Int32).toNatClampNeg s105) ((91 : Int32) + o1.1).toNatClampNeg) + (1 : Int32))) (70 : Int32).toNatClampNeg) = (12 : Int32) then lpN (fun (s133 : Int32 × MV) (k133 : (Int32 × MV) → Option (Int32 × MV)) => (if (11 : Int32) ≤ s133.1 then j176 (M_set_s s133.2 (upd (M_s s133.2) (70 : Int32).toNatClampNeg (((M_s s133.2) (70 : Int32).toNatClampNeg) - (1 : Int32)))) else gd (ixok (((71 : Int32) + s133.1) + (1 : Int32)) 103) (gd (ixok ((71 : Int32) + s133.1) 103) (k133 ((s133.1 + (1 : Int32)), (M_set_s s133.2 (upd (M_s s133.2) ((71 : Int32) + s133.1).toNatClampNeg ((M_s s133.2) (((71 : Int32) + s133.1) + (1 : Int32)).toNatClampNeg)))))))) N ((0 : Int32), (M_set_s o1.2 (upd (upd (upd (upd (upd (upd (M_s o1.2) (68 : Int32).toNatClampNeg (((M_s o1.2) (68 : Int32).toNatClampNeg) + (1 : Int32))) (69 : Int32).toNatClampNeg (((upd (M_s o1.2) (68 : Int32).toNatClampNeg (((M_s o1.2) (68 : Int32).toNatClampNeg) + (1 : Int32))) (69 : Int32).toNatClampNeg) + s36)) (65 : Int32).toNatClampNeg (((upd (upd (M_s o1.2) (68 : Int32).toNatClampNeg (((M_s o1.2) (68 : Int32).toNatClampNeg) + (1 : Int32))) (69 : Int32).toNatClampNeg (((upd (M_s o1.2) (68 : Int32).toNatClampNeg (((M_s o1.2) (68 : Int32).toNatClampNeg) + (1 : Int32))) (69 : Int32).toNatClampNeg) + s36)) (65 : Int32).toNatClampNeg) + s55)) (66 : Int32).toNatClampNeg (((upd (upd (upd (M_s o1.2) (68 : Int32).toNatClampNeg (((M_s o1.2) (68 : Int32).toNatClampNeg) + (1 : Int32))) (69 : Int32).toNatClampNeg (((upd (M_s o1.2) (68 : Int32).toNatClampNeg (((M_s o1.2) (68 : Int32).toNatClampNeg) + (1 : Int32))) (69 : Int32).toNatClampNeg) + s36)) (65 : Int32).toNatClampNeg (((upd (upd (M_s o1.2) (68 : Int32).toNatClampNeg (((M_s o1.2) (68 : Int32).toNatClampNeg) + (1 : Int32))) (69 : Int32).toNatClampNeg (((upd (M_s o1.2) (68 : Int32).toNatClampNeg (((M_s o1.2) (68 : Int32).toNatClampNeg) + (1 : Int32))) (69 : Int32).toNatClampNeg) + s36)) (65 : Int32).toNatClampNeg) + s55)) (66 : Int32).toNatClampNeg) - s74)) (61 : Int32).toNatClampNeg s105) ((91 : Int32) + o1.1).toNatClampNeg (((upd (upd (upd (upd (upd (M_s o1.2) (68 : Int32).toNatClampNeg (((M_s o1.2) (68 : Int32).toNatClampNeg) + (1 : Int32))) (69 : Int32).toNatClampNeg (((upd (M_s o1.2) (68 : Int32).toNatClampNeg (((M_s o1.2) (68 : Int32).toNatClampNeg) + (1 : Int32))) (69 : Int32).toNatClampNeg) + s36)) (65 : Int32).toNatClampNeg (((upd (upd (M_s o1.2) (68 : Int32).toNatClampNeg (((M_s o1.2) (68 : Int32).toNatClampNeg) + (1 : Int32))) (69 : Int32).toNatClampNeg (((upd (M_s o1.2) (68 : Int32).toNatClampNeg (((M_s o1.2) (68 : Int32).toNatClampNeg) + (1 : Int32))) (69 : Int32).toNatClampNeg) + s36)) (65 : Int32).toNatClampNeg) + s55)) (66 : Int32).toNatClampNeg (((upd (upd (upd (M_s o1.2) (68 : Int32).toNatClampNeg (((M_s o1.2) (68 : Int32).toNatClampNeg) + (1 : Int32))) (69 : Int32).toNatClampNeg (((upd (M_s o1.2) (68 : Int32).toNatClampNeg (((M_s o1.2) (68 : Int32).toNatClampNeg) + (1 : Int32))) (69 : Int32).toNatClampNeg) + s36)) (65 : Int32).toNatClampNeg (((upd (upd (M_s o1.2) (68 : Int32).toNatClampNeg (((M_s o1.2) (68 : Int32).toNatClampNeg) + (1 : Int32))) (69 : Int32).toNatClampNeg (((upd (M_s o1.2) (68 : Int32).toNatClampNeg (((M_s o1.2) (68 : Int32).toNatClampNeg) + (1 : Int32))) (69 : Int32).toNatClampNeg) + s36)) (65 : Int32).toNatClampNeg) + s55)) (66 : Int32).toNatClampNeg) - s74)) (61 : Int32).toNatClampNeg s105) ((91 : Int32) + o1.1).toNatClampNeg) + (1 : Int32))))) else j176 (M_set_s o1.2 (upd (upd (upd (upd (upd (upd (M_s o1.2) (68 : Int32).toNatClampNeg (((M_s o1.2) (68 : Int32).toNatClampNeg) + (1 : Int32))) (69 : Int32).toNatClampNeg (((upd (M_s o1.2) (68 : Int32).toNatClampNeg (((M_s o1.2) (68 : Int32).toNatClampNeg) + (1 : Int32))) (69 : Int32).toNatClampNeg) + s36)) (65 : Int32).toNatClampNeg (((upd (upd (M_s o1.2) (68 : Int32).toNatClampNeg (((M_s o1.2) (68 : Int32).toNatClampNeg) + (1 : Int32))) (69 : Int32).toNatClampNeg (((upd (M_s o1.2) (68 : Int32).toNatClampNeg (((M_s o1.2) (68 : Int32).toNatClampNeg) + (1 : Int32))) (69 : Int32).toNatClampNeg) + s36)) (65 : Int32).toNatClampNeg) + s55)) (66 : Int32).toNatClampNeg (((upd (upd (upd (M_s o1.2) (68 : Int32).toNatClampNeg (((M_s o1.2) (68 : Int32).toNatClampNeg) + (1 : Int32))) (69 : Int32).toNatClampNeg (((upd (M_s o1.2) (68 : Int32).toNatClampNeg (((M_s o1.2) (68 : Int32).toNatClampNeg) + (1 : Int32))) (69 : Int32).toNatClampNeg) + s36)) (65 : Int32).toNatClampNeg (((upd (upd (M_s o1.2) (68 : Int32).toNatClampNeg (((M_s o1.2) (68 : Int32).toNatClampNeg) + (1 : Int32))) (69 : Int32).toNatClampNeg (((upd (M_s o1.2) (68 : Int32).toNatClampNeg (((M_s o1.2) (68 : Int32).toNatClampNeg) + (1 : Int32))) (69 : Int32).toNatClampNeg) + s36)) (65 : Int32).toNatClampNeg) + s55)) (66 : Int32).toNatClampNeg) - s74)) (61 : Int32).toNatClampNeg s105) ((91 : Int32) + o1.1).toNatClampNeg (((upd (upd (upd (upd (upd (M_s o1.2) (68 : Int32).toNatClampNeg (((M_s o1.2) (68 : Int32).toNatClampNeg) + (1 : Int32))) (69 : Int32).toNatClampNeg (((upd (M_s o1.2) (68 : Int32).toNatClampNeg (((M_s o1.2) (68 : Int32).toNatClampNeg) + (1 : Int32))) (69 : Int32).toNatClampNeg) + s36)) (65 : Int32).toNatClampNeg (((upd (upd (M_s o1.2) (68 : Int32).toNatClampNeg (((M_s o1.2) (68 : Int32).toNatClampNeg) + (1 : Int32))) (69 : Int32).toNatClampNeg (((upd (M_s o1.2) (68 : Int32).toNatClampNeg (((M_s o1.2) (68 : Int32).toNatClampNeg) + (1 : Int32))) (69 : Int32).toNatClampNeg) + s36)) (65 : Int32).toNatClampNeg) + s55)) (66 : Int32).toNatClampNeg (((upd (upd (upd (M_s o1.2) (68 : Int32).toNatClampNeg (((M_s o1.2) (68 : Int32).toNatClampNeg) + (1 : Int32))) (69 : Int32).toNatClampNeg (((upd (M_s o1.2) (68 : Int32).toNatClampNeg (((M_s o1.2) (68 : Int32).toNatClampNeg) + (1 : Int32))) (69 : Int32).toNatClampNeg) + s36)) (65 : Int32).toNatClampNeg (((upd (upd (M_s o1.2) (68 : Int32).toNatClampNeg (((M_s o1.2) (68 : Int32).toNatClampNeg) + (1 : Int32))) (69 : Int32).toNatClampNeg (((upd (M_s o1.2) (68 : Int32).toNatClampNeg (((M_s o1.2) (68 : Int32).toNatClampNeg) + (1 : Int32))) (69 : Int32).toNatClampNeg) + s36)) (65 : Int32).toNatClampNeg) + s55)) (66 : Int32).toNatClampNeg) - s74)) (61 : Int32).toNatClampNeg s105) ((91 : Int32) + o1.1).toNatClampNeg) + (1 : Int32))))))))) (fun (j105 : (Int32) → Option (Int32 × MV)) => (if o1.1 = 0 then j105 ((upd (upd (upd (upd (M_s o1.2) (68 : Int32).toNatClampNeg (((M_s o1.2) (68 : Int32).toNatClampNeg) + (1 : Int32))) (69 : Int32).toNatClampNeg (((upd (M_s o1.2) (68 : Int32).toNatClampNeg (((M_s o1.2) (68 : Int32).toNatClampNeg) + (1 : Int32))) (69 : Int32).toNatClampNeg) + s36)) (65 : Int32).toNatClampNeg (((upd (upd (M_s o1.2) (68 : Int32).toNatClampNeg (((M_s o1.2) (68 : Int32).toNatClampNeg) + (1 : Int32))) (69 : Int32).toNatClampNeg (((upd (M_s o1.2) (68 : Int32).toNatClampNeg (((M_s o1.2) (68 : Int32).toNatClampNeg) + (1 : Int32))) (69 : Int32).toNatClampNeg) + s36)) (65 : Int32).toNatClampNeg) + s55)) (66 : Int32).toNatClampNeg (((upd (upd (upd (M_s o1.2) (68 : Int32).toNatClampNeg (((M_s o1.2) (68 : Int32).toNatClampNeg) + (1 : Int32))) (69 : Int32).toNatClampNeg (((upd (M_s o1.2) (68 : Int32).toNatClampNeg (((M_s o1.2) (68 : Int32).toNatClampNeg) + (1 : Int32))) (69 : Int32).toNatClampNeg) + s36)) (65 : Int32).toNatClampNeg (((upd (upd (M_s o1.2) (68 : Int32).toNatClampNeg (((M_s o1.2) (68 : Int32).toNatClampNeg) + (1 : Int32))) (69 : Int32).toNatClampNeg (((upd (M_s o1.2) (68 : Int32).toNatClampNeg (((M_s o1.2) (68 : Int32).toNatClampNeg) + (1 : Int32))) (69 : Int32).toNatClampNeg) + s36)) (65 : Int32).toNatClampNeg) + s55)) (66 : Int32).toNatClampNeg) - s74)) (61 : Int32).toNatClampNeg) else (if o1.1 ≤ 0 then j105 (1 : Int32) else j105 (0 : Int32))))) (fun (j74 : (Int32) → Option (Int32 × MV)) => (if 0 ≤ o1.1 then j74 (0 : Int32) else j74 o1.1))) (fun (j55 : (Int32) → Option (Int32 × MV)) => (if o1.1 ≤ 0 then j55 (0 : Int32) else j55 o1.1))) (fun (j36 : (Int32) → Option (Int32 × MV)) => (if o6 = 0 then j36 (0 : Int32) else j36 (1 : Int32)))))
set_option maxHeartbeats 4000000 in
set_option maxRecDepth 100000 in
theorem met_X6_counts (l : Launch) (dC : Nat → ClassId) (dI : Nat → Nat → Nat) (cyI cyO cyL : ClassId) (a : Nat → Nat) (sz : Nat) (N : Nat) (v : MV) (out : Int32 × MV) (hF : f_X6_counts N v = some out) : Met l yX6_counts (Cond.code yX6_counts cX6_counts 3 (some .int) :: wT) ({ frames := 4, cells := 0, slots := 0, locals := 92 } : Room) (wWr dC dI cyI cyO cyL [.ref (a 0)] (cM cyI a v) sz) (va_Qi (fun (r : Int32) (u : MV) => (r, u) = out) (fun u t => va_P (dC, dI) vwCl (cM cyI a u) t.heap ∧ va_D (va_A (cM cyI a v) sz) (cM cyI a u)) (va_A (cM cyI a v) sz)) 0 0 (va_A (cM cyI a v) sz) := by
  refine Met.ofW (cc := cX6_counts) (maxL := 3) (ret := (some .int)) (by decide) rfl ?_
  intro p e s m args below meth c s₁ B hml hv
  obtain ⟨rfl, hsz, hP, hK, hD0⟩ := hv
  have hx := B.exec
  have hb := B.bytes
  have hr := B.returns
  have hts0 := atoms_spec (ws := (Cond.code yX6_counts cX6_counts 3 (some .int) :: wT)) B.pre
  have hts := fun w h => hts0 w (List.mem_cons_of_mem _ h)
  clear hts0
  have hown : s.vm.findClass RX6 = some m.cls := findClass_of_methodNamed B.named
  have hlocks := B.notSynchronized
  subst hsz
  have hD := hD0.self (sz := s.heap.size)
  generalize hAe : va_A (cM cyI a v) s.heap.size = A at hD ⊢
  have hA : ∀ q : Nat, s.heap.size ≤ q → A q := fun q h => by rw [← hAe]; exact Or.inr h
  clear hD0
  have hS : va_S A s.heap s.heap [] := va_S.rf
  have hl := lv_entry [.ref (a 0)] (n := 3) (Nat.le_of_ble_eq_true rfl)
  rw [lg_entry_eq]
  generalize (lg_sl [.ref (a 0)] ++ List.replicate (3 - (lg_sl [.ref (a 0)]).length) Slot.unset).toArray = ls at hl ⊢
  have hl : lv_has ls 3 [(0, .ref (a 0))] := hl
  unfold f_X6_counts at hF
  refine lv_aload_n hx hb dX6_counts_0 rfl (lv_at hl 0 rfl) ?_
  obtain ⟨o1, h2, hF⟩ := obd hF
  refine wcWVi (As := []) (rest := []) (wr := []) (b := (a 0)) ⟨hx, hb, hml, hown, hts⟩ (met_X6_score l dC dI cyI cyO cyL a _ N v  o1 h2) (cwV 0 hts (gV w_methodLink_X6_94 w_instanceMethod_X6_score w_selects_X6_score w_initialized_X6 w_code_X6_score) rfl rfl rfl (by decide +kernel) ⟨Nat.le_of_ble_eq_true rfl, Nat.le_of_ble_eq_true rfl⟩) (va_recv hK.1 hP (ci := 6) (q0 := 0) rfl rfl) hP hD hK [0, 1, 2, 3, 4, 5, 6, 7] [] rfl rfl (by decide) (by decide) (by decide) rfl hl.1 (Nat.le_of_ble_eq_true rfl) dX6_counts_1 ⟨Nat.le_of_ble_eq_true rfl, Nat.le_of_ble_eq_true rfl⟩ hS hA (fun r u H locs hw hP hD hS => ?_)
  obtain rfl : r = o1.1 := congrArg Prod.fst hw
  obtain rfl : u = o1.2 := congrArg Prod.snd hw
  clear hw
  have hP : va_P (dC, dI) vwCl (cM cyI a o1.2) H := hP
  have hD : va_D A (cM cyI a o1.2) := hD
  refine lv_istore_n (lv' := [(1, .int o1.1), (0, .ref (a 0))]) hx hb dX6_counts_4 rfl hl (by decide) rfl (fun ls hl => ?_)
  refine lv_aload_n hx hb dX6_counts_5 rfl (lv_at hl 1 rfl) ?_
  refine va_get (D := (dC, dI)) (ci := 6) (v := .ref (a 1)) (C := RX6) (T := TX6) (N := 23) hx hb hts inX6 hown hK.1 hP 0 rfl rfl 1 (by decide) (hts _ w_fieldLink_X6_7) (fun _ h9 => h9) rfl dX6_counts_6 ?_
  refine lv_bipush (v := 68) hx hb dX6_counts_9 (by decide) ?_
  refine lv_dup2_11 hx hb dX6_counts_11 rfl rfl ?_
  refine va_iald hx hb hK.1 hP 1 0 rfl rfl (i := (68 : Int32)) (show ixok (68 : Int32) 103 by decide) dX6_counts_12 ?_
  refine lv_iconst (v := 1) hx hb dX6_counts_13 (by decide) ?_
  refine lv_iadd hx hb dX6_counts_14 ?_
  refine va_iast hx hb hK.1 hP hD hS 1 0 rfl rfl (i := (68 : Int32)) (x := (((M_s o1.2) (68 : Int32).toNatClampNeg) + (1 : Int32))) (show ixok (68 : Int32) 103 by decide) dX6_counts_15 (fun H locs hP hD hS => ?_)
  have hP : va_P (dC, dI) vwCl (cM cyI a (M_set_s o1.2 (upd (M_s o1.2) (68 : Int32).toNatClampNeg (((M_s o1.2) (68 : Int32).toNatClampNeg) + (1 : Int32))))) H := hP
  have hD : va_D A (cM cyI a (M_set_s o1.2 (upd (M_s o1.2) (68 : Int32).toNatClampNeg (((M_s o1.2) (68 : Int32).toNatClampNeg) + (1 : Int32))))) := hD
  refine lv_aload_n hx hb dX6_counts_16 rfl (lv_at hl 1 rfl) ?_
  refine va_get (D := (dC, dI)) (ci := 6) (v := .ref (a 1)) (C := RX6) (T := TX6) (N := 23) hx hb hts inX6 hown hK.1 hP 0 rfl rfl 1 (by decide) (hts _ w_fieldLink_X6_7) (fun _ h9 => h9) rfl dX6_counts_17 ?_
  refine lv_bipush (v := 69) hx hb dX6_counts_20 (by decide) ?_
  refine lv_dup2_11 hx hb dX6_counts_22 rfl rfl ?_
  refine va_iald hx hb hK.1 hP 1 0 rfl rfl (i := (69 : Int32)) (show ixok (69 : Int32) 103 by decide) dX6_counts_23 ?_
  refine lv_aload_n hx hb dX6_counts_24 rfl (lv_at hl 1 rfl) ?_
  obtain ⟨o6, h7, hF⟩ := obd hF
  refine wcRVi (As := []) (rest := [.int ((upd (M_s o1.2) (68 : Int32).toNatClampNeg (((M_s o1.2) (68 : Int32).toNatClampNeg) + (1 : Int32))) (69 : Int32).toNatClampNeg), .int (69 : Int32), .ref (a 1)]) (b := (a 0)) ⟨hx, hb, hml, hown, hts⟩ (met_X6_isBurntNow l dC dI cyI cyO cyL a N (M_set_s o1.2 (upd (M_s o1.2) (68 : Int32).toNatClampNeg (((M_s o1.2) (68 : Int32).toNatClampNeg) + (1 : Int32))))  o6 h7) (cwV 0 hts (gV w_methodLink_X6_67 w_instanceMethod_X6_isBurntNow w_selects_X6_isBurntNow w_initialized_X6 w_code_X6_isBurntNow) rfl rfl rfl (by decide +kernel) ⟨Nat.le_of_ble_eq_true rfl, Nat.le_of_ble_eq_true rfl⟩) (va_recv hK.1 hP (ci := 6) (q0 := 0) rfl rfl) hP hK [0, 1, 2, 3, 4, 5, 6, 7] rfl rfl hl.1 (Nat.le_of_ble_eq_true rfl) dX6_counts_25 ⟨Nat.le_of_ble_eq_true rfl, Nat.le_of_ble_eq_true rfl⟩ hS (fun r H locs hw hP hS => ?_)
  obtain ⟨hw, hz8⟩ := hw
  have hw := hw.symm
  subst hw
  obtain ⟨j36, hj36, hF⟩ := jn_use hF
  have hJ36 : ∀ (s36 : Int32) (H : Heap) (locs : List Loc) (ls : Array Slot) (hz_36_s3 : b01 s36), va_P (dC, dI) vwCl (cM cyI a (M_set_s o1.2 (upd (M_s o1.2) (68 : Int32).toNatClampNeg (((M_s o1.2) (68 : Int32).toNatClampNeg) + (1 : Int32))))) H → va_D A (cM cyI a (M_set_s o1.2 (upd (M_s o1.2) (68 : Int32).toNatClampNeg (((M_s o1.2) (68 : Int32).toNatClampNeg) + (1 : Int32))))) → va_S A s.heap H locs → lv_has ls 3 [(0, .ref (a 0)), (1, .int o1.1)] → j36 s36 = some out → W p l e (headSpec (Cond.code yX6_counts cX6_counts 3 (some .int) :: wT) ({ frames := 4, cells := 0, slots := 0, locals := 92 } : Room)).room s m ([.ref (a 0)] : List Value).toArray below meth c H locs 0 0 (MQ below (va_Qi (fun (r : Int32) (u : MV) => (r, u) = out) (fun u t => va_P (dC, dI) vwCl (cM cyI a u) t.heap ∧ va_D A (cM cyI a u)) A) ([.ref (a 0)] : List Value).toArray s 0 0 A) (F0 m 36 ls [.int s36, .int ((upd (M_s o1.2) (68 : Int32).toNatClampNeg (((M_s o1.2) (68 : Int32).toNatClampNeg) + (1 : Int32))) (69 : Int32).toNatClampNeg), .int (69 : Int32), .ref (a 1)]) := by
    intro s36 H locs ls hz_36_s3 hP hD hS hl hF
    have hF := (congrFun hj36 s36).symm.trans hF
    refine lv_iadd hx hb dX6_counts_36 ?_
    refine va_iast hx hb hK.1 hP hD hS 1 0 rfl rfl (i := (69 : Int32)) (x := (((upd (M_s o1.2) (68 : Int32).toNatClampNeg (((M_s o1.2) (68 : Int32).toNatClampNeg) + (1 : Int32))) (69 : Int32).toNatClampNeg) + s36)) (show ixok (69 : Int32) 103 by decide) dX6_counts_37 (fun H locs hP hD hS => ?_)
    have hP : va_P (dC, dI) vwCl (cM cyI a (M_set_s o1.2 (upd (upd (M_s o1.2) (68 : Int32).toNatClampNeg (((M_s o1.2) (68 : Int32).toNatClampNeg) + (1 : Int32))) (69 : Int32).toNatClampNeg (((upd (M_s o1.2) (68 : Int32).toNatClampNeg (((M_s o1.2) (68 : Int32).toNatClampNeg) + (1 : Int32))) (69 : Int32).toNatClampNeg) + s36)))) H := hP
    have hD : va_D A (cM cyI a (M_set_s o1.2 (upd (upd (M_s o1.2) (68 : Int32).toNatClampNeg (((M_s o1.2) (68 : Int32).toNatClampNeg) + (1 : Int32))) (69 : Int32).toNatClampNeg (((upd (M_s o1.2) (68 : Int32).toNatClampNeg (((M_s o1.2) (68 : Int32).toNatClampNeg) + (1 : Int32))) (69 : Int32).toNatClampNeg) + s36)))) := hD
    refine lv_aload_n hx hb dX6_counts_38 rfl (lv_at hl 0 rfl) ?_
    refine va_get (D := (dC, dI)) (ci := 6) (v := .ref (a 1)) (C := RX6) (T := TX6) (N := 23) hx hb hts inX6 hown hK.1 hP 0 rfl rfl 1 (by decide) (hts _ w_fieldLink_X6_7) (fun _ h9 => h9) rfl dX6_counts_39 ?_
    refine lv_bipush (v := 65) hx hb dX6_counts_42 (by decide) ?_
    refine lv_dup2_11 hx hb dX6_counts_44 rfl rfl ?_
    refine va_iald hx hb hK.1 hP 1 0 rfl rfl (i := (65 : Int32)) (show ixok (65 : Int32) 103 by decide) dX6_counts_45 ?_
    refine lv_iload_n hx hb dX6_counts_46 rfl (lv_at hl 1 rfl) ?_
    obtain ⟨j55, hj55, hF⟩ := jn_use hF
    have hJ55 : ∀ (s55 : Int32) (H : Heap) (locs : List Loc) (ls : Array Slot), va_P (dC, dI) vwCl (cM cyI a (M_set_s o1.2 (upd (upd (M_s o1.2) (68 : Int32).toNatClampNeg (((M_s o1.2) (68 : Int32).toNatClampNeg) + (1 : Int32))) (69 : Int32).toNatClampNeg (((upd (M_s o1.2) (68 : Int32).toNatClampNeg (((M_s o1.2) (68 : Int32).toNatClampNeg) + (1 : Int32))) (69 : Int32).toNatClampNeg) + s36)))) H → va_D A (cM cyI a (M_set_s o1.2 (upd (upd (M_s o1.2) (68 : Int32).toNatClampNeg (((M_s o1.2) (68 : Int32).toNatClampNeg) + (1 : Int32))) (69 : Int32).toNatClampNeg (((upd (M_s o1.2) (68 : Int32).toNatClampNeg (((M_s o1.2) (68 : Int32).toNatClampNeg) + (1 : Int32))) (69 : Int32).toNatClampNeg) + s36)))) → va_S A s.heap H locs → lv_has ls 3 [(0, .ref (a 0)), (1, .int o1.1)] → j55 s55 = some out → W p l e (headSpec (Cond.code yX6_counts cX6_counts 3 (some .int) :: wT) ({ frames := 4, cells := 0, slots := 0, locals := 92 } : Room)).room s m ([.ref (a 0)] : List Value).toArray below meth c H locs 0 0 (MQ below (va_Qi (fun (r : Int32) (u : MV) => (r, u) = out) (fun u t => va_P (dC, dI) vwCl (cM cyI a u) t.heap ∧ va_D A (cM cyI a u)) A) ([.ref (a 0)] : List Value).toArray s 0 0 A) (F0 m 55 ls [.int s55, .int ((upd (upd (M_s o1.2) (68 : Int32).toNatClampNeg (((M_s o1.2) (68 : Int32).toNatClampNeg) + (1 : Int32))) (69 : Int32).toNatClampNeg (((upd (M_s o1.2) (68 : Int32).toNatClampNeg (((M_s o1.2) (68 : Int32).toNatClampNeg) + (1 : Int32))) (69 : Int32).toNatClampNeg) + s36)) (65 : Int32).toNatClampNeg), .int (65 : Int32), .ref (a 1)]) := by
      intro s55 H locs ls hP hD hS hl hF
      have hF := (congrFun hj55 s55).symm.trans hF
      refine lv_iadd hx hb dX6_counts_55 ?_
      refine va_iast hx hb hK.1 hP hD hS 1 0 rfl rfl (i := (65 : Int32)) (x := (((upd (upd (M_s o1.2) (68 : Int32).toNatClampNeg (((M_s o1.2) (68 : Int32).toNatClampNeg) + (1 : Int32))) (69 : Int32).toNatClampNeg (((upd (M_s o1.2) (68 : Int32).toNatClampNeg (((M_s o1.2) (68 : Int32).toNatClampNeg) + (1 : Int32))) (69 : Int32).toNatClampNeg) + s36)) (65 : Int32).toNatClampNeg) + s55)) (show ixok (65 : Int32) 103 by decide) dX6_counts_56 (fun H locs hP hD hS => ?_)
      have hP : va_P (dC, dI) vwCl (cM cyI a (M_set_s o1.2 (upd (upd (upd (M_s o1.2) (68 : Int32).toNatClampNeg (((M_s o1.2) (68 : Int32).toNatClampNeg) + (1 : Int32))) (69 : Int32).toNatClampNeg (((upd (M_s o1.2) (68 : Int32).toNatClampNeg (((M_s o1.2) (68 : Int32).toNatClampNeg) + (1 : Int32))) (69 : Int32).toNatClampNeg) + s36)) (65 : Int32).toNatClampNeg (((upd (upd (M_s o1.2) (68 : Int32).toNatClampNeg (((M_s o1.2) (68 : Int32).toNatClampNeg) + (1 : Int32))) (69 : Int32).toNatClampNeg (((upd (M_s o1.2) (68 : Int32).toNatClampNeg (((M_s o1.2) (68 : Int32).toNatClampNeg) + (1 : Int32))) (69 : Int32).toNatClampNeg) + s36)) (65 : Int32).toNatClampNeg) + s55)))) H := hP
      have hD : va_D A (cM cyI a (M_set_s o1.2 (upd (upd (upd (M_s o1.2) (68 : Int32).toNatClampNeg (((M_s o1.2) (68 : Int32).toNatClampNeg) + (1 : Int32))) (69 : Int32).toNatClampNeg (((upd (M_s o1.2) (68 : Int32).toNatClampNeg (((M_s o1.2) (68 : Int32).toNatClampNeg) + (1 : Int32))) (69 : Int32).toNatClampNeg) + s36)) (65 : Int32).toNatClampNeg (((upd (upd (M_s o1.2) (68 : Int32).toNatClampNeg (((M_s o1.2) (68 : Int32).toNatClampNeg) + (1 : Int32))) (69 : Int32).toNatClampNeg (((upd (M_s o1.2) (68 : Int32).toNatClampNeg (((M_s o1.2) (68 : Int32).toNatClampNeg) + (1 : Int32))) (69 : Int32).toNatClampNeg) + s36)) (65 : Int32).toNatClampNeg) + s55)))) := hD
      refine lv_aload_n hx hb dX6_counts_57 rfl (lv_at hl 0 rfl) ?_
      refine va_get (D := (dC, dI)) (ci := 6) (v := .ref (a 1)) (C := RX6) (T := TX6) (N := 23) hx hb hts inX6 hown hK.1 hP 0 rfl rfl 1 (by decide) (hts _ w_fieldLink_X6_7) (fun _ h9 => h9) rfl dX6_counts_58 ?_
      refine lv_bipush (v := 66) hx hb dX6_counts_61 (by decide) ?_
      refine lv_dup2_11 hx hb dX6_counts_63 rfl rfl ?_
      refine va_iald hx hb hK.1 hP 1 0 rfl rfl (i := (66 : Int32)) (show ixok (66 : Int32) 103 by decide) dX6_counts_64 ?_
      refine lv_iload_n hx hb dX6_counts_65 rfl (lv_at hl 1 rfl) ?_
      obtain ⟨j74, hj74, hF⟩ := jn_use hF
      have hJ74 : ∀ (s74 : Int32) (H : Heap) (locs : List Loc) (ls : Array Slot), va_P (dC, dI) vwCl (cM cyI a (M_set_s o1.2 (upd (upd (upd (M_s o1.2) (68 : Int32).toNatClampNeg (((M_s o1.2) (68 : Int32).toNatClampNeg) + (1 : Int32))) (69 : Int32).toNatClampNeg (((upd (M_s o1.2) (68 : Int32).toNatClampNeg (((M_s o1.2) (68 : Int32).toNatClampNeg) + (1 : Int32))) (69 : Int32).toNatClampNeg) + s36)) (65 : Int32).toNatClampNeg (((upd (upd (M_s o1.2) (68 : Int32).toNatClampNeg (((M_s o1.2) (68 : Int32).toNatClampNeg) + (1 : Int32))) (69 : Int32).toNatClampNeg (((upd (M_s o1.2) (68 : Int32).toNatClampNeg (((M_s o1.2) (68 : Int32).toNatClampNeg) + (1 : Int32))) (69 : Int32).toNatClampNeg) + s36)) (65 : Int32).toNatClampNeg) + s55)))) H → va_D A (cM cyI a (M_set_s o1.2 (upd (upd (upd (M_s o1.2) (68 : Int32).toNatClampNeg (((M_s o1.2) (68 : Int32).toNatClampNeg) + (1 : Int32))) (69 : Int32).toNatClampNeg (((upd (M_s o1.2) (68 : Int32).toNatClampNeg (((M_s o1.2) (68 : Int32).toNatClampNeg) + (1 : Int32))) (69 : Int32).toNatClampNeg) + s36)) (65 : Int32).toNatClampNeg (((upd (upd (M_s o1.2) (68 : Int32).toNatClampNeg (((M_s o1.2) (68 : Int32).toNatClampNeg) + (1 : Int32))) (69 : Int32).toNatClampNeg (((upd (M_s o1.2) (68 : Int32).toNatClampNeg (((M_s o1.2) (68 : Int32).toNatClampNeg) + (1 : Int32))) (69 : Int32).toNatClampNeg) + s36)) (65 : Int32).toNatClampNeg) + s55)))) → va_S A s.heap H locs → lv_has ls 3 [(0, .ref (a 0)), (1, .int o1.1)] → j74 s74 = some out → W p l e (headSpec (Cond.code yX6_counts cX6_counts 3 (some .int) :: wT) ({ frames := 4, cells := 0, slots := 0, locals := 92 } : Room)).room s m ([.ref (a 0)] : List Value).toArray below meth c H locs 0 0 (MQ below (va_Qi (fun (r : Int32) (u : MV) => (r, u) = out) (fun u t => va_P (dC, dI) vwCl (cM cyI a u) t.heap ∧ va_D A (cM cyI a u)) A) ([.ref (a 0)] : List Value).toArray s 0 0 A) (F0 m 74 ls [.int s74, .int ((upd (upd (upd (M_s o1.2) (68 : Int32).toNatClampNeg (((M_s o1.2) (68 : Int32).toNatClampNeg) + (1 : Int32))) (69 : Int32).toNatClampNeg (((upd (M_s o1.2) (68 : Int32).toNatClampNeg (((M_s o1.2) (68 : Int32).toNatClampNeg) + (1 : Int32))) (69 : Int32).toNatClampNeg) + s36)) (65 : Int32).toNatClampNeg (((upd (upd (M_s o1.2) (68 : Int32).toNatClampNeg (((M_s o1.2) (68 : Int32).toNatClampNeg) + (1 : Int32))) (69 : Int32).toNatClampNeg (((upd (M_s o1.2) (68 : Int32).toNatClampNeg (((M_s o1.2) (68 : Int32).toNatClampNeg) + (1 : Int32))) (69 : Int32).toNatClampNeg) + s36)) (65 : Int32).toNatClampNeg) + s55)) (66 : Int32).toNatClampNeg), .int (66 : Int32), .ref (a 1)]) := by
        intro s74 H locs ls hP hD hS hl hF
        have hF := (congrFun hj74 s74).symm.trans hF
        refine lv_isub hx hb dX6_counts_74 ?_
        refine va_iast hx hb hK.1 hP hD hS 1 0 rfl rfl (i := (66 : Int32)) (x := (((upd (upd (upd (M_s o1.2) (68 : Int32).toNatClampNeg (((M_s o1.2) (68 : Int32).toNatClampNeg) + (1 : Int32))) (69 : Int32).toNatClampNeg (((upd (M_s o1.2) (68 : Int32).toNatClampNeg (((M_s o1.2) (68 : Int32).toNatClampNeg) + (1 : Int32))) (69 : Int32).toNatClampNeg) + s36)) (65 : Int32).toNatClampNeg (((upd (upd (M_s o1.2) (68 : Int32).toNatClampNeg (((M_s o1.2) (68 : Int32).toNatClampNeg) + (1 : Int32))) (69 : Int32).toNatClampNeg (((upd (M_s o1.2) (68 : Int32).toNatClampNeg (((M_s o1.2) (68 : Int32).toNatClampNeg) + (1 : Int32))) (69 : Int32).toNatClampNeg) + s36)) (65 : Int32).toNatClampNeg) + s55)) (66 : Int32).toNatClampNeg) - s74)) (show ixok (66 : Int32) 103 by decide) dX6_counts_75 (fun H locs hP hD hS => ?_)
        have hP : va_P (dC, dI) vwCl (cM cyI a (M_set_s o1.2 (upd (upd (upd (upd (M_s o1.2) (68 : Int32).toNatClampNeg (((M_s o1.2) (68 : Int32).toNatClampNeg) + (1 : Int32))) (69 : Int32).toNatClampNeg (((upd (M_s o1.2) (68 : Int32).toNatClampNeg (((M_s o1.2) (68 : Int32).toNatClampNeg) + (1 : Int32))) (69 : Int32).toNatClampNeg) + s36)) (65 : Int32).toNatClampNeg (((upd (upd (M_s o1.2) (68 : Int32).toNatClampNeg (((M_s o1.2) (68 : Int32).toNatClampNeg) + (1 : Int32))) (69 : Int32).toNatClampNeg (((upd (M_s o1.2) (68 : Int32).toNatClampNeg (((M_s o1.2) (68 : Int32).toNatClampNeg) + (1 : Int32))) (69 : Int32).toNatClampNeg) + s36)) (65 : Int32).toNatClampNeg) + s55)) (66 : Int32).toNatClampNeg (((upd (upd (upd (M_s o1.2) (68 : Int32).toNatClampNeg (((M_s o1.2) (68 : Int32).toNatClampNeg) + (1 : Int32))) (69 : Int32).toNatClampNeg (((upd (M_s o1.2) (68 : Int32).toNatClampNeg (((M_s o1.2) (68 : Int32).toNatClampNeg) + (1 : Int32))) (69 : Int32).toNatClampNeg) + s36)) (65 : Int32).toNatClampNeg (((upd (upd (M_s o1.2) (68 : Int32).toNatClampNeg (((M_s o1.2) (68 : Int32).toNatClampNeg) + (1 : Int32))) (69 : Int32).toNatClampNeg (((upd (M_s o1.2) (68 : Int32).toNatClampNeg (((M_s o1.2) (68 : Int32).toNatClampNeg) + (1 : Int32))) (69 : Int32).toNatClampNeg) + s36)) (65 : Int32).toNatClampNeg) + s55)) (66 : Int32).toNatClampNeg) - s74)))) H := hP
        have hD : va_D A (cM cyI a (M_set_s o1.2 (upd (upd (upd (upd (M_s o1.2) (68 : Int32).toNatClampNeg (((M_s o1.2) (68 : Int32).toNatClampNeg) + (1 : Int32))) (69 : Int32).toNatClampNeg (((upd (M_s o1.2) (68 : Int32).toNatClampNeg (((M_s o1.2) (68 : Int32).toNatClampNeg) + (1 : Int32))) (69 : Int32).toNatClampNeg) + s36)) (65 : Int32).toNatClampNeg (((upd (upd (M_s o1.2) (68 : Int32).toNatClampNeg (((M_s o1.2) (68 : Int32).toNatClampNeg) + (1 : Int32))) (69 : Int32).toNatClampNeg (((upd (M_s o1.2) (68 : Int32).toNatClampNeg (((M_s o1.2) (68 : Int32).toNatClampNeg) + (1 : Int32))) (69 : Int32).toNatClampNeg) + s36)) (65 : Int32).toNatClampNeg) + s55)) (66 : Int32).toNatClampNeg (((upd (upd (upd (M_s o1.2) (68 : Int32).toNatClampNeg (((M_s o1.2) (68 : Int32).toNatClampNeg) + (1 : Int32))) (69 : Int32).toNatClampNeg (((upd (M_s o1.2) (68 : Int32).toNatClampNeg (((M_s o1.2) (68 : Int32).toNatClampNeg) + (1 : Int32))) (69 : Int32).toNatClampNeg) + s36)) (65 : Int32).toNatClampNeg (((upd (upd (M_s o1.2) (68 : Int32).toNatClampNeg (((M_s o1.2) (68 : Int32).toNatClampNeg) + (1 : Int32))) (69 : Int32).toNatClampNeg (((upd (M_s o1.2) (68 : Int32).toNatClampNeg (((M_s o1.2) (68 : Int32).toNatClampNeg) + (1 : Int32))) (69 : Int32).toNatClampNeg) + s36)) (65 : Int32).toNatClampNeg) + s55)) (66 : Int32).toNatClampNeg) - s74)))) := hD
        refine lv_aload_n hx hb dX6_counts_76 rfl (lv_at hl 0 rfl) ?_
        refine va_get (D := (dC, dI)) (ci := 6) (v := .ref (a 1)) (C := RX6) (T := TX6) (N := 23) hx hb hts inX6 hown hK.1 hP 0 rfl rfl 1 (by decide) (hts _ w_fieldLink_X6_7) (fun _ h9 => h9) rfl dX6_counts_77 ?_
        refine lv_bipush (v := 61) hx hb dX6_counts_80 (by decide) ?_
        refine lv_iload_n hx hb dX6_counts_82 rfl (lv_at hl 1 rfl) ?_
        obtain ⟨j105, hj105, hF⟩ := jn_use hF
        have hJ105 : ∀ (s105 : Int32) (H : Heap) (locs : List Loc) (ls : Array Slot), va_P (dC, dI) vwCl (cM cyI a (M_set_s o1.2 (upd (upd (upd (upd (M_s o1.2) (68 : Int32).toNatClampNeg (((M_s o1.2) (68 : Int32).toNatClampNeg) + (1 : Int32))) (69 : Int32).toNatClampNeg (((upd (M_s o1.2) (68 : Int32).toNatClampNeg (((M_s o1.2) (68 : Int32).toNatClampNeg) + (1 : Int32))) (69 : Int32).toNatClampNeg) + s36)) (65 : Int32).toNatClampNeg (((upd (upd (M_s o1.2) (68 : Int32).toNatClampNeg (((M_s o1.2) (68 : Int32).toNatClampNeg) + (1 : Int32))) (69 : Int32).toNatClampNeg (((upd (M_s o1.2) (68 : Int32).toNatClampNeg (((M_s o1.2) (68 : Int32).toNatClampNeg) + (1 : Int32))) (69 : Int32).toNatClampNeg) + s36)) (65 : Int32).toNatClampNeg) + s55)) (66 : Int32).toNatClampNeg (((upd (upd (upd (M_s o1.2) (68 : Int32).toNatClampNeg (((M_s o1.2) (68 : Int32).toNatClampNeg) + (1 : Int32))) (69 : Int32).toNatClampNeg (((upd (M_s o1.2) (68 : Int32).toNatClampNeg (((M_s o1.2) (68 : Int32).toNatClampNeg) + (1 : Int32))) (69 : Int32).toNatClampNeg) + s36)) (65 : Int32).toNatClampNeg (((upd (upd (M_s o1.2) (68 : Int32).toNatClampNeg (((M_s o1.2) (68 : Int32).toNatClampNeg) + (1 : Int32))) (69 : Int32).toNatClampNeg (((upd (M_s o1.2) (68 : Int32).toNatClampNeg (((M_s o1.2) (68 : Int32).toNatClampNeg) + (1 : Int32))) (69 : Int32).toNatClampNeg) + s36)) (65 : Int32).toNatClampNeg) + s55)) (66 : Int32).toNatClampNeg) - s74)))) H → va_D A (cM cyI a (M_set_s o1.2 (upd (upd (upd (upd (M_s o1.2) (68 : Int32).toNatClampNeg (((M_s o1.2) (68 : Int32).toNatClampNeg) + (1 : Int32))) (69 : Int32).toNatClampNeg (((upd (M_s o1.2) (68 : Int32).toNatClampNeg (((M_s o1.2) (68 : Int32).toNatClampNeg) + (1 : Int32))) (69 : Int32).toNatClampNeg) + s36)) (65 : Int32).toNatClampNeg (((upd (upd (M_s o1.2) (68 : Int32).toNatClampNeg (((M_s o1.2) (68 : Int32).toNatClampNeg) + (1 : Int32))) (69 : Int32).toNatClampNeg (((upd (M_s o1.2) (68 : Int32).toNatClampNeg (((M_s o1.2) (68 : Int32).toNatClampNeg) + (1 : Int32))) (69 : Int32).toNatClampNeg) + s36)) (65 : Int32).toNatClampNeg) + s55)) (66 : Int32).toNatClampNeg (((upd (upd (upd (M_s o1.2) (68 : Int32).toNatClampNeg (((M_s o1.2) (68 : Int32).toNatClampNeg) + (1 : Int32))) (69 : Int32).toNatClampNeg (((upd (M_s o1.2) (68 : Int32).toNatClampNeg (((M_s o1.2) (68 : Int32).toNatClampNeg) + (1 : Int32))) (69 : Int32).toNatClampNeg) + s36)) (65 : Int32).toNatClampNeg (((upd (upd (M_s o1.2) (68 : Int32).toNatClampNeg (((M_s o1.2) (68 : Int32).toNatClampNeg) + (1 : Int32))) (69 : Int32).toNatClampNeg (((upd (M_s o1.2) (68 : Int32).toNatClampNeg (((M_s o1.2) (68 : Int32).toNatClampNeg) + (1 : Int32))) (69 : Int32).toNatClampNeg) + s36)) (65 : Int32).toNatClampNeg) + s55)) (66 : Int32).toNatClampNeg) - s74)))) → va_S A s.heap H locs → lv_has ls 3 [(0, .ref (a 0)), (1, .int o1.1)] → j105 s105 = some out → W p l e (headSpec (Cond.code yX6_counts cX6_counts 3 (some .int) :: wT) ({ frames := 4, cells := 0, slots := 0, locals := 92 } : Room)).room s m ([.ref (a 0)] : List Value).toArray below meth c H locs 0 0 (MQ below (va_Qi (fun (r : Int32) (u : MV) => (r, u) = out) (fun u t => va_P (dC, dI) vwCl (cM cyI a u) t.heap ∧ va_D A (cM cyI a u)) A) ([.ref (a 0)] : List Value).toArray s 0 0 A) (F0 m 105 ls [.int s105, .int (61 : Int32), .ref (a 1)]) := by
          intro s105 H locs ls hP hD hS hl hF
          have hF := (congrFun hj105 s105).symm.trans hF
          refine va_iast hx hb hK.1 hP hD hS 1 0 rfl rfl (i := (61 : Int32)) (x := s105) (show ixok (61 : Int32) 103 by decide) dX6_counts_105 (fun H locs hP hD hS => ?_)
          have hP : va_P (dC, dI) vwCl (cM cyI a (M_set_s o1.2 (upd (upd (upd (upd (upd (M_s o1.2) (68 : Int32).toNatClampNeg (((M_s o1.2) (68 : Int32).toNatClampNeg) + (1 : Int32))) (69 : Int32).toNatClampNeg (((upd (M_s o1.2) (68 : Int32).toNatClampNeg (((M_s o1.2) (68 : Int32).toNatClampNeg) + (1 : Int32))) (69 : Int32).toNatClampNeg) + s36)) (65 : Int32).toNatClampNeg (((upd (upd (M_s o1.2) (68 : Int32).toNatClampNeg (((M_s o1.2) (68 : Int32).toNatClampNeg) + (1 : Int32))) (69 : Int32).toNatClampNeg (((upd (M_s o1.2) (68 : Int32).toNatClampNeg (((M_s o1.2) (68 : Int32).toNatClampNeg) + (1 : Int32))) (69 : Int32).toNatClampNeg) + s36)) (65 : Int32).toNatClampNeg) + s55)) (66 : Int32).toNatClampNeg (((upd (upd (upd (M_s o1.2) (68 : Int32).toNatClampNeg (((M_s o1.2) (68 : Int32).toNatClampNeg) + (1 : Int32))) (69 : Int32).toNatClampNeg (((upd (M_s o1.2) (68 : Int32).toNatClampNeg (((M_s o1.2) (68 : Int32).toNatClampNeg) + (1 : Int32))) (69 : Int32).toNatClampNeg) + s36)) (65 : Int32).toNatClampNeg (((upd (upd (M_s o1.2) (68 : Int32).toNatClampNeg (((M_s o1.2) (68 : Int32).toNatClampNeg) + (1 : Int32))) (69 : Int32).toNatClampNeg (((upd (M_s o1.2) (68 : Int32).toNatClampNeg (((M_s o1.2) (68 : Int32).toNatClampNeg) + (1 : Int32))) (69 : Int32).toNatClampNeg) + s36)) (65 : Int32).toNatClampNeg) + s55)) (66 : Int32).toNatClampNeg) - s74)) (61 : Int32).toNatClampNeg s105))) H := hP
          have hD : va_D A (cM cyI a (M_set_s o1.2 (upd (upd (upd (upd (upd (M_s o1.2) (68 : Int32).toNatClampNeg (((M_s o1.2) (68 : Int32).toNatClampNeg) + (1 : Int32))) (69 : Int32).toNatClampNeg (((upd (M_s o1.2) (68 : Int32).toNatClampNeg (((M_s o1.2) (68 : Int32).toNatClampNeg) + (1 : Int32))) (69 : Int32).toNatClampNeg) + s36)) (65 : Int32).toNatClampNeg (((upd (upd (M_s o1.2) (68 : Int32).toNatClampNeg (((M_s o1.2) (68 : Int32).toNatClampNeg) + (1 : Int32))) (69 : Int32).toNatClampNeg (((upd (M_s o1.2) (68 : Int32).toNatClampNeg (((M_s o1.2) (68 : Int32).toNatClampNeg) + (1 : Int32))) (69 : Int32).toNatClampNeg) + s36)) (65 : Int32).toNatClampNeg) + s55)) (66 : Int32).toNatClampNeg (((upd (upd (upd (M_s o1.2) (68 : Int32).toNatClampNeg (((M_s o1.2) (68 : Int32).toNatClampNeg) + (1 : Int32))) (69 : Int32).toNatClampNeg (((upd (M_s o1.2) (68 : Int32).toNatClampNeg (((M_s o1.2) (68 : Int32).toNatClampNeg) + (1 : Int32))) (69 : Int32).toNatClampNeg) + s36)) (65 : Int32).toNatClampNeg (((upd (upd (M_s o1.2) (68 : Int32).toNatClampNeg (((M_s o1.2) (68 : Int32).toNatClampNeg) + (1 : Int32))) (69 : Int32).toNatClampNeg (((upd (M_s o1.2) (68 : Int32).toNatClampNeg (((M_s o1.2) (68 : Int32).toNatClampNeg) + (1 : Int32))) (69 : Int32).toNatClampNeg) + s36)) (65 : Int32).toNatClampNeg) + s55)) (66 : Int32).toNatClampNeg) - s74)) (61 : Int32).toNatClampNeg s105))) := hD
          refine lv_aload_n hx hb dX6_counts_106 rfl (lv_at hl 0 rfl) ?_
          refine va_get (D := (dC, dI)) (ci := 6) (v := .ref (a 1)) (C := RX6) (T := TX6) (N := 23) hx hb hts inX6 hown hK.1 hP 0 rfl rfl 1 (by decide) (hts _ w_fieldLink_X6_7) (fun _ h9 => h9) rfl dX6_counts_107 ?_
          refine lv_bipush (v := 91) hx hb dX6_counts_110 (by decide) ?_
          refine lv_iload_n hx hb dX6_counts_112 rfl (lv_at hl 1 rfl) ?_
          refine lv_iadd hx hb dX6_counts_113 ?_
          refine lv_dup2_11 hx hb dX6_counts_114 rfl rfl ?_
          obtain ⟨hg15, hF⟩ := gd_use hF
          refine va_iald hx hb hK.1 hP 1 0 rfl rfl (i := ((91 : Int32) + o1.1)) hg15 dX6_counts_115 ?_
          refine lv_iconst (v := 1) hx hb dX6_counts_116 (by decide) ?_
          refine lv_iadd hx hb dX6_counts_117 ?_
          obtain ⟨hg16, hF⟩ := gd_use hF
          refine va_iast hx hb hK.1 hP hD hS 1 0 rfl rfl (i := ((91 : Int32) + o1.1)) (x := (((upd (upd (upd (upd (upd (M_s o1.2) (68 : Int32).toNatClampNeg (((M_s o1.2) (68 : Int32).toNatClampNeg) + (1 : Int32))) (69 : Int32).toNatClampNeg (((upd (M_s o1.2) (68 : Int32).toNatClampNeg (((M_s o1.2) (68 : Int32).toNatClampNeg) + (1 : Int32))) (69 : Int32).toNatClampNeg) + s36)) (65 : Int32).toNatClampNeg (((upd (upd (M_s o1.2) (68 : Int32).toNatClampNeg (((M_s o1.2) (68 : Int32).toNatClampNeg) + (1 : Int32))) (69 : Int32).toNatClampNeg (((upd (M_s o1.2) (68 : Int32).toNatClampNeg (((M_s o1.2) (68 : Int32).toNatClampNeg) + (1 : Int32))) (69 : Int32).toNatClampNeg) + s36)) (65 : Int32).toNatClampNeg) + s55)) (66 : Int32).toNatClampNeg (((upd (upd (upd (M_s o1.2) (68 : Int32).toNatClampNeg (((M_s o1.2) (68 : Int32).toNatClampNeg) + (1 : Int32))) (69 : Int32).toNatClampNeg (((upd (M_s o1.2) (68 : Int32).toNatClampNeg (((M_s o1.2) (68 : Int32).toNatClampNeg) + (1 : Int32))) (69 : Int32).toNatClampNeg) + s36)) (65 : Int32).toNatClampNeg (((upd (upd (M_s o1.2) (68 : Int32).toNatClampNeg (((M_s o1.2) (68 : Int32).toNatClampNeg) + (1 : Int32))) (69 : Int32).toNatClampNeg (((upd (M_s o1.2) (68 : Int32).toNatClampNeg (((M_s o1.2) (68 : Int32).toNatClampNeg) + (1 : Int32))) (69 : Int32).toNatClampNeg) + s36)) (65 : Int32).toNatClampNeg) + s55)) (66 : Int32).toNatClampNeg) - s74)) (61 : Int32).toNatClampNeg s105) ((91 : Int32) + o1.1).toNatClampNeg) + (1 : Int32))) hg16 dX6_counts_118 (fun H locs hP hD hS => ?_)
          have hP : va_P (dC, dI) vwCl (cM cyI a (M_set_s o1.2 (upd (upd (upd (upd (upd (upd (M_s o1.2) (68 : Int32).toNatClampNeg (((M_s o1.2) (68 : Int32).toNatClampNeg) + (1 : Int32))) (69 : Int32).toNatClampNeg (((upd (M_s o1.2) (68 : Int32).toNatClampNeg (((M_s o1.2) (68 : Int32).toNatClampNeg) + (1 : Int32))) (69 : Int32).toNatClampNeg) + s36)) (65 : Int32).toNatClampNeg (((upd (upd (M_s o1.2) (68 : Int32).toNatClampNeg (((M_s o1.2) (68 : Int32).toNatClampNeg) + (1 : Int32))) (69 : Int32).toNatClampNeg (((upd (M_s o1.2) (68 : Int32).toNatClampNeg (((M_s o1.2) (68 : Int32).toNatClampNeg) + (1 : Int32))) (69 : Int32).toNatClampNeg) + s36)) (65 : Int32).toNatClampNeg) + s55)) (66 : Int32).toNatClampNeg (((upd (upd (upd (M_s o1.2) (68 : Int32).toNatClampNeg (((M_s o1.2) (68 : Int32).toNatClampNeg) + (1 : Int32))) (69 : Int32).toNatClampNeg (((upd (M_s o1.2) (68 : Int32).toNatClampNeg (((M_s o1.2) (68 : Int32).toNatClampNeg) + (1 : Int32))) (69 : Int32).toNatClampNeg) + s36)) (65 : Int32).toNatClampNeg (((upd (upd (M_s o1.2) (68 : Int32).toNatClampNeg (((M_s o1.2) (68 : Int32).toNatClampNeg) + (1 : Int32))) (69 : Int32).toNatClampNeg (((upd (M_s o1.2) (68 : Int32).toNatClampNeg (((M_s o1.2) (68 : Int32).toNatClampNeg) + (1 : Int32))) (69 : Int32).toNatClampNeg) + s36)) (65 : Int32).toNatClampNeg) + s55)) (66 : Int32).toNatClampNeg) - s74)) (61 : Int32).toNatClampNeg s105) ((91 : Int32) + o1.1).toNatClampNeg (((upd (upd (upd (upd (upd (M_s o1.2) (68 : Int32).toNatClampNeg (((M_s o1.2) (68 : Int32).toNatClampNeg) + (1 : Int32))) (69 : Int32).toNatClampNeg (((upd (M_s o1.2) (68 : Int32).toNatClampNeg (((M_s o1.2) (68 : Int32).toNatClampNeg) + (1 : Int32))) (69 : Int32).toNatClampNeg) + s36)) (65 : Int32).toNatClampNeg (((upd (upd (M_s o1.2) (68 : Int32).toNatClampNeg (((M_s o1.2) (68 : Int32).toNatClampNeg) + (1 : Int32))) (69 : Int32).toNatClampNeg (((upd (M_s o1.2) (68 : Int32).toNatClampNeg (((M_s o1.2) (68 : Int32).toNatClampNeg) + (1 : Int32))) (69 : Int32).toNatClampNeg) + s36)) (65 : Int32).toNatClampNeg) + s55)) (66 : Int32).toNatClampNeg (((upd (upd (upd (M_s o1.2) (68 : Int32).toNatClampNeg (((M_s o1.2) (68 : Int32).toNatClampNeg) + (1 : Int32))) (69 : Int32).toNatClampNeg (((upd (M_s o1.2) (68 : Int32).toNatClampNeg (((M_s o1.2) (68 : Int32).toNatClampNeg) + (1 : Int32))) (69 : Int32).toNatClampNeg) + s36)) (65 : Int32).toNatClampNeg (((upd (upd (M_s o1.2) (68 : Int32).toNatClampNeg (((M_s o1.2) (68 : Int32).toNatClampNeg) + (1 : Int32))) (69 : Int32).toNatClampNeg (((upd (M_s o1.2) (68 : Int32).toNatClampNeg (((M_s o1.2) (68 : Int32).toNatClampNeg) + (1 : Int32))) (69 : Int32).toNatClampNeg) + s36)) (65 : Int32).toNatClampNeg) + s55)) (66 : Int32).toNatClampNeg) - s74)) (61 : Int32).toNatClampNeg s105) ((91 : Int32) + o1.1).toNatClampNeg) + (1 : Int32))))) H := hP
          have hD : va_D A (cM cyI a (M_set_s o1.2 (upd (upd (upd (upd (upd (upd (M_s o1.2) (68 : Int32).toNatClampNeg (((M_s o1.2) (68 : Int32).toNatClampNeg) + (1 : Int32))) (69 : Int32).toNatClampNeg (((upd (M_s o1.2) (68 : Int32).toNatClampNeg (((M_s o1.2) (68 : Int32).toNatClampNeg) + (1 : Int32))) (69 : Int32).toNatClampNeg) + s36)) (65 : Int32).toNatClampNeg (((upd (upd (M_s o1.2) (68 : Int32).toNatClampNeg (((M_s o1.2) (68 : Int32).toNatClampNeg) + (1 : Int32))) (69 : Int32).toNatClampNeg (((upd (M_s o1.2) (68 : Int32).toNatClampNeg (((M_s o1.2) (68 : Int32).toNatClampNeg) + (1 : Int32))) (69 : Int32).toNatClampNeg) + s36)) (65 : Int32).toNatClampNeg) + s55)) (66 : Int32).toNatClampNeg (((upd (upd (upd (M_s o1.2) (68 : Int32).toNatClampNeg (((M_s o1.2) (68 : Int32).toNatClampNeg) + (1 : Int32))) (69 : Int32).toNatClampNeg (((upd (M_s o1.2) (68 : Int32).toNatClampNeg (((M_s o1.2) (68 : Int32).toNatClampNeg) + (1 : Int32))) (69 : Int32).toNatClampNeg) + s36)) (65 : Int32).toNatClampNeg (((upd (upd (M_s o1.2) (68 : Int32).toNatClampNeg (((M_s o1.2) (68 : Int32).toNatClampNeg) + (1 : Int32))) (69 : Int32).toNatClampNeg (((upd (M_s o1.2) (68 : Int32).toNatClampNeg (((M_s o1.2) (68 : Int32).toNatClampNeg) + (1 : Int32))) (69 : Int32).toNatClampNeg) + s36)) (65 : Int32).toNatClampNeg) + s55)) (66 : Int32).toNatClampNeg) - s74)) (61 : Int32).toNatClampNeg s105) ((91 : Int32) + o1.1).toNatClampNeg (((upd (upd (upd (upd (upd (M_s o1.2) (68 : Int32).toNatClampNeg (((M_s o1.2) (68 : Int32).toNatClampNeg) + (1 : Int32))) (69 : Int32).toNatClampNeg (((upd (M_s o1.2) (68 : Int32).toNatClampNeg (((M_s o1.2) (68 : Int32).toNatClampNeg) + (1 : Int32))) (69 : Int32).toNatClampNeg) + s36)) (65 : Int32).toNatClampNeg (((upd (upd (M_s o1.2) (68 : Int32).toNatClampNeg (((M_s o1.2) (68 : Int32).toNatClampNeg) + (1 : Int32))) (69 : Int32).toNatClampNeg (((upd (M_s o1.2) (68 : Int32).toNatClampNeg (((M_s o1.2) (68 : Int32).toNatClampNeg) + (1 : Int32))) (69 : Int32).toNatClampNeg) + s36)) (65 : Int32).toNatClampNeg) + s55)) (66 : Int32).toNatClampNeg (((upd (upd (upd (M_s o1.2) (68 : Int32).toNatClampNeg (((M_s o1.2) (68 : Int32).toNatClampNeg) + (1 : Int32))) (69 : Int32).toNatClampNeg (((upd (M_s o1.2) (68 : Int32).toNatClampNeg (((M_s o1.2) (68 : Int32).toNatClampNeg) + (1 : Int32))) (69 : Int32).toNatClampNeg) + s36)) (65 : Int32).toNatClampNeg (((upd (upd (M_s o1.2) (68 : Int32).toNatClampNeg (((M_s o1.2) (68 : Int32).toNatClampNeg) + (1 : Int32))) (69 : Int32).toNatClampNeg (((upd (M_s o1.2) (68 : Int32).toNatClampNeg (((M_s o1.2) (68 : Int32).toNatClampNeg) + (1 : Int32))) (69 : Int32).toNatClampNeg) + s36)) (65 : Int32).toNatClampNeg) + s55)) (66 : Int32).toNatClampNeg) - s74)) (61 : Int32).toNatClampNeg s105) ((91 : Int32) + o1.1).toNatClampNeg) + (1 : Int32))))) := hD
          refine lv_aload_n hx hb dX6_counts_119 rfl (lv_at hl 0 rfl) ?_
          refine va_get (D := (dC, dI)) (ci := 6) (v := .ref (a 1)) (C := RX6) (T := TX6) (N := 23) hx hb hts inX6 hown hK.1 hP 0 rfl rfl 1 (by decide) (hts _ w_fieldLink_X6_7) (fun _ h9 => h9) rfl dX6_counts_120 ?_
          refine lv_bipush (v := 70) hx hb dX6_counts_123 (by decide) ?_
          refine va_iald hx hb hK.1 hP 1 0 rfl rfl (i := (70 : Int32)) (show ixok (70 : Int32) 103 by decide) dX6_counts_125 ?_
          refine lv_bipush (v := 12) hx hb dX6_counts_126 (by decide) ?_
          obtain ⟨j176, hj176, hF⟩ := jn_use hF
          have hJ176 : ∀ (s176 : MV) (H : Heap) (locs : List Loc) (ls : Array Slot), va_P (dC, dI) vwCl (cM cyI a s176) H → va_D A (cM cyI a s176) → va_S A s.heap H locs → lv_has ls 3 [(0, .ref (a 0)), (1, .int o1.1)] → j176 s176 = some out → W p l e (headSpec (Cond.code yX6_counts cX6_counts 3 (some .int) :: wT) ({ frames := 4, cells := 0, slots := 0, locals := 92 } : Room)).room s m ([.ref (a 0)] : List Value).toArray below meth c H locs 0 0 (MQ below (va_Qi (fun (r : Int32) (u : MV) => (r, u) = out) (fun u t => va_P (dC, dI) vwCl (cM cyI a u) t.heap ∧ va_D A (cM cyI a u)) A) ([.ref (a 0)] : List Value).toArray s 0 0 A) (F0 m 176 ls []) := by
            intro s176 H locs ls hP hD hS hl hF
            have hF := (congrFun hj176 s176).symm.trans hF
            refine lv_aload_n hx hb dX6_counts_176 rfl (lv_at hl 0 rfl) ?_
            refine va_get (D := (dC, dI)) (ci := 6) (v := .ref (a 1)) (C := RX6) (T := TX6) (N := 23) hx hb hts inX6 hown hK.1 hP 0 rfl rfl 1 (by decide) (hts _ w_fieldLink_X6_7) (fun _ h9 => h9) rfl dX6_counts_177 ?_
            refine lv_bipush (v := 71) hx hb dX6_counts_180 (by decide) ?_
            refine lv_aload_n hx hb dX6_counts_182 rfl (lv_at hl 0 rfl) ?_
            refine va_get (D := (dC, dI)) (ci := 6) (v := .ref (a 1)) (C := RX6) (T := TX6) (N := 23) hx hb hts inX6 hown hK.1 hP 0 rfl rfl 1 (by decide) (hts _ w_fieldLink_X6_7) (fun _ h9 => h9) rfl dX6_counts_183 ?_
            refine lv_bipush (v := 70) hx hb dX6_counts_186 (by decide) ?_
            refine va_iald hx hb hK.1 hP 1 0 rfl rfl (i := (70 : Int32)) (show ixok (70 : Int32) 103 by decide) dX6_counts_188 ?_
            refine lv_iadd hx hb dX6_counts_189 ?_
            refine lv_iload_n hx hb dX6_counts_190 rfl (lv_at hl 1 rfl) ?_
            obtain ⟨hg19, hF⟩ := gd_use hF
            refine va_iast hx hb hK.1 hP hD hS 1 0 rfl rfl (i := ((71 : Int32) + ((M_s s176) (70 : Int32).toNatClampNeg))) (x := o1.1) hg19 dX6_counts_191 (fun H locs hP hD hS => ?_)
            have hP : va_P (dC, dI) vwCl (cM cyI a (M_set_s s176 (upd (M_s s176) ((71 : Int32) + ((M_s s176) (70 : Int32).toNatClampNeg)).toNatClampNeg o1.1))) H := hP
            have hD : va_D A (cM cyI a (M_set_s s176 (upd (M_s s176) ((71 : Int32) + ((M_s s176) (70 : Int32).toNatClampNeg)).toNatClampNeg o1.1))) := hD
            refine lv_aload_n hx hb dX6_counts_192 rfl (lv_at hl 0 rfl) ?_
            refine va_get (D := (dC, dI)) (ci := 6) (v := .ref (a 1)) (C := RX6) (T := TX6) (N := 23) hx hb hts inX6 hown hK.1 hP 0 rfl rfl 1 (by decide) (hts _ w_fieldLink_X6_7) (fun _ h9 => h9) rfl dX6_counts_193 ?_
            refine lv_bipush (v := 70) hx hb dX6_counts_196 (by decide) ?_
            refine lv_dup2_11 hx hb dX6_counts_198 rfl rfl ?_
            refine va_iald hx hb hK.1 hP 1 0 rfl rfl (i := (70 : Int32)) (show ixok (70 : Int32) 103 by decide) dX6_counts_199 ?_
            refine lv_iconst (v := 1) hx hb dX6_counts_200 (by decide) ?_
            refine lv_iadd hx hb dX6_counts_201 ?_
            refine va_iast hx hb hK.1 hP hD hS 1 0 rfl rfl (i := (70 : Int32)) (x := (((upd (M_s s176) ((71 : Int32) + ((M_s s176) (70 : Int32).toNatClampNeg)).toNatClampNeg o1.1) (70 : Int32).toNatClampNeg) + (1 : Int32))) (show ixok (70 : Int32) 103 by decide) dX6_counts_202 (fun H locs hP hD hS => ?_)
            have hP : va_P (dC, dI) vwCl (cM cyI a (M_set_s s176 (upd (upd (M_s s176) ((71 : Int32) + ((M_s s176) (70 : Int32).toNatClampNeg)).toNatClampNeg o1.1) (70 : Int32).toNatClampNeg (((upd (M_s s176) ((71 : Int32) + ((M_s s176) (70 : Int32).toNatClampNeg)).toNatClampNeg o1.1) (70 : Int32).toNatClampNeg) + (1 : Int32))))) H := hP
            have hD : va_D A (cM cyI a (M_set_s s176 (upd (upd (M_s s176) ((71 : Int32) + ((M_s s176) (70 : Int32).toNatClampNeg)).toNatClampNeg o1.1) (70 : Int32).toNatClampNeg (((upd (M_s s176) ((71 : Int32) + ((M_s s176) (70 : Int32).toNatClampNeg)).toNatClampNeg o1.1) (70 : Int32).toNatClampNeg) + (1 : Int32))))) := hD
            refine lv_aload_n hx hb dX6_counts_203 rfl (lv_at hl 0 rfl) ?_
            obtain ⟨o22, h23, hF⟩ := obd hF
            refine wcWVv (As := []) (rest := []) (wr := []) (b := (a 0)) ⟨hx, hb, hml, hown, hts⟩ (met_X6_takesAway l dC dI cyI cyO cyL a _ N (M_set_s s176 (upd (upd (M_s s176) ((71 : Int32) + ((M_s s176) (70 : Int32).toNatClampNeg)).toNatClampNeg o1.1) (70 : Int32).toNatClampNeg (((upd (M_s s176) ((71 : Int32) + ((M_s s176) (70 : Int32).toNatClampNeg)).toNatClampNeg o1.1) (70 : Int32).toNatClampNeg) + (1 : Int32))))  o22 h23) (cwV 0 hts (gV w_methodLink_X6_98 w_instanceMethod_X6_takesAway w_selects_X6_takesAway w_initialized_X6 w_code_X6_takesAway) rfl rfl rfl (by decide +kernel) ⟨Nat.le_of_ble_eq_true rfl, Nat.le_of_ble_eq_true rfl⟩) (va_recv hK.1 hP (ci := 6) (q0 := 0) rfl rfl) hP hD hK [0, 1, 2, 3, 4, 5, 6, 7] [] rfl rfl (by decide) (by decide) (by decide) rfl hl.1 (Nat.le_of_ble_eq_true rfl) dX6_counts_204 ⟨Nat.le_of_ble_eq_true rfl, Nat.le_of_ble_eq_true rfl⟩ hS hA (fun u H locs hw hP hD hS => ?_)
            have hw := hw.symm
            subst hw
            have hP : va_P (dC, dI) vwCl (cM cyI a o22) H := hP
            have hD : va_D A (cM cyI a o22) := hD
            refine lv_iload_n hx hb dX6_counts_207 rfl (lv_at hl 1 rfl) ?_
            obtain ⟨o24, h25, hF⟩ := obd hF
            refine wcRSi (As := [.int o1.1]) (rest := []) ⟨hx, hb, hml, hown, hts⟩ (met_X6_abs l dC dI cyI cyO cyL  N  o1.1 o24 h25) (va_cwS 1 hts (gS w_methodLink_X6_101 w_static_X6_abs w_initialized_X6 w_code_X6_abs) rfl rfl rfl (by decide +kernel) ⟨Nat.le_of_ble_eq_true rfl, Nat.le_of_ble_eq_true rfl⟩) hP hK [] rfl rfl hl.1 (Nat.le_of_ble_eq_true rfl) dX6_counts_208 ⟨Nat.le_of_ble_eq_true rfl, Nat.le_of_ble_eq_true rfl⟩ hS (fun r H locs hw hP hS => ?_)
            have hw := hw.symm
            subst hw
            exact W.iret (v := o24) hx hb hr (fun t ht hW => ⟨⟨_, o22, rfl, Option.some.inj hF, by rw [ht]; exact hP, hD⟩, hS.F ht⟩) hS.2.2 dX6_counts_211
          refine lv_icmp_ne (tgt := 176) hx hb dX6_counts_128 (by decide) (fun c26 => ?_) (fun c26 => ?_)
          · have hF := itn c26 hF
            exact hJ176 (M_set_s o1.2 (upd (upd (upd (upd (upd (upd (M_s o1.2) (68 : Int32).toNatClampNeg (((M_s o1.2) (68 : Int32).toNatClampNeg) + (1 : Int32))) (69 : Int32).toNatClampNeg (((upd (M_s o1.2) (68 : Int32).toNatClampNeg (((M_s o1.2) (68 : Int32).toNatClampNeg) + (1 : Int32))) (69 : Int32).toNatClampNeg) + s36)) (65 : Int32).toNatClampNeg (((upd (upd (M_s o1.2) (68 : Int32).toNatClampNeg (((M_s o1.2) (68 : Int32).toNatClampNeg) + (1 : Int32))) (69 : Int32).toNatClampNeg (((upd (M_s o1.2) (68 : Int32).toNatClampNeg (((M_s o1.2) (68 : Int32).toNatClampNeg) + (1 : Int32))) (69 : Int32).toNatClampNeg) + s36)) (65 : Int32).toNatClampNeg) + s55)) (66 : Int32).toNatClampNeg (((upd (upd (upd (M_s o1.2) (68 : Int32).toNatClampNeg (((M_s o1.2) (68 : Int32).toNatClampNeg) + (1 : Int32))) (69 : Int32).toNatClampNeg (((upd (M_s o1.2) (68 : Int32).toNatClampNeg (((M_s o1.2) (68 : Int32).toNatClampNeg) + (1 : Int32))) (69 : Int32).toNatClampNeg) + s36)) (65 : Int32).toNatClampNeg (((upd (upd (M_s o1.2) (68 : Int32).toNatClampNeg (((M_s o1.2) (68 : Int32).toNatClampNeg) + (1 : Int32))) (69 : Int32).toNatClampNeg (((upd (M_s o1.2) (68 : Int32).toNatClampNeg (((M_s o1.2) (68 : Int32).toNatClampNeg) + (1 : Int32))) (69 : Int32).toNatClampNeg) + s36)) (65 : Int32).toNatClampNeg) + s55)) (66 : Int32).toNatClampNeg) - s74)) (61 : Int32).toNatClampNeg s105) ((91 : Int32) + o1.1).toNatClampNeg (((upd (upd (upd (upd (upd (M_s o1.2) (68 : Int32).toNatClampNeg (((M_s o1.2) (68 : Int32).toNatClampNeg) + (1 : Int32))) (69 : Int32).toNatClampNeg (((upd (M_s o1.2) (68 : Int32).toNatClampNeg (((M_s o1.2) (68 : Int32).toNatClampNeg) + (1 : Int32))) (69 : Int32).toNatClampNeg) + s36)) (65 : Int32).toNatClampNeg (((upd (upd (M_s o1.2) (68 : Int32).toNatClampNeg (((M_s o1.2) (68 : Int32).toNatClampNeg) + (1 : Int32))) (69 : Int32).toNatClampNeg (((upd (M_s o1.2) (68 : Int32).toNatClampNeg (((M_s o1.2) (68 : Int32).toNatClampNeg) + (1 : Int32))) (69 : Int32).toNatClampNeg) + s36)) (65 : Int32).toNatClampNeg) + s55)) (66 : Int32).toNatClampNeg (((upd (upd (upd (M_s o1.2) (68 : Int32).toNatClampNeg (((M_s o1.2) (68 : Int32).toNatClampNeg) + (1 : Int32))) (69 : Int32).toNatClampNeg (((upd (M_s o1.2) (68 : Int32).toNatClampNeg (((M_s o1.2) (68 : Int32).toNatClampNeg) + (1 : Int32))) (69 : Int32).toNatClampNeg) + s36)) (65 : Int32).toNatClampNeg (((upd (upd (M_s o1.2) (68 : Int32).toNatClampNeg (((M_s o1.2) (68 : Int32).toNatClampNeg) + (1 : Int32))) (69 : Int32).toNatClampNeg (((upd (M_s o1.2) (68 : Int32).toNatClampNeg (((M_s o1.2) (68 : Int32).toNatClampNeg) + (1 : Int32))) (69 : Int32).toNatClampNeg) + s36)) (65 : Int32).toNatClampNeg) + s55)) (66 : Int32).toNatClampNeg) - s74)) (61 : Int32).toNatClampNeg s105) ((91 : Int32) + o1.1).toNatClampNeg) + (1 : Int32)))) _ _ _ hP hD hS (lv_sub hl [0, 1] rfl) hF
          · have hF := itp c26 hF
            refine lv_iconst (v := 0) hx hb dX6_counts_131 (by decide) ?_
            refine lv_istore_n (lv' := [(2, .int (0 : Int32)), (0, .ref (a 0)), (1, .int o1.1)]) hx hb dX6_counts_132 rfl hl (by decide) rfl (fun ls hl => ?_)
            obtain ⟨st133, hst133, hF⟩ := lpN_use hF
            have hL133 : ∀ (n : Nat) (s133 : Int32 × MV) (H : Heap) (locs : List Loc) (ls : Array Slot), va_P (dC, dI) vwCl (cM cyI a s133.2) H → va_D A (cM cyI a s133.2) → va_S A s.heap H locs → lv_has ls 3 [(0, .ref (a 0)), (1, .int o1.1), (2, .int s133.1)] → lpN st133 n s133 = some out → W p l e (headSpec (Cond.code yX6_counts cX6_counts 3 (some .int) :: wT) ({ frames := 4, cells := 0, slots := 0, locals := 92 } : Room)).room s m ([.ref (a 0)] : List Value).toArray below meth c H locs 0 0 (MQ below (va_Qi (fun (r : Int32) (u : MV) => (r, u) = out) (fun u t => va_P (dC, dI) vwCl (cM cyI a u) t.heap ∧ va_D A (cM cyI a u)) A) ([.ref (a 0)] : List Value).toArray s 0 0 A) (F0 m 133 ls []) := by
              intro n
              induction n with
              | zero => intro s133 H locs ls hP hD hS hl hF; exact lpN_0 hF
              | succ n ih133 =>
                intro s133 H locs ls hP hD hS hl hF
                have hF := (congrFun (congrFun hst133 s133) (lpN st133 n)).symm.trans (lpN_s hF)
                refine lv_iload_n hx hb dX6_counts_133 rfl (lv_at hl 2 rfl) ?_
                refine lv_bipush (v := 11) hx hb dX6_counts_134 (by decide) ?_
                refine lv_icmp_ge (tgt := 165) hx hb dX6_counts_136 (by decide) (fun c27 => ?_) (fun c27 => ?_)
                · have hF := itp c27 hF
                  refine lv_aload_n hx hb dX6_counts_165 rfl (lv_at hl 0 rfl) ?_
                  refine va_get (D := (dC, dI)) (ci := 6) (v := .ref (a 1)) (C := RX6) (T := TX6) (N := 23) hx hb hts inX6 hown hK.1 hP 0 rfl rfl 1 (by decide) (hts _ w_fieldLink_X6_7) (fun _ h9 => h9) rfl dX6_counts_166 ?_
                  refine lv_bipush (v := 70) hx hb dX6_counts_169 (by decide) ?_
                  refine lv_dup2_11 hx hb dX6_counts_171 rfl rfl ?_
                  refine va_iald hx hb hK.1 hP 1 0 rfl rfl (i := (70 : Int32)) (show ixok (70 : Int32) 103 by decide) dX6_counts_172 ?_
                  refine lv_iconst (v := 1) hx hb dX6_counts_173 (by decide) ?_
                  refine lv_isub hx hb dX6_counts_174 ?_
                  refine va_iast hx hb hK.1 hP hD hS 1 0 rfl rfl (i := (70 : Int32)) (x := (((M_s s133.2) (70 : Int32).toNatClampNeg) - (1 : Int32))) (show ixok (70 : Int32) 103 by decide) dX6_counts_175 (fun H locs hP hD hS => ?_)
                  have hP : va_P (dC, dI) vwCl (cM cyI a (M_set_s s133.2 (upd (M_s s133.2) (70 : Int32).toNatClampNeg (((M_s s133.2) (70 : Int32).toNatClampNeg) - (1 : Int32))))) H := hP
                  have hD : va_D A (cM cyI a (M_set_s s133.2 (upd (M_s s133.2) (70 : Int32).toNatClampNeg (((M_s s133.2) (70 : Int32).toNatClampNeg) - (1 : Int32))))) := hD
                  exact hJ176 (M_set_s s133.2 (upd (M_s s133.2) (70 : Int32).toNatClampNeg (((M_s s133.2) (70 : Int32).toNatClampNeg) - (1 : Int32)))) _ _ _ hP hD hS (lv_sub hl [0, 1] rfl) hF
                · have hF := itn c27 hF
                  refine lv_aload_n hx hb dX6_counts_139 rfl (lv_at hl 0 rfl) ?_
                  refine va_get (D := (dC, dI)) (ci := 6) (v := .ref (a 1)) (C := RX6) (T := TX6) (N := 23) hx hb hts inX6 hown hK.1 hP 0 rfl rfl 1 (by decide) (hts _ w_fieldLink_X6_7) (fun _ h9 => h9) rfl dX6_counts_140 ?_
                  refine lv_bipush (v := 71) hx hb dX6_counts_143 (by decide) ?_
                  refine lv_iload_n hx hb dX6_counts_145 rfl (lv_at hl 2 rfl) ?_
                  refine lv_iadd hx hb dX6_counts_146 ?_
                  refine lv_aload_n hx hb dX6_counts_147 rfl (lv_at hl 0 rfl) ?_
                  refine va_get (D := (dC, dI)) (ci := 6) (v := .ref (a 1)) (C := RX6) (T := TX6) (N := 23) hx hb hts inX6 hown hK.1 hP 0 rfl rfl 1 (by decide) (hts _ w_fieldLink_X6_7) (fun _ h9 => h9) rfl dX6_counts_148 ?_
                  refine lv_bipush (v := 71) hx hb dX6_counts_151 (by decide) ?_
                  refine lv_iload_n hx hb dX6_counts_153 rfl (lv_at hl 2 rfl) ?_
                  refine lv_iadd hx hb dX6_counts_154 ?_
                  refine lv_iconst (v := 1) hx hb dX6_counts_155 (by decide) ?_
                  refine lv_iadd hx hb dX6_counts_156 ?_
                  obtain ⟨hg30, hF⟩ := gd_use hF
                  refine va_iald hx hb hK.1 hP 1 0 rfl rfl (i := (((71 : Int32) + s133.1) + (1 : Int32))) hg30 dX6_counts_157 ?_
                  obtain ⟨hg31, hF⟩ := gd_use hF
                  refine va_iast hx hb hK.1 hP hD hS 1 0 rfl rfl (i := ((71 : Int32) + s133.1)) (x := ((M_s s133.2) (((71 : Int32) + s133.1) + (1 : Int32)).toNatClampNeg)) hg31 dX6_counts_158 (fun H locs hP hD hS => ?_)
                  have hP : va_P (dC, dI) vwCl (cM cyI a (M_set_s s133.2 (upd (M_s s133.2) ((71 : Int32) + s133.1).toNatClampNeg ((M_s s133.2) (((71 : Int32) + s133.1) + (1 : Int32)).toNatClampNeg)))) H := hP
                  have hD : va_D A (cM cyI a (M_set_s s133.2 (upd (M_s s133.2) ((71 : Int32) + s133.1).toNatClampNeg ((M_s s133.2) (((71 : Int32) + s133.1) + (1 : Int32)).toNatClampNeg)))) := hD
                  refine lv_iinc (v := (s133.1 + (1 : Int32))) (lv' := [(2, .int (s133.1 + (1 : Int32))), (0, .ref (a 0)), (1, .int o1.1)]) hx hb dX6_counts_159 hl (k := 2) rfl rfl (by decide) rfl (fun ls hl => ?_)
                  refine lv_goto (tgt := 133) hx hb dX6_counts_162 (by decide) ?_
                  exact ih133 ((s133.1 + (1 : Int32)), (M_set_s s133.2 (upd (M_s s133.2) ((71 : Int32) + s133.1).toNatClampNeg ((M_s s133.2) (((71 : Int32) + s133.1) + (1 : Int32)).toNatClampNeg)))) _ _ _ hP hD hS (lv_sub hl [1, 2, 0] rfl) hF
            exact hL133 N ((0 : Int32), (M_set_s o1.2 (upd (upd (upd (upd (upd (upd (M_s o1.2) (68 : Int32).toNatClampNeg (((M_s o1.2) (68 : Int32).toNatClampNeg) + (1 : Int32))) (69 : Int32).toNatClampNeg (((upd (M_s o1.2) (68 : Int32).toNatClampNeg (((M_s o1.2) (68 : Int32).toNatClampNeg) + (1 : Int32))) (69 : Int32).toNatClampNeg) + s36)) (65 : Int32).toNatClampNeg (((upd (upd (M_s o1.2) (68 : Int32).toNatClampNeg (((M_s o1.2) (68 : Int32).toNatClampNeg) + (1 : Int32))) (69 : Int32).toNatClampNeg (((upd (M_s o1.2) (68 : Int32).toNatClampNeg (((M_s o1.2) (68 : Int32).toNatClampNeg) + (1 : Int32))) (69 : Int32).toNatClampNeg) + s36)) (65 : Int32).toNatClampNeg) + s55)) (66 : Int32).toNatClampNeg (((upd (upd (upd (M_s o1.2) (68 : Int32).toNatClampNeg (((M_s o1.2) (68 : Int32).toNatClampNeg) + (1 : Int32))) (69 : Int32).toNatClampNeg (((upd (M_s o1.2) (68 : Int32).toNatClampNeg (((M_s o1.2) (68 : Int32).toNatClampNeg) + (1 : Int32))) (69 : Int32).toNatClampNeg) + s36)) (65 : Int32).toNatClampNeg (((upd (upd (M_s o1.2) (68 : Int32).toNatClampNeg (((M_s o1.2) (68 : Int32).toNatClampNeg) + (1 : Int32))) (69 : Int32).toNatClampNeg (((upd (M_s o1.2) (68 : Int32).toNatClampNeg (((M_s o1.2) (68 : Int32).toNatClampNeg) + (1 : Int32))) (69 : Int32).toNatClampNeg) + s36)) (65 : Int32).toNatClampNeg) + s55)) (66 : Int32).toNatClampNeg) - s74)) (61 : Int32).toNatClampNeg s105) ((91 : Int32) + o1.1).toNatClampNeg (((upd (upd (upd (upd (upd (M_s o1.2) (68 : Int32).toNatClampNeg (((M_s o1.2) (68 : Int32).toNatClampNeg) + (1 : Int32))) (69 : Int32).toNatClampNeg (((upd (M_s o1.2) (68 : Int32).toNatClampNeg (((M_s o1.2) (68 : Int32).toNatClampNeg) + (1 : Int32))) (69 : Int32).toNatClampNeg) + s36)) (65 : Int32).toNatClampNeg (((upd (upd (M_s o1.2) (68 : Int32).toNatClampNeg (((M_s o1.2) (68 : Int32).toNatClampNeg) + (1 : Int32))) (69 : Int32).toNatClampNeg (((upd (M_s o1.2) (68 : Int32).toNatClampNeg (((M_s o1.2) (68 : Int32).toNatClampNeg) + (1 : Int32))) (69 : Int32).toNatClampNeg) + s36)) (65 : Int32).toNatClampNeg) + s55)) (66 : Int32).toNatClampNeg (((upd (upd (upd (M_s o1.2) (68 : Int32).toNatClampNeg (((M_s o1.2) (68 : Int32).toNatClampNeg) + (1 : Int32))) (69 : Int32).toNatClampNeg (((upd (M_s o1.2) (68 : Int32).toNatClampNeg (((M_s o1.2) (68 : Int32).toNatClampNeg) + (1 : Int32))) (69 : Int32).toNatClampNeg) + s36)) (65 : Int32).toNatClampNeg (((upd (upd (M_s o1.2) (68 : Int32).toNatClampNeg (((M_s o1.2) (68 : Int32).toNatClampNeg) + (1 : Int32))) (69 : Int32).toNatClampNeg (((upd (M_s o1.2) (68 : Int32).toNatClampNeg (((M_s o1.2) (68 : Int32).toNatClampNeg) + (1 : Int32))) (69 : Int32).toNatClampNeg) + s36)) (65 : Int32).toNatClampNeg) + s55)) (66 : Int32).toNatClampNeg) - s74)) (61 : Int32).toNatClampNeg s105) ((91 : Int32) + o1.1).toNatClampNeg) + (1 : Int32))))) _ _ _ hP hD hS (lv_sub hl [1, 2, 0] rfl) hF
        refine lv_if_ne (tgt := 96) hx hb dX6_counts_83 (by decide) (fun c32 => ?_) (fun c32 => ?_)
        · have hF := itn c32 hF
          refine lv_iload_n hx hb dX6_counts_96 rfl (lv_at hl 1 rfl) ?_
          refine lv_if_le (tgt := 104) hx hb dX6_counts_97 (by decide) (fun c33 => ?_) (fun c33 => ?_)
          · have hF := itp c33 hF
            refine lv_iconst (v := 1) hx hb dX6_counts_104 (by decide) ?_
            exact hJ105 (1 : Int32) _ _ _ hP hD hS (lv_sub hl [0, 1] rfl) hF
          · have hF := itn c33 hF
            refine lv_iconst (v := 0) hx hb dX6_counts_100 (by decide) ?_
            refine lv_goto (tgt := 105) hx hb dX6_counts_101 (by decide) ?_
            exact hJ105 (0 : Int32) _ _ _ hP hD hS (lv_sub hl [0, 1] rfl) hF
        · have hF := itp c32 hF
          refine lv_aload_n hx hb dX6_counts_86 rfl (lv_at hl 0 rfl) ?_
          refine va_get (D := (dC, dI)) (ci := 6) (v := .ref (a 1)) (C := RX6) (T := TX6) (N := 23) hx hb hts inX6 hown hK.1 hP 0 rfl rfl 1 (by decide) (hts _ w_fieldLink_X6_7) (fun _ h9 => h9) rfl dX6_counts_87 ?_
          refine lv_bipush (v := 61) hx hb dX6_counts_90 (by decide) ?_
          refine va_iald hx hb hK.1 hP 1 0 rfl rfl (i := (61 : Int32)) (show ixok (61 : Int32) 103 by decide) dX6_counts_92 ?_
          refine lv_goto (tgt := 105) hx hb dX6_counts_93 (by decide) ?_
          exact hJ105 ((upd (upd (upd (upd (M_s o1.2) (68 : Int32).toNatClampNeg (((M_s o1.2) (68 : Int32).toNatClampNeg) + (1 : Int32))) (69 : Int32).toNatClampNeg (((upd (M_s o1.2) (68 : Int32).toNatClampNeg (((M_s o1.2) (68 : Int32).toNatClampNeg) + (1 : Int32))) (69 : Int32).toNatClampNeg) + s36)) (65 : Int32).toNatClampNeg (((upd (upd (M_s o1.2) (68 : Int32).toNatClampNeg (((M_s o1.2) (68 : Int32).toNatClampNeg) + (1 : Int32))) (69 : Int32).toNatClampNeg (((upd (M_s o1.2) (68 : Int32).toNatClampNeg (((M_s o1.2) (68 : Int32).toNatClampNeg) + (1 : Int32))) (69 : Int32).toNatClampNeg) + s36)) (65 : Int32).toNatClampNeg) + s55)) (66 : Int32).toNatClampNeg (((upd (upd (upd (M_s o1.2) (68 : Int32).toNatClampNeg (((M_s o1.2) (68 : Int32).toNatClampNeg) + (1 : Int32))) (69 : Int32).toNatClampNeg (((upd (M_s o1.2) (68 : Int32).toNatClampNeg (((M_s o1.2) (68 : Int32).toNatClampNeg) + (1 : Int32))) (69 : Int32).toNatClampNeg) + s36)) (65 : Int32).toNatClampNeg (((upd (upd (M_s o1.2) (68 : Int32).toNatClampNeg (((M_s o1.2) (68 : Int32).toNatClampNeg) + (1 : Int32))) (69 : Int32).toNatClampNeg (((upd (M_s o1.2) (68 : Int32).toNatClampNeg (((M_s o1.2) (68 : Int32).toNatClampNeg) + (1 : Int32))) (69 : Int32).toNatClampNeg) + s36)) (65 : Int32).toNatClampNeg) + s55)) (66 : Int32).toNatClampNeg) - s74)) (61 : Int32).toNatClampNeg) _ _ _ hP hD hS (lv_sub hl [0, 1] rfl) hF
      refine lv_if_ge (tgt := 73) hx hb dX6_counts_66 (by decide) (fun c35 => ?_) (fun c35 => ?_)
      · have hF := itp c35 hF
        refine lv_iconst (v := 0) hx hb dX6_counts_73 (by decide) ?_
        exact hJ74 (0 : Int32) _ _ _ hP hD hS (lv_sub hl [0, 1] rfl) hF
      · have hF := itn c35 hF
        refine lv_iload_n hx hb dX6_counts_69 rfl (lv_at hl 1 rfl) ?_
        refine lv_goto (tgt := 74) hx hb dX6_counts_70 (by decide) ?_
        exact hJ74 o1.1 _ _ _ hP hD hS (lv_sub hl [0, 1] rfl) hF
    refine lv_if_le (tgt := 54) hx hb dX6_counts_47 (by decide) (fun c36 => ?_) (fun c36 => ?_)
    · have hF := itp c36 hF
      refine lv_iconst (v := 0) hx hb dX6_counts_54 (by decide) ?_
      exact hJ55 (0 : Int32) _ _ _ hP hD hS (lv_sub hl [0, 1] rfl) hF
    · have hF := itn c36 hF
      refine lv_iload_n hx hb dX6_counts_50 rfl (lv_at hl 1 rfl) ?_
      refine lv_goto (tgt := 55) hx hb dX6_counts_51 (by decide) ?_
      exact hJ55 o1.1 _ _ _ hP hD hS (lv_sub hl [0, 1] rfl) hF
  refine lv_if_eq (tgt := 35) hx hb dX6_counts_28 (by decide) (fun c37 => ?_) (fun c37 => ?_)
  · have hF := itp c37 hF
    refine lv_iconst (v := 0) hx hb dX6_counts_35 (by decide) ?_
    exact hJ36 (0 : Int32) _ _ _ b01_0 hP hD hS (lv_sub hl [1, 0] rfl) hF
  · have hF := itn c37 hF
    refine lv_iconst (v := 1) hx hb dX6_counts_31 (by decide) ?_
    refine lv_goto (tgt := 36) hx hb dX6_counts_32 (by decide) ?_
    exact hJ36 (1 : Int32) _ _ _ b01_1 hP hD hS (lv_sub hl [1, 0] rfl) hF
theorem dX6_thrown_0 : decode cX6_thrown 0 = .ok (.aload_n 0, 1) := by decide +kernel
theorem dX6_thrown_1 : decode cX6_thrown 1 = .ok (.getfield 31, 3) := by decide +kernel
theorem dX6_thrown_4 : decode cX6_thrown 4 = .ok (.ireturn, 1) := by decide +kernel
def f_X6_thrown (N : Nat) (v : MV) : Option (Int32) :=
  some (M_thrown v)
set_option maxHeartbeats 4000000 in
set_option maxRecDepth 100000 in
theorem met_X6_thrown (l : Launch) (dC : Nat → ClassId) (dI : Nat → Nat → Nat) (cyI cyO cyL : ClassId) (a : Nat → Nat) (N : Nat) (v : MV) (out : Int32) (hF : f_X6_thrown N v = some out) : Met l yX6_thrown (Cond.code yX6_thrown cX6_thrown 1 (some .int) :: wT) ({ frames := 0, cells := 0, slots := 0, locals := 0 } : Room) (wRd dC dI cyI cyO cyL [.ref (a 0)] (cM cyI a v)) (va_Qi (fun (r : Int32) (_ : Unit) => r = out) (fun _ _ => True) wN0) 0 0 wN0 := by
  refine Met.ofW (cc := cX6_thrown) (maxL := 1) (ret := (some .int)) (by decide) rfl ?_
  intro p e s m args below meth c s₁ B hml hv
  obtain ⟨rfl, hP, hK⟩ := hv
  have hx := B.exec
  have hb := B.bytes
  have hr := B.returns
  have hts0 := atoms_spec (ws := (Cond.code yX6_thrown cX6_thrown 1 (some .int) :: wT)) B.pre
  have hts := fun w h => hts0 w (List.mem_cons_of_mem _ h)
  clear hts0
  have hown : s.vm.findClass RX6 = some m.cls := findClass_of_methodNamed B.named
  have hlocks := B.notSynchronized
  have hS : va_S wN0 s.heap s.heap [] := va_S.rf
  have hl := lv_entry [.ref (a 0)] (n := 1) (Nat.le_of_ble_eq_true rfl)
  rw [lg_entry_eq]
  generalize (lg_sl [.ref (a 0)] ++ List.replicate (1 - (lg_sl [.ref (a 0)]).length) Slot.unset).toArray = ls at hl ⊢
  have hl : lv_has ls 1 [(0, .ref (a 0))] := hl
  unfold f_X6_thrown at hF
  refine lv_aload_n hx hb dX6_thrown_0 rfl (lv_at hl 0 rfl) ?_
  refine va_get (D := (dC, dI)) (ci := 6) (v := .int (M_thrown v)) (C := RX6) (T := TX6) (N := 23) hx hb hts inX6 hown hK.1 hP 0 rfl rfl 0 (by decide) (hts _ w_fieldLink_X6_31) (fun _ h9 => h9) rfl dX6_thrown_1 ?_
  exact W.iret (v := (M_thrown v)) hx hb hr (fun t ht hW => ⟨⟨_, (), rfl, Option.some.inj hF, trivial⟩, hS.F ht⟩) hS.2.2 dX6_thrown_4
