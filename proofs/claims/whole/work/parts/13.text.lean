/-! written by program from the bytecode: what each method computes, and its contract -/

theorem dX4_isIn_0 : decode cX4_isIn 0 = .ok (.iload_n 0, 1) := by decide +kernel
theorem dX4_isIn_1 : decode cX4_isIn 1 = .ok (.iload_n 1, 1) := by decide +kernel
theorem dX4_isIn_2 : decode cX4_isIn 2 = .ok (.if_icmp .lt 12, 3) := by decide +kernel
theorem dX4_isIn_5 : decode cX4_isIn 5 = .ok (.iload_n 0, 1) := by decide +kernel
theorem dX4_isIn_6 : decode cX4_isIn 6 = .ok (.iload_n 2, 1) := by decide +kernel
theorem dX4_isIn_7 : decode cX4_isIn 7 = .ok (.if_icmp .gt 7, 3) := by decide +kernel
theorem dX4_isIn_10 : decode cX4_isIn 10 = .ok (.iconst 1, 1) := by decide +kernel
theorem dX4_isIn_11 : decode cX4_isIn 11 = .ok (.goto 4, 3) := by decide +kernel
theorem dX4_isIn_14 : decode cX4_isIn 14 = .ok (.iconst 0, 1) := by decide +kernel
theorem dX4_isIn_15 : decode cX4_isIn 15 = .ok (.ireturn, 1) := by decide +kernel
def f_X4_isIn (N : Nat) (p1 : Int32) (p2 : Int32) (p3 : Int32) : Option (Int32) :=
  jn (fun (s15 : Int32) => some s15) (fun (j15 : (Int32) → Option (Int32)) => jn (fun (s14 : Unit) => j15 (0 : Int32)) (fun (j14 : (Unit) → Option (Int32)) => (if p1 < p2 then j14 () else (if p3 < p1 then j14 () else j15 (1 : Int32)))))
set_option maxHeartbeats 4000000 in
set_option maxRecDepth 100000 in
theorem met_X4_isIn (l : Launch) (dC : Nat → ClassId) (dI : Nat → Nat → Nat) (cyI cyO cyL : ClassId)  (N : Nat) (p1 : Int32) (p2 : Int32) (p3 : Int32) (out : Int32) (hF : f_X4_isIn N p1 p2 p3 = some out) : Met l yX4_isIn (Cond.code yX4_isIn cX4_isIn 3 (some .boolean) :: wT) ({ frames := 0, cells := 0, slots := 0, locals := 0 } : Room) (wRd dC dI cyI cyO cyL [.int p1, .int p2, .int p3] ([] : va_W)) (va_Qi (fun (r : Int32) (_ : Unit) => r = out ∧ b01 r) (fun _ _ => True) wN0) 0 0 wN0 := by
  refine Met.ofW (cc := cX4_isIn) (maxL := 3) (ret := (some .boolean)) (by decide) rfl ?_
  intro p e s m args below meth c s₁ B hml hv
  obtain ⟨rfl, hP, hK⟩ := hv
  have hx := B.exec
  have hb := B.bytes
  have hr := B.returns
  have hts0 := atoms_spec (ws := (Cond.code yX4_isIn cX4_isIn 3 (some .boolean) :: wT)) B.pre
  have hts := fun w h => hts0 w (List.mem_cons_of_mem _ h)
  clear hts0
  have hown : s.vm.findClass RX4 = some m.cls := findClass_of_methodNamed B.named
  have hlocks := B.notSynchronized
  have hS : va_S wN0 s.heap s.heap [] := va_S.rf
  have hl := lv_entry [.int p1, .int p2, .int p3] (n := 3) (Nat.le_of_ble_eq_true rfl)
  rw [lg_entry_eq]
  generalize (lg_sl [.int p1, .int p2, .int p3] ++ List.replicate (3 - (lg_sl [.int p1, .int p2, .int p3]).length) Slot.unset).toArray = ls at hl ⊢
  have hl : lv_has ls 3 [(0, .int p1), (1, .int p2), (2, .int p3)] := hl
  unfold f_X4_isIn at hF
  refine lv_iload_n hx hb dX4_isIn_0 rfl (lv_at hl 0 rfl) ?_
  refine lv_iload_n hx hb dX4_isIn_1 rfl (lv_at hl 1 rfl) ?_
  obtain ⟨j15, hj15, hF⟩ := jn_use hF
  have hJ15 : ∀ (s15 : Int32) (H : Heap) (locs : List Loc) (ls : Array Slot) (hz_15_s0 : b01 s15), va_P (dC, dI) vwCl ([] : va_W) H → va_S wN0 s.heap H locs → lv_has ls 3 [] → j15 s15 = some out → W p l e (headSpec (Cond.code yX4_isIn cX4_isIn 3 (some .boolean) :: wT) ({ frames := 0, cells := 0, slots := 0, locals := 0 } : Room)).room s m ([.int p1, .int p2, .int p3] : List Value).toArray below meth c H locs 0 0 (MQ below (va_Qi (fun (r : Int32) (_ : Unit) => r = out ∧ b01 r) (fun _ _ => True) wN0) ([.int p1, .int p2, .int p3] : List Value).toArray s 0 0 wN0) (F0 m 15 ls [.int s15]) := by
    intro s15 H locs ls hz_15_s0 hP hS hl hF
    have hF := (congrFun hj15 s15).symm.trans hF
    exact W.zret (ty := .boolean) (v := s15) hx hb hr (b01_n hz_15_s0) (fun t ht hW => ⟨⟨_, (), rfl, ⟨Option.some.inj hF, hz_15_s0⟩, trivial⟩, hS.F ht⟩) hS.2.2 dX4_isIn_15
  obtain ⟨j14, hj14, hF⟩ := jn_use hF
  have hJ14 : ∀ (s14 : Unit) (H : Heap) (locs : List Loc) (ls : Array Slot), va_P (dC, dI) vwCl ([] : va_W) H → va_S wN0 s.heap H locs → lv_has ls 3 [] → j14 s14 = some out → W p l e (headSpec (Cond.code yX4_isIn cX4_isIn 3 (some .boolean) :: wT) ({ frames := 0, cells := 0, slots := 0, locals := 0 } : Room)).room s m ([.int p1, .int p2, .int p3] : List Value).toArray below meth c H locs 0 0 (MQ below (va_Qi (fun (r : Int32) (_ : Unit) => r = out ∧ b01 r) (fun _ _ => True) wN0) ([.int p1, .int p2, .int p3] : List Value).toArray s 0 0 wN0) (F0 m 14 ls []) := by
    intro s14 H locs ls hP hS hl hF
    have hF := (congrFun hj14 s14).symm.trans hF
    refine lv_iconst (v := 0) hx hb dX4_isIn_14 (by decide) ?_
    exact hJ15 (0 : Int32) _ _ _ b01_0 hP hS (lv_sub hl [] rfl) hF
  refine lv_icmp_lt (tgt := 14) hx hb dX4_isIn_2 (by decide) (fun c1 => ?_) (fun c1 => ?_)
  · have hF := itp c1 hF
    exact hJ14 () _ _ _ hP hS (lv_sub hl [] rfl) hF
  · have hF := itn c1 hF
    refine lv_iload_n hx hb dX4_isIn_5 rfl (lv_at hl 0 rfl) ?_
    refine lv_iload_n hx hb dX4_isIn_6 rfl (lv_at hl 2 rfl) ?_
    refine lv_icmp_gt (tgt := 14) hx hb dX4_isIn_7 (by decide) (fun c2 => ?_) (fun c2 => ?_)
    · have hF := itp c2 hF
      exact hJ14 () _ _ _ hP hS (lv_sub hl [] rfl) hF
    · have hF := itn c2 hF
      refine lv_iconst (v := 1) hx hb dX4_isIn_10 (by decide) ?_
      refine lv_goto (tgt := 15) hx hb dX4_isIn_11 (by decide) ?_
      exact hJ15 (1 : Int32) _ _ _ b01_1 hP hS (lv_sub hl [] rfl) hF
theorem dX4_when_0 : decode cX4_when 0 = .ok (.iload_n 0, 1) := by decide +kernel
theorem dX4_when_1 : decode cX4_when 1 = .ok (.ifCond .eq 7, 3) := by decide +kernel
theorem dX4_when_4 : decode cX4_when 4 = .ok (.iload_n 1, 1) := by decide +kernel
theorem dX4_when_5 : decode cX4_when 5 = .ok (.goto 4, 3) := by decide +kernel
theorem dX4_when_8 : decode cX4_when 8 = .ok (.iconst (-1), 1) := by decide +kernel
theorem dX4_when_9 : decode cX4_when 9 = .ok (.ireturn, 1) := by decide +kernel
def f_X4_when (N : Nat) (p1 : Int32) (p2 : Int32) : Option (Int32) :=
  jn (fun (s9 : Int32) => some s9) (fun (j9 : (Int32) → Option (Int32)) => (if p1 = 0 then j9 (-1 : Int32) else j9 p2))
set_option maxHeartbeats 4000000 in
set_option maxRecDepth 100000 in
theorem met_X4_when (l : Launch) (dC : Nat → ClassId) (dI : Nat → Nat → Nat) (cyI cyO cyL : ClassId)  (N : Nat) (p1 : Int32) (p2 : Int32) (out : Int32) (hF : f_X4_when N p1 p2 = some out) : Met l yX4_when (Cond.code yX4_when cX4_when 2 (some .int) :: wT) ({ frames := 0, cells := 0, slots := 0, locals := 0 } : Room) (wRd dC dI cyI cyO cyL [.int p1, .int p2] ([] : va_W)) (va_Qi (fun (r : Int32) (_ : Unit) => r = out) (fun _ _ => True) wN0) 0 0 wN0 := by
  refine Met.ofW (cc := cX4_when) (maxL := 2) (ret := (some .int)) (by decide) rfl ?_
  intro p e s m args below meth c s₁ B hml hv
  obtain ⟨rfl, hP, hK⟩ := hv
  have hx := B.exec
  have hb := B.bytes
  have hr := B.returns
  have hts0 := atoms_spec (ws := (Cond.code yX4_when cX4_when 2 (some .int) :: wT)) B.pre
  have hts := fun w h => hts0 w (List.mem_cons_of_mem _ h)
  clear hts0
  have hown : s.vm.findClass RX4 = some m.cls := findClass_of_methodNamed B.named
  have hlocks := B.notSynchronized
  have hS : va_S wN0 s.heap s.heap [] := va_S.rf
  have hl := lv_entry [.int p1, .int p2] (n := 2) (Nat.le_of_ble_eq_true rfl)
  rw [lg_entry_eq]
  generalize (lg_sl [.int p1, .int p2] ++ List.replicate (2 - (lg_sl [.int p1, .int p2]).length) Slot.unset).toArray = ls at hl ⊢
  have hl : lv_has ls 2 [(0, .int p1), (1, .int p2)] := hl
  unfold f_X4_when at hF
  refine lv_iload_n hx hb dX4_when_0 rfl (lv_at hl 0 rfl) ?_
  obtain ⟨j9, hj9, hF⟩ := jn_use hF
  have hJ9 : ∀ (s9 : Int32) (H : Heap) (locs : List Loc) (ls : Array Slot), va_P (dC, dI) vwCl ([] : va_W) H → va_S wN0 s.heap H locs → lv_has ls 2 [] → j9 s9 = some out → W p l e (headSpec (Cond.code yX4_when cX4_when 2 (some .int) :: wT) ({ frames := 0, cells := 0, slots := 0, locals := 0 } : Room)).room s m ([.int p1, .int p2] : List Value).toArray below meth c H locs 0 0 (MQ below (va_Qi (fun (r : Int32) (_ : Unit) => r = out) (fun _ _ => True) wN0) ([.int p1, .int p2] : List Value).toArray s 0 0 wN0) (F0 m 9 ls [.int s9]) := by
    intro s9 H locs ls hP hS hl hF
    have hF := (congrFun hj9 s9).symm.trans hF
    exact W.iret (v := s9) hx hb hr (fun t ht hW => ⟨⟨_, (), rfl, Option.some.inj hF, trivial⟩, hS.F ht⟩) hS.2.2 dX4_when_9
  refine lv_if_eq (tgt := 8) hx hb dX4_when_1 (by decide) (fun c1 => ?_) (fun c1 => ?_)
  · have hF := itp c1 hF
    refine lv_iconst (v := -1) hx hb dX4_when_8 (by decide) ?_
    exact hJ9 (-1 : Int32) _ _ _ hP hS (lv_sub hl [] rfl) hF
  · have hF := itn c1 hF
    refine lv_iload_n hx hb dX4_when_4 rfl (lv_at hl 1 rfl) ?_
    refine lv_goto (tgt := 9) hx hb dX4_when_5 (by decide) ?_
    exact hJ9 p2 _ _ _ hP hS (lv_sub hl [] rfl) hF
theorem dX4_afterSemicolon_0 : decode cX4_afterSemicolon 0 = .ok (.iload_n 0, 1) := by decide +kernel
theorem dX4_afterSemicolon_1 : decode cX4_afterSemicolon 1 = .ok (.lookupswitch 53 #[(98, 45), (99, 47), (106, 43), (119, 50)], 43) := by decide +kernel
theorem dX4_afterSemicolon_44 : decode cX4_afterSemicolon 44 = .ok (.iconst 1, 1) := by decide +kernel
theorem dX4_afterSemicolon_45 : decode cX4_afterSemicolon 45 = .ok (.ireturn, 1) := by decide +kernel
theorem dX4_afterSemicolon_46 : decode cX4_afterSemicolon 46 = .ok (.iconst 4, 1) := by decide +kernel
theorem dX4_afterSemicolon_47 : decode cX4_afterSemicolon 47 = .ok (.ireturn, 1) := by decide +kernel
theorem dX4_afterSemicolon_48 : decode cX4_afterSemicolon 48 = .ok (.bipush 16, 2) := by decide +kernel
theorem dX4_afterSemicolon_50 : decode cX4_afterSemicolon 50 = .ok (.ireturn, 1) := by decide +kernel
theorem dX4_afterSemicolon_51 : decode cX4_afterSemicolon 51 = .ok (.bipush 14, 2) := by decide +kernel
theorem dX4_afterSemicolon_53 : decode cX4_afterSemicolon 53 = .ok (.ireturn, 1) := by decide +kernel
theorem dX4_afterSemicolon_54 : decode cX4_afterSemicolon 54 = .ok (.iconst (-1), 1) := by decide +kernel
theorem dX4_afterSemicolon_55 : decode cX4_afterSemicolon 55 = .ok (.ireturn, 1) := by decide +kernel
def f_X4_afterSemicolon (N : Nat) (p1 : Int32) : Option (Int32) :=
  (if p1 = (98 : Int32) then some (4 : Int32) else (if p1 = (99 : Int32) then some (16 : Int32) else (if p1 = (106 : Int32) then some (1 : Int32) else (if p1 = (119 : Int32) then some (14 : Int32) else some (-1 : Int32)))))
set_option maxHeartbeats 4000000 in
set_option maxRecDepth 100000 in
theorem met_X4_afterSemicolon (l : Launch) (dC : Nat → ClassId) (dI : Nat → Nat → Nat) (cyI cyO cyL : ClassId)  (N : Nat) (p1 : Int32) (out : Int32) (hF : f_X4_afterSemicolon N p1 = some out) : Met l yX4_afterSemicolon (Cond.code yX4_afterSemicolon cX4_afterSemicolon 1 (some .int) :: wT) ({ frames := 0, cells := 0, slots := 0, locals := 0 } : Room) (wRd dC dI cyI cyO cyL [.int p1] ([] : va_W)) (va_Qi (fun (r : Int32) (_ : Unit) => r = out) (fun _ _ => True) wN0) 0 0 wN0 := by
  refine Met.ofW (cc := cX4_afterSemicolon) (maxL := 1) (ret := (some .int)) (by decide) rfl ?_
  intro p e s m args below meth c s₁ B hml hv
  obtain ⟨rfl, hP, hK⟩ := hv
  have hx := B.exec
  have hb := B.bytes
  have hr := B.returns
  have hts0 := atoms_spec (ws := (Cond.code yX4_afterSemicolon cX4_afterSemicolon 1 (some .int) :: wT)) B.pre
  have hts := fun w h => hts0 w (List.mem_cons_of_mem _ h)
  clear hts0
  have hown : s.vm.findClass RX4 = some m.cls := findClass_of_methodNamed B.named
  have hlocks := B.notSynchronized
  have hS : va_S wN0 s.heap s.heap [] := va_S.rf
  have hl := lv_entry [.int p1] (n := 1) (Nat.le_of_ble_eq_true rfl)
  rw [lg_entry_eq]
  generalize (lg_sl [.int p1] ++ List.replicate (1 - (lg_sl [.int p1]).length) Slot.unset).toArray = ls at hl ⊢
  have hl : lv_has ls 1 [(0, .int p1)] := hl
  unfold f_X4_afterSemicolon at hF
  refine lv_iload_n hx hb dX4_afterSemicolon_0 rfl (lv_at hl 0 rfl) ?_
  by_cases c1 : p1 = (98 : Int32)
  · have hF := itp c1 hF
    refine lv_lookup (off := 45) (tgt := 46) hx hb dX4_afterSemicolon_1 (by decide) (by rw [c1]; decide) (by decide) ?_
    refine lv_iconst (v := 4) hx hb dX4_afterSemicolon_46 (by decide) ?_
    exact W.iret (v := (4 : Int32)) hx hb hr (fun t ht hW => ⟨⟨_, (), rfl, Option.some.inj hF, trivial⟩, hS.F ht⟩) hS.2.2 dX4_afterSemicolon_47
  · have hF := itn c1 hF
    by_cases c2 : p1 = (99 : Int32)
    · have hF := itp c2 hF
      refine lv_lookup (off := 47) (tgt := 48) hx hb dX4_afterSemicolon_1 (by decide) (by rw [c2]; decide) (by decide) ?_
      refine lv_bipush (v := 16) hx hb dX4_afterSemicolon_48 (by decide) ?_
      exact W.iret (v := (16 : Int32)) hx hb hr (fun t ht hW => ⟨⟨_, (), rfl, Option.some.inj hF, trivial⟩, hS.F ht⟩) hS.2.2 dX4_afterSemicolon_50
    · have hF := itn c2 hF
      by_cases c3 : p1 = (106 : Int32)
      · have hF := itp c3 hF
        refine lv_lookup (off := 43) (tgt := 44) hx hb dX4_afterSemicolon_1 (by decide) (by rw [c3]; decide) (by decide) ?_
        refine lv_iconst (v := 1) hx hb dX4_afterSemicolon_44 (by decide) ?_
        exact W.iret (v := (1 : Int32)) hx hb hr (fun t ht hW => ⟨⟨_, (), rfl, Option.some.inj hF, trivial⟩, hS.F ht⟩) hS.2.2 dX4_afterSemicolon_45
      · have hF := itn c3 hF
        by_cases c4 : p1 = (119 : Int32)
        · have hF := itp c4 hF
          refine lv_lookup (off := 50) (tgt := 51) hx hb dX4_afterSemicolon_1 (by decide) (by rw [c4]; decide) (by decide) ?_
          refine lv_bipush (v := 14) hx hb dX4_afterSemicolon_51 (by decide) ?_
          exact W.iret (v := (14 : Int32)) hx hb hr (fun t ht hW => ⟨⟨_, (), rfl, Option.some.inj hF, trivial⟩, hS.F ht⟩) hS.2.2 dX4_afterSemicolon_53
        · have hF := itn c4 hF
          refine lv_lookup (off := 53) (tgt := 54) hx hb dX4_afterSemicolon_1 (by decide) (by refine (lv_osw c1 (by decide)).trans ?_; refine (lv_osw c2 (by decide)).trans ?_; refine (lv_osw c3 (by decide)).trans ?_; refine (lv_osw c4 (by decide)).trans ?_; rfl) (by decide) ?_
          refine lv_iconst (v := -1) hx hb dX4_afterSemicolon_54 (by decide) ?_
          exact W.iret (v := (-1 : Int32)) hx hb hr (fun t ht hW => ⟨⟨_, (), rfl, Option.some.inj hF, trivial⟩, hS.F ht⟩) hS.2.2 dX4_afterSemicolon_55
theorem dX4_afterAim_0 : decode cX4_afterAim 0 = .ok (.iload_n 0, 1) := by decide +kernel
theorem dX4_afterAim_1 : decode cX4_afterAim 1 = .ok (.bipush 49, 2) := by decide +kernel
theorem dX4_afterAim_3 : decode cX4_afterAim 3 = .ok (.if_icmp .ne 6, 3) := by decide +kernel
theorem dX4_afterAim_6 : decode cX4_afterAim 6 = .ok (.bipush 8, 2) := by decide +kernel
theorem dX4_afterAim_8 : decode cX4_afterAim 8 = .ok (.ireturn, 1) := by decide +kernel
theorem dX4_afterAim_9 : decode cX4_afterAim 9 = .ok (.iload_n 0, 1) := by decide +kernel
theorem dX4_afterAim_10 : decode cX4_afterAim 10 = .ok (.bipush 50, 2) := by decide +kernel
theorem dX4_afterAim_12 : decode cX4_afterAim 12 = .ok (.bipush 54, 2) := by decide +kernel
theorem dX4_afterAim_14 : decode cX4_afterAim 14 = .ok (.invokestatic 35, 3) := by decide +kernel
theorem dX4_afterAim_17 : decode cX4_afterAim 17 = .ok (.ifCond .eq 8, 3) := by decide +kernel
theorem dX4_afterAim_20 : decode cX4_afterAim 20 = .ok (.bipush 9, 2) := by decide +kernel
theorem dX4_afterAim_22 : decode cX4_afterAim 22 = .ok (.goto 19, 3) := by decide +kernel
theorem dX4_afterAim_25 : decode cX4_afterAim 25 = .ok (.iload_n 0, 1) := by decide +kernel
theorem dX4_afterAim_26 : decode cX4_afterAim 26 = .ok (.bipush 55, 2) := by decide +kernel
theorem dX4_afterAim_28 : decode cX4_afterAim 28 = .ok (.if_icmp .ne 7, 3) := by decide +kernel
theorem dX4_afterAim_31 : decode cX4_afterAim 31 = .ok (.iconst 1, 1) := by decide +kernel
theorem dX4_afterAim_32 : decode cX4_afterAim 32 = .ok (.goto 4, 3) := by decide +kernel
theorem dX4_afterAim_35 : decode cX4_afterAim 35 = .ok (.iconst 0, 1) := by decide +kernel
theorem dX4_afterAim_36 : decode cX4_afterAim 36 = .ok (.bipush 10, 2) := by decide +kernel
theorem dX4_afterAim_38 : decode cX4_afterAim 38 = .ok (.invokestatic 42, 3) := by decide +kernel
theorem dX4_afterAim_41 : decode cX4_afterAim 41 = .ok (.ireturn, 1) := by decide +kernel
def f_X4_afterAim (N : Nat) (p1 : Int32) : Option (Int32) :=
  (if p1 = (49 : Int32) then some (8 : Int32) else (f_X4_isIn N p1 (50 : Int32) (54 : Int32)).bind (fun o2 => jn (fun (s41 : Int32) => some s41) (fun (j41 : (Int32) → Option (Int32)) => (if o2 = 0 then jn (fun (s36 : Int32) => (f_X4_when N s36 (10 : Int32)).bind (fun o6 => j41 o6)) (fun (j36 : (Int32) → Option (Int32)) => (if p1 = (55 : Int32) then j36 (1 : Int32) else j36 (0 : Int32))) else j41 (9 : Int32)))))
set_option maxHeartbeats 4000000 in
set_option maxRecDepth 100000 in
theorem met_X4_afterAim (l : Launch) (dC : Nat → ClassId) (dI : Nat → Nat → Nat) (cyI cyO cyL : ClassId)  (N : Nat) (p1 : Int32) (out : Int32) (hF : f_X4_afterAim N p1 = some out) : Met l yX4_afterAim (Cond.code yX4_afterAim cX4_afterAim 1 (some .int) :: wT) ({ frames := 1, cells := 0, slots := 0, locals := 22 } : Room) (wRd dC dI cyI cyO cyL [.int p1] ([] : va_W)) (va_Qi (fun (r : Int32) (_ : Unit) => r = out) (fun _ _ => True) wN0) 0 0 wN0 := by
  refine Met.ofW (cc := cX4_afterAim) (maxL := 1) (ret := (some .int)) (by decide) rfl ?_
  intro p e s m args below meth c s₁ B hml hv
  obtain ⟨rfl, hP, hK⟩ := hv
  have hx := B.exec
  have hb := B.bytes
  have hr := B.returns
  have hts0 := atoms_spec (ws := (Cond.code yX4_afterAim cX4_afterAim 1 (some .int) :: wT)) B.pre
  have hts := fun w h => hts0 w (List.mem_cons_of_mem _ h)
  clear hts0
  have hown : s.vm.findClass RX4 = some m.cls := findClass_of_methodNamed B.named
  have hlocks := B.notSynchronized
  have hS : va_S wN0 s.heap s.heap [] := va_S.rf
  have hl := lv_entry [.int p1] (n := 1) (Nat.le_of_ble_eq_true rfl)
  rw [lg_entry_eq]
  generalize (lg_sl [.int p1] ++ List.replicate (1 - (lg_sl [.int p1]).length) Slot.unset).toArray = ls at hl ⊢
  have hl : lv_has ls 1 [(0, .int p1)] := hl
  unfold f_X4_afterAim at hF
  refine lv_iload_n hx hb dX4_afterAim_0 rfl (lv_at hl 0 rfl) ?_
  refine lv_bipush (v := 49) hx hb dX4_afterAim_1 (by decide) ?_
  refine lv_icmp_ne (tgt := 9) hx hb dX4_afterAim_3 (by decide) (fun c1 => ?_) (fun c1 => ?_)
  · have hF := itn c1 hF
    refine lv_iload_n hx hb dX4_afterAim_9 rfl (lv_at hl 0 rfl) ?_
    refine lv_bipush (v := 50) hx hb dX4_afterAim_10 (by decide) ?_
    refine lv_bipush (v := 54) hx hb dX4_afterAim_12 (by decide) ?_
    obtain ⟨o2, h3, hF⟩ := obd hF
    refine wcRSi (As := [.int p1, .int (50 : Int32), .int (54 : Int32)]) (rest := []) ⟨hx, hb, hml, hown, hts⟩ (met_X4_isIn l dC dI cyI cyO cyL  N  p1 (50 : Int32) (54 : Int32) o2 h3) (va_cwS 3 hts (gS w_methodLink_X4_35 w_static_X4_isIn w_initialized_X4 w_code_X4_isIn) rfl rfl rfl (by decide +kernel) ⟨Nat.le_of_ble_eq_true rfl, Nat.le_of_ble_eq_true rfl⟩) hP hK [] rfl rfl hl.1 (Nat.le_of_ble_eq_true rfl) dX4_afterAim_14 ⟨Nat.le_of_ble_eq_true rfl, Nat.le_of_ble_eq_true rfl⟩ hS (fun r H locs hw hP hS => ?_)
    obtain ⟨hw, hz4⟩ := hw
    have hw := hw.symm
    subst hw
    obtain ⟨j41, hj41, hF⟩ := jn_use hF
    have hJ41 : ∀ (s41 : Int32) (H : Heap) (locs : List Loc) (ls : Array Slot), va_P (dC, dI) vwCl ([] : va_W) H → va_S wN0 s.heap H locs → lv_has ls 1 [] → j41 s41 = some out → W p l e (headSpec (Cond.code yX4_afterAim cX4_afterAim 1 (some .int) :: wT) ({ frames := 1, cells := 0, slots := 0, locals := 22 } : Room)).room s m ([.int p1] : List Value).toArray below meth c H locs 0 0 (MQ below (va_Qi (fun (r : Int32) (_ : Unit) => r = out) (fun _ _ => True) wN0) ([.int p1] : List Value).toArray s 0 0 wN0) (F0 m 41 ls [.int s41]) := by
      intro s41 H locs ls hP hS hl hF
      have hF := (congrFun hj41 s41).symm.trans hF
      exact W.iret (v := s41) hx hb hr (fun t ht hW => ⟨⟨_, (), rfl, Option.some.inj hF, trivial⟩, hS.F ht⟩) hS.2.2 dX4_afterAim_41
    refine lv_if_eq (tgt := 25) hx hb dX4_afterAim_17 (by decide) (fun c5 => ?_) (fun c5 => ?_)
    · have hF := itp c5 hF
      refine lv_iload_n hx hb dX4_afterAim_25 rfl (lv_at hl 0 rfl) ?_
      refine lv_bipush (v := 55) hx hb dX4_afterAim_26 (by decide) ?_
      obtain ⟨j36, hj36, hF⟩ := jn_use hF
      have hJ36 : ∀ (s36 : Int32) (H : Heap) (locs : List Loc) (ls : Array Slot) (hz_36_s0 : b01 s36), va_P (dC, dI) vwCl ([] : va_W) H → va_S wN0 s.heap H locs → lv_has ls 1 [] → j36 s36 = some out → W p l e (headSpec (Cond.code yX4_afterAim cX4_afterAim 1 (some .int) :: wT) ({ frames := 1, cells := 0, slots := 0, locals := 22 } : Room)).room s m ([.int p1] : List Value).toArray below meth c H locs 0 0 (MQ below (va_Qi (fun (r : Int32) (_ : Unit) => r = out) (fun _ _ => True) wN0) ([.int p1] : List Value).toArray s 0 0 wN0) (F0 m 36 ls [.int s36]) := by
        intro s36 H locs ls hz_36_s0 hP hS hl hF
        have hF := (congrFun hj36 s36).symm.trans hF
        refine lv_bipush (v := 10) hx hb dX4_afterAim_36 (by decide) ?_
        obtain ⟨o6, h7, hF⟩ := obd hF
        refine wcRSi (As := [.int s36, .int (10 : Int32)]) (rest := []) ⟨hx, hb, hml, hown, hts⟩ (met_X4_when l dC dI cyI cyO cyL  N  s36 (10 : Int32) o6 h7) (va_cwS 2 hts (gS w_methodLink_X4_42 w_static_X4_when w_initialized_X4 w_code_X4_when) rfl rfl rfl (by decide +kernel) ⟨Nat.le_of_ble_eq_true rfl, Nat.le_of_ble_eq_true rfl⟩) hP hK [] rfl rfl hl.1 (Nat.le_of_ble_eq_true rfl) dX4_afterAim_38 ⟨Nat.le_of_ble_eq_true rfl, Nat.le_of_ble_eq_true rfl⟩ hS (fun r H locs hw hP hS => ?_)
        have hw := hw.symm
        subst hw
        exact hJ41 o6 _ _ _ hP hS (lv_sub hl [] rfl) hF
      refine lv_icmp_ne (tgt := 35) hx hb dX4_afterAim_28 (by decide) (fun c8 => ?_) (fun c8 => ?_)
      · have hF := itn c8 hF
        refine lv_iconst (v := 0) hx hb dX4_afterAim_35 (by decide) ?_
        exact hJ36 (0 : Int32) _ _ _ b01_0 hP hS (lv_sub hl [] rfl) hF
      · have hF := itp c8 hF
        refine lv_iconst (v := 1) hx hb dX4_afterAim_31 (by decide) ?_
        refine lv_goto (tgt := 36) hx hb dX4_afterAim_32 (by decide) ?_
        exact hJ36 (1 : Int32) _ _ _ b01_1 hP hS (lv_sub hl [] rfl) hF
    · have hF := itn c5 hF
      refine lv_bipush (v := 9) hx hb dX4_afterAim_20 (by decide) ?_
      refine lv_goto (tgt := 41) hx hb dX4_afterAim_22 (by decide) ?_
      exact hJ41 (9 : Int32) _ _ _ hP hS (lv_sub hl [] rfl) hF
  · have hF := itp c1 hF
    refine lv_bipush (v := 8) hx hb dX4_afterAim_6 (by decide) ?_
    exact W.iret (v := (8 : Int32)) hx hb hr (fun t ht hW => ⟨⟨_, (), rfl, Option.some.inj hF, trivial⟩, hS.F ht⟩) hS.2.2 dX4_afterAim_8
theorem dX4_afterBowl_0 : decode cX4_afterBowl 0 = .ok (.iload_n 0, 1) := by decide +kernel
theorem dX4_afterBowl_1 : decode cX4_afterBowl 1 = .ok (.tableswitch 216 4 13 #[55, 79, 93, 110, 115, 129, 143, 160, 177, 202], 55) := by decide +kernel
theorem dX4_afterBowl_56 : decode cX4_afterBowl 56 = .ok (.iload_n 1, 1) := by decide +kernel
theorem dX4_afterBowl_57 : decode cX4_afterBowl 57 = .ok (.bipush 45, 2) := by decide +kernel
theorem dX4_afterBowl_59 : decode cX4_afterBowl 59 = .ok (.if_icmp .ne 7, 3) := by decide +kernel
theorem dX4_afterBowl_62 : decode cX4_afterBowl 62 = .ok (.iconst 5, 1) := by decide +kernel
theorem dX4_afterBowl_63 : decode cX4_afterBowl 63 = .ok (.goto 16, 3) := by decide +kernel
theorem dX4_afterBowl_66 : decode cX4_afterBowl 66 = .ok (.iload_n 1, 1) := by decide +kernel
theorem dX4_afterBowl_67 : decode cX4_afterBowl 67 = .ok (.bipush 48, 2) := by decide +kernel
theorem dX4_afterBowl_69 : decode cX4_afterBowl 69 = .ok (.bipush 57, 2) := by decide +kernel
theorem dX4_afterBowl_71 : decode cX4_afterBowl 71 = .ok (.invokestatic 35, 3) := by decide +kernel
theorem dX4_afterBowl_74 : decode cX4_afterBowl 74 = .ok (.bipush 6, 2) := by decide +kernel
theorem dX4_afterBowl_76 : decode cX4_afterBowl 76 = .ok (.invokestatic 42, 3) := by decide +kernel
theorem dX4_afterBowl_79 : decode cX4_afterBowl 79 = .ok (.ireturn, 1) := by decide +kernel
theorem dX4_afterBowl_80 : decode cX4_afterBowl 80 = .ok (.iload_n 1, 1) := by decide +kernel
theorem dX4_afterBowl_81 : decode cX4_afterBowl 81 = .ok (.bipush 49, 2) := by decide +kernel
theorem dX4_afterBowl_83 : decode cX4_afterBowl 83 = .ok (.bipush 57, 2) := by decide +kernel
theorem dX4_afterBowl_85 : decode cX4_afterBowl 85 = .ok (.invokestatic 35, 3) := by decide +kernel
theorem dX4_afterBowl_88 : decode cX4_afterBowl 88 = .ok (.bipush 6, 2) := by decide +kernel
theorem dX4_afterBowl_90 : decode cX4_afterBowl 90 = .ok (.invokestatic 42, 3) := by decide +kernel
theorem dX4_afterBowl_93 : decode cX4_afterBowl 93 = .ok (.ireturn, 1) := by decide +kernel
theorem dX4_afterBowl_94 : decode cX4_afterBowl 94 = .ok (.iload_n 1, 1) := by decide +kernel
theorem dX4_afterBowl_95 : decode cX4_afterBowl 95 = .ok (.bipush 44, 2) := by decide +kernel
theorem dX4_afterBowl_97 : decode cX4_afterBowl 97 = .ok (.if_icmp .ne 7, 3) := by decide +kernel
theorem dX4_afterBowl_100 : decode cX4_afterBowl 100 = .ok (.iconst 1, 1) := by decide +kernel
theorem dX4_afterBowl_101 : decode cX4_afterBowl 101 = .ok (.goto 4, 3) := by decide +kernel
theorem dX4_afterBowl_104 : decode cX4_afterBowl 104 = .ok (.iconst 0, 1) := by decide +kernel
theorem dX4_afterBowl_105 : decode cX4_afterBowl 105 = .ok (.bipush 7, 2) := by decide +kernel
theorem dX4_afterBowl_107 : decode cX4_afterBowl 107 = .ok (.invokestatic 42, 3) := by decide +kernel
theorem dX4_afterBowl_110 : decode cX4_afterBowl 110 = .ok (.ireturn, 1) := by decide +kernel
theorem dX4_afterBowl_111 : decode cX4_afterBowl 111 = .ok (.iload_n 1, 1) := by decide +kernel
theorem dX4_afterBowl_112 : decode cX4_afterBowl 112 = .ok (.invokestatic 49, 3) := by decide +kernel
theorem dX4_afterBowl_115 : decode cX4_afterBowl 115 = .ok (.ireturn, 1) := by decide +kernel
theorem dX4_afterBowl_116 : decode cX4_afterBowl 116 = .ok (.iload_n 1, 1) := by decide +kernel
theorem dX4_afterBowl_117 : decode cX4_afterBowl 117 = .ok (.bipush 53, 2) := by decide +kernel
theorem dX4_afterBowl_119 : decode cX4_afterBowl 119 = .ok (.bipush 57, 2) := by decide +kernel
theorem dX4_afterBowl_121 : decode cX4_afterBowl 121 = .ok (.invokestatic 35, 3) := by decide +kernel
theorem dX4_afterBowl_124 : decode cX4_afterBowl 124 = .ok (.bipush 11, 2) := by decide +kernel
theorem dX4_afterBowl_126 : decode cX4_afterBowl 126 = .ok (.invokestatic 42, 3) := by decide +kernel
theorem dX4_afterBowl_129 : decode cX4_afterBowl 129 = .ok (.ireturn, 1) := by decide +kernel
theorem dX4_afterBowl_130 : decode cX4_afterBowl 130 = .ok (.iload_n 1, 1) := by decide +kernel
theorem dX4_afterBowl_131 : decode cX4_afterBowl 131 = .ok (.bipush 48, 2) := by decide +kernel
theorem dX4_afterBowl_133 : decode cX4_afterBowl 133 = .ok (.bipush 57, 2) := by decide +kernel
theorem dX4_afterBowl_135 : decode cX4_afterBowl 135 = .ok (.invokestatic 35, 3) := by decide +kernel
theorem dX4_afterBowl_138 : decode cX4_afterBowl 138 = .ok (.bipush 11, 2) := by decide +kernel
theorem dX4_afterBowl_140 : decode cX4_afterBowl 140 = .ok (.invokestatic 42, 3) := by decide +kernel
theorem dX4_afterBowl_143 : decode cX4_afterBowl 143 = .ok (.ireturn, 1) := by decide +kernel
theorem dX4_afterBowl_144 : decode cX4_afterBowl 144 = .ok (.iload_n 1, 1) := by decide +kernel
theorem dX4_afterBowl_145 : decode cX4_afterBowl 145 = .ok (.bipush 48, 2) := by decide +kernel
theorem dX4_afterBowl_147 : decode cX4_afterBowl 147 = .ok (.if_icmp .ne 7, 3) := by decide +kernel
theorem dX4_afterBowl_150 : decode cX4_afterBowl 150 = .ok (.iconst 1, 1) := by decide +kernel
theorem dX4_afterBowl_151 : decode cX4_afterBowl 151 = .ok (.goto 4, 3) := by decide +kernel
theorem dX4_afterBowl_154 : decode cX4_afterBowl 154 = .ok (.iconst 0, 1) := by decide +kernel
theorem dX4_afterBowl_155 : decode cX4_afterBowl 155 = .ok (.bipush 11, 2) := by decide +kernel
theorem dX4_afterBowl_157 : decode cX4_afterBowl 157 = .ok (.invokestatic 42, 3) := by decide +kernel
theorem dX4_afterBowl_160 : decode cX4_afterBowl 160 = .ok (.ireturn, 1) := by decide +kernel
theorem dX4_afterBowl_161 : decode cX4_afterBowl 161 = .ok (.iload_n 1, 1) := by decide +kernel
theorem dX4_afterBowl_162 : decode cX4_afterBowl 162 = .ok (.bipush 44, 2) := by decide +kernel
theorem dX4_afterBowl_164 : decode cX4_afterBowl 164 = .ok (.if_icmp .ne 7, 3) := by decide +kernel
theorem dX4_afterBowl_167 : decode cX4_afterBowl 167 = .ok (.iconst 1, 1) := by decide +kernel
theorem dX4_afterBowl_168 : decode cX4_afterBowl 168 = .ok (.goto 4, 3) := by decide +kernel
theorem dX4_afterBowl_171 : decode cX4_afterBowl 171 = .ok (.iconst 0, 1) := by decide +kernel
theorem dX4_afterBowl_172 : decode cX4_afterBowl 172 = .ok (.bipush 12, 2) := by decide +kernel
theorem dX4_afterBowl_174 : decode cX4_afterBowl 174 = .ok (.invokestatic 42, 3) := by decide +kernel
theorem dX4_afterBowl_177 : decode cX4_afterBowl 177 = .ok (.ireturn, 1) := by decide +kernel
theorem dX4_afterBowl_178 : decode cX4_afterBowl 178 = .ok (.iload_n 1, 1) := by decide +kernel
theorem dX4_afterBowl_179 : decode cX4_afterBowl 179 = .ok (.bipush 45, 2) := by decide +kernel
theorem dX4_afterBowl_181 : decode cX4_afterBowl 181 = .ok (.if_icmp .ne 8, 3) := by decide +kernel
theorem dX4_afterBowl_184 : decode cX4_afterBowl 184 = .ok (.bipush 13, 2) := by decide +kernel
theorem dX4_afterBowl_186 : decode cX4_afterBowl 186 = .ok (.goto 16, 3) := by decide +kernel
theorem dX4_afterBowl_189 : decode cX4_afterBowl 189 = .ok (.iload_n 1, 1) := by decide +kernel
theorem dX4_afterBowl_190 : decode cX4_afterBowl 190 = .ok (.bipush 48, 2) := by decide +kernel
theorem dX4_afterBowl_192 : decode cX4_afterBowl 192 = .ok (.bipush 51, 2) := by decide +kernel
theorem dX4_afterBowl_194 : decode cX4_afterBowl 194 = .ok (.invokestatic 35, 3) := by decide +kernel
theorem dX4_afterBowl_197 : decode cX4_afterBowl 197 = .ok (.bipush 16, 2) := by decide +kernel
theorem dX4_afterBowl_199 : decode cX4_afterBowl 199 = .ok (.invokestatic 42, 3) := by decide +kernel
theorem dX4_afterBowl_202 : decode cX4_afterBowl 202 = .ok (.ireturn, 1) := by decide +kernel
theorem dX4_afterBowl_203 : decode cX4_afterBowl 203 = .ok (.iload_n 1, 1) := by decide +kernel
theorem dX4_afterBowl_204 : decode cX4_afterBowl 204 = .ok (.bipush 49, 2) := by decide +kernel
theorem dX4_afterBowl_206 : decode cX4_afterBowl 206 = .ok (.bipush 51, 2) := by decide +kernel
theorem dX4_afterBowl_208 : decode cX4_afterBowl 208 = .ok (.invokestatic 35, 3) := by decide +kernel
theorem dX4_afterBowl_211 : decode cX4_afterBowl 211 = .ok (.bipush 16, 2) := by decide +kernel
theorem dX4_afterBowl_213 : decode cX4_afterBowl 213 = .ok (.invokestatic 42, 3) := by decide +kernel
theorem dX4_afterBowl_216 : decode cX4_afterBowl 216 = .ok (.ireturn, 1) := by decide +kernel
theorem dX4_afterBowl_217 : decode cX4_afterBowl 217 = .ok (.iconst (-1), 1) := by decide +kernel
theorem dX4_afterBowl_218 : decode cX4_afterBowl 218 = .ok (.ireturn, 1) := by decide +kernel
def f_X4_afterBowl (N : Nat) (p1 : Int32) (p2 : Int32) : Option (Int32) :=
  (if p1 = (4 : Int32) then jn (fun (s79 : Int32) => some s79) (fun (j79 : (Int32) → Option (Int32)) => (if p2 = (45 : Int32) then j79 (5 : Int32) else (f_X4_isIn N p2 (48 : Int32) (57 : Int32)).bind (fun o3 => (f_X4_when N o3 (6 : Int32)).bind (fun o6 => j79 o6)))) else (if p1 = (5 : Int32) then (f_X4_isIn N p2 (49 : Int32) (57 : Int32)).bind (fun o9 => (f_X4_when N o9 (6 : Int32)).bind (fun o12 => some o12)) else (if p1 = (6 : Int32) then jn (fun (s105 : Int32) => (f_X4_when N s105 (7 : Int32)).bind (fun o15 => some o15)) (fun (j105 : (Int32) → Option (Int32)) => (if p2 = (44 : Int32) then j105 (1 : Int32) else j105 (0 : Int32))) else (if p1 = (7 : Int32) then (f_X4_afterAim N p2).bind (fun o19 => some o19) else (if p1 = (8 : Int32) then (f_X4_isIn N p2 (53 : Int32) (57 : Int32)).bind (fun o22 => (f_X4_when N o22 (11 : Int32)).bind (fun o25 => some o25)) else (if p1 = (9 : Int32) then (f_X4_isIn N p2 (48 : Int32) (57 : Int32)).bind (fun o28 => (f_X4_when N o28 (11 : Int32)).bind (fun o31 => some o31)) else (if p1 = (10 : Int32) then jn (fun (s155 : Int32) => (f_X4_when N s155 (11 : Int32)).bind (fun o34 => some o34)) (fun (j155 : (Int32) → Option (Int32)) => (if p2 = (48 : Int32) then j155 (1 : Int32) else j155 (0 : Int32))) else (if p1 = (11 : Int32) then jn (fun (s172 : Int32) => (f_X4_when N s172 (12 : Int32)).bind (fun o38 => some o38)) (fun (j172 : (Int32) → Option (Int32)) => (if p2 = (44 : Int32) then j172 (1 : Int32) else j172 (0 : Int32))) else (if p1 = (12 : Int32) then jn (fun (s202 : Int32) => some s202) (fun (j202 : (Int32) → Option (Int32)) => (if p2 = (45 : Int32) then j202 (13 : Int32) else (f_X4_isIn N p2 (48 : Int32) (51 : Int32)).bind (fun o43 => (f_X4_when N o43 (16 : Int32)).bind (fun o46 => j202 o46)))) else (if p1 = (13 : Int32) then (f_X4_isIn N p2 (49 : Int32) (51 : Int32)).bind (fun o49 => (f_X4_when N o49 (16 : Int32)).bind (fun o52 => some o52)) else some (-1 : Int32)))))))))))
set_option maxHeartbeats 4000000 in
set_option maxRecDepth 100000 in
theorem met_X4_afterBowl (l : Launch) (dC : Nat → ClassId) (dI : Nat → Nat → Nat) (cyI cyO cyL : ClassId)  (N : Nat) (p1 : Int32) (p2 : Int32) (out : Int32) (hF : f_X4_afterBowl N p1 p2 = some out) : Met l yX4_afterBowl (Cond.code yX4_afterBowl cX4_afterBowl 2 (some .int) :: wT) ({ frames := 2, cells := 0, slots := 0, locals := 42 } : Room) (wRd dC dI cyI cyO cyL [.int p1, .int p2] ([] : va_W)) (va_Qi (fun (r : Int32) (_ : Unit) => r = out) (fun _ _ => True) wN0) 0 0 wN0 := by
  refine Met.ofW (cc := cX4_afterBowl) (maxL := 2) (ret := (some .int)) (by decide) rfl ?_
  intro p e s m args below meth c s₁ B hml hv
  obtain ⟨rfl, hP, hK⟩ := hv
  have hx := B.exec
  have hb := B.bytes
  have hr := B.returns
  have hts0 := atoms_spec (ws := (Cond.code yX4_afterBowl cX4_afterBowl 2 (some .int) :: wT)) B.pre
  have hts := fun w h => hts0 w (List.mem_cons_of_mem _ h)
  clear hts0
  have hown : s.vm.findClass RX4 = some m.cls := findClass_of_methodNamed B.named
  have hlocks := B.notSynchronized
  have hS : va_S wN0 s.heap s.heap [] := va_S.rf
  have hl := lv_entry [.int p1, .int p2] (n := 2) (Nat.le_of_ble_eq_true rfl)
  rw [lg_entry_eq]
  generalize (lg_sl [.int p1, .int p2] ++ List.replicate (2 - (lg_sl [.int p1, .int p2]).length) Slot.unset).toArray = ls at hl ⊢
  have hl : lv_has ls 2 [(0, .int p1), (1, .int p2)] := hl
  unfold f_X4_afterBowl at hF
  refine lv_iload_n hx hb dX4_afterBowl_0 rfl (lv_at hl 0 rfl) ?_
  by_cases c1 : p1 = (4 : Int32)
  · have hF := itp c1 hF
    refine lv_tableIn (off := 55) (tgt := 56) hx hb dX4_afterBowl_1 (by rw [c1]; decide) (by rw [c1]; decide) (by rw [c1]; decide) (by decide) ?_
    refine lv_iload_n hx hb dX4_afterBowl_56 rfl (lv_at hl 1 rfl) ?_
    refine lv_bipush (v := 45) hx hb dX4_afterBowl_57 (by decide) ?_
    obtain ⟨j79, hj79, hF⟩ := jn_use hF
    have hJ79 : ∀ (s79 : Int32) (H : Heap) (locs : List Loc) (ls : Array Slot), va_P (dC, dI) vwCl ([] : va_W) H → va_S wN0 s.heap H locs → lv_has ls 2 [] → j79 s79 = some out → W p l e (headSpec (Cond.code yX4_afterBowl cX4_afterBowl 2 (some .int) :: wT) ({ frames := 2, cells := 0, slots := 0, locals := 42 } : Room)).room s m ([.int p1, .int p2] : List Value).toArray below meth c H locs 0 0 (MQ below (va_Qi (fun (r : Int32) (_ : Unit) => r = out) (fun _ _ => True) wN0) ([.int p1, .int p2] : List Value).toArray s 0 0 wN0) (F0 m 79 ls [.int s79]) := by
      intro s79 H locs ls hP hS hl hF
      have hF := (congrFun hj79 s79).symm.trans hF
      exact W.iret (v := s79) hx hb hr (fun t ht hW => ⟨⟨_, (), rfl, Option.some.inj hF, trivial⟩, hS.F ht⟩) hS.2.2 dX4_afterBowl_79
    refine lv_icmp_ne (tgt := 66) hx hb dX4_afterBowl_59 (by decide) (fun c2 => ?_) (fun c2 => ?_)
    · have hF := itn c2 hF
      refine lv_iload_n hx hb dX4_afterBowl_66 rfl (lv_at hl 1 rfl) ?_
      refine lv_bipush (v := 48) hx hb dX4_afterBowl_67 (by decide) ?_
      refine lv_bipush (v := 57) hx hb dX4_afterBowl_69 (by decide) ?_
      obtain ⟨o3, h4, hF⟩ := obd hF
      refine wcRSi (As := [.int p2, .int (48 : Int32), .int (57 : Int32)]) (rest := []) ⟨hx, hb, hml, hown, hts⟩ (met_X4_isIn l dC dI cyI cyO cyL  N  p2 (48 : Int32) (57 : Int32) o3 h4) (va_cwS 3 hts (gS w_methodLink_X4_35 w_static_X4_isIn w_initialized_X4 w_code_X4_isIn) rfl rfl rfl (by decide +kernel) ⟨Nat.le_of_ble_eq_true rfl, Nat.le_of_ble_eq_true rfl⟩) hP hK [] rfl rfl hl.1 (Nat.le_of_ble_eq_true rfl) dX4_afterBowl_71 ⟨Nat.le_of_ble_eq_true rfl, Nat.le_of_ble_eq_true rfl⟩ hS (fun r H locs hw hP hS => ?_)
      obtain ⟨hw, hz5⟩ := hw
      have hw := hw.symm
      subst hw
      refine lv_bipush (v := 6) hx hb dX4_afterBowl_74 (by decide) ?_
      obtain ⟨o6, h7, hF⟩ := obd hF
      refine wcRSi (As := [.int o3, .int (6 : Int32)]) (rest := []) ⟨hx, hb, hml, hown, hts⟩ (met_X4_when l dC dI cyI cyO cyL  N  o3 (6 : Int32) o6 h7) (va_cwS 2 hts (gS w_methodLink_X4_42 w_static_X4_when w_initialized_X4 w_code_X4_when) rfl rfl rfl (by decide +kernel) ⟨Nat.le_of_ble_eq_true rfl, Nat.le_of_ble_eq_true rfl⟩) hP hK [] rfl rfl hl.1 (Nat.le_of_ble_eq_true rfl) dX4_afterBowl_76 ⟨Nat.le_of_ble_eq_true rfl, Nat.le_of_ble_eq_true rfl⟩ hS (fun r H locs hw hP hS => ?_)
      have hw := hw.symm
      subst hw
      exact hJ79 o6 _ _ _ hP hS (lv_sub hl [] rfl) hF
    · have hF := itp c2 hF
      refine lv_iconst (v := 5) hx hb dX4_afterBowl_62 (by decide) ?_
      refine lv_goto (tgt := 79) hx hb dX4_afterBowl_63 (by decide) ?_
      exact hJ79 (5 : Int32) _ _ _ hP hS (lv_sub hl [] rfl) hF
  · have hF := itn c1 hF
    by_cases c8 : p1 = (5 : Int32)
    · have hF := itp c8 hF
      refine lv_tableIn (off := 79) (tgt := 80) hx hb dX4_afterBowl_1 (by rw [c8]; decide) (by rw [c8]; decide) (by rw [c8]; decide) (by decide) ?_
      refine lv_iload_n hx hb dX4_afterBowl_80 rfl (lv_at hl 1 rfl) ?_
      refine lv_bipush (v := 49) hx hb dX4_afterBowl_81 (by decide) ?_
      refine lv_bipush (v := 57) hx hb dX4_afterBowl_83 (by decide) ?_
      obtain ⟨o9, h10, hF⟩ := obd hF
      refine wcRSi (As := [.int p2, .int (49 : Int32), .int (57 : Int32)]) (rest := []) ⟨hx, hb, hml, hown, hts⟩ (met_X4_isIn l dC dI cyI cyO cyL  N  p2 (49 : Int32) (57 : Int32) o9 h10) (va_cwS 3 hts (gS w_methodLink_X4_35 w_static_X4_isIn w_initialized_X4 w_code_X4_isIn) rfl rfl rfl (by decide +kernel) ⟨Nat.le_of_ble_eq_true rfl, Nat.le_of_ble_eq_true rfl⟩) hP hK [] rfl rfl hl.1 (Nat.le_of_ble_eq_true rfl) dX4_afterBowl_85 ⟨Nat.le_of_ble_eq_true rfl, Nat.le_of_ble_eq_true rfl⟩ hS (fun r H locs hw hP hS => ?_)
      obtain ⟨hw, hz11⟩ := hw
      have hw := hw.symm
      subst hw
      refine lv_bipush (v := 6) hx hb dX4_afterBowl_88 (by decide) ?_
      obtain ⟨o12, h13, hF⟩ := obd hF
      refine wcRSi (As := [.int o9, .int (6 : Int32)]) (rest := []) ⟨hx, hb, hml, hown, hts⟩ (met_X4_when l dC dI cyI cyO cyL  N  o9 (6 : Int32) o12 h13) (va_cwS 2 hts (gS w_methodLink_X4_42 w_static_X4_when w_initialized_X4 w_code_X4_when) rfl rfl rfl (by decide +kernel) ⟨Nat.le_of_ble_eq_true rfl, Nat.le_of_ble_eq_true rfl⟩) hP hK [] rfl rfl hl.1 (Nat.le_of_ble_eq_true rfl) dX4_afterBowl_90 ⟨Nat.le_of_ble_eq_true rfl, Nat.le_of_ble_eq_true rfl⟩ hS (fun r H locs hw hP hS => ?_)
      have hw := hw.symm
      subst hw
      exact W.iret (v := o12) hx hb hr (fun t ht hW => ⟨⟨_, (), rfl, Option.some.inj hF, trivial⟩, hS.F ht⟩) hS.2.2 dX4_afterBowl_93
    · have hF := itn c8 hF
      by_cases c14 : p1 = (6 : Int32)
      · have hF := itp c14 hF
        refine lv_tableIn (off := 93) (tgt := 94) hx hb dX4_afterBowl_1 (by rw [c14]; decide) (by rw [c14]; decide) (by rw [c14]; decide) (by decide) ?_
        refine lv_iload_n hx hb dX4_afterBowl_94 rfl (lv_at hl 1 rfl) ?_
        refine lv_bipush (v := 44) hx hb dX4_afterBowl_95 (by decide) ?_
        obtain ⟨j105, hj105, hF⟩ := jn_use hF
        have hJ105 : ∀ (s105 : Int32) (H : Heap) (locs : List Loc) (ls : Array Slot) (hz_105_s0 : b01 s105), va_P (dC, dI) vwCl ([] : va_W) H → va_S wN0 s.heap H locs → lv_has ls 2 [] → j105 s105 = some out → W p l e (headSpec (Cond.code yX4_afterBowl cX4_afterBowl 2 (some .int) :: wT) ({ frames := 2, cells := 0, slots := 0, locals := 42 } : Room)).room s m ([.int p1, .int p2] : List Value).toArray below meth c H locs 0 0 (MQ below (va_Qi (fun (r : Int32) (_ : Unit) => r = out) (fun _ _ => True) wN0) ([.int p1, .int p2] : List Value).toArray s 0 0 wN0) (F0 m 105 ls [.int s105]) := by
          intro s105 H locs ls hz_105_s0 hP hS hl hF
          have hF := (congrFun hj105 s105).symm.trans hF
          refine lv_bipush (v := 7) hx hb dX4_afterBowl_105 (by decide) ?_
          obtain ⟨o15, h16, hF⟩ := obd hF
          refine wcRSi (As := [.int s105, .int (7 : Int32)]) (rest := []) ⟨hx, hb, hml, hown, hts⟩ (met_X4_when l dC dI cyI cyO cyL  N  s105 (7 : Int32) o15 h16) (va_cwS 2 hts (gS w_methodLink_X4_42 w_static_X4_when w_initialized_X4 w_code_X4_when) rfl rfl rfl (by decide +kernel) ⟨Nat.le_of_ble_eq_true rfl, Nat.le_of_ble_eq_true rfl⟩) hP hK [] rfl rfl hl.1 (Nat.le_of_ble_eq_true rfl) dX4_afterBowl_107 ⟨Nat.le_of_ble_eq_true rfl, Nat.le_of_ble_eq_true rfl⟩ hS (fun r H locs hw hP hS => ?_)
          have hw := hw.symm
          subst hw
          exact W.iret (v := o15) hx hb hr (fun t ht hW => ⟨⟨_, (), rfl, Option.some.inj hF, trivial⟩, hS.F ht⟩) hS.2.2 dX4_afterBowl_110
        refine lv_icmp_ne (tgt := 104) hx hb dX4_afterBowl_97 (by decide) (fun c17 => ?_) (fun c17 => ?_)
        · have hF := itn c17 hF
          refine lv_iconst (v := 0) hx hb dX4_afterBowl_104 (by decide) ?_
          exact hJ105 (0 : Int32) _ _ _ b01_0 hP hS (lv_sub hl [] rfl) hF
        · have hF := itp c17 hF
          refine lv_iconst (v := 1) hx hb dX4_afterBowl_100 (by decide) ?_
          refine lv_goto (tgt := 105) hx hb dX4_afterBowl_101 (by decide) ?_
          exact hJ105 (1 : Int32) _ _ _ b01_1 hP hS (lv_sub hl [] rfl) hF
      · have hF := itn c14 hF
        by_cases c18 : p1 = (7 : Int32)
        · have hF := itp c18 hF
          refine lv_tableIn (off := 110) (tgt := 111) hx hb dX4_afterBowl_1 (by rw [c18]; decide) (by rw [c18]; decide) (by rw [c18]; decide) (by decide) ?_
          refine lv_iload_n hx hb dX4_afterBowl_111 rfl (lv_at hl 1 rfl) ?_
          obtain ⟨o19, h20, hF⟩ := obd hF
          refine wcRSi (As := [.int p2]) (rest := []) ⟨hx, hb, hml, hown, hts⟩ (met_X4_afterAim l dC dI cyI cyO cyL  N  p2 o19 h20) (va_cwS 1 hts (gS w_methodLink_X4_49 w_static_X4_afterAim w_initialized_X4 w_code_X4_afterAim) rfl rfl rfl (by decide +kernel) ⟨Nat.le_of_ble_eq_true rfl, Nat.le_of_ble_eq_true rfl⟩) hP hK [] rfl rfl hl.1 (Nat.le_of_ble_eq_true rfl) dX4_afterBowl_112 ⟨Nat.le_of_ble_eq_true rfl, Nat.le_of_ble_eq_true rfl⟩ hS (fun r H locs hw hP hS => ?_)
          have hw := hw.symm
          subst hw
          exact W.iret (v := o19) hx hb hr (fun t ht hW => ⟨⟨_, (), rfl, Option.some.inj hF, trivial⟩, hS.F ht⟩) hS.2.2 dX4_afterBowl_115
        · have hF := itn c18 hF
          by_cases c21 : p1 = (8 : Int32)
          · have hF := itp c21 hF
            refine lv_tableIn (off := 115) (tgt := 116) hx hb dX4_afterBowl_1 (by rw [c21]; decide) (by rw [c21]; decide) (by rw [c21]; decide) (by decide) ?_
            refine lv_iload_n hx hb dX4_afterBowl_116 rfl (lv_at hl 1 rfl) ?_
            refine lv_bipush (v := 53) hx hb dX4_afterBowl_117 (by decide) ?_
            refine lv_bipush (v := 57) hx hb dX4_afterBowl_119 (by decide) ?_
            obtain ⟨o22, h23, hF⟩ := obd hF
            refine wcRSi (As := [.int p2, .int (53 : Int32), .int (57 : Int32)]) (rest := []) ⟨hx, hb, hml, hown, hts⟩ (met_X4_isIn l dC dI cyI cyO cyL  N  p2 (53 : Int32) (57 : Int32) o22 h23) (va_cwS 3 hts (gS w_methodLink_X4_35 w_static_X4_isIn w_initialized_X4 w_code_X4_isIn) rfl rfl rfl (by decide +kernel) ⟨Nat.le_of_ble_eq_true rfl, Nat.le_of_ble_eq_true rfl⟩) hP hK [] rfl rfl hl.1 (Nat.le_of_ble_eq_true rfl) dX4_afterBowl_121 ⟨Nat.le_of_ble_eq_true rfl, Nat.le_of_ble_eq_true rfl⟩ hS (fun r H locs hw hP hS => ?_)
            obtain ⟨hw, hz24⟩ := hw
            have hw := hw.symm
            subst hw
            refine lv_bipush (v := 11) hx hb dX4_afterBowl_124 (by decide) ?_
            obtain ⟨o25, h26, hF⟩ := obd hF
            refine wcRSi (As := [.int o22, .int (11 : Int32)]) (rest := []) ⟨hx, hb, hml, hown, hts⟩ (met_X4_when l dC dI cyI cyO cyL  N  o22 (11 : Int32) o25 h26) (va_cwS 2 hts (gS w_methodLink_X4_42 w_static_X4_when w_initialized_X4 w_code_X4_when) rfl rfl rfl (by decide +kernel) ⟨Nat.le_of_ble_eq_true rfl, Nat.le_of_ble_eq_true rfl⟩) hP hK [] rfl rfl hl.1 (Nat.le_of_ble_eq_true rfl) dX4_afterBowl_126 ⟨Nat.le_of_ble_eq_true rfl, Nat.le_of_ble_eq_true rfl⟩ hS (fun r H locs hw hP hS => ?_)
            have hw := hw.symm
            subst hw
            exact W.iret (v := o25) hx hb hr (fun t ht hW => ⟨⟨_, (), rfl, Option.some.inj hF, trivial⟩, hS.F ht⟩) hS.2.2 dX4_afterBowl_129
          · have hF := itn c21 hF
            by_cases c27 : p1 = (9 : Int32)
            · have hF := itp c27 hF
              refine lv_tableIn (off := 129) (tgt := 130) hx hb dX4_afterBowl_1 (by rw [c27]; decide) (by rw [c27]; decide) (by rw [c27]; decide) (by decide) ?_
              refine lv_iload_n hx hb dX4_afterBowl_130 rfl (lv_at hl 1 rfl) ?_
              refine lv_bipush (v := 48) hx hb dX4_afterBowl_131 (by decide) ?_
              refine lv_bipush (v := 57) hx hb dX4_afterBowl_133 (by decide) ?_
              obtain ⟨o28, h29, hF⟩ := obd hF
              refine wcRSi (As := [.int p2, .int (48 : Int32), .int (57 : Int32)]) (rest := []) ⟨hx, hb, hml, hown, hts⟩ (met_X4_isIn l dC dI cyI cyO cyL  N  p2 (48 : Int32) (57 : Int32) o28 h29) (va_cwS 3 hts (gS w_methodLink_X4_35 w_static_X4_isIn w_initialized_X4 w_code_X4_isIn) rfl rfl rfl (by decide +kernel) ⟨Nat.le_of_ble_eq_true rfl, Nat.le_of_ble_eq_true rfl⟩) hP hK [] rfl rfl hl.1 (Nat.le_of_ble_eq_true rfl) dX4_afterBowl_135 ⟨Nat.le_of_ble_eq_true rfl, Nat.le_of_ble_eq_true rfl⟩ hS (fun r H locs hw hP hS => ?_)
              obtain ⟨hw, hz30⟩ := hw
              have hw := hw.symm
              subst hw
              refine lv_bipush (v := 11) hx hb dX4_afterBowl_138 (by decide) ?_
              obtain ⟨o31, h32, hF⟩ := obd hF
              refine wcRSi (As := [.int o28, .int (11 : Int32)]) (rest := []) ⟨hx, hb, hml, hown, hts⟩ (met_X4_when l dC dI cyI cyO cyL  N  o28 (11 : Int32) o31 h32) (va_cwS 2 hts (gS w_methodLink_X4_42 w_static_X4_when w_initialized_X4 w_code_X4_when) rfl rfl rfl (by decide +kernel) ⟨Nat.le_of_ble_eq_true rfl, Nat.le_of_ble_eq_true rfl⟩) hP hK [] rfl rfl hl.1 (Nat.le_of_ble_eq_true rfl) dX4_afterBowl_140 ⟨Nat.le_of_ble_eq_true rfl, Nat.le_of_ble_eq_true rfl⟩ hS (fun r H locs hw hP hS => ?_)
              have hw := hw.symm
              subst hw
              exact W.iret (v := o31) hx hb hr (fun t ht hW => ⟨⟨_, (), rfl, Option.some.inj hF, trivial⟩, hS.F ht⟩) hS.2.2 dX4_afterBowl_143
            · have hF := itn c27 hF
              by_cases c33 : p1 = (10 : Int32)
              · have hF := itp c33 hF
                refine lv_tableIn (off := 143) (tgt := 144) hx hb dX4_afterBowl_1 (by rw [c33]; decide) (by rw [c33]; decide) (by rw [c33]; decide) (by decide) ?_
                refine lv_iload_n hx hb dX4_afterBowl_144 rfl (lv_at hl 1 rfl) ?_
                refine lv_bipush (v := 48) hx hb dX4_afterBowl_145 (by decide) ?_
                obtain ⟨j155, hj155, hF⟩ := jn_use hF
                have hJ155 : ∀ (s155 : Int32) (H : Heap) (locs : List Loc) (ls : Array Slot) (hz_155_s0 : b01 s155), va_P (dC, dI) vwCl ([] : va_W) H → va_S wN0 s.heap H locs → lv_has ls 2 [] → j155 s155 = some out → W p l e (headSpec (Cond.code yX4_afterBowl cX4_afterBowl 2 (some .int) :: wT) ({ frames := 2, cells := 0, slots := 0, locals := 42 } : Room)).room s m ([.int p1, .int p2] : List Value).toArray below meth c H locs 0 0 (MQ below (va_Qi (fun (r : Int32) (_ : Unit) => r = out) (fun _ _ => True) wN0) ([.int p1, .int p2] : List Value).toArray s 0 0 wN0) (F0 m 155 ls [.int s155]) := by
                  intro s155 H locs ls hz_155_s0 hP hS hl hF
                  have hF := (congrFun hj155 s155).symm.trans hF
                  refine lv_bipush (v := 11) hx hb dX4_afterBowl_155 (by decide) ?_
                  obtain ⟨o34, h35, hF⟩ := obd hF
                  refine wcRSi (As := [.int s155, .int (11 : Int32)]) (rest := []) ⟨hx, hb, hml, hown, hts⟩ (met_X4_when l dC dI cyI cyO cyL  N  s155 (11 : Int32) o34 h35) (va_cwS 2 hts (gS w_methodLink_X4_42 w_static_X4_when w_initialized_X4 w_code_X4_when) rfl rfl rfl (by decide +kernel) ⟨Nat.le_of_ble_eq_true rfl, Nat.le_of_ble_eq_true rfl⟩) hP hK [] rfl rfl hl.1 (Nat.le_of_ble_eq_true rfl) dX4_afterBowl_157 ⟨Nat.le_of_ble_eq_true rfl, Nat.le_of_ble_eq_true rfl⟩ hS (fun r H locs hw hP hS => ?_)
                  have hw := hw.symm
                  subst hw
                  exact W.iret (v := o34) hx hb hr (fun t ht hW => ⟨⟨_, (), rfl, Option.some.inj hF, trivial⟩, hS.F ht⟩) hS.2.2 dX4_afterBowl_160
                refine lv_icmp_ne (tgt := 154) hx hb dX4_afterBowl_147 (by decide) (fun c36 => ?_) (fun c36 => ?_)
                · have hF := itn c36 hF
                  refine lv_iconst (v := 0) hx hb dX4_afterBowl_154 (by decide) ?_
                  exact hJ155 (0 : Int32) _ _ _ b01_0 hP hS (lv_sub hl [] rfl) hF
                · have hF := itp c36 hF
                  refine lv_iconst (v := 1) hx hb dX4_afterBowl_150 (by decide) ?_
                  refine lv_goto (tgt := 155) hx hb dX4_afterBowl_151 (by decide) ?_
                  exact hJ155 (1 : Int32) _ _ _ b01_1 hP hS (lv_sub hl [] rfl) hF
              · have hF := itn c33 hF
                by_cases c37 : p1 = (11 : Int32)
                · have hF := itp c37 hF
                  refine lv_tableIn (off := 160) (tgt := 161) hx hb dX4_afterBowl_1 (by rw [c37]; decide) (by rw [c37]; decide) (by rw [c37]; decide) (by decide) ?_
                  refine lv_iload_n hx hb dX4_afterBowl_161 rfl (lv_at hl 1 rfl) ?_
                  refine lv_bipush (v := 44) hx hb dX4_afterBowl_162 (by decide) ?_
                  obtain ⟨j172, hj172, hF⟩ := jn_use hF
                  have hJ172 : ∀ (s172 : Int32) (H : Heap) (locs : List Loc) (ls : Array Slot) (hz_172_s0 : b01 s172), va_P (dC, dI) vwCl ([] : va_W) H → va_S wN0 s.heap H locs → lv_has ls 2 [] → j172 s172 = some out → W p l e (headSpec (Cond.code yX4_afterBowl cX4_afterBowl 2 (some .int) :: wT) ({ frames := 2, cells := 0, slots := 0, locals := 42 } : Room)).room s m ([.int p1, .int p2] : List Value).toArray below meth c H locs 0 0 (MQ below (va_Qi (fun (r : Int32) (_ : Unit) => r = out) (fun _ _ => True) wN0) ([.int p1, .int p2] : List Value).toArray s 0 0 wN0) (F0 m 172 ls [.int s172]) := by
                    intro s172 H locs ls hz_172_s0 hP hS hl hF
                    have hF := (congrFun hj172 s172).symm.trans hF
                    refine lv_bipush (v := 12) hx hb dX4_afterBowl_172 (by decide) ?_
                    obtain ⟨o38, h39, hF⟩ := obd hF
                    refine wcRSi (As := [.int s172, .int (12 : Int32)]) (rest := []) ⟨hx, hb, hml, hown, hts⟩ (met_X4_when l dC dI cyI cyO cyL  N  s172 (12 : Int32) o38 h39) (va_cwS 2 hts (gS w_methodLink_X4_42 w_static_X4_when w_initialized_X4 w_code_X4_when) rfl rfl rfl (by decide +kernel) ⟨Nat.le_of_ble_eq_true rfl, Nat.le_of_ble_eq_true rfl⟩) hP hK [] rfl rfl hl.1 (Nat.le_of_ble_eq_true rfl) dX4_afterBowl_174 ⟨Nat.le_of_ble_eq_true rfl, Nat.le_of_ble_eq_true rfl⟩ hS (fun r H locs hw hP hS => ?_)
                    have hw := hw.symm
                    subst hw
                    exact W.iret (v := o38) hx hb hr (fun t ht hW => ⟨⟨_, (), rfl, Option.some.inj hF, trivial⟩, hS.F ht⟩) hS.2.2 dX4_afterBowl_177
                  refine lv_icmp_ne (tgt := 171) hx hb dX4_afterBowl_164 (by decide) (fun c40 => ?_) (fun c40 => ?_)
                  · have hF := itn c40 hF
                    refine lv_iconst (v := 0) hx hb dX4_afterBowl_171 (by decide) ?_
                    exact hJ172 (0 : Int32) _ _ _ b01_0 hP hS (lv_sub hl [] rfl) hF
                  · have hF := itp c40 hF
                    refine lv_iconst (v := 1) hx hb dX4_afterBowl_167 (by decide) ?_
                    refine lv_goto (tgt := 172) hx hb dX4_afterBowl_168 (by decide) ?_
                    exact hJ172 (1 : Int32) _ _ _ b01_1 hP hS (lv_sub hl [] rfl) hF
                · have hF := itn c37 hF
                  by_cases c41 : p1 = (12 : Int32)
                  · have hF := itp c41 hF
                    refine lv_tableIn (off := 177) (tgt := 178) hx hb dX4_afterBowl_1 (by rw [c41]; decide) (by rw [c41]; decide) (by rw [c41]; decide) (by decide) ?_
                    refine lv_iload_n hx hb dX4_afterBowl_178 rfl (lv_at hl 1 rfl) ?_
                    refine lv_bipush (v := 45) hx hb dX4_afterBowl_179 (by decide) ?_
                    obtain ⟨j202, hj202, hF⟩ := jn_use hF
                    have hJ202 : ∀ (s202 : Int32) (H : Heap) (locs : List Loc) (ls : Array Slot), va_P (dC, dI) vwCl ([] : va_W) H → va_S wN0 s.heap H locs → lv_has ls 2 [] → j202 s202 = some out → W p l e (headSpec (Cond.code yX4_afterBowl cX4_afterBowl 2 (some .int) :: wT) ({ frames := 2, cells := 0, slots := 0, locals := 42 } : Room)).room s m ([.int p1, .int p2] : List Value).toArray below meth c H locs 0 0 (MQ below (va_Qi (fun (r : Int32) (_ : Unit) => r = out) (fun _ _ => True) wN0) ([.int p1, .int p2] : List Value).toArray s 0 0 wN0) (F0 m 202 ls [.int s202]) := by
                      intro s202 H locs ls hP hS hl hF
                      have hF := (congrFun hj202 s202).symm.trans hF
                      exact W.iret (v := s202) hx hb hr (fun t ht hW => ⟨⟨_, (), rfl, Option.some.inj hF, trivial⟩, hS.F ht⟩) hS.2.2 dX4_afterBowl_202
                    refine lv_icmp_ne (tgt := 189) hx hb dX4_afterBowl_181 (by decide) (fun c42 => ?_) (fun c42 => ?_)
                    · have hF := itn c42 hF
                      refine lv_iload_n hx hb dX4_afterBowl_189 rfl (lv_at hl 1 rfl) ?_
                      refine lv_bipush (v := 48) hx hb dX4_afterBowl_190 (by decide) ?_
                      refine lv_bipush (v := 51) hx hb dX4_afterBowl_192 (by decide) ?_
                      obtain ⟨o43, h44, hF⟩ := obd hF
                      refine wcRSi (As := [.int p2, .int (48 : Int32), .int (51 : Int32)]) (rest := []) ⟨hx, hb, hml, hown, hts⟩ (met_X4_isIn l dC dI cyI cyO cyL  N  p2 (48 : Int32) (51 : Int32) o43 h44) (va_cwS 3 hts (gS w_methodLink_X4_35 w_static_X4_isIn w_initialized_X4 w_code_X4_isIn) rfl rfl rfl (by decide +kernel) ⟨Nat.le_of_ble_eq_true rfl, Nat.le_of_ble_eq_true rfl⟩) hP hK [] rfl rfl hl.1 (Nat.le_of_ble_eq_true rfl) dX4_afterBowl_194 ⟨Nat.le_of_ble_eq_true rfl, Nat.le_of_ble_eq_true rfl⟩ hS (fun r H locs hw hP hS => ?_)
                      obtain ⟨hw, hz45⟩ := hw
                      have hw := hw.symm
                      subst hw
                      refine lv_bipush (v := 16) hx hb dX4_afterBowl_197 (by decide) ?_
                      obtain ⟨o46, h47, hF⟩ := obd hF
                      refine wcRSi (As := [.int o43, .int (16 : Int32)]) (rest := []) ⟨hx, hb, hml, hown, hts⟩ (met_X4_when l dC dI cyI cyO cyL  N  o43 (16 : Int32) o46 h47) (va_cwS 2 hts (gS w_methodLink_X4_42 w_static_X4_when w_initialized_X4 w_code_X4_when) rfl rfl rfl (by decide +kernel) ⟨Nat.le_of_ble_eq_true rfl, Nat.le_of_ble_eq_true rfl⟩) hP hK [] rfl rfl hl.1 (Nat.le_of_ble_eq_true rfl) dX4_afterBowl_199 ⟨Nat.le_of_ble_eq_true rfl, Nat.le_of_ble_eq_true rfl⟩ hS (fun r H locs hw hP hS => ?_)
                      have hw := hw.symm
                      subst hw
                      exact hJ202 o46 _ _ _ hP hS (lv_sub hl [] rfl) hF
                    · have hF := itp c42 hF
                      refine lv_bipush (v := 13) hx hb dX4_afterBowl_184 (by decide) ?_
                      refine lv_goto (tgt := 202) hx hb dX4_afterBowl_186 (by decide) ?_
                      exact hJ202 (13 : Int32) _ _ _ hP hS (lv_sub hl [] rfl) hF
                  · have hF := itn c41 hF
                    by_cases c48 : p1 = (13 : Int32)
                    · have hF := itp c48 hF
                      refine lv_tableIn (off := 202) (tgt := 203) hx hb dX4_afterBowl_1 (by rw [c48]; decide) (by rw [c48]; decide) (by rw [c48]; decide) (by decide) ?_
                      refine lv_iload_n hx hb dX4_afterBowl_203 rfl (lv_at hl 1 rfl) ?_
                      refine lv_bipush (v := 49) hx hb dX4_afterBowl_204 (by decide) ?_
                      refine lv_bipush (v := 51) hx hb dX4_afterBowl_206 (by decide) ?_
                      obtain ⟨o49, h50, hF⟩ := obd hF
                      refine wcRSi (As := [.int p2, .int (49 : Int32), .int (51 : Int32)]) (rest := []) ⟨hx, hb, hml, hown, hts⟩ (met_X4_isIn l dC dI cyI cyO cyL  N  p2 (49 : Int32) (51 : Int32) o49 h50) (va_cwS 3 hts (gS w_methodLink_X4_35 w_static_X4_isIn w_initialized_X4 w_code_X4_isIn) rfl rfl rfl (by decide +kernel) ⟨Nat.le_of_ble_eq_true rfl, Nat.le_of_ble_eq_true rfl⟩) hP hK [] rfl rfl hl.1 (Nat.le_of_ble_eq_true rfl) dX4_afterBowl_208 ⟨Nat.le_of_ble_eq_true rfl, Nat.le_of_ble_eq_true rfl⟩ hS (fun r H locs hw hP hS => ?_)
                      obtain ⟨hw, hz51⟩ := hw
                      have hw := hw.symm
                      subst hw
                      refine lv_bipush (v := 16) hx hb dX4_afterBowl_211 (by decide) ?_
                      obtain ⟨o52, h53, hF⟩ := obd hF
                      refine wcRSi (As := [.int o49, .int (16 : Int32)]) (rest := []) ⟨hx, hb, hml, hown, hts⟩ (met_X4_when l dC dI cyI cyO cyL  N  o49 (16 : Int32) o52 h53) (va_cwS 2 hts (gS w_methodLink_X4_42 w_static_X4_when w_initialized_X4 w_code_X4_when) rfl rfl rfl (by decide +kernel) ⟨Nat.le_of_ble_eq_true rfl, Nat.le_of_ble_eq_true rfl⟩) hP hK [] rfl rfl hl.1 (Nat.le_of_ble_eq_true rfl) dX4_afterBowl_213 ⟨Nat.le_of_ble_eq_true rfl, Nat.le_of_ble_eq_true rfl⟩ hS (fun r H locs hw hP hS => ?_)
                      have hw := hw.symm
                      subst hw
                      exact W.iret (v := o52) hx hb hr (fun t ht hW => ⟨⟨_, (), rfl, Option.some.inj hF, trivial⟩, hS.F ht⟩) hS.2.2 dX4_afterBowl_216
                    · have hF := itn c48 hF
                      refine lv_tableDef (tgt := 217) hx hb dX4_afterBowl_1 (by decide) (fun hlo => sw_tab (lo := 4) (hi := 13) (d := 216) hlo [4, 5, 6, 7, 8, 9, 10, 11, 12, 13] (by intro k hk; simp only [List.mem_cons, List.not_mem_nil, or_false] at hk; rcases hk with rfl | rfl | rfl | rfl | rfl | rfl | rfl | rfl | rfl | rfl <;> first | exact lv_neT c1 (by decide) | exact lv_neT c8 (by decide) | exact lv_neT c14 (by decide) | exact lv_neT c18 (by decide) | exact lv_neT c21 (by decide) | exact lv_neT c27 (by decide) | exact lv_neT c33 (by decide) | exact lv_neT c37 (by decide) | exact lv_neT c41 (by decide) | exact lv_neT c48 (by decide)) (by decide) (by decide)) ?_
                      refine lv_iconst (v := -1) hx hb dX4_afterBowl_217 (by decide) ?_
                      exact W.iret (v := (-1 : Int32)) hx hb hr (fun t ht hW => ⟨⟨_, (), rfl, Option.some.inj hF, trivial⟩, hS.F ht⟩) hS.2.2 dX4_afterBowl_218
theorem dX4_after_0 : decode cX4_after 0 = .ok (.iload_n 0, 1) := by decide +kernel
theorem dX4_after_1 : decode cX4_after 1 = .ok (.tableswitch 205 0 16 #[83, 88, 119, 133, 205, 205, 205, 205, 205, 205, 205, 205, 205, 205, 150, 175, 189], 83) := by decide +kernel
theorem dX4_after_84 : decode cX4_after 84 = .ok (.iload_n 1, 1) := by decide +kernel
theorem dX4_after_85 : decode cX4_after 85 = .ok (.invokestatic 39, 3) := by decide +kernel
theorem dX4_after_88 : decode cX4_after 88 = .ok (.ireturn, 1) := by decide +kernel
theorem dX4_after_89 : decode cX4_after 89 = .ok (.iload_n 1, 1) := by decide +kernel
theorem dX4_after_90 : decode cX4_after 90 = .ok (.bipush 50, 2) := by decide +kernel
theorem dX4_after_92 : decode cX4_after 92 = .ok (.bipush 52, 2) := by decide +kernel
theorem dX4_after_94 : decode cX4_after 94 = .ok (.invokestatic 35, 3) := by decide +kernel
theorem dX4_after_97 : decode cX4_after 97 = .ok (.ifCond .eq 7, 3) := by decide +kernel
theorem dX4_after_100 : decode cX4_after 100 = .ok (.iconst 2, 1) := by decide +kernel
theorem dX4_after_101 : decode cX4_after 101 = .ok (.goto 18, 3) := by decide +kernel
theorem dX4_after_104 : decode cX4_after 104 = .ok (.iload_n 1, 1) := by decide +kernel
theorem dX4_after_105 : decode cX4_after 105 = .ok (.bipush 53, 2) := by decide +kernel
theorem dX4_after_107 : decode cX4_after 107 = .ok (.if_icmp .ne 7, 3) := by decide +kernel
theorem dX4_after_110 : decode cX4_after 110 = .ok (.iconst 1, 1) := by decide +kernel
theorem dX4_after_111 : decode cX4_after 111 = .ok (.goto 4, 3) := by decide +kernel
theorem dX4_after_114 : decode cX4_after 114 = .ok (.iconst 0, 1) := by decide +kernel
theorem dX4_after_115 : decode cX4_after 115 = .ok (.iconst 3, 1) := by decide +kernel
theorem dX4_after_116 : decode cX4_after 116 = .ok (.invokestatic 42, 3) := by decide +kernel
theorem dX4_after_119 : decode cX4_after 119 = .ok (.ireturn, 1) := by decide +kernel
theorem dX4_after_120 : decode cX4_after 120 = .ok (.iload_n 1, 1) := by decide +kernel
theorem dX4_after_121 : decode cX4_after 121 = .ok (.bipush 48, 2) := by decide +kernel
theorem dX4_after_123 : decode cX4_after 123 = .ok (.bipush 57, 2) := by decide +kernel
theorem dX4_after_125 : decode cX4_after 125 = .ok (.invokestatic 35, 3) := by decide +kernel
theorem dX4_after_128 : decode cX4_after 128 = .ok (.bipush 16, 2) := by decide +kernel
theorem dX4_after_130 : decode cX4_after 130 = .ok (.invokestatic 42, 3) := by decide +kernel
theorem dX4_after_133 : decode cX4_after 133 = .ok (.ireturn, 1) := by decide +kernel
theorem dX4_after_134 : decode cX4_after 134 = .ok (.iload_n 1, 1) := by decide +kernel
theorem dX4_after_135 : decode cX4_after 135 = .ok (.bipush 48, 2) := by decide +kernel
theorem dX4_after_137 : decode cX4_after 137 = .ok (.if_icmp .ne 7, 3) := by decide +kernel
theorem dX4_after_140 : decode cX4_after 140 = .ok (.iconst 1, 1) := by decide +kernel
theorem dX4_after_141 : decode cX4_after 141 = .ok (.goto 4, 3) := by decide +kernel
theorem dX4_after_144 : decode cX4_after 144 = .ok (.iconst 0, 1) := by decide +kernel
theorem dX4_after_145 : decode cX4_after 145 = .ok (.bipush 16, 2) := by decide +kernel
theorem dX4_after_147 : decode cX4_after 147 = .ok (.invokestatic 42, 3) := by decide +kernel
theorem dX4_after_150 : decode cX4_after 150 = .ok (.ireturn, 1) := by decide +kernel
theorem dX4_after_151 : decode cX4_after 151 = .ok (.iload_n 1, 1) := by decide +kernel
theorem dX4_after_152 : decode cX4_after 152 = .ok (.bipush 45, 2) := by decide +kernel
theorem dX4_after_154 : decode cX4_after 154 = .ok (.if_icmp .ne 8, 3) := by decide +kernel
theorem dX4_after_157 : decode cX4_after 157 = .ok (.bipush 15, 2) := by decide +kernel
theorem dX4_after_159 : decode cX4_after 159 = .ok (.goto 16, 3) := by decide +kernel
theorem dX4_after_162 : decode cX4_after 162 = .ok (.iload_n 1, 1) := by decide +kernel
theorem dX4_after_163 : decode cX4_after 163 = .ok (.bipush 48, 2) := by decide +kernel
theorem dX4_after_165 : decode cX4_after 165 = .ok (.bipush 53, 2) := by decide +kernel
theorem dX4_after_167 : decode cX4_after 167 = .ok (.invokestatic 35, 3) := by decide +kernel
theorem dX4_after_170 : decode cX4_after 170 = .ok (.bipush 16, 2) := by decide +kernel
theorem dX4_after_172 : decode cX4_after 172 = .ok (.invokestatic 42, 3) := by decide +kernel
theorem dX4_after_175 : decode cX4_after 175 = .ok (.ireturn, 1) := by decide +kernel
theorem dX4_after_176 : decode cX4_after 176 = .ok (.iload_n 1, 1) := by decide +kernel
theorem dX4_after_177 : decode cX4_after 177 = .ok (.bipush 49, 2) := by decide +kernel
theorem dX4_after_179 : decode cX4_after 179 = .ok (.bipush 53, 2) := by decide +kernel
theorem dX4_after_181 : decode cX4_after 181 = .ok (.invokestatic 35, 3) := by decide +kernel
theorem dX4_after_184 : decode cX4_after 184 = .ok (.bipush 16, 2) := by decide +kernel
theorem dX4_after_186 : decode cX4_after 186 = .ok (.invokestatic 42, 3) := by decide +kernel
theorem dX4_after_189 : decode cX4_after 189 = .ok (.ireturn, 1) := by decide +kernel
theorem dX4_after_190 : decode cX4_after 190 = .ok (.iload_n 1, 1) := by decide +kernel
theorem dX4_after_191 : decode cX4_after 191 = .ok (.bipush 59, 2) := by decide +kernel
theorem dX4_after_193 : decode cX4_after 193 = .ok (.if_icmp .ne 7, 3) := by decide +kernel
theorem dX4_after_196 : decode cX4_after 196 = .ok (.iconst 1, 1) := by decide +kernel
theorem dX4_after_197 : decode cX4_after 197 = .ok (.goto 4, 3) := by decide +kernel
theorem dX4_after_200 : decode cX4_after 200 = .ok (.iconst 0, 1) := by decide +kernel
theorem dX4_after_201 : decode cX4_after 201 = .ok (.iconst 0, 1) := by decide +kernel
theorem dX4_after_202 : decode cX4_after 202 = .ok (.invokestatic 42, 3) := by decide +kernel
theorem dX4_after_205 : decode cX4_after 205 = .ok (.ireturn, 1) := by decide +kernel
theorem dX4_after_206 : decode cX4_after 206 = .ok (.iload_n 0, 1) := by decide +kernel
theorem dX4_after_207 : decode cX4_after 207 = .ok (.iload_n 1, 1) := by decide +kernel
theorem dX4_after_208 : decode cX4_after 208 = .ok (.invokestatic 46, 3) := by decide +kernel
theorem dX4_after_211 : decode cX4_after 211 = .ok (.ireturn, 1) := by decide +kernel
def f_X4_after (N : Nat) (p1 : Int32) (p2 : Int32) : Option (Int32) :=
  (if p1 = (0 : Int32) then (f_X4_afterSemicolon N p2).bind (fun o2 => some o2) else (if p1 = (1 : Int32) then (f_X4_isIn N p2 (50 : Int32) (52 : Int32)).bind (fun o5 => jn (fun (s119 : Int32) => some s119) (fun (j119 : (Int32) → Option (Int32)) => (if o5 = 0 then jn (fun (s115 : Int32) => (f_X4_when N s115 (3 : Int32)).bind (fun o9 => j119 o9)) (fun (j115 : (Int32) → Option (Int32)) => (if p2 = (53 : Int32) then j115 (1 : Int32) else j115 (0 : Int32))) else j119 (2 : Int32)))) else (if p1 = (2 : Int32) then (f_X4_isIn N p2 (48 : Int32) (57 : Int32)).bind (fun o13 => (f_X4_when N o13 (16 : Int32)).bind (fun o16 => some o16)) else (if p1 = (3 : Int32) then jn (fun (s145 : Int32) => (f_X4_when N s145 (16 : Int32)).bind (fun o19 => some o19)) (fun (j145 : (Int32) → Option (Int32)) => (if p2 = (48 : Int32) then j145 (1 : Int32) else j145 (0 : Int32))) else (if p1 = (14 : Int32) then jn (fun (s175 : Int32) => some s175) (fun (j175 : (Int32) → Option (Int32)) => (if p2 = (45 : Int32) then j175 (15 : Int32) else (f_X4_isIn N p2 (48 : Int32) (53 : Int32)).bind (fun o24 => (f_X4_when N o24 (16 : Int32)).bind (fun o27 => j175 o27)))) else (if p1 = (15 : Int32) then (f_X4_isIn N p2 (49 : Int32) (53 : Int32)).bind (fun o30 => (f_X4_when N o30 (16 : Int32)).bind (fun o33 => some o33)) else (if p1 = (16 : Int32) then jn (fun (s201 : Int32) => (f_X4_when N s201 (0 : Int32)).bind (fun o36 => some o36)) (fun (j201 : (Int32) → Option (Int32)) => (if p2 = (59 : Int32) then j201 (1 : Int32) else j201 (0 : Int32))) else (f_X4_afterBowl N p1 p2).bind (fun o39 => some o39))))))))
set_option maxHeartbeats 4000000 in
set_option maxRecDepth 100000 in
theorem met_X4_after (l : Launch) (dC : Nat → ClassId) (dI : Nat → Nat → Nat) (cyI cyO cyL : ClassId)  (N : Nat) (p1 : Int32) (p2 : Int32) (out : Int32) (hF : f_X4_after N p1 p2 = some out) : Met l yX4_after (Cond.code yX4_after cX4_after 2 (some .int) :: wT) ({ frames := 3, cells := 0, slots := 0, locals := 63 } : Room) (wRd dC dI cyI cyO cyL [.int p1, .int p2] ([] : va_W)) (va_Qi (fun (r : Int32) (_ : Unit) => r = out) (fun _ _ => True) wN0) 0 0 wN0 := by
  refine Met.ofW (cc := cX4_after) (maxL := 2) (ret := (some .int)) (by decide) rfl ?_
  intro p e s m args below meth c s₁ B hml hv
  obtain ⟨rfl, hP, hK⟩ := hv
  have hx := B.exec
  have hb := B.bytes
  have hr := B.returns
  have hts0 := atoms_spec (ws := (Cond.code yX4_after cX4_after 2 (some .int) :: wT)) B.pre
  have hts := fun w h => hts0 w (List.mem_cons_of_mem _ h)
  clear hts0
  have hown : s.vm.findClass RX4 = some m.cls := findClass_of_methodNamed B.named
  have hlocks := B.notSynchronized
  have hS : va_S wN0 s.heap s.heap [] := va_S.rf
  have hl := lv_entry [.int p1, .int p2] (n := 2) (Nat.le_of_ble_eq_true rfl)
  rw [lg_entry_eq]
  generalize (lg_sl [.int p1, .int p2] ++ List.replicate (2 - (lg_sl [.int p1, .int p2]).length) Slot.unset).toArray = ls at hl ⊢
  have hl : lv_has ls 2 [(0, .int p1), (1, .int p2)] := hl
  unfold f_X4_after at hF
  refine lv_iload_n hx hb dX4_after_0 rfl (lv_at hl 0 rfl) ?_
  by_cases c1 : p1 = (0 : Int32)
  · have hF := itp c1 hF
    refine lv_tableIn (off := 83) (tgt := 84) hx hb dX4_after_1 (by rw [c1]; decide) (by rw [c1]; decide) (by rw [c1]; decide) (by decide) ?_
    refine lv_iload_n hx hb dX4_after_84 rfl (lv_at hl 1 rfl) ?_
    obtain ⟨o2, h3, hF⟩ := obd hF
    refine wcRSi (As := [.int p2]) (rest := []) ⟨hx, hb, hml, hown, hts⟩ (met_X4_afterSemicolon l dC dI cyI cyO cyL  N  p2 o2 h3) (va_cwS 1 hts (gS w_methodLink_X4_39 w_static_X4_afterSemicolon w_initialized_X4 w_code_X4_afterSemicolon) rfl rfl rfl (by decide +kernel) ⟨Nat.le_of_ble_eq_true rfl, Nat.le_of_ble_eq_true rfl⟩) hP hK [] rfl rfl hl.1 (Nat.le_of_ble_eq_true rfl) dX4_after_85 ⟨Nat.le_of_ble_eq_true rfl, Nat.le_of_ble_eq_true rfl⟩ hS (fun r H locs hw hP hS => ?_)
    have hw := hw.symm
    subst hw
    exact W.iret (v := o2) hx hb hr (fun t ht hW => ⟨⟨_, (), rfl, Option.some.inj hF, trivial⟩, hS.F ht⟩) hS.2.2 dX4_after_88
  · have hF := itn c1 hF
    by_cases c4 : p1 = (1 : Int32)
    · have hF := itp c4 hF
      refine lv_tableIn (off := 88) (tgt := 89) hx hb dX4_after_1 (by rw [c4]; decide) (by rw [c4]; decide) (by rw [c4]; decide) (by decide) ?_
      refine lv_iload_n hx hb dX4_after_89 rfl (lv_at hl 1 rfl) ?_
      refine lv_bipush (v := 50) hx hb dX4_after_90 (by decide) ?_
      refine lv_bipush (v := 52) hx hb dX4_after_92 (by decide) ?_
      obtain ⟨o5, h6, hF⟩ := obd hF
      refine wcRSi (As := [.int p2, .int (50 : Int32), .int (52 : Int32)]) (rest := []) ⟨hx, hb, hml, hown, hts⟩ (met_X4_isIn l dC dI cyI cyO cyL  N  p2 (50 : Int32) (52 : Int32) o5 h6) (va_cwS 3 hts (gS w_methodLink_X4_35 w_static_X4_isIn w_initialized_X4 w_code_X4_isIn) rfl rfl rfl (by decide +kernel) ⟨Nat.le_of_ble_eq_true rfl, Nat.le_of_ble_eq_true rfl⟩) hP hK [] rfl rfl hl.1 (Nat.le_of_ble_eq_true rfl) dX4_after_94 ⟨Nat.le_of_ble_eq_true rfl, Nat.le_of_ble_eq_true rfl⟩ hS (fun r H locs hw hP hS => ?_)
      obtain ⟨hw, hz7⟩ := hw
      have hw := hw.symm
      subst hw
      obtain ⟨j119, hj119, hF⟩ := jn_use hF
      have hJ119 : ∀ (s119 : Int32) (H : Heap) (locs : List Loc) (ls : Array Slot), va_P (dC, dI) vwCl ([] : va_W) H → va_S wN0 s.heap H locs → lv_has ls 2 [] → j119 s119 = some out → W p l e (headSpec (Cond.code yX4_after cX4_after 2 (some .int) :: wT) ({ frames := 3, cells := 0, slots := 0, locals := 63 } : Room)).room s m ([.int p1, .int p2] : List Value).toArray below meth c H locs 0 0 (MQ below (va_Qi (fun (r : Int32) (_ : Unit) => r = out) (fun _ _ => True) wN0) ([.int p1, .int p2] : List Value).toArray s 0 0 wN0) (F0 m 119 ls [.int s119]) := by
        intro s119 H locs ls hP hS hl hF
        have hF := (congrFun hj119 s119).symm.trans hF
        exact W.iret (v := s119) hx hb hr (fun t ht hW => ⟨⟨_, (), rfl, Option.some.inj hF, trivial⟩, hS.F ht⟩) hS.2.2 dX4_after_119
      refine lv_if_eq (tgt := 104) hx hb dX4_after_97 (by decide) (fun c8 => ?_) (fun c8 => ?_)
      · have hF := itp c8 hF
        refine lv_iload_n hx hb dX4_after_104 rfl (lv_at hl 1 rfl) ?_
        refine lv_bipush (v := 53) hx hb dX4_after_105 (by decide) ?_
        obtain ⟨j115, hj115, hF⟩ := jn_use hF
        have hJ115 : ∀ (s115 : Int32) (H : Heap) (locs : List Loc) (ls : Array Slot) (hz_115_s0 : b01 s115), va_P (dC, dI) vwCl ([] : va_W) H → va_S wN0 s.heap H locs → lv_has ls 2 [] → j115 s115 = some out → W p l e (headSpec (Cond.code yX4_after cX4_after 2 (some .int) :: wT) ({ frames := 3, cells := 0, slots := 0, locals := 63 } : Room)).room s m ([.int p1, .int p2] : List Value).toArray below meth c H locs 0 0 (MQ below (va_Qi (fun (r : Int32) (_ : Unit) => r = out) (fun _ _ => True) wN0) ([.int p1, .int p2] : List Value).toArray s 0 0 wN0) (F0 m 115 ls [.int s115]) := by
          intro s115 H locs ls hz_115_s0 hP hS hl hF
          have hF := (congrFun hj115 s115).symm.trans hF
          refine lv_iconst (v := 3) hx hb dX4_after_115 (by decide) ?_
          obtain ⟨o9, h10, hF⟩ := obd hF
          refine wcRSi (As := [.int s115, .int (3 : Int32)]) (rest := []) ⟨hx, hb, hml, hown, hts⟩ (met_X4_when l dC dI cyI cyO cyL  N  s115 (3 : Int32) o9 h10) (va_cwS 2 hts (gS w_methodLink_X4_42 w_static_X4_when w_initialized_X4 w_code_X4_when) rfl rfl rfl (by decide +kernel) ⟨Nat.le_of_ble_eq_true rfl, Nat.le_of_ble_eq_true rfl⟩) hP hK [] rfl rfl hl.1 (Nat.le_of_ble_eq_true rfl) dX4_after_116 ⟨Nat.le_of_ble_eq_true rfl, Nat.le_of_ble_eq_true rfl⟩ hS (fun r H locs hw hP hS => ?_)
          have hw := hw.symm
          subst hw
          exact hJ119 o9 _ _ _ hP hS (lv_sub hl [] rfl) hF
        refine lv_icmp_ne (tgt := 114) hx hb dX4_after_107 (by decide) (fun c11 => ?_) (fun c11 => ?_)
        · have hF := itn c11 hF
          refine lv_iconst (v := 0) hx hb dX4_after_114 (by decide) ?_
          exact hJ115 (0 : Int32) _ _ _ b01_0 hP hS (lv_sub hl [] rfl) hF
        · have hF := itp c11 hF
          refine lv_iconst (v := 1) hx hb dX4_after_110 (by decide) ?_
          refine lv_goto (tgt := 115) hx hb dX4_after_111 (by decide) ?_
          exact hJ115 (1 : Int32) _ _ _ b01_1 hP hS (lv_sub hl [] rfl) hF
      · have hF := itn c8 hF
        refine lv_iconst (v := 2) hx hb dX4_after_100 (by decide) ?_
        refine lv_goto (tgt := 119) hx hb dX4_after_101 (by decide) ?_
        exact hJ119 (2 : Int32) _ _ _ hP hS (lv_sub hl [] rfl) hF
    · have hF := itn c4 hF
      by_cases c12 : p1 = (2 : Int32)
      · have hF := itp c12 hF
        refine lv_tableIn (off := 119) (tgt := 120) hx hb dX4_after_1 (by rw [c12]; decide) (by rw [c12]; decide) (by rw [c12]; decide) (by decide) ?_
        refine lv_iload_n hx hb dX4_after_120 rfl (lv_at hl 1 rfl) ?_
        refine lv_bipush (v := 48) hx hb dX4_after_121 (by decide) ?_
        refine lv_bipush (v := 57) hx hb dX4_after_123 (by decide) ?_
        obtain ⟨o13, h14, hF⟩ := obd hF
        refine wcRSi (As := [.int p2, .int (48 : Int32), .int (57 : Int32)]) (rest := []) ⟨hx, hb, hml, hown, hts⟩ (met_X4_isIn l dC dI cyI cyO cyL  N  p2 (48 : Int32) (57 : Int32) o13 h14) (va_cwS 3 hts (gS w_methodLink_X4_35 w_static_X4_isIn w_initialized_X4 w_code_X4_isIn) rfl rfl rfl (by decide +kernel) ⟨Nat.le_of_ble_eq_true rfl, Nat.le_of_ble_eq_true rfl⟩) hP hK [] rfl rfl hl.1 (Nat.le_of_ble_eq_true rfl) dX4_after_125 ⟨Nat.le_of_ble_eq_true rfl, Nat.le_of_ble_eq_true rfl⟩ hS (fun r H locs hw hP hS => ?_)
        obtain ⟨hw, hz15⟩ := hw
        have hw := hw.symm
        subst hw
        refine lv_bipush (v := 16) hx hb dX4_after_128 (by decide) ?_
        obtain ⟨o16, h17, hF⟩ := obd hF
        refine wcRSi (As := [.int o13, .int (16 : Int32)]) (rest := []) ⟨hx, hb, hml, hown, hts⟩ (met_X4_when l dC dI cyI cyO cyL  N  o13 (16 : Int32) o16 h17) (va_cwS 2 hts (gS w_methodLink_X4_42 w_static_X4_when w_initialized_X4 w_code_X4_when) rfl rfl rfl (by decide +kernel) ⟨Nat.le_of_ble_eq_true rfl, Nat.le_of_ble_eq_true rfl⟩) hP hK [] rfl rfl hl.1 (Nat.le_of_ble_eq_true rfl) dX4_after_130 ⟨Nat.le_of_ble_eq_true rfl, Nat.le_of_ble_eq_true rfl⟩ hS (fun r H locs hw hP hS => ?_)
        have hw := hw.symm
        subst hw
        exact W.iret (v := o16) hx hb hr (fun t ht hW => ⟨⟨_, (), rfl, Option.some.inj hF, trivial⟩, hS.F ht⟩) hS.2.2 dX4_after_133
      · have hF := itn c12 hF
        by_cases c18 : p1 = (3 : Int32)
        · have hF := itp c18 hF
          refine lv_tableIn (off := 133) (tgt := 134) hx hb dX4_after_1 (by rw [c18]; decide) (by rw [c18]; decide) (by rw [c18]; decide) (by decide) ?_
          refine lv_iload_n hx hb dX4_after_134 rfl (lv_at hl 1 rfl) ?_
          refine lv_bipush (v := 48) hx hb dX4_after_135 (by decide) ?_
          obtain ⟨j145, hj145, hF⟩ := jn_use hF
          have hJ145 : ∀ (s145 : Int32) (H : Heap) (locs : List Loc) (ls : Array Slot) (hz_145_s0 : b01 s145), va_P (dC, dI) vwCl ([] : va_W) H → va_S wN0 s.heap H locs → lv_has ls 2 [] → j145 s145 = some out → W p l e (headSpec (Cond.code yX4_after cX4_after 2 (some .int) :: wT) ({ frames := 3, cells := 0, slots := 0, locals := 63 } : Room)).room s m ([.int p1, .int p2] : List Value).toArray below meth c H locs 0 0 (MQ below (va_Qi (fun (r : Int32) (_ : Unit) => r = out) (fun _ _ => True) wN0) ([.int p1, .int p2] : List Value).toArray s 0 0 wN0) (F0 m 145 ls [.int s145]) := by
            intro s145 H locs ls hz_145_s0 hP hS hl hF
            have hF := (congrFun hj145 s145).symm.trans hF
            refine lv_bipush (v := 16) hx hb dX4_after_145 (by decide) ?_
            obtain ⟨o19, h20, hF⟩ := obd hF
            refine wcRSi (As := [.int s145, .int (16 : Int32)]) (rest := []) ⟨hx, hb, hml, hown, hts⟩ (met_X4_when l dC dI cyI cyO cyL  N  s145 (16 : Int32) o19 h20) (va_cwS 2 hts (gS w_methodLink_X4_42 w_static_X4_when w_initialized_X4 w_code_X4_when) rfl rfl rfl (by decide +kernel) ⟨Nat.le_of_ble_eq_true rfl, Nat.le_of_ble_eq_true rfl⟩) hP hK [] rfl rfl hl.1 (Nat.le_of_ble_eq_true rfl) dX4_after_147 ⟨Nat.le_of_ble_eq_true rfl, Nat.le_of_ble_eq_true rfl⟩ hS (fun r H locs hw hP hS => ?_)
            have hw := hw.symm
            subst hw
            exact W.iret (v := o19) hx hb hr (fun t ht hW => ⟨⟨_, (), rfl, Option.some.inj hF, trivial⟩, hS.F ht⟩) hS.2.2 dX4_after_150
          refine lv_icmp_ne (tgt := 144) hx hb dX4_after_137 (by decide) (fun c21 => ?_) (fun c21 => ?_)
          · have hF := itn c21 hF
            refine lv_iconst (v := 0) hx hb dX4_after_144 (by decide) ?_
            exact hJ145 (0 : Int32) _ _ _ b01_0 hP hS (lv_sub hl [] rfl) hF
          · have hF := itp c21 hF
            refine lv_iconst (v := 1) hx hb dX4_after_140 (by decide) ?_
            refine lv_goto (tgt := 145) hx hb dX4_after_141 (by decide) ?_
            exact hJ145 (1 : Int32) _ _ _ b01_1 hP hS (lv_sub hl [] rfl) hF
        · have hF := itn c18 hF
          by_cases c22 : p1 = (14 : Int32)
          · have hF := itp c22 hF
            refine lv_tableIn (off := 150) (tgt := 151) hx hb dX4_after_1 (by rw [c22]; decide) (by rw [c22]; decide) (by rw [c22]; decide) (by decide) ?_
            refine lv_iload_n hx hb dX4_after_151 rfl (lv_at hl 1 rfl) ?_
            refine lv_bipush (v := 45) hx hb dX4_after_152 (by decide) ?_
            obtain ⟨j175, hj175, hF⟩ := jn_use hF
            have hJ175 : ∀ (s175 : Int32) (H : Heap) (locs : List Loc) (ls : Array Slot), va_P (dC, dI) vwCl ([] : va_W) H → va_S wN0 s.heap H locs → lv_has ls 2 [] → j175 s175 = some out → W p l e (headSpec (Cond.code yX4_after cX4_after 2 (some .int) :: wT) ({ frames := 3, cells := 0, slots := 0, locals := 63 } : Room)).room s m ([.int p1, .int p2] : List Value).toArray below meth c H locs 0 0 (MQ below (va_Qi (fun (r : Int32) (_ : Unit) => r = out) (fun _ _ => True) wN0) ([.int p1, .int p2] : List Value).toArray s 0 0 wN0) (F0 m 175 ls [.int s175]) := by
              intro s175 H locs ls hP hS hl hF
              have hF := (congrFun hj175 s175).symm.trans hF
              exact W.iret (v := s175) hx hb hr (fun t ht hW => ⟨⟨_, (), rfl, Option.some.inj hF, trivial⟩, hS.F ht⟩) hS.2.2 dX4_after_175
            refine lv_icmp_ne (tgt := 162) hx hb dX4_after_154 (by decide) (fun c23 => ?_) (fun c23 => ?_)
            · have hF := itn c23 hF
              refine lv_iload_n hx hb dX4_after_162 rfl (lv_at hl 1 rfl) ?_
              refine lv_bipush (v := 48) hx hb dX4_after_163 (by decide) ?_
              refine lv_bipush (v := 53) hx hb dX4_after_165 (by decide) ?_
              obtain ⟨o24, h25, hF⟩ := obd hF
              refine wcRSi (As := [.int p2, .int (48 : Int32), .int (53 : Int32)]) (rest := []) ⟨hx, hb, hml, hown, hts⟩ (met_X4_isIn l dC dI cyI cyO cyL  N  p2 (48 : Int32) (53 : Int32) o24 h25) (va_cwS 3 hts (gS w_methodLink_X4_35 w_static_X4_isIn w_initialized_X4 w_code_X4_isIn) rfl rfl rfl (by decide +kernel) ⟨Nat.le_of_ble_eq_true rfl, Nat.le_of_ble_eq_true rfl⟩) hP hK [] rfl rfl hl.1 (Nat.le_of_ble_eq_true rfl) dX4_after_167 ⟨Nat.le_of_ble_eq_true rfl, Nat.le_of_ble_eq_true rfl⟩ hS (fun r H locs hw hP hS => ?_)
              obtain ⟨hw, hz26⟩ := hw
              have hw := hw.symm
              subst hw
              refine lv_bipush (v := 16) hx hb dX4_after_170 (by decide) ?_
              obtain ⟨o27, h28, hF⟩ := obd hF
              refine wcRSi (As := [.int o24, .int (16 : Int32)]) (rest := []) ⟨hx, hb, hml, hown, hts⟩ (met_X4_when l dC dI cyI cyO cyL  N  o24 (16 : Int32) o27 h28) (va_cwS 2 hts (gS w_methodLink_X4_42 w_static_X4_when w_initialized_X4 w_code_X4_when) rfl rfl rfl (by decide +kernel) ⟨Nat.le_of_ble_eq_true rfl, Nat.le_of_ble_eq_true rfl⟩) hP hK [] rfl rfl hl.1 (Nat.le_of_ble_eq_true rfl) dX4_after_172 ⟨Nat.le_of_ble_eq_true rfl, Nat.le_of_ble_eq_true rfl⟩ hS (fun r H locs hw hP hS => ?_)
              have hw := hw.symm
              subst hw
              exact hJ175 o27 _ _ _ hP hS (lv_sub hl [] rfl) hF
            · have hF := itp c23 hF
              refine lv_bipush (v := 15) hx hb dX4_after_157 (by decide) ?_
              refine lv_goto (tgt := 175) hx hb dX4_after_159 (by decide) ?_
              exact hJ175 (15 : Int32) _ _ _ hP hS (lv_sub hl [] rfl) hF
          · have hF := itn c22 hF
            by_cases c29 : p1 = (15 : Int32)
            · have hF := itp c29 hF
              refine lv_tableIn (off := 175) (tgt := 176) hx hb dX4_after_1 (by rw [c29]; decide) (by rw [c29]; decide) (by rw [c29]; decide) (by decide) ?_
              refine lv_iload_n hx hb dX4_after_176 rfl (lv_at hl 1 rfl) ?_
              refine lv_bipush (v := 49) hx hb dX4_after_177 (by decide) ?_
              refine lv_bipush (v := 53) hx hb dX4_after_179 (by decide) ?_
              obtain ⟨o30, h31, hF⟩ := obd hF
              refine wcRSi (As := [.int p2, .int (49 : Int32), .int (53 : Int32)]) (rest := []) ⟨hx, hb, hml, hown, hts⟩ (met_X4_isIn l dC dI cyI cyO cyL  N  p2 (49 : Int32) (53 : Int32) o30 h31) (va_cwS 3 hts (gS w_methodLink_X4_35 w_static_X4_isIn w_initialized_X4 w_code_X4_isIn) rfl rfl rfl (by decide +kernel) ⟨Nat.le_of_ble_eq_true rfl, Nat.le_of_ble_eq_true rfl⟩) hP hK [] rfl rfl hl.1 (Nat.le_of_ble_eq_true rfl) dX4_after_181 ⟨Nat.le_of_ble_eq_true rfl, Nat.le_of_ble_eq_true rfl⟩ hS (fun r H locs hw hP hS => ?_)
              obtain ⟨hw, hz32⟩ := hw
              have hw := hw.symm
              subst hw
              refine lv_bipush (v := 16) hx hb dX4_after_184 (by decide) ?_
              obtain ⟨o33, h34, hF⟩ := obd hF
              refine wcRSi (As := [.int o30, .int (16 : Int32)]) (rest := []) ⟨hx, hb, hml, hown, hts⟩ (met_X4_when l dC dI cyI cyO cyL  N  o30 (16 : Int32) o33 h34) (va_cwS 2 hts (gS w_methodLink_X4_42 w_static_X4_when w_initialized_X4 w_code_X4_when) rfl rfl rfl (by decide +kernel) ⟨Nat.le_of_ble_eq_true rfl, Nat.le_of_ble_eq_true rfl⟩) hP hK [] rfl rfl hl.1 (Nat.le_of_ble_eq_true rfl) dX4_after_186 ⟨Nat.le_of_ble_eq_true rfl, Nat.le_of_ble_eq_true rfl⟩ hS (fun r H locs hw hP hS => ?_)
              have hw := hw.symm
              subst hw
              exact W.iret (v := o33) hx hb hr (fun t ht hW => ⟨⟨_, (), rfl, Option.some.inj hF, trivial⟩, hS.F ht⟩) hS.2.2 dX4_after_189
            · have hF := itn c29 hF
              by_cases c35 : p1 = (16 : Int32)
              · have hF := itp c35 hF
                refine lv_tableIn (off := 189) (tgt := 190) hx hb dX4_after_1 (by rw [c35]; decide) (by rw [c35]; decide) (by rw [c35]; decide) (by decide) ?_
                refine lv_iload_n hx hb dX4_after_190 rfl (lv_at hl 1 rfl) ?_
                refine lv_bipush (v := 59) hx hb dX4_after_191 (by decide) ?_
                obtain ⟨j201, hj201, hF⟩ := jn_use hF
                have hJ201 : ∀ (s201 : Int32) (H : Heap) (locs : List Loc) (ls : Array Slot) (hz_201_s0 : b01 s201), va_P (dC, dI) vwCl ([] : va_W) H → va_S wN0 s.heap H locs → lv_has ls 2 [] → j201 s201 = some out → W p l e (headSpec (Cond.code yX4_after cX4_after 2 (some .int) :: wT) ({ frames := 3, cells := 0, slots := 0, locals := 63 } : Room)).room s m ([.int p1, .int p2] : List Value).toArray below meth c H locs 0 0 (MQ below (va_Qi (fun (r : Int32) (_ : Unit) => r = out) (fun _ _ => True) wN0) ([.int p1, .int p2] : List Value).toArray s 0 0 wN0) (F0 m 201 ls [.int s201]) := by
                  intro s201 H locs ls hz_201_s0 hP hS hl hF
                  have hF := (congrFun hj201 s201).symm.trans hF
                  refine lv_iconst (v := 0) hx hb dX4_after_201 (by decide) ?_
                  obtain ⟨o36, h37, hF⟩ := obd hF
                  refine wcRSi (As := [.int s201, .int (0 : Int32)]) (rest := []) ⟨hx, hb, hml, hown, hts⟩ (met_X4_when l dC dI cyI cyO cyL  N  s201 (0 : Int32) o36 h37) (va_cwS 2 hts (gS w_methodLink_X4_42 w_static_X4_when w_initialized_X4 w_code_X4_when) rfl rfl rfl (by decide +kernel) ⟨Nat.le_of_ble_eq_true rfl, Nat.le_of_ble_eq_true rfl⟩) hP hK [] rfl rfl hl.1 (Nat.le_of_ble_eq_true rfl) dX4_after_202 ⟨Nat.le_of_ble_eq_true rfl, Nat.le_of_ble_eq_true rfl⟩ hS (fun r H locs hw hP hS => ?_)
                  have hw := hw.symm
                  subst hw
                  exact W.iret (v := o36) hx hb hr (fun t ht hW => ⟨⟨_, (), rfl, Option.some.inj hF, trivial⟩, hS.F ht⟩) hS.2.2 dX4_after_205
                refine lv_icmp_ne (tgt := 200) hx hb dX4_after_193 (by decide) (fun c38 => ?_) (fun c38 => ?_)
                · have hF := itn c38 hF
                  refine lv_iconst (v := 0) hx hb dX4_after_200 (by decide) ?_
                  exact hJ201 (0 : Int32) _ _ _ b01_0 hP hS (lv_sub hl [] rfl) hF
                · have hF := itp c38 hF
                  refine lv_iconst (v := 1) hx hb dX4_after_196 (by decide) ?_
                  refine lv_goto (tgt := 201) hx hb dX4_after_197 (by decide) ?_
                  exact hJ201 (1 : Int32) _ _ _ b01_1 hP hS (lv_sub hl [] rfl) hF
              · have hF := itn c35 hF
                refine lv_tableDef (tgt := 206) hx hb dX4_after_1 (by decide) (fun hlo => sw_tab (lo := 0) (hi := 16) (d := 205) hlo [0, 1, 2, 3, 14, 15, 16] (by intro k hk; simp only [List.mem_cons, List.not_mem_nil, or_false] at hk; rcases hk with rfl | rfl | rfl | rfl | rfl | rfl | rfl <;> first | exact lv_neT c1 (by decide) | exact lv_neT c4 (by decide) | exact lv_neT c12 (by decide) | exact lv_neT c18 (by decide) | exact lv_neT c22 (by decide) | exact lv_neT c29 (by decide) | exact lv_neT c35 (by decide)) (by decide) (by decide)) ?_
                refine lv_iload_n hx hb dX4_after_206 rfl (lv_at hl 0 rfl) ?_
                refine lv_iload_n hx hb dX4_after_207 rfl (lv_at hl 1 rfl) ?_
                obtain ⟨o39, h40, hF⟩ := obd hF
                refine wcRSi (As := [.int p1, .int p2]) (rest := []) ⟨hx, hb, hml, hown, hts⟩ (met_X4_afterBowl l dC dI cyI cyO cyL  N  p1 p2 o39 h40) (va_cwS 2 hts (gS w_methodLink_X4_46 w_static_X4_afterBowl w_initialized_X4 w_code_X4_afterBowl) rfl rfl rfl (by decide +kernel) ⟨Nat.le_of_ble_eq_true rfl, Nat.le_of_ble_eq_true rfl⟩) hP hK [] rfl rfl hl.1 (Nat.le_of_ble_eq_true rfl) dX4_after_208 ⟨Nat.le_of_ble_eq_true rfl, Nat.le_of_ble_eq_true rfl⟩ hS (fun r H locs hw hP hS => ?_)
                have hw := hw.symm
                subst hw
                exact W.iret (v := o39) hx hb hr (fun t ht hW => ⟨⟨_, (), rfl, Option.some.inj hF, trivial⟩, hS.F ht⟩) hS.2.2 dX4_after_211
theorem dX4_add_0 : decode cX4_add 0 = .ok (.aload_n 0, 1) := by decide +kernel
theorem dX4_add_1 : decode cX4_add 1 = .ok (.getfield 9, 3) := by decide +kernel
theorem dX4_add_4 : decode cX4_add 4 = .ok (.aload_n 0, 1) := by decide +kernel
theorem dX4_add_5 : decode cX4_add 5 = .ok (.getfield 15, 3) := by decide +kernel
theorem dX4_add_8 : decode cX4_add 8 = .ok (.iload_n 1, 1) := by decide +kernel
theorem dX4_add_9 : decode cX4_add 9 = .ok (.invokestatic 19, 3) := by decide +kernel
theorem dX4_add_12 : decode cX4_add 12 = .ok (.aload_n 0, 1) := by decide +kernel
theorem dX4_add_13 : decode cX4_add 13 = .ok (.dup, 1) := by decide +kernel
theorem dX4_add_14 : decode cX4_add 14 = .ok (.getfield 15, 3) := by decide +kernel
theorem dX4_add_17 : decode cX4_add 17 = .ok (.iconst 1, 1) := by decide +kernel
theorem dX4_add_18 : decode cX4_add 18 = .ok (.iadd, 1) := by decide +kernel
theorem dX4_add_19 : decode cX4_add 19 = .ok (.putfield 15, 3) := by decide +kernel
theorem dX4_add_22 : decode cX4_add 22 = .ok (.return_, 1) := by decide +kernel
def f_X4_add (N : Nat) (tv : TV) (p1 : Int32) : Option (TV) :=
  (f_X5_put N 60 (T_codes tv) (T_length tv) p1).bind (fun o1 => some (T_set_length (T_set_codes tv o1) ((T_length tv) + (1 : Int32))))
set_option maxHeartbeats 4000000 in
set_option maxRecDepth 100000 in
theorem met_X4_add (l : Launch) (dC : Nat → ClassId) (dI : Nat → Nat → Nat) (cyI cyO cyL : ClassId) (x : Nat → Nat) (sz : Nat) (N : Nat) (tv : TV) (p1 : Int32) (out : TV) (hF : f_X4_add N tv p1 = some out) : Met l yX4_add (Cond.code yX4_add cX4_add 2 none :: wT) ({ frames := 1, cells := 0, slots := 0, locals := 22 } : Room) (wWr dC dI cyI cyO cyL [.ref (x 6), .int p1] (cT cyI x tv) sz) (va_Qv (fun (u : TV) => u = out) (fun u t => va_P (dC, dI) vwCl (cT cyI x u) t.heap ∧ va_D (va_A (cT cyI x tv) sz) (cT cyI x u)) (va_A (cT cyI x tv) sz)) 0 0 (va_A (cT cyI x tv) sz) := by
  refine Met.ofW (cc := cX4_add) (maxL := 2) (ret := none) (by decide) rfl ?_
  intro p e s m args below meth c s₁ B hml hv
  obtain ⟨rfl, hsz, hP, hK, hD0⟩ := hv
  have hx := B.exec
  have hb := B.bytes
  have hr := B.returns
  have hts0 := atoms_spec (ws := (Cond.code yX4_add cX4_add 2 none :: wT)) B.pre
  have hts := fun w h => hts0 w (List.mem_cons_of_mem _ h)
  clear hts0
  have hown : s.vm.findClass RX4 = some m.cls := findClass_of_methodNamed B.named
  have hlocks := B.notSynchronized
  subst hsz
  have hD := hD0.self (sz := s.heap.size)
  generalize hAe : va_A (cT cyI x tv) s.heap.size = A at hD ⊢
  have hA : ∀ q : Nat, s.heap.size ≤ q → A q := fun q h => by rw [← hAe]; exact Or.inr h
  clear hD0
  have hS : va_S A s.heap s.heap [] := va_S.rf
  have hl := lv_entry [.ref (x 6), .int p1] (n := 2) (Nat.le_of_ble_eq_true rfl)
  rw [lg_entry_eq]
  generalize (lg_sl [.ref (x 6), .int p1] ++ List.replicate (2 - (lg_sl [.ref (x 6), .int p1]).length) Slot.unset).toArray = ls at hl ⊢
  have hl : lv_has ls 2 [(0, .ref (x 6)), (1, .int p1)] := hl
  unfold f_X4_add at hF
  refine lv_aload_n hx hb dX4_add_0 rfl (lv_at hl 0 rfl) ?_
  refine va_get (D := (dC, dI)) (ci := 4) (v := .ref (x 7)) (C := RX4) (T := TX4) (N := 2) hx hb hts inX4 hown hK.1 hP 0 rfl rfl 0 (by decide) (hts _ w_fieldLink_X4_9) (fun _ h9 => h9) rfl dX4_add_1 ?_
  refine lv_aload_n hx hb dX4_add_4 rfl (lv_at hl 0 rfl) ?_
  refine va_get (D := (dC, dI)) (ci := 4) (v := .int (T_length tv)) (C := RX4) (T := TX4) (N := 2) hx hb hts inX4 hown hK.1 hP 0 rfl rfl 1 (by decide) (hts _ w_fieldLink_X4_15) (fun _ h9 => h9) rfl dX4_add_5 ?_
  refine lv_iload_n hx hb dX4_add_8 rfl (lv_at hl 1 rfl) ?_
  obtain ⟨o1, h2, hF⟩ := obd hF
  refine wcWNv (As := [.ref (x 7), .int (T_length tv), .int p1]) (rest := []) (wr := [0].filterMap (fun i => ((cT cyI x tv))[i]?)) ⟨hx, hb, hml, hown, hts⟩ (met_X5_put l dC dI cyI cyO cyL (x 7) 60 _ N (T_codes tv) (T_length tv) p1 o1 h2) ⟨va_cnB 3 hts (gCode w_code_X5_put) rfl rfl rfl (hK.2 _ n_X4_19) (hts _ w_initialized_X5) (by decide +kernel) ⟨Nat.le_of_ble_eq_true rfl, Nat.le_of_ble_eq_true rfl⟩, hts _ w_static_X5_put, trivial⟩ hP hD hK [1] [0] rfl rfl (by decide) (by decide) (by decide) rfl hl.1 (Nat.le_of_ble_eq_true rfl) dX4_add_9 ⟨Nat.le_of_ble_eq_true rfl, Nat.le_of_ble_eq_true rfl⟩ hS hA (fun u H locs hw hP hD hS => ?_)
  have hw := hw.symm
  subst hw
  have hP : va_P (dC, dI) vwCl (cT cyI x (T_set_codes tv o1)) H := hP
  have hD : va_D A (cT cyI x (T_set_codes tv o1)) := hD
  refine lv_aload_n hx hb dX4_add_12 rfl (lv_at hl 0 rfl) ?_
  refine lv_dup hx hb dX4_add_13 rfl ?_
  refine va_get (D := (dC, dI)) (ci := 4) (v := .int (T_length tv)) (C := RX4) (T := TX4) (N := 2) hx hb hts inX4 hown hK.1 hP 0 rfl rfl 1 (by decide) (hts _ w_fieldLink_X4_15) (fun _ h9 => h9) rfl dX4_add_14 ?_
  refine lv_iconst (v := 1) hx hb dX4_add_17 (by decide) ?_
  refine lv_iadd hx hb dX4_add_18 ?_
  refine va_put (D := (dC, dI)) (ci := 4) (v := .int ((T_length tv) + (1 : Int32))) (ty := .int) (C := RX4) (T := TX4) (N := 2) hx hb hts inX4 tyX4 tyX4_ok nmX4 hown hK.1 hP hD hS 0 rfl rfl 1 (by decide) (hts _ w_fieldLink_X4_15) (fun _ h9 => h9) rfl (by decide +kernel) rfl rfl (Nat.le_of_ble_eq_true rfl) dX4_add_19 (fun H locs hP hD hS => ?_)
  have hP : va_P (dC, dI) vwCl (cT cyI x (T_set_length (T_set_codes tv o1) ((T_length tv) + (1 : Int32)))) H := hP
  have hD : va_D A (cT cyI x (T_set_length (T_set_codes tv o1) ((T_length tv) + (1 : Int32)))) := hD
  exact W.vret hx hb hr (fun t ht hW => ⟨⟨_, rfl, Option.some.inj hF, by rw [ht]; exact hP, hD⟩, hS.F ht⟩) hS.2.2 dX4_add_22
theorem dX4_codeAt_0 : decode cX4_codeAt 0 = .ok (.iload_n 1, 1) := by decide +kernel
theorem dX4_codeAt_1 : decode cX4_codeAt 1 = .ok (.aload_n 0, 1) := by decide +kernel
theorem dX4_codeAt_2 : decode cX4_codeAt 2 = .ok (.getfield 15, 3) := by decide +kernel
theorem dX4_codeAt_5 : decode cX4_codeAt 5 = .ok (.if_icmp .ge 14, 3) := by decide +kernel
theorem dX4_codeAt_8 : decode cX4_codeAt 8 = .ok (.aload_n 0, 1) := by decide +kernel
theorem dX4_codeAt_9 : decode cX4_codeAt 9 = .ok (.getfield 9, 3) := by decide +kernel
theorem dX4_codeAt_12 : decode cX4_codeAt 12 = .ok (.iload_n 1, 1) := by decide +kernel
theorem dX4_codeAt_13 : decode cX4_codeAt 13 = .ok (.invokestatic 23, 3) := by decide +kernel
theorem dX4_codeAt_16 : decode cX4_codeAt 16 = .ok (.goto 4, 3) := by decide +kernel
theorem dX4_codeAt_19 : decode cX4_codeAt 19 = .ok (.iconst 0, 1) := by decide +kernel
theorem dX4_codeAt_20 : decode cX4_codeAt 20 = .ok (.ireturn, 1) := by decide +kernel
def f_X4_codeAt (N : Nat) (tv : TV) (p1 : Int32) : Option (Int32) :=
  jn (fun (s20 : Int32) => some s20) (fun (j20 : (Int32) → Option (Int32)) => (if (T_length tv) ≤ p1 then j20 (0 : Int32) else (f_X5_at N 60 (T_codes tv) p1).bind (fun o2 => j20 o2)))
set_option maxHeartbeats 4000000 in
set_option maxRecDepth 100000 in
theorem met_X4_codeAt (l : Launch) (dC : Nat → ClassId) (dI : Nat → Nat → Nat) (cyI cyO cyL : ClassId) (x : Nat → Nat) (N : Nat) (tv : TV) (p1 : Int32) (out : Int32) (hF : f_X4_codeAt N tv p1 = some out) : Met l yX4_codeAt (Cond.code yX4_codeAt cX4_codeAt 2 (some .int) :: wT) ({ frames := 1, cells := 0, slots := 0, locals := 21 } : Room) (wRd dC dI cyI cyO cyL [.ref (x 6), .int p1] (cT cyI x tv)) (va_Qi (fun (r : Int32) (_ : Unit) => r = out) (fun _ _ => True) wN0) 0 0 wN0 := by
  refine Met.ofW (cc := cX4_codeAt) (maxL := 2) (ret := (some .int)) (by decide) rfl ?_
  intro p e s m args below meth c s₁ B hml hv
  obtain ⟨rfl, hP, hK⟩ := hv
  have hx := B.exec
  have hb := B.bytes
  have hr := B.returns
  have hts0 := atoms_spec (ws := (Cond.code yX4_codeAt cX4_codeAt 2 (some .int) :: wT)) B.pre
  have hts := fun w h => hts0 w (List.mem_cons_of_mem _ h)
  clear hts0
  have hown : s.vm.findClass RX4 = some m.cls := findClass_of_methodNamed B.named
  have hlocks := B.notSynchronized
  have hS : va_S wN0 s.heap s.heap [] := va_S.rf
  have hl := lv_entry [.ref (x 6), .int p1] (n := 2) (Nat.le_of_ble_eq_true rfl)
  rw [lg_entry_eq]
  generalize (lg_sl [.ref (x 6), .int p1] ++ List.replicate (2 - (lg_sl [.ref (x 6), .int p1]).length) Slot.unset).toArray = ls at hl ⊢
  have hl : lv_has ls 2 [(0, .ref (x 6)), (1, .int p1)] := hl
  unfold f_X4_codeAt at hF
  refine lv_iload_n hx hb dX4_codeAt_0 rfl (lv_at hl 1 rfl) ?_
  refine lv_aload_n hx hb dX4_codeAt_1 rfl (lv_at hl 0 rfl) ?_
  refine va_get (D := (dC, dI)) (ci := 4) (v := .int (T_length tv)) (C := RX4) (T := TX4) (N := 2) hx hb hts inX4 hown hK.1 hP 0 rfl rfl 1 (by decide) (hts _ w_fieldLink_X4_15) (fun _ h9 => h9) rfl dX4_codeAt_2 ?_
  obtain ⟨j20, hj20, hF⟩ := jn_use hF
  have hJ20 : ∀ (s20 : Int32) (H : Heap) (locs : List Loc) (ls : Array Slot), va_P (dC, dI) vwCl (cT cyI x tv) H → va_S wN0 s.heap H locs → lv_has ls 2 [] → j20 s20 = some out → W p l e (headSpec (Cond.code yX4_codeAt cX4_codeAt 2 (some .int) :: wT) ({ frames := 1, cells := 0, slots := 0, locals := 21 } : Room)).room s m ([.ref (x 6), .int p1] : List Value).toArray below meth c H locs 0 0 (MQ below (va_Qi (fun (r : Int32) (_ : Unit) => r = out) (fun _ _ => True) wN0) ([.ref (x 6), .int p1] : List Value).toArray s 0 0 wN0) (F0 m 20 ls [.int s20]) := by
    intro s20 H locs ls hP hS hl hF
    have hF := (congrFun hj20 s20).symm.trans hF
    exact W.iret (v := s20) hx hb hr (fun t ht hW => ⟨⟨_, (), rfl, Option.some.inj hF, trivial⟩, hS.F ht⟩) hS.2.2 dX4_codeAt_20
  refine lv_icmp_ge (tgt := 19) hx hb dX4_codeAt_5 (by decide) (fun c1 => ?_) (fun c1 => ?_)
  · have hF := itp c1 hF
    refine lv_iconst (v := 0) hx hb dX4_codeAt_19 (by decide) ?_
    exact hJ20 (0 : Int32) _ _ _ hP hS (lv_sub hl [] rfl) hF
  · have hF := itn c1 hF
    refine lv_aload_n hx hb dX4_codeAt_8 rfl (lv_at hl 0 rfl) ?_
    refine va_get (D := (dC, dI)) (ci := 4) (v := .ref (x 7)) (C := RX4) (T := TX4) (N := 2) hx hb hts inX4 hown hK.1 hP 0 rfl rfl 0 (by decide) (hts _ w_fieldLink_X4_9) (fun _ h9 => h9) rfl dX4_codeAt_9 ?_
    refine lv_iload_n hx hb dX4_codeAt_12 rfl (lv_at hl 1 rfl) ?_
    obtain ⟨o2, h3, hF⟩ := obd hF
    refine wcRNi (As := [.ref (x 7), .int p1]) (rest := []) ⟨hx, hb, hml, hown, hts⟩ (met_X5_at l dC dI cyI cyO cyL (x 7) 60 N (T_codes tv) p1 o2 h3) ⟨va_cnB 2 hts (gCode w_code_X5_at) rfl rfl rfl (hK.2 _ n_X4_23) (hts _ w_initialized_X5) (by decide +kernel) ⟨Nat.le_of_ble_eq_true rfl, Nat.le_of_ble_eq_true rfl⟩, hts _ w_static_X5_at, trivial⟩ hP hK [1] rfl rfl hl.1 (Nat.le_of_ble_eq_true rfl) dX4_codeAt_13 ⟨Nat.le_of_ble_eq_true rfl, Nat.le_of_ble_eq_true rfl⟩ hS (fun r H locs hw hP hS => ?_)
    have hw := hw.symm
    subst hw
    refine lv_goto (tgt := 20) hx hb dX4_codeAt_16 (by decide) ?_
    exact hJ20 o2 _ _ _ hP hS (lv_sub hl [] rfl) hF
theorem dX4_firstWrong_0 : decode cX4_firstWrong 0 = .ok (.iconst 0, 1) := by decide +kernel
theorem dX4_firstWrong_1 : decode cX4_firstWrong 1 = .ok (.istore_n 1, 1) := by decide +kernel
theorem dX4_firstWrong_2 : decode cX4_firstWrong 2 = .ok (.iconst 0, 1) := by decide +kernel
theorem dX4_firstWrong_3 : decode cX4_firstWrong 3 = .ok (.istore_n 2, 1) := by decide +kernel
theorem dX4_firstWrong_4 : decode cX4_firstWrong 4 = .ok (.iload_n 2, 1) := by decide +kernel
theorem dX4_firstWrong_5 : decode cX4_firstWrong 5 = .ok (.aload_n 0, 1) := by decide +kernel
theorem dX4_firstWrong_6 : decode cX4_firstWrong 6 = .ok (.getfield 15, 3) := by decide +kernel
theorem dX4_firstWrong_9 : decode cX4_firstWrong 9 = .ok (.if_icmp .ge 26, 3) := by decide +kernel
theorem dX4_firstWrong_12 : decode cX4_firstWrong 12 = .ok (.iload_n 1, 1) := by decide +kernel
theorem dX4_firstWrong_13 : decode cX4_firstWrong 13 = .ok (.aload_n 0, 1) := by decide +kernel
theorem dX4_firstWrong_14 : decode cX4_firstWrong 14 = .ok (.iload_n 2, 1) := by decide +kernel
theorem dX4_firstWrong_15 : decode cX4_firstWrong 15 = .ok (.invokevirtual 27, 3) := by decide +kernel
theorem dX4_firstWrong_18 : decode cX4_firstWrong 18 = .ok (.invokestatic 31, 3) := by decide +kernel
theorem dX4_firstWrong_21 : decode cX4_firstWrong 21 = .ok (.istore_n 1, 1) := by decide +kernel
theorem dX4_firstWrong_22 : decode cX4_firstWrong 22 = .ok (.iload_n 1, 1) := by decide +kernel
theorem dX4_firstWrong_23 : decode cX4_firstWrong 23 = .ok (.iconst (-1), 1) := by decide +kernel
theorem dX4_firstWrong_24 : decode cX4_firstWrong 24 = .ok (.if_icmp .ne 5, 3) := by decide +kernel
theorem dX4_firstWrong_27 : decode cX4_firstWrong 27 = .ok (.iload_n 2, 1) := by decide +kernel
theorem dX4_firstWrong_28 : decode cX4_firstWrong 28 = .ok (.ireturn, 1) := by decide +kernel
theorem dX4_firstWrong_29 : decode cX4_firstWrong 29 = .ok (.iinc 2 1, 3) := by decide +kernel
theorem dX4_firstWrong_32 : decode cX4_firstWrong 32 = .ok (.goto (-28), 3) := by decide +kernel
theorem dX4_firstWrong_35 : decode cX4_firstWrong 35 = .ok (.aload_n 0, 1) := by decide +kernel
theorem dX4_firstWrong_36 : decode cX4_firstWrong 36 = .ok (.getfield 15, 3) := by decide +kernel
theorem dX4_firstWrong_39 : decode cX4_firstWrong 39 = .ok (.ireturn, 1) := by decide +kernel
def f_X4_firstWrong (N : Nat) (tv : TV) : Option (Int32) :=
  lpN (fun (s4 : Int32 × Int32) (k4 : (Int32 × Int32) → Option (Int32)) => (if (T_length tv) ≤ s4.2 then some (T_length tv) else (f_X4_codeAt N tv s4.2).bind (fun o2 => (f_X4_after N s4.1 o2).bind (fun o4 => (if o4 = (-1 : Int32) then some s4.2 else k4 (o4, (s4.2 + (1 : Int32)))))))) N ((0 : Int32), (0 : Int32))
set_option maxHeartbeats 4000000 in
set_option maxRecDepth 100000 in
theorem met_X4_firstWrong (l : Launch) (dC : Nat → ClassId) (dI : Nat → Nat → Nat) (cyI cyO cyL : ClassId) (x : Nat → Nat) (N : Nat) (tv : TV) (out : Int32) (hF : f_X4_firstWrong N tv = some out) : Met l yX4_firstWrong (Cond.code yX4_firstWrong cX4_firstWrong 3 (some .int) :: wT) ({ frames := 4, cells := 0, slots := 0, locals := 84 } : Room) (wRd dC dI cyI cyO cyL [.ref (x 6)] (cT cyI x tv)) (va_Qi (fun (r : Int32) (_ : Unit) => r = out) (fun _ _ => True) wN0) 0 0 wN0 := by
  refine Met.ofW (cc := cX4_firstWrong) (maxL := 3) (ret := (some .int)) (by decide) rfl ?_
  intro p e s m args below meth c s₁ B hml hv
  obtain ⟨rfl, hP, hK⟩ := hv
  have hx := B.exec
  have hb := B.bytes
  have hr := B.returns
  have hts0 := atoms_spec (ws := (Cond.code yX4_firstWrong cX4_firstWrong 3 (some .int) :: wT)) B.pre
  have hts := fun w h => hts0 w (List.mem_cons_of_mem _ h)
  clear hts0
  have hown : s.vm.findClass RX4 = some m.cls := findClass_of_methodNamed B.named
  have hlocks := B.notSynchronized
  have hS : va_S wN0 s.heap s.heap [] := va_S.rf
  have hl := lv_entry [.ref (x 6)] (n := 3) (Nat.le_of_ble_eq_true rfl)
  rw [lg_entry_eq]
  generalize (lg_sl [.ref (x 6)] ++ List.replicate (3 - (lg_sl [.ref (x 6)]).length) Slot.unset).toArray = ls at hl ⊢
  have hl : lv_has ls 3 [(0, .ref (x 6))] := hl
  unfold f_X4_firstWrong at hF
  refine lv_iconst (v := 0) hx hb dX4_firstWrong_0 (by decide) ?_
  refine lv_istore_n (lv' := [(1, .int (0 : Int32)), (0, .ref (x 6))]) hx hb dX4_firstWrong_1 rfl hl (by decide) rfl (fun ls hl => ?_)
  refine lv_iconst (v := 0) hx hb dX4_firstWrong_2 (by decide) ?_
  refine lv_istore_n (lv' := [(2, .int (0 : Int32)), (1, .int (0 : Int32)), (0, .ref (x 6))]) hx hb dX4_firstWrong_3 rfl hl (by decide) rfl (fun ls hl => ?_)
  obtain ⟨st4, hst4, hF⟩ := lpN_use hF
  have hL4 : ∀ (n : Nat) (s4 : Int32 × Int32) (H : Heap) (locs : List Loc) (ls : Array Slot), va_P (dC, dI) vwCl (cT cyI x tv) H → va_S wN0 s.heap H locs → lv_has ls 3 [(0, .ref (x 6)), (1, .int s4.1), (2, .int s4.2)] → lpN st4 n s4 = some out → W p l e (headSpec (Cond.code yX4_firstWrong cX4_firstWrong 3 (some .int) :: wT) ({ frames := 4, cells := 0, slots := 0, locals := 84 } : Room)).room s m ([.ref (x 6)] : List Value).toArray below meth c H locs 0 0 (MQ below (va_Qi (fun (r : Int32) (_ : Unit) => r = out) (fun _ _ => True) wN0) ([.ref (x 6)] : List Value).toArray s 0 0 wN0) (F0 m 4 ls []) := by
    intro n
    induction n with
    | zero => intro s4 H locs ls hP hS hl hF; exact lpN_0 hF
    | succ n ih4 =>
      intro s4 H locs ls hP hS hl hF
      have hF := (congrFun (congrFun hst4 s4) (lpN st4 n)).symm.trans (lpN_s hF)
      refine lv_iload_n hx hb dX4_firstWrong_4 rfl (lv_at hl 2 rfl) ?_
      refine lv_aload_n hx hb dX4_firstWrong_5 rfl (lv_at hl 0 rfl) ?_
      refine va_get (D := (dC, dI)) (ci := 4) (v := .int (T_length tv)) (C := RX4) (T := TX4) (N := 2) hx hb hts inX4 hown hK.1 hP 0 rfl rfl 1 (by decide) (hts _ w_fieldLink_X4_15) (fun _ h9 => h9) rfl dX4_firstWrong_6 ?_
      refine lv_icmp_ge (tgt := 35) hx hb dX4_firstWrong_9 (by decide) (fun c1 => ?_) (fun c1 => ?_)
      · have hF := itp c1 hF
        refine lv_aload_n hx hb dX4_firstWrong_35 rfl (lv_at hl 0 rfl) ?_
        refine va_get (D := (dC, dI)) (ci := 4) (v := .int (T_length tv)) (C := RX4) (T := TX4) (N := 2) hx hb hts inX4 hown hK.1 hP 0 rfl rfl 1 (by decide) (hts _ w_fieldLink_X4_15) (fun _ h9 => h9) rfl dX4_firstWrong_36 ?_
        exact W.iret (v := (T_length tv)) hx hb hr (fun t ht hW => ⟨⟨_, (), rfl, Option.some.inj hF, trivial⟩, hS.F ht⟩) hS.2.2 dX4_firstWrong_39
      · have hF := itn c1 hF
        refine lv_iload_n hx hb dX4_firstWrong_12 rfl (lv_at hl 1 rfl) ?_
        refine lv_aload_n hx hb dX4_firstWrong_13 rfl (lv_at hl 0 rfl) ?_
        refine lv_iload_n hx hb dX4_firstWrong_14 rfl (lv_at hl 2 rfl) ?_
        obtain ⟨o2, h3, hF⟩ := obd hF
        refine wcRVi (As := [.int s4.2]) (rest := [.int s4.1]) (b := (x 6)) ⟨hx, hb, hml, hown, hts⟩ (met_X4_codeAt l dC dI cyI cyO cyL x N tv s4.2 o2 h3) (cwV 1 hts (gV w_methodLink_X4_27 w_instanceMethod_X4_codeAt w_selects_X4_codeAt w_initialized_X4 w_code_X4_codeAt) rfl rfl rfl (by decide +kernel) ⟨Nat.le_of_ble_eq_true rfl, Nat.le_of_ble_eq_true rfl⟩) (va_recv hK.1 hP (ci := 4) (q0 := 0) rfl rfl) hP hK [0, 1] rfl rfl hl.1 (Nat.le_of_ble_eq_true rfl) dX4_firstWrong_15 ⟨Nat.le_of_ble_eq_true rfl, Nat.le_of_ble_eq_true rfl⟩ hS (fun r H locs hw hP hS => ?_)
        have hw := hw.symm
        subst hw
        obtain ⟨o4, h5, hF⟩ := obd hF
        refine wcRSi (As := [.int s4.1, .int o2]) (rest := []) ⟨hx, hb, hml, hown, hts⟩ (met_X4_after l dC dI cyI cyO cyL  N  s4.1 o2 o4 h5) (va_cwS 2 hts (gS w_methodLink_X4_31 w_static_X4_after w_initialized_X4 w_code_X4_after) rfl rfl rfl (by decide +kernel) ⟨Nat.le_of_ble_eq_true rfl, Nat.le_of_ble_eq_true rfl⟩) hP hK [] rfl rfl hl.1 (Nat.le_of_ble_eq_true rfl) dX4_firstWrong_18 ⟨Nat.le_of_ble_eq_true rfl, Nat.le_of_ble_eq_true rfl⟩ hS (fun r H locs hw hP hS => ?_)
        have hw := hw.symm
        subst hw
        refine lv_istore_n (lv' := [(1, .int o4), (0, .ref (x 6)), (2, .int s4.2)]) hx hb dX4_firstWrong_21 rfl hl (by decide) rfl (fun ls hl => ?_)
        refine lv_iload_n hx hb dX4_firstWrong_22 rfl (lv_at hl 0 rfl) ?_
        refine lv_iconst (v := -1) hx hb dX4_firstWrong_23 (by decide) ?_
        refine lv_icmp_ne (tgt := 29) hx hb dX4_firstWrong_24 (by decide) (fun c6 => ?_) (fun c6 => ?_)
        · have hF := itn c6 hF
          refine lv_iinc (v := (s4.2 + (1 : Int32))) (lv' := [(2, .int (s4.2 + (1 : Int32))), (1, .int o4), (0, .ref (x 6))]) hx hb dX4_firstWrong_29 hl (k := 2) rfl rfl (by decide) rfl (fun ls hl => ?_)
          refine lv_goto (tgt := 4) hx hb dX4_firstWrong_32 (by decide) ?_
          exact ih4 (o4, (s4.2 + (1 : Int32))) _ _ _ hP hS (lv_sub hl [2, 1, 0] rfl) hF
        · have hF := itp c6 hF
          refine lv_iload_n hx hb dX4_firstWrong_27 rfl (lv_at hl 2 rfl) ?_
          exact W.iret (v := s4.2) hx hb hr (fun t ht hW => ⟨⟨_, (), rfl, Option.some.inj hF, trivial⟩, hS.F ht⟩) hS.2.2 dX4_firstWrong_28
  exact hL4 N ((0 : Int32), (0 : Int32)) _ _ _ hP hS (lv_sub hl [2, 1, 0] rfl) hF
theorem dX4_isWhole_0 : decode cX4_isWhole 0 = .ok (.iconst 0, 1) := by decide +kernel
theorem dX4_isWhole_1 : decode cX4_isWhole 1 = .ok (.istore_n 1, 1) := by decide +kernel
theorem dX4_isWhole_2 : decode cX4_isWhole 2 = .ok (.iconst 0, 1) := by decide +kernel
theorem dX4_isWhole_3 : decode cX4_isWhole 3 = .ok (.istore_n 2, 1) := by decide +kernel
theorem dX4_isWhole_4 : decode cX4_isWhole 4 = .ok (.iload_n 2, 1) := by decide +kernel
theorem dX4_isWhole_5 : decode cX4_isWhole 5 = .ok (.aload_n 0, 1) := by decide +kernel
theorem dX4_isWhole_6 : decode cX4_isWhole 6 = .ok (.getfield 15, 3) := by decide +kernel
theorem dX4_isWhole_9 : decode cX4_isWhole 9 = .ok (.if_icmp .ge 24, 3) := by decide +kernel
theorem dX4_isWhole_12 : decode cX4_isWhole 12 = .ok (.iload_n 1, 1) := by decide +kernel
theorem dX4_isWhole_13 : decode cX4_isWhole 13 = .ok (.iconst (-1), 1) := by decide +kernel
theorem dX4_isWhole_14 : decode cX4_isWhole 14 = .ok (.if_icmp .eq 19, 3) := by decide +kernel
theorem dX4_isWhole_17 : decode cX4_isWhole 17 = .ok (.iload_n 1, 1) := by decide +kernel
theorem dX4_isWhole_18 : decode cX4_isWhole 18 = .ok (.aload_n 0, 1) := by decide +kernel
theorem dX4_isWhole_19 : decode cX4_isWhole 19 = .ok (.iload_n 2, 1) := by decide +kernel
theorem dX4_isWhole_20 : decode cX4_isWhole 20 = .ok (.invokevirtual 27, 3) := by decide +kernel
theorem dX4_isWhole_23 : decode cX4_isWhole 23 = .ok (.invokestatic 31, 3) := by decide +kernel
theorem dX4_isWhole_26 : decode cX4_isWhole 26 = .ok (.istore_n 1, 1) := by decide +kernel
theorem dX4_isWhole_27 : decode cX4_isWhole 27 = .ok (.iinc 2 1, 3) := by decide +kernel
theorem dX4_isWhole_30 : decode cX4_isWhole 30 = .ok (.goto (-26), 3) := by decide +kernel
theorem dX4_isWhole_33 : decode cX4_isWhole 33 = .ok (.iload_n 1, 1) := by decide +kernel
theorem dX4_isWhole_34 : decode cX4_isWhole 34 = .ok (.bipush 16, 2) := by decide +kernel
theorem dX4_isWhole_36 : decode cX4_isWhole 36 = .ok (.if_icmp .ne 7, 3) := by decide +kernel
theorem dX4_isWhole_39 : decode cX4_isWhole 39 = .ok (.iconst 1, 1) := by decide +kernel
theorem dX4_isWhole_40 : decode cX4_isWhole 40 = .ok (.goto 4, 3) := by decide +kernel
theorem dX4_isWhole_43 : decode cX4_isWhole 43 = .ok (.iconst 0, 1) := by decide +kernel
theorem dX4_isWhole_44 : decode cX4_isWhole 44 = .ok (.ireturn, 1) := by decide +kernel
def f_X4_isWhole (N : Nat) (tv : TV) : Option (Int32) :=
  lpN (fun (s4 : Int32 × Int32) (k4 : (Int32 × Int32) → Option (Int32)) => jn (fun (s33 : Unit) => jn (fun (s44 : Int32) => some s44) (fun (j44 : (Int32) → Option (Int32)) => (if s4.1 = (16 : Int32) then j44 (1 : Int32) else j44 (0 : Int32)))) (fun (j33 : (Unit) → Option (Int32)) => (if (T_length tv) ≤ s4.2 then j33 () else (if s4.1 = (-1 : Int32) then j33 () else (f_X4_codeAt N tv s4.2).bind (fun o4 => (f_X4_after N s4.1 o4).bind (fun o6 => k4 (o6, (s4.2 + (1 : Int32))))))))) N ((0 : Int32), (0 : Int32))
set_option maxHeartbeats 4000000 in
set_option maxRecDepth 100000 in
theorem met_X4_isWhole (l : Launch) (dC : Nat → ClassId) (dI : Nat → Nat → Nat) (cyI cyO cyL : ClassId) (x : Nat → Nat) (N : Nat) (tv : TV) (out : Int32) (hF : f_X4_isWhole N tv = some out) : Met l yX4_isWhole (Cond.code yX4_isWhole cX4_isWhole 3 (some .boolean) :: wT) ({ frames := 4, cells := 0, slots := 0, locals := 84 } : Room) (wRd dC dI cyI cyO cyL [.ref (x 6)] (cT cyI x tv)) (va_Qi (fun (r : Int32) (_ : Unit) => r = out ∧ b01 r) (fun _ _ => True) wN0) 0 0 wN0 := by
  refine Met.ofW (cc := cX4_isWhole) (maxL := 3) (ret := (some .boolean)) (by decide) rfl ?_
  intro p e s m args below meth c s₁ B hml hv
  obtain ⟨rfl, hP, hK⟩ := hv
  have hx := B.exec
  have hb := B.bytes
  have hr := B.returns
  have hts0 := atoms_spec (ws := (Cond.code yX4_isWhole cX4_isWhole 3 (some .boolean) :: wT)) B.pre
  have hts := fun w h => hts0 w (List.mem_cons_of_mem _ h)
  clear hts0
  have hown : s.vm.findClass RX4 = some m.cls := findClass_of_methodNamed B.named
  have hlocks := B.notSynchronized
  have hS : va_S wN0 s.heap s.heap [] := va_S.rf
  have hl := lv_entry [.ref (x 6)] (n := 3) (Nat.le_of_ble_eq_true rfl)
  rw [lg_entry_eq]
  generalize (lg_sl [.ref (x 6)] ++ List.replicate (3 - (lg_sl [.ref (x 6)]).length) Slot.unset).toArray = ls at hl ⊢
  have hl : lv_has ls 3 [(0, .ref (x 6))] := hl
  unfold f_X4_isWhole at hF
  refine lv_iconst (v := 0) hx hb dX4_isWhole_0 (by decide) ?_
  refine lv_istore_n (lv' := [(1, .int (0 : Int32)), (0, .ref (x 6))]) hx hb dX4_isWhole_1 rfl hl (by decide) rfl (fun ls hl => ?_)
  refine lv_iconst (v := 0) hx hb dX4_isWhole_2 (by decide) ?_
  refine lv_istore_n (lv' := [(2, .int (0 : Int32)), (1, .int (0 : Int32)), (0, .ref (x 6))]) hx hb dX4_isWhole_3 rfl hl (by decide) rfl (fun ls hl => ?_)
  obtain ⟨st4, hst4, hF⟩ := lpN_use hF
  have hL4 : ∀ (n : Nat) (s4 : Int32 × Int32) (H : Heap) (locs : List Loc) (ls : Array Slot), va_P (dC, dI) vwCl (cT cyI x tv) H → va_S wN0 s.heap H locs → lv_has ls 3 [(0, .ref (x 6)), (1, .int s4.1), (2, .int s4.2)] → lpN st4 n s4 = some out → W p l e (headSpec (Cond.code yX4_isWhole cX4_isWhole 3 (some .boolean) :: wT) ({ frames := 4, cells := 0, slots := 0, locals := 84 } : Room)).room s m ([.ref (x 6)] : List Value).toArray below meth c H locs 0 0 (MQ below (va_Qi (fun (r : Int32) (_ : Unit) => r = out ∧ b01 r) (fun _ _ => True) wN0) ([.ref (x 6)] : List Value).toArray s 0 0 wN0) (F0 m 4 ls []) := by
    intro n
    induction n with
    | zero => intro s4 H locs ls hP hS hl hF; exact lpN_0 hF
    | succ n ih4 =>
      intro s4 H locs ls hP hS hl hF
      have hF := (congrFun (congrFun hst4 s4) (lpN st4 n)).symm.trans (lpN_s hF)
      refine lv_iload_n hx hb dX4_isWhole_4 rfl (lv_at hl 2 rfl) ?_
      refine lv_aload_n hx hb dX4_isWhole_5 rfl (lv_at hl 0 rfl) ?_
      refine va_get (D := (dC, dI)) (ci := 4) (v := .int (T_length tv)) (C := RX4) (T := TX4) (N := 2) hx hb hts inX4 hown hK.1 hP 0 rfl rfl 1 (by decide) (hts _ w_fieldLink_X4_15) (fun _ h9 => h9) rfl dX4_isWhole_6 ?_
      obtain ⟨j33, hj33, hF⟩ := jn_use hF
      have hJ33 : ∀ (s33 : Unit) (H : Heap) (locs : List Loc) (ls : Array Slot), va_P (dC, dI) vwCl (cT cyI x tv) H → va_S wN0 s.heap H locs → lv_has ls 3 [(1, .int s4.1)] → j33 s33 = some out → W p l e (headSpec (Cond.code yX4_isWhole cX4_isWhole 3 (some .boolean) :: wT) ({ frames := 4, cells := 0, slots := 0, locals := 84 } : Room)).room s m ([.ref (x 6)] : List Value).toArray below meth c H locs 0 0 (MQ below (va_Qi (fun (r : Int32) (_ : Unit) => r = out ∧ b01 r) (fun _ _ => True) wN0) ([.ref (x 6)] : List Value).toArray s 0 0 wN0) (F0 m 33 ls []) := by
        intro s33 H locs ls hP hS hl hF
        have hF := (congrFun hj33 s33).symm.trans hF
        refine lv_iload_n hx hb dX4_isWhole_33 rfl (lv_at hl 0 rfl) ?_
        refine lv_bipush (v := 16) hx hb dX4_isWhole_34 (by decide) ?_
        obtain ⟨j44, hj44, hF⟩ := jn_use hF
        have hJ44 : ∀ (s44 : Int32) (H : Heap) (locs : List Loc) (ls : Array Slot) (hz_44_s0 : b01 s44), va_P (dC, dI) vwCl (cT cyI x tv) H → va_S wN0 s.heap H locs → lv_has ls 3 [] → j44 s44 = some out → W p l e (headSpec (Cond.code yX4_isWhole cX4_isWhole 3 (some .boolean) :: wT) ({ frames := 4, cells := 0, slots := 0, locals := 84 } : Room)).room s m ([.ref (x 6)] : List Value).toArray below meth c H locs 0 0 (MQ below (va_Qi (fun (r : Int32) (_ : Unit) => r = out ∧ b01 r) (fun _ _ => True) wN0) ([.ref (x 6)] : List Value).toArray s 0 0 wN0) (F0 m 44 ls [.int s44]) := by
          intro s44 H locs ls hz_44_s0 hP hS hl hF
          have hF := (congrFun hj44 s44).symm.trans hF
          exact W.zret (ty := .boolean) (v := s44) hx hb hr (b01_n hz_44_s0) (fun t ht hW => ⟨⟨_, (), rfl, ⟨Option.some.inj hF, hz_44_s0⟩, trivial⟩, hS.F ht⟩) hS.2.2 dX4_isWhole_44
        refine lv_icmp_ne (tgt := 43) hx hb dX4_isWhole_36 (by decide) (fun c1 => ?_) (fun c1 => ?_)
        · have hF := itn c1 hF
          refine lv_iconst (v := 0) hx hb dX4_isWhole_43 (by decide) ?_
          exact hJ44 (0 : Int32) _ _ _ b01_0 hP hS (lv_sub hl [] rfl) hF
        · have hF := itp c1 hF
          refine lv_iconst (v := 1) hx hb dX4_isWhole_39 (by decide) ?_
          refine lv_goto (tgt := 44) hx hb dX4_isWhole_40 (by decide) ?_
          exact hJ44 (1 : Int32) _ _ _ b01_1 hP hS (lv_sub hl [] rfl) hF
      refine lv_icmp_ge (tgt := 33) hx hb dX4_isWhole_9 (by decide) (fun c2 => ?_) (fun c2 => ?_)
      · have hF := itp c2 hF
        exact hJ33 () _ _ _ hP hS (lv_sub hl [1] rfl) hF
      · have hF := itn c2 hF
        refine lv_iload_n hx hb dX4_isWhole_12 rfl (lv_at hl 1 rfl) ?_
        refine lv_iconst (v := -1) hx hb dX4_isWhole_13 (by decide) ?_
        refine lv_icmp_eq (tgt := 33) hx hb dX4_isWhole_14 (by decide) (fun c3 => ?_) (fun c3 => ?_)
        · have hF := itp c3 hF
          exact hJ33 () _ _ _ hP hS (lv_sub hl [1] rfl) hF
        · have hF := itn c3 hF
          refine lv_iload_n hx hb dX4_isWhole_17 rfl (lv_at hl 1 rfl) ?_
          refine lv_aload_n hx hb dX4_isWhole_18 rfl (lv_at hl 0 rfl) ?_
          refine lv_iload_n hx hb dX4_isWhole_19 rfl (lv_at hl 2 rfl) ?_
          obtain ⟨o4, h5, hF⟩ := obd hF
          refine wcRVi (As := [.int s4.2]) (rest := [.int s4.1]) (b := (x 6)) ⟨hx, hb, hml, hown, hts⟩ (met_X4_codeAt l dC dI cyI cyO cyL x N tv s4.2 o4 h5) (cwV 1 hts (gV w_methodLink_X4_27 w_instanceMethod_X4_codeAt w_selects_X4_codeAt w_initialized_X4 w_code_X4_codeAt) rfl rfl rfl (by decide +kernel) ⟨Nat.le_of_ble_eq_true rfl, Nat.le_of_ble_eq_true rfl⟩) (va_recv hK.1 hP (ci := 4) (q0 := 0) rfl rfl) hP hK [0, 1] rfl rfl hl.1 (Nat.le_of_ble_eq_true rfl) dX4_isWhole_20 ⟨Nat.le_of_ble_eq_true rfl, Nat.le_of_ble_eq_true rfl⟩ hS (fun r H locs hw hP hS => ?_)
          have hw := hw.symm
          subst hw
          obtain ⟨o6, h7, hF⟩ := obd hF
          refine wcRSi (As := [.int s4.1, .int o4]) (rest := []) ⟨hx, hb, hml, hown, hts⟩ (met_X4_after l dC dI cyI cyO cyL  N  s4.1 o4 o6 h7) (va_cwS 2 hts (gS w_methodLink_X4_31 w_static_X4_after w_initialized_X4 w_code_X4_after) rfl rfl rfl (by decide +kernel) ⟨Nat.le_of_ble_eq_true rfl, Nat.le_of_ble_eq_true rfl⟩) hP hK [] rfl rfl hl.1 (Nat.le_of_ble_eq_true rfl) dX4_isWhole_23 ⟨Nat.le_of_ble_eq_true rfl, Nat.le_of_ble_eq_true rfl⟩ hS (fun r H locs hw hP hS => ?_)
          have hw := hw.symm
          subst hw
          refine lv_istore_n (lv' := [(1, .int o6), (0, .ref (x 6)), (2, .int s4.2)]) hx hb dX4_isWhole_26 rfl hl (by decide) rfl (fun ls hl => ?_)
          refine lv_iinc (v := (s4.2 + (1 : Int32))) (lv' := [(2, .int (s4.2 + (1 : Int32))), (1, .int o6), (0, .ref (x 6))]) hx hb dX4_isWhole_27 hl (k := 2) rfl rfl (by decide) rfl (fun ls hl => ?_)
          refine lv_goto (tgt := 4) hx hb dX4_isWhole_30 (by decide) ?_
          exact ih4 (o6, (s4.2 + (1 : Int32))) _ _ _ hP hS (lv_sub hl [2, 1, 0] rfl) hF
  exact hL4 N ((0 : Int32), (0 : Int32)) _ _ _ hP hS (lv_sub hl [2, 1, 0] rfl) hF
theorem dX4_numberFrom_0 : decode cX4_numberFrom 0 = .ok (.aload_n 0, 1) := by decide +kernel
theorem dX4_numberFrom_1 : decode cX4_numberFrom 1 = .ok (.iload_n 1, 1) := by decide +kernel
theorem dX4_numberFrom_2 : decode cX4_numberFrom 2 = .ok (.invokevirtual 27, 3) := by decide +kernel
theorem dX4_numberFrom_5 : decode cX4_numberFrom 5 = .ok (.bipush 45, 2) := by decide +kernel
theorem dX4_numberFrom_7 : decode cX4_numberFrom 7 = .ok (.if_icmp .ne 7, 3) := by decide +kernel
theorem dX4_numberFrom_10 : decode cX4_numberFrom 10 = .ok (.iconst 1, 1) := by decide +kernel
theorem dX4_numberFrom_11 : decode cX4_numberFrom 11 = .ok (.goto 4, 3) := by decide +kernel
theorem dX4_numberFrom_14 : decode cX4_numberFrom 14 = .ok (.iconst 0, 1) := by decide +kernel
theorem dX4_numberFrom_15 : decode cX4_numberFrom 15 = .ok (.istore_n 2, 1) := by decide +kernel
theorem dX4_numberFrom_16 : decode cX4_numberFrom 16 = .ok (.iconst 0, 1) := by decide +kernel
theorem dX4_numberFrom_17 : decode cX4_numberFrom 17 = .ok (.istore_n 3, 1) := by decide +kernel
theorem dX4_numberFrom_18 : decode cX4_numberFrom 18 = .ok (.iload_n 2, 1) := by decide +kernel
theorem dX4_numberFrom_19 : decode cX4_numberFrom 19 = .ok (.ifCond .eq 9, 3) := by decide +kernel
theorem dX4_numberFrom_22 : decode cX4_numberFrom 22 = .ok (.iload_n 1, 1) := by decide +kernel
theorem dX4_numberFrom_23 : decode cX4_numberFrom 23 = .ok (.iconst 1, 1) := by decide +kernel
theorem dX4_numberFrom_24 : decode cX4_numberFrom 24 = .ok (.iadd, 1) := by decide +kernel
theorem dX4_numberFrom_25 : decode cX4_numberFrom 25 = .ok (.goto 4, 3) := by decide +kernel
theorem dX4_numberFrom_28 : decode cX4_numberFrom 28 = .ok (.iload_n 1, 1) := by decide +kernel
theorem dX4_numberFrom_29 : decode cX4_numberFrom 29 = .ok (.istore 4, 2) := by decide +kernel
theorem dX4_numberFrom_31 : decode cX4_numberFrom 31 = .ok (.iload 4, 2) := by decide +kernel
theorem dX4_numberFrom_33 : decode cX4_numberFrom 33 = .ok (.aload_n 0, 1) := by decide +kernel
theorem dX4_numberFrom_34 : decode cX4_numberFrom 34 = .ok (.getfield 15, 3) := by decide +kernel
theorem dX4_numberFrom_37 : decode cX4_numberFrom 37 = .ok (.if_icmp .ge 40, 3) := by decide +kernel
theorem dX4_numberFrom_40 : decode cX4_numberFrom 40 = .ok (.aload_n 0, 1) := by decide +kernel
theorem dX4_numberFrom_41 : decode cX4_numberFrom 41 = .ok (.iload 4, 2) := by decide +kernel
theorem dX4_numberFrom_43 : decode cX4_numberFrom 43 = .ok (.invokevirtual 27, 3) := by decide +kernel
theorem dX4_numberFrom_46 : decode cX4_numberFrom 46 = .ok (.bipush 48, 2) := by decide +kernel
theorem dX4_numberFrom_48 : decode cX4_numberFrom 48 = .ok (.bipush 57, 2) := by decide +kernel
theorem dX4_numberFrom_50 : decode cX4_numberFrom 50 = .ok (.invokestatic 35, 3) := by decide +kernel
theorem dX4_numberFrom_53 : decode cX4_numberFrom 53 = .ok (.ifCond .eq 24, 3) := by decide +kernel
theorem dX4_numberFrom_56 : decode cX4_numberFrom 56 = .ok (.bipush 10, 2) := by decide +kernel
theorem dX4_numberFrom_58 : decode cX4_numberFrom 58 = .ok (.iload_n 3, 1) := by decide +kernel
theorem dX4_numberFrom_59 : decode cX4_numberFrom 59 = .ok (.imul, 1) := by decide +kernel
theorem dX4_numberFrom_60 : decode cX4_numberFrom 60 = .ok (.aload_n 0, 1) := by decide +kernel
theorem dX4_numberFrom_61 : decode cX4_numberFrom 61 = .ok (.iload 4, 2) := by decide +kernel
theorem dX4_numberFrom_63 : decode cX4_numberFrom 63 = .ok (.invokevirtual 27, 3) := by decide +kernel
theorem dX4_numberFrom_66 : decode cX4_numberFrom 66 = .ok (.iadd, 1) := by decide +kernel
theorem dX4_numberFrom_67 : decode cX4_numberFrom 67 = .ok (.bipush 48, 2) := by decide +kernel
theorem dX4_numberFrom_69 : decode cX4_numberFrom 69 = .ok (.isub, 1) := by decide +kernel
theorem dX4_numberFrom_70 : decode cX4_numberFrom 70 = .ok (.istore_n 3, 1) := by decide +kernel
theorem dX4_numberFrom_71 : decode cX4_numberFrom 71 = .ok (.iinc 4 1, 3) := by decide +kernel
theorem dX4_numberFrom_74 : decode cX4_numberFrom 74 = .ok (.goto (-43), 3) := by decide +kernel
theorem dX4_numberFrom_77 : decode cX4_numberFrom 77 = .ok (.iload_n 2, 1) := by decide +kernel
theorem dX4_numberFrom_78 : decode cX4_numberFrom 78 = .ok (.ifCond .eq 8, 3) := by decide +kernel
theorem dX4_numberFrom_81 : decode cX4_numberFrom 81 = .ok (.iload_n 3, 1) := by decide +kernel
theorem dX4_numberFrom_82 : decode cX4_numberFrom 82 = .ok (.ineg, 1) := by decide +kernel
theorem dX4_numberFrom_83 : decode cX4_numberFrom 83 = .ok (.goto 4, 3) := by decide +kernel
theorem dX4_numberFrom_86 : decode cX4_numberFrom 86 = .ok (.iload_n 3, 1) := by decide +kernel
theorem dX4_numberFrom_87 : decode cX4_numberFrom 87 = .ok (.ireturn, 1) := by decide +kernel
def f_X4_numberFrom (N : Nat) (tv : TV) (p1 : Int32) : Option (Int32) :=
  (f_X4_codeAt N tv p1).bind (fun o1 => jn (fun (s15 : Int32) => jn (fun (s29 : Int32) => lpN (fun (s31 : Int32 × Int32) (k31 : (Int32 × Int32) → Option (Int32)) => jn (fun (s77 : Unit) => jn (fun (s87 : Int32) => some s87) (fun (j87 : (Int32) → Option (Int32)) => (if s15 = 0 then j87 s31.1 else j87 (-s31.1)))) (fun (j77 : (Unit) → Option (Int32)) => (if (T_length tv) ≤ s31.2 then j77 () else (f_X4_codeAt N tv s31.2).bind (fun o5 => (f_X4_isIn N o5 (48 : Int32) (57 : Int32)).bind (fun o7 => (if o7 = 0 then j77 () else (f_X4_codeAt N tv s31.2).bind (fun o11 => k31 (((((10 : Int32) * s31.1) + o11) - (48 : Int32)), (s31.2 + (1 : Int32)))))))))) N ((0 : Int32), s29)) (fun (j29 : (Int32) → Option (Int32)) => (if s15 = 0 then j29 p1 else j29 (p1 + (1 : Int32))))) (fun (j15 : (Int32) → Option (Int32)) => (if o1 = (45 : Int32) then j15 (1 : Int32) else j15 (0 : Int32))))
set_option maxHeartbeats 4000000 in
set_option maxRecDepth 100000 in
theorem met_X4_numberFrom (l : Launch) (dC : Nat → ClassId) (dI : Nat → Nat → Nat) (cyI cyO cyL : ClassId) (x : Nat → Nat) (N : Nat) (tv : TV) (p1 : Int32) (out : Int32) (hF : f_X4_numberFrom N tv p1 = some out) : Met l yX4_numberFrom (Cond.code yX4_numberFrom cX4_numberFrom 5 (some .int) :: wT) ({ frames := 2, cells := 0, slots := 0, locals := 42 } : Room) (wRd dC dI cyI cyO cyL [.ref (x 6), .int p1] (cT cyI x tv)) (va_Qi (fun (r : Int32) (_ : Unit) => r = out) (fun _ _ => True) wN0) 0 0 wN0 := by
  refine Met.ofW (cc := cX4_numberFrom) (maxL := 5) (ret := (some .int)) (by decide) rfl ?_
  intro p e s m args below meth c s₁ B hml hv
  obtain ⟨rfl, hP, hK⟩ := hv
  have hx := B.exec
  have hb := B.bytes
  have hr := B.returns
  have hts0 := atoms_spec (ws := (Cond.code yX4_numberFrom cX4_numberFrom 5 (some .int) :: wT)) B.pre
  have hts := fun w h => hts0 w (List.mem_cons_of_mem _ h)
  clear hts0
  have hown : s.vm.findClass RX4 = some m.cls := findClass_of_methodNamed B.named
  have hlocks := B.notSynchronized
  have hS : va_S wN0 s.heap s.heap [] := va_S.rf
  have hl := lv_entry [.ref (x 6), .int p1] (n := 5) (Nat.le_of_ble_eq_true rfl)
  rw [lg_entry_eq]
  generalize (lg_sl [.ref (x 6), .int p1] ++ List.replicate (5 - (lg_sl [.ref (x 6), .int p1]).length) Slot.unset).toArray = ls at hl ⊢
  have hl : lv_has ls 5 [(0, .ref (x 6)), (1, .int p1)] := hl
  unfold f_X4_numberFrom at hF
  refine lv_aload_n hx hb dX4_numberFrom_0 rfl (lv_at hl 0 rfl) ?_
  refine lv_iload_n hx hb dX4_numberFrom_1 rfl (lv_at hl 1 rfl) ?_
  obtain ⟨o1, h2, hF⟩ := obd hF
  refine wcRVi (As := [.int p1]) (rest := []) (b := (x 6)) ⟨hx, hb, hml, hown, hts⟩ (met_X4_codeAt l dC dI cyI cyO cyL x N tv p1 o1 h2) (cwV 1 hts (gV w_methodLink_X4_27 w_instanceMethod_X4_codeAt w_selects_X4_codeAt w_initialized_X4 w_code_X4_codeAt) rfl rfl rfl (by decide +kernel) ⟨Nat.le_of_ble_eq_true rfl, Nat.le_of_ble_eq_true rfl⟩) (va_recv hK.1 hP (ci := 4) (q0 := 0) rfl rfl) hP hK [0, 1] rfl rfl hl.1 (Nat.le_of_ble_eq_true rfl) dX4_numberFrom_2 ⟨Nat.le_of_ble_eq_true rfl, Nat.le_of_ble_eq_true rfl⟩ hS (fun r H locs hw hP hS => ?_)
  have hw := hw.symm
  subst hw
  refine lv_bipush (v := 45) hx hb dX4_numberFrom_5 (by decide) ?_
  obtain ⟨j15, hj15, hF⟩ := jn_use hF
  have hJ15 : ∀ (s15 : Int32) (H : Heap) (locs : List Loc) (ls : Array Slot) (hz_15_s0 : b01 s15), va_P (dC, dI) vwCl (cT cyI x tv) H → va_S wN0 s.heap H locs → lv_has ls 5 [(0, .ref (x 6)), (1, .int p1)] → j15 s15 = some out → W p l e (headSpec (Cond.code yX4_numberFrom cX4_numberFrom 5 (some .int) :: wT) ({ frames := 2, cells := 0, slots := 0, locals := 42 } : Room)).room s m ([.ref (x 6), .int p1] : List Value).toArray below meth c H locs 0 0 (MQ below (va_Qi (fun (r : Int32) (_ : Unit) => r = out) (fun _ _ => True) wN0) ([.ref (x 6), .int p1] : List Value).toArray s 0 0 wN0) (F0 m 15 ls [.int s15]) := by
    intro s15 H locs ls hz_15_s0 hP hS hl hF
    have hF := (congrFun hj15 s15).symm.trans hF
    refine lv_istore_n (lv' := [(2, .int s15), (0, .ref (x 6)), (1, .int p1)]) hx hb dX4_numberFrom_15 rfl hl (by decide) rfl (fun ls hl => ?_)
    refine lv_iconst (v := 0) hx hb dX4_numberFrom_16 (by decide) ?_
    refine lv_istore_n (lv' := [(3, .int (0 : Int32)), (2, .int s15), (0, .ref (x 6)), (1, .int p1)]) hx hb dX4_numberFrom_17 rfl hl (by decide) rfl (fun ls hl => ?_)
    refine lv_iload_n hx hb dX4_numberFrom_18 rfl (lv_at hl 1 rfl) ?_
    obtain ⟨j29, hj29, hF⟩ := jn_use hF
    have hJ29 : ∀ (s29 : Int32) (H : Heap) (locs : List Loc) (ls : Array Slot), va_P (dC, dI) vwCl (cT cyI x tv) H → va_S wN0 s.heap H locs → lv_has ls 5 [(0, .ref (x 6)), (2, .int s15), (3, .int (0 : Int32))] → j29 s29 = some out → W p l e (headSpec (Cond.code yX4_numberFrom cX4_numberFrom 5 (some .int) :: wT) ({ frames := 2, cells := 0, slots := 0, locals := 42 } : Room)).room s m ([.ref (x 6), .int p1] : List Value).toArray below meth c H locs 0 0 (MQ below (va_Qi (fun (r : Int32) (_ : Unit) => r = out) (fun _ _ => True) wN0) ([.ref (x 6), .int p1] : List Value).toArray s 0 0 wN0) (F0 m 29 ls [.int s29]) := by
      intro s29 H locs ls hP hS hl hF
      have hF := (congrFun hj29 s29).symm.trans hF
      refine lv_istore (lv' := [(4, .int s29), (0, .ref (x 6)), (2, .int s15), (3, .int (0 : Int32))]) hx hb dX4_numberFrom_29 hl (by decide) rfl (fun ls hl => ?_)
      obtain ⟨st31, hst31, hF⟩ := lpN_use hF
      have hL31 : ∀ (n : Nat) (s31 : Int32 × Int32) (H : Heap) (locs : List Loc) (ls : Array Slot), va_P (dC, dI) vwCl (cT cyI x tv) H → va_S wN0 s.heap H locs → lv_has ls 5 [(0, .ref (x 6)), (2, .int s15), (3, .int s31.1), (4, .int s31.2)] → lpN st31 n s31 = some out → W p l e (headSpec (Cond.code yX4_numberFrom cX4_numberFrom 5 (some .int) :: wT) ({ frames := 2, cells := 0, slots := 0, locals := 42 } : Room)).room s m ([.ref (x 6), .int p1] : List Value).toArray below meth c H locs 0 0 (MQ below (va_Qi (fun (r : Int32) (_ : Unit) => r = out) (fun _ _ => True) wN0) ([.ref (x 6), .int p1] : List Value).toArray s 0 0 wN0) (F0 m 31 ls []) := by
        intro n
        induction n with
        | zero => intro s31 H locs ls hP hS hl hF; exact lpN_0 hF
        | succ n ih31 =>
          intro s31 H locs ls hP hS hl hF
          have hF := (congrFun (congrFun hst31 s31) (lpN st31 n)).symm.trans (lpN_s hF)
          refine lv_iload hx hb dX4_numberFrom_31 (lv_at hl 3 rfl) ?_
          refine lv_aload_n hx hb dX4_numberFrom_33 rfl (lv_at hl 0 rfl) ?_
          refine va_get (D := (dC, dI)) (ci := 4) (v := .int (T_length tv)) (C := RX4) (T := TX4) (N := 2) hx hb hts inX4 hown hK.1 hP 0 rfl rfl 1 (by decide) (hts _ w_fieldLink_X4_15) (fun _ h9 => h9) rfl dX4_numberFrom_34 ?_
          obtain ⟨j77, hj77, hF⟩ := jn_use hF
          have hJ77 : ∀ (s77 : Unit) (H : Heap) (locs : List Loc) (ls : Array Slot), va_P (dC, dI) vwCl (cT cyI x tv) H → va_S wN0 s.heap H locs → lv_has ls 5 [(2, .int s15), (3, .int s31.1)] → j77 s77 = some out → W p l e (headSpec (Cond.code yX4_numberFrom cX4_numberFrom 5 (some .int) :: wT) ({ frames := 2, cells := 0, slots := 0, locals := 42 } : Room)).room s m ([.ref (x 6), .int p1] : List Value).toArray below meth c H locs 0 0 (MQ below (va_Qi (fun (r : Int32) (_ : Unit) => r = out) (fun _ _ => True) wN0) ([.ref (x 6), .int p1] : List Value).toArray s 0 0 wN0) (F0 m 77 ls []) := by
            intro s77 H locs ls hP hS hl hF
            have hF := (congrFun hj77 s77).symm.trans hF
            refine lv_iload_n hx hb dX4_numberFrom_77 rfl (lv_at hl 0 rfl) ?_
            obtain ⟨j87, hj87, hF⟩ := jn_use hF
            have hJ87 : ∀ (s87 : Int32) (H : Heap) (locs : List Loc) (ls : Array Slot), va_P (dC, dI) vwCl (cT cyI x tv) H → va_S wN0 s.heap H locs → lv_has ls 5 [] → j87 s87 = some out → W p l e (headSpec (Cond.code yX4_numberFrom cX4_numberFrom 5 (some .int) :: wT) ({ frames := 2, cells := 0, slots := 0, locals := 42 } : Room)).room s m ([.ref (x 6), .int p1] : List Value).toArray below meth c H locs 0 0 (MQ below (va_Qi (fun (r : Int32) (_ : Unit) => r = out) (fun _ _ => True) wN0) ([.ref (x 6), .int p1] : List Value).toArray s 0 0 wN0) (F0 m 87 ls [.int s87]) := by
              intro s87 H locs ls hP hS hl hF
              have hF := (congrFun hj87 s87).symm.trans hF
              exact W.iret (v := s87) hx hb hr (fun t ht hW => ⟨⟨_, (), rfl, Option.some.inj hF, trivial⟩, hS.F ht⟩) hS.2.2 dX4_numberFrom_87
            refine lv_if_eq (tgt := 86) hx hb dX4_numberFrom_78 (by decide) (fun c3 => ?_) (fun c3 => ?_)
            · have hF := itp c3 hF
              refine lv_iload_n hx hb dX4_numberFrom_86 rfl (lv_at hl 1 rfl) ?_
              exact hJ87 s31.1 _ _ _ hP hS (lv_sub hl [] rfl) hF
            · have hF := itn c3 hF
              refine lv_iload_n hx hb dX4_numberFrom_81 rfl (lv_at hl 1 rfl) ?_
              refine lv_ineg hx hb dX4_numberFrom_82 ?_
              refine lv_goto (tgt := 87) hx hb dX4_numberFrom_83 (by decide) ?_
              exact hJ87 (-s31.1) _ _ _ hP hS (lv_sub hl [] rfl) hF
          refine lv_icmp_ge (tgt := 77) hx hb dX4_numberFrom_37 (by decide) (fun c4 => ?_) (fun c4 => ?_)
          · have hF := itp c4 hF
            exact hJ77 () _ _ _ hP hS (lv_sub hl [1, 2] rfl) hF
          · have hF := itn c4 hF
            refine lv_aload_n hx hb dX4_numberFrom_40 rfl (lv_at hl 0 rfl) ?_
            refine lv_iload hx hb dX4_numberFrom_41 (lv_at hl 3 rfl) ?_
            obtain ⟨o5, h6, hF⟩ := obd hF
            refine wcRVi (As := [.int s31.2]) (rest := []) (b := (x 6)) ⟨hx, hb, hml, hown, hts⟩ (met_X4_codeAt l dC dI cyI cyO cyL x N tv s31.2 o5 h6) (cwV 1 hts (gV w_methodLink_X4_27 w_instanceMethod_X4_codeAt w_selects_X4_codeAt w_initialized_X4 w_code_X4_codeAt) rfl rfl rfl (by decide +kernel) ⟨Nat.le_of_ble_eq_true rfl, Nat.le_of_ble_eq_true rfl⟩) (va_recv hK.1 hP (ci := 4) (q0 := 0) rfl rfl) hP hK [0, 1] rfl rfl hl.1 (Nat.le_of_ble_eq_true rfl) dX4_numberFrom_43 ⟨Nat.le_of_ble_eq_true rfl, Nat.le_of_ble_eq_true rfl⟩ hS (fun r H locs hw hP hS => ?_)
            have hw := hw.symm
            subst hw
            refine lv_bipush (v := 48) hx hb dX4_numberFrom_46 (by decide) ?_
            refine lv_bipush (v := 57) hx hb dX4_numberFrom_48 (by decide) ?_
            obtain ⟨o7, h8, hF⟩ := obd hF
            refine wcRSi (As := [.int o5, .int (48 : Int32), .int (57 : Int32)]) (rest := []) ⟨hx, hb, hml, hown, hts⟩ (met_X4_isIn l dC dI cyI cyO cyL  N  o5 (48 : Int32) (57 : Int32) o7 h8) (va_cwS 3 hts (gS w_methodLink_X4_35 w_static_X4_isIn w_initialized_X4 w_code_X4_isIn) rfl rfl rfl (by decide +kernel) ⟨Nat.le_of_ble_eq_true rfl, Nat.le_of_ble_eq_true rfl⟩) hP hK [] rfl rfl hl.1 (Nat.le_of_ble_eq_true rfl) dX4_numberFrom_50 ⟨Nat.le_of_ble_eq_true rfl, Nat.le_of_ble_eq_true rfl⟩ hS (fun r H locs hw hP hS => ?_)
            obtain ⟨hw, hz9⟩ := hw
            have hw := hw.symm
            subst hw
            refine lv_if_eq (tgt := 77) hx hb dX4_numberFrom_53 (by decide) (fun c10 => ?_) (fun c10 => ?_)
            · have hF := itp c10 hF
              exact hJ77 () _ _ _ hP hS (lv_sub hl [1, 2] rfl) hF
            · have hF := itn c10 hF
              refine lv_bipush (v := 10) hx hb dX4_numberFrom_56 (by decide) ?_
              refine lv_iload_n hx hb dX4_numberFrom_58 rfl (lv_at hl 2 rfl) ?_
              refine lv_imul hx hb dX4_numberFrom_59 ?_
              refine lv_aload_n hx hb dX4_numberFrom_60 rfl (lv_at hl 0 rfl) ?_
              refine lv_iload hx hb dX4_numberFrom_61 (lv_at hl 3 rfl) ?_
              obtain ⟨o11, h12, hF⟩ := obd hF
              refine wcRVi (As := [.int s31.2]) (rest := [.int ((10 : Int32) * s31.1)]) (b := (x 6)) ⟨hx, hb, hml, hown, hts⟩ (met_X4_codeAt l dC dI cyI cyO cyL x N tv s31.2 o11 h12) (cwV 1 hts (gV w_methodLink_X4_27 w_instanceMethod_X4_codeAt w_selects_X4_codeAt w_initialized_X4 w_code_X4_codeAt) rfl rfl rfl (by decide +kernel) ⟨Nat.le_of_ble_eq_true rfl, Nat.le_of_ble_eq_true rfl⟩) (va_recv hK.1 hP (ci := 4) (q0 := 0) rfl rfl) hP hK [0, 1] rfl rfl hl.1 (Nat.le_of_ble_eq_true rfl) dX4_numberFrom_63 ⟨Nat.le_of_ble_eq_true rfl, Nat.le_of_ble_eq_true rfl⟩ hS (fun r H locs hw hP hS => ?_)
              have hw := hw.symm
              subst hw
              refine lv_iadd hx hb dX4_numberFrom_66 ?_
              refine lv_bipush (v := 48) hx hb dX4_numberFrom_67 (by decide) ?_
              refine lv_isub hx hb dX4_numberFrom_69 ?_
              refine lv_istore_n (lv' := [(3, .int ((((10 : Int32) * s31.1) + o11) - (48 : Int32))), (0, .ref (x 6)), (2, .int s15), (4, .int s31.2)]) hx hb dX4_numberFrom_70 rfl hl (by decide) rfl (fun ls hl => ?_)
              refine lv_iinc (v := (s31.2 + (1 : Int32))) (lv' := [(4, .int (s31.2 + (1 : Int32))), (3, .int ((((10 : Int32) * s31.1) + o11) - (48 : Int32))), (0, .ref (x 6)), (2, .int s15)]) hx hb dX4_numberFrom_71 hl (k := 3) rfl rfl (by decide) rfl (fun ls hl => ?_)
              refine lv_goto (tgt := 31) hx hb dX4_numberFrom_74 (by decide) ?_
              exact ih31 (((((10 : Int32) * s31.1) + o11) - (48 : Int32)), (s31.2 + (1 : Int32))) _ _ _ hP hS (lv_sub hl [2, 3, 1, 0] rfl) hF
      exact hL31 N ((0 : Int32), s29) _ _ _ hP hS (lv_sub hl [1, 2, 3, 0] rfl) hF
    refine lv_if_eq (tgt := 28) hx hb dX4_numberFrom_19 (by decide) (fun c13 => ?_) (fun c13 => ?_)
    · have hF := itp c13 hF
      refine lv_iload_n hx hb dX4_numberFrom_28 rfl (lv_at hl 3 rfl) ?_
      exact hJ29 p1 _ _ _ hP hS (lv_sub hl [2, 1, 0] rfl) hF
    · have hF := itn c13 hF
      refine lv_iload_n hx hb dX4_numberFrom_22 rfl (lv_at hl 3 rfl) ?_
      refine lv_iconst (v := 1) hx hb dX4_numberFrom_23 (by decide) ?_
      refine lv_iadd hx hb dX4_numberFrom_24 ?_
      refine lv_goto (tgt := 29) hx hb dX4_numberFrom_25 (by decide) ?_
      exact hJ29 (p1 + (1 : Int32)) _ _ _ hP hS (lv_sub hl [2, 1, 0] rfl) hF
  refine lv_icmp_ne (tgt := 14) hx hb dX4_numberFrom_7 (by decide) (fun c14 => ?_) (fun c14 => ?_)
  · have hF := itn c14 hF
    refine lv_iconst (v := 0) hx hb dX4_numberFrom_14 (by decide) ?_
    exact hJ15 (0 : Int32) _ _ _ b01_0 hP hS (lv_sub hl [0, 1] rfl) hF
  · have hF := itp c14 hF
    refine lv_iconst (v := 1) hx hb dX4_numberFrom_10 (by decide) ?_
    refine lv_goto (tgt := 15) hx hb dX4_numberFrom_11 (by decide) ?_
    exact hJ15 (1 : Int32) _ _ _ b01_1 hP hS (lv_sub hl [0, 1] rfl) hF
theorem dX4_pastComma_0 : decode cX4_pastComma 0 = .ok (.iload_n 1, 1) := by decide +kernel
theorem dX4_pastComma_1 : decode cX4_pastComma 1 = .ok (.istore_n 2, 1) := by decide +kernel
theorem dX4_pastComma_2 : decode cX4_pastComma 2 = .ok (.iload_n 2, 1) := by decide +kernel
theorem dX4_pastComma_3 : decode cX4_pastComma 3 = .ok (.aload_n 0, 1) := by decide +kernel
theorem dX4_pastComma_4 : decode cX4_pastComma 4 = .ok (.getfield 15, 3) := by decide +kernel
theorem dX4_pastComma_7 : decode cX4_pastComma 7 = .ok (.if_icmp .ge 19, 3) := by decide +kernel
theorem dX4_pastComma_10 : decode cX4_pastComma 10 = .ok (.aload_n 0, 1) := by decide +kernel
theorem dX4_pastComma_11 : decode cX4_pastComma 11 = .ok (.iload_n 2, 1) := by decide +kernel
theorem dX4_pastComma_12 : decode cX4_pastComma 12 = .ok (.invokevirtual 27, 3) := by decide +kernel
theorem dX4_pastComma_15 : decode cX4_pastComma 15 = .ok (.bipush 44, 2) := by decide +kernel
theorem dX4_pastComma_17 : decode cX4_pastComma 17 = .ok (.if_icmp .eq 9, 3) := by decide +kernel
theorem dX4_pastComma_20 : decode cX4_pastComma 20 = .ok (.iinc 2 1, 3) := by decide +kernel
theorem dX4_pastComma_23 : decode cX4_pastComma 23 = .ok (.goto (-21), 3) := by decide +kernel
theorem dX4_pastComma_26 : decode cX4_pastComma 26 = .ok (.iload_n 2, 1) := by decide +kernel
theorem dX4_pastComma_27 : decode cX4_pastComma 27 = .ok (.iconst 1, 1) := by decide +kernel
theorem dX4_pastComma_28 : decode cX4_pastComma 28 = .ok (.iadd, 1) := by decide +kernel
theorem dX4_pastComma_29 : decode cX4_pastComma 29 = .ok (.ireturn, 1) := by decide +kernel
def f_X4_pastComma (N : Nat) (tv : TV) (p1 : Int32) : Option (Int32) :=
  lpN (fun (s2 : Int32) (k2 : (Int32) → Option (Int32)) => jn (fun (s26 : Unit) => some (s2 + (1 : Int32))) (fun (j26 : (Unit) → Option (Int32)) => (if (T_length tv) ≤ s2 then j26 () else (f_X4_codeAt N tv s2).bind (fun o2 => (if o2 = (44 : Int32) then j26 () else k2 (s2 + (1 : Int32))))))) N p1
set_option maxHeartbeats 4000000 in
set_option maxRecDepth 100000 in
theorem met_X4_pastComma (l : Launch) (dC : Nat → ClassId) (dI : Nat → Nat → Nat) (cyI cyO cyL : ClassId) (x : Nat → Nat) (N : Nat) (tv : TV) (p1 : Int32) (out : Int32) (hF : f_X4_pastComma N tv p1 = some out) : Met l yX4_pastComma (Cond.code yX4_pastComma cX4_pastComma 3 (some .int) :: wT) ({ frames := 2, cells := 0, slots := 0, locals := 42 } : Room) (wRd dC dI cyI cyO cyL [.ref (x 6), .int p1] (cT cyI x tv)) (va_Qi (fun (r : Int32) (_ : Unit) => r = out) (fun _ _ => True) wN0) 0 0 wN0 := by
  refine Met.ofW (cc := cX4_pastComma) (maxL := 3) (ret := (some .int)) (by decide) rfl ?_
  intro p e s m args below meth c s₁ B hml hv
  obtain ⟨rfl, hP, hK⟩ := hv
  have hx := B.exec
  have hb := B.bytes
  have hr := B.returns
  have hts0 := atoms_spec (ws := (Cond.code yX4_pastComma cX4_pastComma 3 (some .int) :: wT)) B.pre
  have hts := fun w h => hts0 w (List.mem_cons_of_mem _ h)
  clear hts0
  have hown : s.vm.findClass RX4 = some m.cls := findClass_of_methodNamed B.named
  have hlocks := B.notSynchronized
  have hS : va_S wN0 s.heap s.heap [] := va_S.rf
  have hl := lv_entry [.ref (x 6), .int p1] (n := 3) (Nat.le_of_ble_eq_true rfl)
  rw [lg_entry_eq]
  generalize (lg_sl [.ref (x 6), .int p1] ++ List.replicate (3 - (lg_sl [.ref (x 6), .int p1]).length) Slot.unset).toArray = ls at hl ⊢
  have hl : lv_has ls 3 [(0, .ref (x 6)), (1, .int p1)] := hl
  unfold f_X4_pastComma at hF
  refine lv_iload_n hx hb dX4_pastComma_0 rfl (lv_at hl 1 rfl) ?_
  refine lv_istore_n (lv' := [(2, .int p1), (0, .ref (x 6)), (1, .int p1)]) hx hb dX4_pastComma_1 rfl hl (by decide) rfl (fun ls hl => ?_)
  obtain ⟨st2, hst2, hF⟩ := lpN_use hF
  have hL2 : ∀ (n : Nat) (s2 : Int32) (H : Heap) (locs : List Loc) (ls : Array Slot), va_P (dC, dI) vwCl (cT cyI x tv) H → va_S wN0 s.heap H locs → lv_has ls 3 [(0, .ref (x 6)), (2, .int s2)] → lpN st2 n s2 = some out → W p l e (headSpec (Cond.code yX4_pastComma cX4_pastComma 3 (some .int) :: wT) ({ frames := 2, cells := 0, slots := 0, locals := 42 } : Room)).room s m ([.ref (x 6), .int p1] : List Value).toArray below meth c H locs 0 0 (MQ below (va_Qi (fun (r : Int32) (_ : Unit) => r = out) (fun _ _ => True) wN0) ([.ref (x 6), .int p1] : List Value).toArray s 0 0 wN0) (F0 m 2 ls []) := by
    intro n
    induction n with
    | zero => intro s2 H locs ls hP hS hl hF; exact lpN_0 hF
    | succ n ih2 =>
      intro s2 H locs ls hP hS hl hF
      have hF := (congrFun (congrFun hst2 s2) (lpN st2 n)).symm.trans (lpN_s hF)
      refine lv_iload_n hx hb dX4_pastComma_2 rfl (lv_at hl 1 rfl) ?_
      refine lv_aload_n hx hb dX4_pastComma_3 rfl (lv_at hl 0 rfl) ?_
      refine va_get (D := (dC, dI)) (ci := 4) (v := .int (T_length tv)) (C := RX4) (T := TX4) (N := 2) hx hb hts inX4 hown hK.1 hP 0 rfl rfl 1 (by decide) (hts _ w_fieldLink_X4_15) (fun _ h9 => h9) rfl dX4_pastComma_4 ?_
      obtain ⟨j26, hj26, hF⟩ := jn_use hF
      have hJ26 : ∀ (s26 : Unit) (H : Heap) (locs : List Loc) (ls : Array Slot), va_P (dC, dI) vwCl (cT cyI x tv) H → va_S wN0 s.heap H locs → lv_has ls 3 [(2, .int s2)] → j26 s26 = some out → W p l e (headSpec (Cond.code yX4_pastComma cX4_pastComma 3 (some .int) :: wT) ({ frames := 2, cells := 0, slots := 0, locals := 42 } : Room)).room s m ([.ref (x 6), .int p1] : List Value).toArray below meth c H locs 0 0 (MQ below (va_Qi (fun (r : Int32) (_ : Unit) => r = out) (fun _ _ => True) wN0) ([.ref (x 6), .int p1] : List Value).toArray s 0 0 wN0) (F0 m 26 ls []) := by
        intro s26 H locs ls hP hS hl hF
        have hF := (congrFun hj26 s26).symm.trans hF
        refine lv_iload_n hx hb dX4_pastComma_26 rfl (lv_at hl 0 rfl) ?_
        refine lv_iconst (v := 1) hx hb dX4_pastComma_27 (by decide) ?_
        refine lv_iadd hx hb dX4_pastComma_28 ?_
        exact W.iret (v := (s2 + (1 : Int32))) hx hb hr (fun t ht hW => ⟨⟨_, (), rfl, Option.some.inj hF, trivial⟩, hS.F ht⟩) hS.2.2 dX4_pastComma_29
      refine lv_icmp_ge (tgt := 26) hx hb dX4_pastComma_7 (by decide) (fun c1 => ?_) (fun c1 => ?_)
      · have hF := itp c1 hF
        exact hJ26 () _ _ _ hP hS (lv_sub hl [1] rfl) hF
      · have hF := itn c1 hF
        refine lv_aload_n hx hb dX4_pastComma_10 rfl (lv_at hl 0 rfl) ?_
        refine lv_iload_n hx hb dX4_pastComma_11 rfl (lv_at hl 1 rfl) ?_
        obtain ⟨o2, h3, hF⟩ := obd hF
        refine wcRVi (As := [.int s2]) (rest := []) (b := (x 6)) ⟨hx, hb, hml, hown, hts⟩ (met_X4_codeAt l dC dI cyI cyO cyL x N tv s2 o2 h3) (cwV 1 hts (gV w_methodLink_X4_27 w_instanceMethod_X4_codeAt w_selects_X4_codeAt w_initialized_X4 w_code_X4_codeAt) rfl rfl rfl (by decide +kernel) ⟨Nat.le_of_ble_eq_true rfl, Nat.le_of_ble_eq_true rfl⟩) (va_recv hK.1 hP (ci := 4) (q0 := 0) rfl rfl) hP hK [0, 1] rfl rfl hl.1 (Nat.le_of_ble_eq_true rfl) dX4_pastComma_12 ⟨Nat.le_of_ble_eq_true rfl, Nat.le_of_ble_eq_true rfl⟩ hS (fun r H locs hw hP hS => ?_)
        have hw := hw.symm
        subst hw
        refine lv_bipush (v := 44) hx hb dX4_pastComma_15 (by decide) ?_
        refine lv_icmp_eq (tgt := 26) hx hb dX4_pastComma_17 (by decide) (fun c4 => ?_) (fun c4 => ?_)
        · have hF := itp c4 hF
          exact hJ26 () _ _ _ hP hS (lv_sub hl [1] rfl) hF
        · have hF := itn c4 hF
          refine lv_iinc (v := (s2 + (1 : Int32))) (lv' := [(2, .int (s2 + (1 : Int32))), (0, .ref (x 6))]) hx hb dX4_pastComma_20 hl (k := 1) rfl rfl (by decide) rfl (fun ls hl => ?_)
          refine lv_goto (tgt := 2) hx hb dX4_pastComma_23 (by decide) ?_
          exact ih2 (s2 + (1 : Int32)) _ _ _ hP hS (lv_sub hl [1, 0] rfl) hF
  exact hL2 N p1 _ _ _ hP hS (lv_sub hl [1, 0] rfl) hF
