/-! written by program from the bytecode: what each method computes, and its contract -/

theorem dX6_roll_0 : decode cX6_roll 0 = .ok (.aload_n 0, 1) := by decide +kernel
theorem dX6_roll_1 : decode cX6_roll 1 = .ok (.iload_n 1, 1) := by decide +kernel
theorem dX6_roll_2 : decode cX6_roll 2 = .ok (.bipush 20, 2) := by decide +kernel
theorem dX6_roll_4 : decode cX6_roll 4 = .ok (.bipush 50, 2) := by decide +kernel
theorem dX6_roll_6 : decode cX6_roll 6 = .ok (.invokestatic 35, 3) := by decide +kernel
theorem dX6_roll_9 : decode cX6_roll 9 = .ok (.ifCond .ne 7, 3) := by decide +kernel
theorem dX6_roll_12 : decode cX6_roll 12 = .ok (.iconst 1, 1) := by decide +kernel
theorem dX6_roll_13 : decode cX6_roll 13 = .ok (.goto 15, 3) := by decide +kernel
theorem dX6_roll_16 : decode cX6_roll 16 = .ok (.aload_n 0, 1) := by decide +kernel
theorem dX6_roll_17 : decode cX6_roll 17 = .ok (.invokevirtual 104, 3) := by decide +kernel
theorem dX6_roll_20 : decode cX6_roll 20 = .ok (.ifCond .eq 7, 3) := by decide +kernel
theorem dX6_roll_23 : decode cX6_roll 23 = .ok (.iconst 0, 1) := by decide +kernel
theorem dX6_roll_24 : decode cX6_roll 24 = .ok (.goto 4, 3) := by decide +kernel
theorem dX6_roll_27 : decode cX6_roll 27 = .ok (.iconst 2, 1) := by decide +kernel
theorem dX6_roll_28 : decode cX6_roll 28 = .ok (.invokevirtual 107, 3) := by decide +kernel
theorem dX6_roll_31 : decode cX6_roll 31 = .ok (.ifCond .ne 5, 3) := by decide +kernel
theorem dX6_roll_34 : decode cX6_roll 34 = .ok (.iconst 0, 1) := by decide +kernel
theorem dX6_roll_35 : decode cX6_roll 35 = .ok (.ireturn, 1) := by decide +kernel
theorem dX6_roll_36 : decode cX6_roll 36 = .ok (.aload_n 0, 1) := by decide +kernel
theorem dX6_roll_37 : decode cX6_roll 37 = .ok (.invokevirtual 111, 3) := by decide +kernel
theorem dX6_roll_40 : decode cX6_roll 40 = .ok (.aload_n 0, 1) := by decide +kernel
theorem dX6_roll_41 : decode cX6_roll 41 = .ok (.iload_n 1, 1) := by decide +kernel
theorem dX6_roll_42 : decode cX6_roll 42 = .ok (.invokevirtual 114, 3) := by decide +kernel
theorem dX6_roll_45 : decode cX6_roll 45 = .ok (.ireturn, 1) := by decide +kernel
def f_X6_roll (N : Nat) (v : MV) (p1 : Int32) : Option (Int32 × MV) :=
  (f_X6_in N p1 (20 : Int32) (50 : Int32)).bind (fun o1 => jn (fun (s28 : Int32) => (f_X6_holds N v s28).bind (fun o4 => (if o4.1 = 0 then some ((0 : Int32), o4.2) else (f_X6_save N o4.2).bind (fun o8 => (f_X6_rolls N o8 p1).bind (fun o10 => some (o10.1, o10.2)))))) (fun (j28 : (Int32) → Option (Int32 × MV)) => (if o1 = 0 then j28 (1 : Int32) else (f_X6_canRoll N v).bind (fun o13 => (if o13 = 0 then j28 (2 : Int32) else j28 (0 : Int32))))))
set_option maxHeartbeats 4000000 in
set_option maxRecDepth 100000 in
theorem met_X6_roll (l : Launch) (dC : Nat → ClassId) (dI : Nat → Nat → Nat) (cyI cyO cyL : ClassId) (a : Nat → Nat) (sz : Nat) (N : Nat) (v : MV) (p1 : Int32) (out : Int32 × MV) (hF : f_X6_roll N v p1 = some out) : Met l yX6_roll (Cond.code yX6_roll cX6_roll 2 (some .int) :: wT) ({ frames := 2, cells := 0, slots := 0, locals := 40 } : Room) (wWr dC dI cyI cyO cyL [.ref (a 0), .int p1] (cM cyI a v) sz) (va_Qi (fun (r : Int32) (u : MV) => (r, u) = out) (fun u t => va_P (dC, dI) vwCl (cM cyI a u) t.heap ∧ va_D (va_A (cM cyI a v) sz) (cM cyI a u)) (va_A (cM cyI a v) sz)) 0 0 (va_A (cM cyI a v) sz) := by
  refine Met.ofW (cc := cX6_roll) (maxL := 2) (ret := (some .int)) (by decide) rfl ?_
  intro p e s m args below meth c s₁ B hml hv
  obtain ⟨rfl, hsz, hP, hK, hD0⟩ := hv
  have hx := B.exec
  have hb := B.bytes
  have hr := B.returns
  have hts0 := atoms_spec (ws := (Cond.code yX6_roll cX6_roll 2 (some .int) :: wT)) B.pre
  have hts := fun w h => hts0 w (List.mem_cons_of_mem _ h)
  clear hts0
  have hown : s.vm.findClass RX6 = some m.cls := findClass_of_methodNamed B.named
  have hlocks := B.notSynchronized
  subst hsz
  have hD := hD0.self (sz := s.heap.size)
  generalize hAe : va_A (cM cyI a v) s.heap.size = A at hD ⊢
  have hA : ∀ q : Nat, s.heap.size ≤ q → A q := fun q h => by rw [← hAe]; exact Or.inr h
  clear hD0
  have hS : va_S A s.heap s.heap [] := va_S.rf
  have hl := lv_entry [.ref (a 0), .int p1] (n := 2) (Nat.le_of_ble_eq_true rfl)
  rw [lg_entry_eq]
  generalize (lg_sl [.ref (a 0), .int p1] ++ List.replicate (2 - (lg_sl [.ref (a 0), .int p1]).length) Slot.unset).toArray = ls at hl ⊢
  have hl : lv_has ls 2 [(0, .ref (a 0)), (1, .int p1)] := hl
  unfold f_X6_roll at hF
  refine lv_aload_n hx hb dX6_roll_0 rfl (lv_at hl 0 rfl) ?_
  refine lv_iload_n hx hb dX6_roll_1 rfl (lv_at hl 1 rfl) ?_
  refine lv_bipush (v := 20) hx hb dX6_roll_2 (by decide) ?_
  refine lv_bipush (v := 50) hx hb dX6_roll_4 (by decide) ?_
  obtain ⟨o1, h2, hF⟩ := obd hF
  refine wcRSi (As := [.int p1, .int (20 : Int32), .int (50 : Int32)]) (rest := [.ref (a 0)]) ⟨hx, hb, hml, hown, hts⟩ (met_X6_in l dC dI cyI cyO cyL  N  p1 (20 : Int32) (50 : Int32) o1 h2) (va_cwS 3 hts (gS w_methodLink_X6_35 w_static_X6_in w_initialized_X6 w_code_X6_in) rfl rfl rfl (by decide +kernel) ⟨Nat.le_of_ble_eq_true rfl, Nat.le_of_ble_eq_true rfl⟩) hP hK [] rfl rfl hl.1 (Nat.le_of_ble_eq_true rfl) dX6_roll_6 ⟨Nat.le_of_ble_eq_true rfl, Nat.le_of_ble_eq_true rfl⟩ hS (fun r H locs hw hP hS => ?_)
  obtain ⟨hw, hz3⟩ := hw
  have hw := hw.symm
  subst hw
  obtain ⟨j28, hj28, hF⟩ := jn_use hF
  have hJ28 : ∀ (s28 : Int32) (H : Heap) (locs : List Loc) (ls : Array Slot), va_P (dC, dI) vwCl (cM cyI a v) H → va_D A (cM cyI a v) → va_S A s.heap H locs → lv_has ls 2 [(0, .ref (a 0)), (1, .int p1)] → j28 s28 = some out → W p l e (headSpec (Cond.code yX6_roll cX6_roll 2 (some .int) :: wT) ({ frames := 2, cells := 0, slots := 0, locals := 40 } : Room)).room s m ([.ref (a 0), .int p1] : List Value).toArray below meth c H locs 0 0 (MQ below (va_Qi (fun (r : Int32) (u : MV) => (r, u) = out) (fun u t => va_P (dC, dI) vwCl (cM cyI a u) t.heap ∧ va_D A (cM cyI a u)) A) ([.ref (a 0), .int p1] : List Value).toArray s 0 0 A) (F0 m 28 ls [.int s28, .ref (a 0)]) := by
    intro s28 H locs ls hP hD hS hl hF
    have hF := (congrFun hj28 s28).symm.trans hF
    obtain ⟨o4, h5, hF⟩ := obd hF
    refine wcWVi (As := [.int s28]) (rest := []) (wr := []) (b := (a 0)) ⟨hx, hb, hml, hown, hts⟩ (met_X6_holds l dC dI cyI cyO cyL a _ N v s28 o4 h5) (cwV 1 hts (gV w_methodLink_X6_107 w_instanceMethod_X6_holds w_selects_X6_holds w_initialized_X6 w_code_X6_holds) rfl rfl rfl (by decide +kernel) ⟨Nat.le_of_ble_eq_true rfl, Nat.le_of_ble_eq_true rfl⟩) (va_recv hK.1 hP (ci := 6) (q0 := 0) rfl rfl) hP hD hK [0, 1, 2, 3, 4, 5, 6, 7] [] rfl rfl (by decide) (by decide) (by decide) rfl hl.1 (Nat.le_of_ble_eq_true rfl) dX6_roll_28 ⟨Nat.le_of_ble_eq_true rfl, Nat.le_of_ble_eq_true rfl⟩ hS hA (fun r u H locs hw hP hD hS => ?_)
    obtain ⟨hw, hz6⟩ := hw
    obtain rfl : r = o4.1 := congrArg Prod.fst hw
    obtain rfl : u = o4.2 := congrArg Prod.snd hw
    clear hw
    have hP : va_P (dC, dI) vwCl (cM cyI a o4.2) H := hP
    have hD : va_D A (cM cyI a o4.2) := hD
    refine lv_if_ne (tgt := 36) hx hb dX6_roll_31 (by decide) (fun c7 => ?_) (fun c7 => ?_)
    · have hF := itn c7 hF
      refine lv_aload_n hx hb dX6_roll_36 rfl (lv_at hl 0 rfl) ?_
      obtain ⟨o8, h9, hF⟩ := obd hF
      refine wcWVv (As := []) (rest := []) (wr := []) (b := (a 0)) ⟨hx, hb, hml, hown, hts⟩ (met_X6_save l dC dI cyI cyO cyL a _ N o4.2  o8 h9) (cwV 0 hts (gV w_methodLink_X6_111 w_instanceMethod_X6_save w_selects_X6_save w_initialized_X6 w_code_X6_save) rfl rfl rfl (by decide +kernel) ⟨Nat.le_of_ble_eq_true rfl, Nat.le_of_ble_eq_true rfl⟩) (va_recv hK.1 hP (ci := 6) (q0 := 0) rfl rfl) hP hD hK [0, 1, 2, 3, 4, 5, 6, 7] [] rfl rfl (by decide) (by decide) (by decide) rfl hl.1 (Nat.le_of_ble_eq_true rfl) dX6_roll_37 ⟨Nat.le_of_ble_eq_true rfl, Nat.le_of_ble_eq_true rfl⟩ hS hA (fun u H locs hw hP hD hS => ?_)
      have hw := hw.symm
      subst hw
      have hP : va_P (dC, dI) vwCl (cM cyI a o8) H := hP
      have hD : va_D A (cM cyI a o8) := hD
      refine lv_aload_n hx hb dX6_roll_40 rfl (lv_at hl 0 rfl) ?_
      refine lv_iload_n hx hb dX6_roll_41 rfl (lv_at hl 1 rfl) ?_
      obtain ⟨o10, h11, hF⟩ := obd hF
      refine wcWVi (As := [.int p1]) (rest := []) (wr := []) (b := (a 0)) ⟨hx, hb, hml, hown, hts⟩ (met_X6_rolls l dC dI cyI cyO cyL a _ N o8 p1 o10 h11) (cwV 1 hts (gV w_methodLink_X6_114 w_instanceMethod_X6_rolls w_selects_X6_rolls w_initialized_X6 w_code_X6_rolls) rfl rfl rfl (by decide +kernel) ⟨Nat.le_of_ble_eq_true rfl, Nat.le_of_ble_eq_true rfl⟩) (va_recv hK.1 hP (ci := 6) (q0 := 0) rfl rfl) hP hD hK [0, 1, 2, 3, 4, 5, 6, 7] [] rfl rfl (by decide) (by decide) (by decide) rfl hl.1 (Nat.le_of_ble_eq_true rfl) dX6_roll_42 ⟨Nat.le_of_ble_eq_true rfl, Nat.le_of_ble_eq_true rfl⟩ hS hA (fun r u H locs hw hP hD hS => ?_)
      obtain rfl : r = o10.1 := congrArg Prod.fst hw
      obtain rfl : u = o10.2 := congrArg Prod.snd hw
      clear hw
      have hP : va_P (dC, dI) vwCl (cM cyI a o10.2) H := hP
      have hD : va_D A (cM cyI a o10.2) := hD
      exact W.iret (v := o10.1) hx hb hr (fun t ht hW => ⟨⟨_, o10.2, rfl, Option.some.inj hF, by rw [ht]; exact hP, hD⟩, hS.F ht⟩) hS.2.2 dX6_roll_45
    · have hF := itp c7 hF
      refine lv_iconst (v := 0) hx hb dX6_roll_34 (by decide) ?_
      exact W.iret (v := (0 : Int32)) hx hb hr (fun t ht hW => ⟨⟨_, o4.2, rfl, Option.some.inj hF, by rw [ht]; exact hP, hD⟩, hS.F ht⟩) hS.2.2 dX6_roll_35
  refine lv_if_ne (tgt := 16) hx hb dX6_roll_9 (by decide) (fun c12 => ?_) (fun c12 => ?_)
  · have hF := itn c12 hF
    refine lv_aload_n hx hb dX6_roll_16 rfl (lv_at hl 0 rfl) ?_
    obtain ⟨o13, h14, hF⟩ := obd hF
    refine wcRVi (As := []) (rest := [.ref (a 0)]) (b := (a 0)) ⟨hx, hb, hml, hown, hts⟩ (met_X6_canRoll l dC dI cyI cyO cyL a N v  o13 h14) (cwV 0 hts (gV w_methodLink_X6_104 w_instanceMethod_X6_canRoll w_selects_X6_canRoll w_initialized_X6 w_code_X6_canRoll) rfl rfl rfl (by decide +kernel) ⟨Nat.le_of_ble_eq_true rfl, Nat.le_of_ble_eq_true rfl⟩) (va_recv hK.1 hP (ci := 6) (q0 := 0) rfl rfl) hP hK [0, 1, 2, 3, 4, 5, 6, 7] rfl rfl hl.1 (Nat.le_of_ble_eq_true rfl) dX6_roll_17 ⟨Nat.le_of_ble_eq_true rfl, Nat.le_of_ble_eq_true rfl⟩ hS (fun r H locs hw hP hS => ?_)
    obtain ⟨hw, hz15⟩ := hw
    have hw := hw.symm
    subst hw
    refine lv_if_eq (tgt := 27) hx hb dX6_roll_20 (by decide) (fun c16 => ?_) (fun c16 => ?_)
    · have hF := itp c16 hF
      refine lv_iconst (v := 2) hx hb dX6_roll_27 (by decide) ?_
      exact hJ28 (2 : Int32) _ _ _ hP hD hS (lv_sub hl [0, 1] rfl) hF
    · have hF := itn c16 hF
      refine lv_iconst (v := 0) hx hb dX6_roll_23 (by decide) ?_
      refine lv_goto (tgt := 28) hx hb dX6_roll_24 (by decide) ?_
      exact hJ28 (0 : Int32) _ _ _ hP hD hS (lv_sub hl [0, 1] rfl) hF
  · have hF := itp c12 hF
    refine lv_iconst (v := 1) hx hb dX6_roll_12 (by decide) ?_
    refine lv_goto (tgt := 28) hx hb dX6_roll_13 (by decide) ?_
    exact hJ28 (1 : Int32) _ _ _ hP hD hS (lv_sub hl [0, 1] rfl) hF
theorem dX6_play_0 : decode cX6_play 0 = .ok (.aload_n 0, 1) := by decide +kernel
theorem dX6_play_1 : decode cX6_play 1 = .ok (.iload_n 1, 1) := by decide +kernel
theorem dX6_play_2 : decode cX6_play 2 = .ok (.iload_n 2, 1) := by decide +kernel
theorem dX6_play_3 : decode cX6_play 3 = .ok (.iload_n 3, 1) := by decide +kernel
theorem dX6_play_4 : decode cX6_play 4 = .ok (.invokestatic 117, 3) := by decide +kernel
theorem dX6_play_7 : decode cX6_play 7 = .ok (.ifCond .ne 7, 3) := by decide +kernel
theorem dX6_play_10 : decode cX6_play 10 = .ok (.iconst 1, 1) := by decide +kernel
theorem dX6_play_11 : decode cX6_play 11 = .ok (.goto 15, 3) := by decide +kernel
theorem dX6_play_14 : decode cX6_play 14 = .ok (.aload_n 0, 1) := by decide +kernel
theorem dX6_play_15 : decode cX6_play 15 = .ok (.invokevirtual 120, 3) := by decide +kernel
theorem dX6_play_18 : decode cX6_play 18 = .ok (.ifCond .eq 7, 3) := by decide +kernel
theorem dX6_play_21 : decode cX6_play 21 = .ok (.iconst 0, 1) := by decide +kernel
theorem dX6_play_22 : decode cX6_play 22 = .ok (.goto 4, 3) := by decide +kernel
theorem dX6_play_25 : decode cX6_play 25 = .ok (.iconst 2, 1) := by decide +kernel
theorem dX6_play_26 : decode cX6_play 26 = .ok (.invokevirtual 107, 3) := by decide +kernel
theorem dX6_play_29 : decode cX6_play 29 = .ok (.ifCond .ne 5, 3) := by decide +kernel
theorem dX6_play_32 : decode cX6_play 32 = .ok (.iconst 0, 1) := by decide +kernel
theorem dX6_play_33 : decode cX6_play 33 = .ok (.ireturn, 1) := by decide +kernel
theorem dX6_play_34 : decode cX6_play 34 = .ok (.aload_n 0, 1) := by decide +kernel
theorem dX6_play_35 : decode cX6_play 35 = .ok (.invokevirtual 111, 3) := by decide +kernel
theorem dX6_play_38 : decode cX6_play 38 = .ok (.aload_n 0, 1) := by decide +kernel
theorem dX6_play_39 : decode cX6_play 39 = .ok (.iload_n 1, 1) := by decide +kernel
theorem dX6_play_40 : decode cX6_play 40 = .ok (.iload_n 2, 1) := by decide +kernel
theorem dX6_play_41 : decode cX6_play 41 = .ok (.iload_n 3, 1) := by decide +kernel
theorem dX6_play_42 : decode cX6_play 42 = .ok (.invokevirtual 123, 3) := by decide +kernel
theorem dX6_play_45 : decode cX6_play 45 = .ok (.ireturn, 1) := by decide +kernel
def f_X6_play (N : Nat) (v : MV) (p1 : Int32) (p2 : Int32) (p3 : Int32) : Option (Int32 × MV) :=
  (f_X6_isPlay N p1 p2 p3).bind (fun o1 => jn (fun (s26 : Int32) => (f_X6_holds N v s26).bind (fun o4 => (if o4.1 = 0 then some ((0 : Int32), o4.2) else (f_X6_save N o4.2).bind (fun o8 => (f_X6_plays N o8 p1 p2 p3).bind (fun o10 => some (o10.1, o10.2)))))) (fun (j26 : (Int32) → Option (Int32 × MV)) => (if o1 = 0 then j26 (1 : Int32) else (f_X6_canPlay N v).bind (fun o13 => (if o13 = 0 then j26 (2 : Int32) else j26 (0 : Int32))))))
set_option maxHeartbeats 4000000 in
set_option maxRecDepth 100000 in
theorem met_X6_play (l : Launch) (dC : Nat → ClassId) (dI : Nat → Nat → Nat) (cyI cyO cyL : ClassId) (a : Nat → Nat) (sz : Nat) (N : Nat) (v : MV) (p1 : Int32) (p2 : Int32) (p3 : Int32) (out : Int32 × MV) (hF : f_X6_play N v p1 p2 p3 = some out) : Met l yX6_play (Cond.code yX6_play cX6_play 4 (some .int) :: wT) ({ frames := 5, cells := 0, slots := 0, locals := 123 } : Room) (wWr dC dI cyI cyO cyL [.ref (a 0), .int p1, .int p2, .int p3] (cM cyI a v) sz) (va_Qi (fun (r : Int32) (u : MV) => (r, u) = out) (fun u t => va_P (dC, dI) vwCl (cM cyI a u) t.heap ∧ va_D (va_A (cM cyI a v) sz) (cM cyI a u)) (va_A (cM cyI a v) sz)) 0 0 (va_A (cM cyI a v) sz) := by
  refine Met.ofW (cc := cX6_play) (maxL := 4) (ret := (some .int)) (by decide) rfl ?_
  intro p e s m args below meth c s₁ B hml hv
  obtain ⟨rfl, hsz, hP, hK, hD0⟩ := hv
  have hx := B.exec
  have hb := B.bytes
  have hr := B.returns
  have hts0 := atoms_spec (ws := (Cond.code yX6_play cX6_play 4 (some .int) :: wT)) B.pre
  have hts := fun w h => hts0 w (List.mem_cons_of_mem _ h)
  clear hts0
  have hown : s.vm.findClass RX6 = some m.cls := findClass_of_methodNamed B.named
  have hlocks := B.notSynchronized
  subst hsz
  have hD := hD0.self (sz := s.heap.size)
  generalize hAe : va_A (cM cyI a v) s.heap.size = A at hD ⊢
  have hA : ∀ q : Nat, s.heap.size ≤ q → A q := fun q h => by rw [← hAe]; exact Or.inr h
  clear hD0
  have hS : va_S A s.heap s.heap [] := va_S.rf
  have hl := lv_entry [.ref (a 0), .int p1, .int p2, .int p3] (n := 4) (Nat.le_of_ble_eq_true rfl)
  rw [lg_entry_eq]
  generalize (lg_sl [.ref (a 0), .int p1, .int p2, .int p3] ++ List.replicate (4 - (lg_sl [.ref (a 0), .int p1, .int p2, .int p3]).length) Slot.unset).toArray = ls at hl ⊢
  have hl : lv_has ls 4 [(0, .ref (a 0)), (1, .int p1), (2, .int p2), (3, .int p3)] := hl
  unfold f_X6_play at hF
  refine lv_aload_n hx hb dX6_play_0 rfl (lv_at hl 0 rfl) ?_
  refine lv_iload_n hx hb dX6_play_1 rfl (lv_at hl 1 rfl) ?_
  refine lv_iload_n hx hb dX6_play_2 rfl (lv_at hl 2 rfl) ?_
  refine lv_iload_n hx hb dX6_play_3 rfl (lv_at hl 3 rfl) ?_
  obtain ⟨o1, h2, hF⟩ := obd hF
  refine wcRSi (As := [.int p1, .int p2, .int p3]) (rest := [.ref (a 0)]) ⟨hx, hb, hml, hown, hts⟩ (met_X6_isPlay l dC dI cyI cyO cyL  N  p1 p2 p3 o1 h2) (va_cwS 3 hts (gS w_methodLink_X6_117 w_static_X6_isPlay w_initialized_X6 w_code_X6_isPlay) rfl rfl rfl (by decide +kernel) ⟨Nat.le_of_ble_eq_true rfl, Nat.le_of_ble_eq_true rfl⟩) hP hK [] rfl rfl hl.1 (Nat.le_of_ble_eq_true rfl) dX6_play_4 ⟨Nat.le_of_ble_eq_true rfl, Nat.le_of_ble_eq_true rfl⟩ hS (fun r H locs hw hP hS => ?_)
  obtain ⟨hw, hz3⟩ := hw
  have hw := hw.symm
  subst hw
  obtain ⟨j26, hj26, hF⟩ := jn_use hF
  have hJ26 : ∀ (s26 : Int32) (H : Heap) (locs : List Loc) (ls : Array Slot), va_P (dC, dI) vwCl (cM cyI a v) H → va_D A (cM cyI a v) → va_S A s.heap H locs → lv_has ls 4 [(0, .ref (a 0)), (1, .int p1), (2, .int p2), (3, .int p3)] → j26 s26 = some out → W p l e (headSpec (Cond.code yX6_play cX6_play 4 (some .int) :: wT) ({ frames := 5, cells := 0, slots := 0, locals := 123 } : Room)).room s m ([.ref (a 0), .int p1, .int p2, .int p3] : List Value).toArray below meth c H locs 0 0 (MQ below (va_Qi (fun (r : Int32) (u : MV) => (r, u) = out) (fun u t => va_P (dC, dI) vwCl (cM cyI a u) t.heap ∧ va_D A (cM cyI a u)) A) ([.ref (a 0), .int p1, .int p2, .int p3] : List Value).toArray s 0 0 A) (F0 m 26 ls [.int s26, .ref (a 0)]) := by
    intro s26 H locs ls hP hD hS hl hF
    have hF := (congrFun hj26 s26).symm.trans hF
    obtain ⟨o4, h5, hF⟩ := obd hF
    refine wcWVi (As := [.int s26]) (rest := []) (wr := []) (b := (a 0)) ⟨hx, hb, hml, hown, hts⟩ (met_X6_holds l dC dI cyI cyO cyL a _ N v s26 o4 h5) (cwV 1 hts (gV w_methodLink_X6_107 w_instanceMethod_X6_holds w_selects_X6_holds w_initialized_X6 w_code_X6_holds) rfl rfl rfl (by decide +kernel) ⟨Nat.le_of_ble_eq_true rfl, Nat.le_of_ble_eq_true rfl⟩) (va_recv hK.1 hP (ci := 6) (q0 := 0) rfl rfl) hP hD hK [0, 1, 2, 3, 4, 5, 6, 7] [] rfl rfl (by decide) (by decide) (by decide) rfl hl.1 (Nat.le_of_ble_eq_true rfl) dX6_play_26 ⟨Nat.le_of_ble_eq_true rfl, Nat.le_of_ble_eq_true rfl⟩ hS hA (fun r u H locs hw hP hD hS => ?_)
    obtain ⟨hw, hz6⟩ := hw
    obtain rfl : r = o4.1 := congrArg Prod.fst hw
    obtain rfl : u = o4.2 := congrArg Prod.snd hw
    clear hw
    have hP : va_P (dC, dI) vwCl (cM cyI a o4.2) H := hP
    have hD : va_D A (cM cyI a o4.2) := hD
    refine lv_if_ne (tgt := 34) hx hb dX6_play_29 (by decide) (fun c7 => ?_) (fun c7 => ?_)
    · have hF := itn c7 hF
      refine lv_aload_n hx hb dX6_play_34 rfl (lv_at hl 0 rfl) ?_
      obtain ⟨o8, h9, hF⟩ := obd hF
      refine wcWVv (As := []) (rest := []) (wr := []) (b := (a 0)) ⟨hx, hb, hml, hown, hts⟩ (met_X6_save l dC dI cyI cyO cyL a _ N o4.2  o8 h9) (cwV 0 hts (gV w_methodLink_X6_111 w_instanceMethod_X6_save w_selects_X6_save w_initialized_X6 w_code_X6_save) rfl rfl rfl (by decide +kernel) ⟨Nat.le_of_ble_eq_true rfl, Nat.le_of_ble_eq_true rfl⟩) (va_recv hK.1 hP (ci := 6) (q0 := 0) rfl rfl) hP hD hK [0, 1, 2, 3, 4, 5, 6, 7] [] rfl rfl (by decide) (by decide) (by decide) rfl hl.1 (Nat.le_of_ble_eq_true rfl) dX6_play_35 ⟨Nat.le_of_ble_eq_true rfl, Nat.le_of_ble_eq_true rfl⟩ hS hA (fun u H locs hw hP hD hS => ?_)
      have hw := hw.symm
      subst hw
      have hP : va_P (dC, dI) vwCl (cM cyI a o8) H := hP
      have hD : va_D A (cM cyI a o8) := hD
      refine lv_aload_n hx hb dX6_play_38 rfl (lv_at hl 0 rfl) ?_
      refine lv_iload_n hx hb dX6_play_39 rfl (lv_at hl 1 rfl) ?_
      refine lv_iload_n hx hb dX6_play_40 rfl (lv_at hl 2 rfl) ?_
      refine lv_iload_n hx hb dX6_play_41 rfl (lv_at hl 3 rfl) ?_
      obtain ⟨o10, h11, hF⟩ := obd hF
      refine wcWVi (As := [.int p1, .int p2, .int p3]) (rest := []) (wr := []) (b := (a 0)) ⟨hx, hb, hml, hown, hts⟩ (met_X6_plays l dC dI cyI cyO cyL a _ N o8 p1 p2 p3 o10 h11) (cwV 3 hts (gV w_methodLink_X6_123 w_instanceMethod_X6_plays w_selects_X6_plays w_initialized_X6 w_code_X6_plays) rfl rfl rfl (by decide +kernel) ⟨Nat.le_of_ble_eq_true rfl, Nat.le_of_ble_eq_true rfl⟩) (va_recv hK.1 hP (ci := 6) (q0 := 0) rfl rfl) hP hD hK [0, 1, 2, 3, 4, 5, 6, 7] [] rfl rfl (by decide) (by decide) (by decide) rfl hl.1 (Nat.le_of_ble_eq_true rfl) dX6_play_42 ⟨Nat.le_of_ble_eq_true rfl, Nat.le_of_ble_eq_true rfl⟩ hS hA (fun r u H locs hw hP hD hS => ?_)
      obtain rfl : r = o10.1 := congrArg Prod.fst hw
      obtain rfl : u = o10.2 := congrArg Prod.snd hw
      clear hw
      have hP : va_P (dC, dI) vwCl (cM cyI a o10.2) H := hP
      have hD : va_D A (cM cyI a o10.2) := hD
      exact W.iret (v := o10.1) hx hb hr (fun t ht hW => ⟨⟨_, o10.2, rfl, Option.some.inj hF, by rw [ht]; exact hP, hD⟩, hS.F ht⟩) hS.2.2 dX6_play_45
    · have hF := itp c7 hF
      refine lv_iconst (v := 0) hx hb dX6_play_32 (by decide) ?_
      exact W.iret (v := (0 : Int32)) hx hb hr (fun t ht hW => ⟨⟨_, o4.2, rfl, Option.some.inj hF, by rw [ht]; exact hP, hD⟩, hS.F ht⟩) hS.2.2 dX6_play_33
  refine lv_if_ne (tgt := 14) hx hb dX6_play_7 (by decide) (fun c12 => ?_) (fun c12 => ?_)
  · have hF := itn c12 hF
    refine lv_aload_n hx hb dX6_play_14 rfl (lv_at hl 0 rfl) ?_
    obtain ⟨o13, h14, hF⟩ := obd hF
    refine wcRVi (As := []) (rest := [.ref (a 0)]) (b := (a 0)) ⟨hx, hb, hml, hown, hts⟩ (met_X6_canPlay l dC dI cyI cyO cyL a N v  o13 h14) (cwV 0 hts (gV w_methodLink_X6_120 w_instanceMethod_X6_canPlay w_selects_X6_canPlay w_initialized_X6 w_code_X6_canPlay) rfl rfl rfl (by decide +kernel) ⟨Nat.le_of_ble_eq_true rfl, Nat.le_of_ble_eq_true rfl⟩) (va_recv hK.1 hP (ci := 6) (q0 := 0) rfl rfl) hP hK [0, 1, 2, 3, 4, 5, 6, 7] rfl rfl hl.1 (Nat.le_of_ble_eq_true rfl) dX6_play_15 ⟨Nat.le_of_ble_eq_true rfl, Nat.le_of_ble_eq_true rfl⟩ hS (fun r H locs hw hP hS => ?_)
    obtain ⟨hw, hz15⟩ := hw
    have hw := hw.symm
    subst hw
    refine lv_if_eq (tgt := 25) hx hb dX6_play_18 (by decide) (fun c16 => ?_) (fun c16 => ?_)
    · have hF := itp c16 hF
      refine lv_iconst (v := 2) hx hb dX6_play_25 (by decide) ?_
      exact hJ26 (2 : Int32) _ _ _ hP hD hS (lv_sub hl [0, 1, 2, 3] rfl) hF
    · have hF := itn c16 hF
      refine lv_iconst (v := 0) hx hb dX6_play_21 (by decide) ?_
      refine lv_goto (tgt := 26) hx hb dX6_play_22 (by decide) ?_
      exact hJ26 (0 : Int32) _ _ _ hP hD hS (lv_sub hl [0, 1, 2, 3] rfl) hF
  · have hF := itp c12 hF
    refine lv_iconst (v := 1) hx hb dX6_play_10 (by decide) ?_
    refine lv_goto (tgt := 26) hx hb dX6_play_11 (by decide) ?_
    exact hJ26 (1 : Int32) _ _ _ hP hD hS (lv_sub hl [0, 1, 2, 3] rfl) hF
theorem dX6_count_0 : decode cX6_count 0 = .ok (.aload_n 0, 1) := by decide +kernel
theorem dX6_count_1 : decode cX6_count 1 = .ok (.aload_n 0, 1) := by decide +kernel
theorem dX6_count_2 : decode cX6_count 2 = .ok (.invokevirtual 126, 3) := by decide +kernel
theorem dX6_count_5 : decode cX6_count 5 = .ok (.ifCond .eq 7, 3) := by decide +kernel
theorem dX6_count_8 : decode cX6_count 8 = .ok (.iconst 0, 1) := by decide +kernel
theorem dX6_count_9 : decode cX6_count 9 = .ok (.goto 4, 3) := by decide +kernel
theorem dX6_count_12 : decode cX6_count 12 = .ok (.iconst 1, 1) := by decide +kernel
theorem dX6_count_13 : decode cX6_count 13 = .ok (.invokevirtual 107, 3) := by decide +kernel
theorem dX6_count_16 : decode cX6_count 16 = .ok (.ifCond .ne 5, 3) := by decide +kernel
theorem dX6_count_19 : decode cX6_count 19 = .ok (.iconst 0, 1) := by decide +kernel
theorem dX6_count_20 : decode cX6_count 20 = .ok (.ireturn, 1) := by decide +kernel
theorem dX6_count_21 : decode cX6_count 21 = .ok (.aload_n 0, 1) := by decide +kernel
theorem dX6_count_22 : decode cX6_count 22 = .ok (.invokevirtual 111, 3) := by decide +kernel
theorem dX6_count_25 : decode cX6_count 25 = .ok (.aload_n 0, 1) := by decide +kernel
theorem dX6_count_26 : decode cX6_count 26 = .ok (.invokevirtual 129, 3) := by decide +kernel
theorem dX6_count_29 : decode cX6_count 29 = .ok (.ireturn, 1) := by decide +kernel
def f_X6_count (N : Nat) (v : MV) : Option (Int32 × MV) :=
  (f_X6_canCount N v).bind (fun o1 => jn (fun (s13 : Int32) => (f_X6_holds N v s13).bind (fun o4 => (if o4.1 = 0 then some ((0 : Int32), o4.2) else (f_X6_save N o4.2).bind (fun o8 => (f_X6_counts N o8).bind (fun o10 => some (o10.1, o10.2)))))) (fun (j13 : (Int32) → Option (Int32 × MV)) => (if o1 = 0 then j13 (1 : Int32) else j13 (0 : Int32))))
set_option maxHeartbeats 4000000 in
set_option maxRecDepth 100000 in
theorem met_X6_count (l : Launch) (dC : Nat → ClassId) (dI : Nat → Nat → Nat) (cyI cyO cyL : ClassId) (a : Nat → Nat) (sz : Nat) (N : Nat) (v : MV) (out : Int32 × MV) (hF : f_X6_count N v = some out) : Met l yX6_count (Cond.code yX6_count cX6_count 1 (some .int) :: wT) ({ frames := 5, cells := 0, slots := 0, locals := 114 } : Room) (wWr dC dI cyI cyO cyL [.ref (a 0)] (cM cyI a v) sz) (va_Qi (fun (r : Int32) (u : MV) => (r, u) = out) (fun u t => va_P (dC, dI) vwCl (cM cyI a u) t.heap ∧ va_D (va_A (cM cyI a v) sz) (cM cyI a u)) (va_A (cM cyI a v) sz)) 0 0 (va_A (cM cyI a v) sz) := by
  refine Met.ofW (cc := cX6_count) (maxL := 1) (ret := (some .int)) (by decide) rfl ?_
  intro p e s m args below meth c s₁ B hml hv
  obtain ⟨rfl, hsz, hP, hK, hD0⟩ := hv
  have hx := B.exec
  have hb := B.bytes
  have hr := B.returns
  have hts0 := atoms_spec (ws := (Cond.code yX6_count cX6_count 1 (some .int) :: wT)) B.pre
  have hts := fun w h => hts0 w (List.mem_cons_of_mem _ h)
  clear hts0
  have hown : s.vm.findClass RX6 = some m.cls := findClass_of_methodNamed B.named
  have hlocks := B.notSynchronized
  subst hsz
  have hD := hD0.self (sz := s.heap.size)
  generalize hAe : va_A (cM cyI a v) s.heap.size = A at hD ⊢
  have hA : ∀ q : Nat, s.heap.size ≤ q → A q := fun q h => by rw [← hAe]; exact Or.inr h
  clear hD0
  have hS : va_S A s.heap s.heap [] := va_S.rf
  have hl := lv_entry [.ref (a 0)] (n := 1) (Nat.le_of_ble_eq_true rfl)
  rw [lg_entry_eq]
  generalize (lg_sl [.ref (a 0)] ++ List.replicate (1 - (lg_sl [.ref (a 0)]).length) Slot.unset).toArray = ls at hl ⊢
  have hl : lv_has ls 1 [(0, .ref (a 0))] := hl
  unfold f_X6_count at hF
  refine lv_aload_n hx hb dX6_count_0 rfl (lv_at hl 0 rfl) ?_
  refine lv_aload_n hx hb dX6_count_1 rfl (lv_at hl 0 rfl) ?_
  obtain ⟨o1, h2, hF⟩ := obd hF
  refine wcRVi (As := []) (rest := [.ref (a 0)]) (b := (a 0)) ⟨hx, hb, hml, hown, hts⟩ (met_X6_canCount l dC dI cyI cyO cyL a N v  o1 h2) (cwV 0 hts (gV w_methodLink_X6_126 w_instanceMethod_X6_canCount w_selects_X6_canCount w_initialized_X6 w_code_X6_canCount) rfl rfl rfl (by decide +kernel) ⟨Nat.le_of_ble_eq_true rfl, Nat.le_of_ble_eq_true rfl⟩) (va_recv hK.1 hP (ci := 6) (q0 := 0) rfl rfl) hP hK [0, 1, 2, 3, 4, 5, 6, 7] rfl rfl hl.1 (Nat.le_of_ble_eq_true rfl) dX6_count_2 ⟨Nat.le_of_ble_eq_true rfl, Nat.le_of_ble_eq_true rfl⟩ hS (fun r H locs hw hP hS => ?_)
  obtain ⟨hw, hz3⟩ := hw
  have hw := hw.symm
  subst hw
  obtain ⟨j13, hj13, hF⟩ := jn_use hF
  have hJ13 : ∀ (s13 : Int32) (H : Heap) (locs : List Loc) (ls : Array Slot) (hz_13_s1 : b01 s13), va_P (dC, dI) vwCl (cM cyI a v) H → va_D A (cM cyI a v) → va_S A s.heap H locs → lv_has ls 1 [(0, .ref (a 0))] → j13 s13 = some out → W p l e (headSpec (Cond.code yX6_count cX6_count 1 (some .int) :: wT) ({ frames := 5, cells := 0, slots := 0, locals := 114 } : Room)).room s m ([.ref (a 0)] : List Value).toArray below meth c H locs 0 0 (MQ below (va_Qi (fun (r : Int32) (u : MV) => (r, u) = out) (fun u t => va_P (dC, dI) vwCl (cM cyI a u) t.heap ∧ va_D A (cM cyI a u)) A) ([.ref (a 0)] : List Value).toArray s 0 0 A) (F0 m 13 ls [.int s13, .ref (a 0)]) := by
    intro s13 H locs ls hz_13_s1 hP hD hS hl hF
    have hF := (congrFun hj13 s13).symm.trans hF
    obtain ⟨o4, h5, hF⟩ := obd hF
    refine wcWVi (As := [.int s13]) (rest := []) (wr := []) (b := (a 0)) ⟨hx, hb, hml, hown, hts⟩ (met_X6_holds l dC dI cyI cyO cyL a _ N v s13 o4 h5) (cwV 1 hts (gV w_methodLink_X6_107 w_instanceMethod_X6_holds w_selects_X6_holds w_initialized_X6 w_code_X6_holds) rfl rfl rfl (by decide +kernel) ⟨Nat.le_of_ble_eq_true rfl, Nat.le_of_ble_eq_true rfl⟩) (va_recv hK.1 hP (ci := 6) (q0 := 0) rfl rfl) hP hD hK [0, 1, 2, 3, 4, 5, 6, 7] [] rfl rfl (by decide) (by decide) (by decide) rfl hl.1 (Nat.le_of_ble_eq_true rfl) dX6_count_13 ⟨Nat.le_of_ble_eq_true rfl, Nat.le_of_ble_eq_true rfl⟩ hS hA (fun r u H locs hw hP hD hS => ?_)
    obtain ⟨hw, hz6⟩ := hw
    obtain rfl : r = o4.1 := congrArg Prod.fst hw
    obtain rfl : u = o4.2 := congrArg Prod.snd hw
    clear hw
    have hP : va_P (dC, dI) vwCl (cM cyI a o4.2) H := hP
    have hD : va_D A (cM cyI a o4.2) := hD
    refine lv_if_ne (tgt := 21) hx hb dX6_count_16 (by decide) (fun c7 => ?_) (fun c7 => ?_)
    · have hF := itn c7 hF
      refine lv_aload_n hx hb dX6_count_21 rfl (lv_at hl 0 rfl) ?_
      obtain ⟨o8, h9, hF⟩ := obd hF
      refine wcWVv (As := []) (rest := []) (wr := []) (b := (a 0)) ⟨hx, hb, hml, hown, hts⟩ (met_X6_save l dC dI cyI cyO cyL a _ N o4.2  o8 h9) (cwV 0 hts (gV w_methodLink_X6_111 w_instanceMethod_X6_save w_selects_X6_save w_initialized_X6 w_code_X6_save) rfl rfl rfl (by decide +kernel) ⟨Nat.le_of_ble_eq_true rfl, Nat.le_of_ble_eq_true rfl⟩) (va_recv hK.1 hP (ci := 6) (q0 := 0) rfl rfl) hP hD hK [0, 1, 2, 3, 4, 5, 6, 7] [] rfl rfl (by decide) (by decide) (by decide) rfl hl.1 (Nat.le_of_ble_eq_true rfl) dX6_count_22 ⟨Nat.le_of_ble_eq_true rfl, Nat.le_of_ble_eq_true rfl⟩ hS hA (fun u H locs hw hP hD hS => ?_)
      have hw := hw.symm
      subst hw
      have hP : va_P (dC, dI) vwCl (cM cyI a o8) H := hP
      have hD : va_D A (cM cyI a o8) := hD
      refine lv_aload_n hx hb dX6_count_25 rfl (lv_at hl 0 rfl) ?_
      obtain ⟨o10, h11, hF⟩ := obd hF
      refine wcWVi (As := []) (rest := []) (wr := []) (b := (a 0)) ⟨hx, hb, hml, hown, hts⟩ (met_X6_counts l dC dI cyI cyO cyL a _ N o8  o10 h11) (cwV 0 hts (gV w_methodLink_X6_129 w_instanceMethod_X6_counts w_selects_X6_counts w_initialized_X6 w_code_X6_counts) rfl rfl rfl (by decide +kernel) ⟨Nat.le_of_ble_eq_true rfl, Nat.le_of_ble_eq_true rfl⟩) (va_recv hK.1 hP (ci := 6) (q0 := 0) rfl rfl) hP hD hK [0, 1, 2, 3, 4, 5, 6, 7] [] rfl rfl (by decide) (by decide) (by decide) rfl hl.1 (Nat.le_of_ble_eq_true rfl) dX6_count_26 ⟨Nat.le_of_ble_eq_true rfl, Nat.le_of_ble_eq_true rfl⟩ hS hA (fun r u H locs hw hP hD hS => ?_)
      obtain rfl : r = o10.1 := congrArg Prod.fst hw
      obtain rfl : u = o10.2 := congrArg Prod.snd hw
      clear hw
      have hP : va_P (dC, dI) vwCl (cM cyI a o10.2) H := hP
      have hD : va_D A (cM cyI a o10.2) := hD
      exact W.iret (v := o10.1) hx hb hr (fun t ht hW => ⟨⟨_, o10.2, rfl, Option.some.inj hF, by rw [ht]; exact hP, hD⟩, hS.F ht⟩) hS.2.2 dX6_count_29
    · have hF := itp c7 hF
      refine lv_iconst (v := 0) hx hb dX6_count_19 (by decide) ?_
      exact W.iret (v := (0 : Int32)) hx hb hr (fun t ht hW => ⟨⟨_, o4.2, rfl, Option.some.inj hF, by rw [ht]; exact hP, hD⟩, hS.F ht⟩) hS.2.2 dX6_count_20
  refine lv_if_eq (tgt := 12) hx hb dX6_count_5 (by decide) (fun c12 => ?_) (fun c12 => ?_)
  · have hF := itp c12 hF
    refine lv_iconst (v := 1) hx hb dX6_count_12 (by decide) ?_
    exact hJ13 (1 : Int32) _ _ _ b01_1 hP hD hS (lv_sub hl [0] rfl) hF
  · have hF := itn c12 hF
    refine lv_iconst (v := 0) hx hb dX6_count_8 (by decide) ?_
    refine lv_goto (tgt := 13) hx hb dX6_count_9 (by decide) ?_
    exact hJ13 (0 : Int32) _ _ _ b01_0 hP hD hS (lv_sub hl [0] rfl) hF
theorem dX6_begin_0 : decode cX6_begin 0 = .ok (.aload_n 0, 1) := by decide +kernel
theorem dX6_begin_1 : decode cX6_begin 1 = .ok (.iload_n 1, 1) := by decide +kernel
theorem dX6_begin_2 : decode cX6_begin 2 = .ok (.iconst 1, 1) := by decide +kernel
theorem dX6_begin_3 : decode cX6_begin 3 = .ok (.bipush 50, 2) := by decide +kernel
theorem dX6_begin_5 : decode cX6_begin 5 = .ok (.invokestatic 35, 3) := by decide +kernel
theorem dX6_begin_8 : decode cX6_begin 8 = .ok (.ifCond .eq 7, 3) := by decide +kernel
theorem dX6_begin_11 : decode cX6_begin 11 = .ok (.iconst 0, 1) := by decide +kernel
theorem dX6_begin_12 : decode cX6_begin 12 = .ok (.goto 4, 3) := by decide +kernel
theorem dX6_begin_15 : decode cX6_begin 15 = .ok (.iconst 1, 1) := by decide +kernel
theorem dX6_begin_16 : decode cX6_begin 16 = .ok (.invokevirtual 107, 3) := by decide +kernel
theorem dX6_begin_19 : decode cX6_begin 19 = .ok (.ifCond .ne 5, 3) := by decide +kernel
theorem dX6_begin_22 : decode cX6_begin 22 = .ok (.iconst 0, 1) := by decide +kernel
theorem dX6_begin_23 : decode cX6_begin 23 = .ok (.ireturn, 1) := by decide +kernel
theorem dX6_begin_24 : decode cX6_begin 24 = .ok (.aload_n 0, 1) := by decide +kernel
theorem dX6_begin_25 : decode cX6_begin 25 = .ok (.invokevirtual 111, 3) := by decide +kernel
theorem dX6_begin_28 : decode cX6_begin 28 = .ok (.aload_n 0, 1) := by decide +kernel
theorem dX6_begin_29 : decode cX6_begin 29 = .ok (.getfield 7, 3) := by decide +kernel
theorem dX6_begin_32 : decode cX6_begin 32 = .ok (.bipush 67, 2) := by decide +kernel
theorem dX6_begin_34 : decode cX6_begin 34 = .ok (.iaload, 1) := by decide +kernel
theorem dX6_begin_35 : decode cX6_begin 35 = .ok (.istore_n 2, 1) := by decide +kernel
theorem dX6_begin_36 : decode cX6_begin 36 = .ok (.aload_n 0, 1) := by decide +kernel
theorem dX6_begin_37 : decode cX6_begin 37 = .ok (.invokevirtual 98, 3) := by decide +kernel
theorem dX6_begin_40 : decode cX6_begin 40 = .ok (.bipush 65, 2) := by decide +kernel
theorem dX6_begin_42 : decode cX6_begin 42 = .ok (.istore_n 3, 1) := by decide +kernel
theorem dX6_begin_43 : decode cX6_begin 43 = .ok (.iload_n 3, 1) := by decide +kernel
theorem dX6_begin_44 : decode cX6_begin 44 = .ok (.bipush 103, 2) := by decide +kernel
theorem dX6_begin_46 : decode cX6_begin 46 = .ok (.if_icmp .ge 16, 3) := by decide +kernel
theorem dX6_begin_49 : decode cX6_begin 49 = .ok (.aload_n 0, 1) := by decide +kernel
theorem dX6_begin_50 : decode cX6_begin 50 = .ok (.getfield 7, 3) := by decide +kernel
theorem dX6_begin_53 : decode cX6_begin 53 = .ok (.iload_n 3, 1) := by decide +kernel
theorem dX6_begin_54 : decode cX6_begin 54 = .ok (.iconst 0, 1) := by decide +kernel
theorem dX6_begin_55 : decode cX6_begin 55 = .ok (.iastore, 1) := by decide +kernel
theorem dX6_begin_56 : decode cX6_begin 56 = .ok (.iinc 3 1, 3) := by decide +kernel
theorem dX6_begin_59 : decode cX6_begin 59 = .ok (.goto (-16), 3) := by decide +kernel
theorem dX6_begin_62 : decode cX6_begin 62 = .ok (.aload_n 0, 1) := by decide +kernel
theorem dX6_begin_63 : decode cX6_begin 63 = .ok (.getfield 7, 3) := by decide +kernel
theorem dX6_begin_66 : decode cX6_begin 66 = .ok (.bipush 67, 2) := by decide +kernel
theorem dX6_begin_68 : decode cX6_begin 68 = .ok (.iload_n 1, 1) := by decide +kernel
theorem dX6_begin_69 : decode cX6_begin 69 = .ok (.iastore, 1) := by decide +kernel
theorem dX6_begin_70 : decode cX6_begin 70 = .ok (.aload_n 0, 1) := by decide +kernel
theorem dX6_begin_71 : decode cX6_begin 71 = .ok (.getfield 7, 3) := by decide +kernel
theorem dX6_begin_74 : decode cX6_begin 74 = .ok (.bipush 61, 2) := by decide +kernel
theorem dX6_begin_76 : decode cX6_begin 76 = .ok (.iconst 0, 1) := by decide +kernel
theorem dX6_begin_77 : decode cX6_begin 77 = .ok (.iastore, 1) := by decide +kernel
theorem dX6_begin_78 : decode cX6_begin 78 = .ok (.iload_n 2, 1) := by decide +kernel
theorem dX6_begin_79 : decode cX6_begin 79 = .ok (.ireturn, 1) := by decide +kernel
def f_X6_begin (N : Nat) (v : MV) (p1 : Int32) : Option (Int32 × MV) :=
  (f_X6_in N p1 (1 : Int32) (50 : Int32)).bind (fun o1 => jn (fun (s16 : Int32) => (f_X6_holds N v s16).bind (fun o4 => (if o4.1 = 0 then some ((0 : Int32), o4.2) else (f_X6_save N o4.2).bind (fun o8 => (f_X6_takesAway N o8).bind (fun o11 => lpN (fun (s43 : Int32 × MV) (k43 : (Int32 × MV) → Option (Int32 × MV)) => (if (103 : Int32) ≤ s43.1 then some (((M_s o8) (67 : Int32).toNatClampNeg), (M_set_s s43.2 (upd (upd (M_s s43.2) (67 : Int32).toNatClampNeg p1) (61 : Int32).toNatClampNeg (0 : Int32)))) else gd (ixok s43.1 103) (k43 ((s43.1 + (1 : Int32)), (M_set_s s43.2 (upd (M_s s43.2) s43.1.toNatClampNeg (0 : Int32))))))) N ((65 : Int32), o11)))))) (fun (j16 : (Int32) → Option (Int32 × MV)) => (if o1 = 0 then j16 (1 : Int32) else j16 (0 : Int32))))
set_option maxHeartbeats 4000000 in
set_option maxRecDepth 100000 in
theorem met_X6_begin (l : Launch) (dC : Nat → ClassId) (dI : Nat → Nat → Nat) (cyI cyO cyL : ClassId) (a : Nat → Nat) (sz : Nat) (N : Nat) (v : MV) (p1 : Int32) (out : Int32 × MV) (hF : f_X6_begin N v p1 = some out) : Met l yX6_begin (Cond.code yX6_begin cX6_begin 4 (some .int) :: wT) ({ frames := 1, cells := 0, slots := 0, locals := 22 } : Room) (wWr dC dI cyI cyO cyL [.ref (a 0), .int p1] (cM cyI a v) sz) (va_Qi (fun (r : Int32) (u : MV) => (r, u) = out) (fun u t => va_P (dC, dI) vwCl (cM cyI a u) t.heap ∧ va_D (va_A (cM cyI a v) sz) (cM cyI a u)) (va_A (cM cyI a v) sz)) 0 0 (va_A (cM cyI a v) sz) := by
  refine Met.ofW (cc := cX6_begin) (maxL := 4) (ret := (some .int)) (by decide) rfl ?_
  intro p e s m args below meth c s₁ B hml hv
  obtain ⟨rfl, hsz, hP, hK, hD0⟩ := hv
  have hx := B.exec
  have hb := B.bytes
  have hr := B.returns
  have hts0 := atoms_spec (ws := (Cond.code yX6_begin cX6_begin 4 (some .int) :: wT)) B.pre
  have hts := fun w h => hts0 w (List.mem_cons_of_mem _ h)
  clear hts0
  have hown : s.vm.findClass RX6 = some m.cls := findClass_of_methodNamed B.named
  have hlocks := B.notSynchronized
  subst hsz
  have hD := hD0.self (sz := s.heap.size)
  generalize hAe : va_A (cM cyI a v) s.heap.size = A at hD ⊢
  have hA : ∀ q : Nat, s.heap.size ≤ q → A q := fun q h => by rw [← hAe]; exact Or.inr h
  clear hD0
  have hS : va_S A s.heap s.heap [] := va_S.rf
  have hl := lv_entry [.ref (a 0), .int p1] (n := 4) (Nat.le_of_ble_eq_true rfl)
  rw [lg_entry_eq]
  generalize (lg_sl [.ref (a 0), .int p1] ++ List.replicate (4 - (lg_sl [.ref (a 0), .int p1]).length) Slot.unset).toArray = ls at hl ⊢
  have hl : lv_has ls 4 [(0, .ref (a 0)), (1, .int p1)] := hl
  unfold f_X6_begin at hF
  refine lv_aload_n hx hb dX6_begin_0 rfl (lv_at hl 0 rfl) ?_
  refine lv_iload_n hx hb dX6_begin_1 rfl (lv_at hl 1 rfl) ?_
  refine lv_iconst (v := 1) hx hb dX6_begin_2 (by decide) ?_
  refine lv_bipush (v := 50) hx hb dX6_begin_3 (by decide) ?_
  obtain ⟨o1, h2, hF⟩ := obd hF
  refine wcRSi (As := [.int p1, .int (1 : Int32), .int (50 : Int32)]) (rest := [.ref (a 0)]) ⟨hx, hb, hml, hown, hts⟩ (met_X6_in l dC dI cyI cyO cyL  N  p1 (1 : Int32) (50 : Int32) o1 h2) (va_cwS 3 hts (gS w_methodLink_X6_35 w_static_X6_in w_initialized_X6 w_code_X6_in) rfl rfl rfl (by decide +kernel) ⟨Nat.le_of_ble_eq_true rfl, Nat.le_of_ble_eq_true rfl⟩) hP hK [] rfl rfl hl.1 (Nat.le_of_ble_eq_true rfl) dX6_begin_5 ⟨Nat.le_of_ble_eq_true rfl, Nat.le_of_ble_eq_true rfl⟩ hS (fun r H locs hw hP hS => ?_)
  obtain ⟨hw, hz3⟩ := hw
  have hw := hw.symm
  subst hw
  obtain ⟨j16, hj16, hF⟩ := jn_use hF
  have hJ16 : ∀ (s16 : Int32) (H : Heap) (locs : List Loc) (ls : Array Slot) (hz_16_s1 : b01 s16), va_P (dC, dI) vwCl (cM cyI a v) H → va_D A (cM cyI a v) → va_S A s.heap H locs → lv_has ls 4 [(0, .ref (a 0)), (1, .int p1)] → j16 s16 = some out → W p l e (headSpec (Cond.code yX6_begin cX6_begin 4 (some .int) :: wT) ({ frames := 1, cells := 0, slots := 0, locals := 22 } : Room)).room s m ([.ref (a 0), .int p1] : List Value).toArray below meth c H locs 0 0 (MQ below (va_Qi (fun (r : Int32) (u : MV) => (r, u) = out) (fun u t => va_P (dC, dI) vwCl (cM cyI a u) t.heap ∧ va_D A (cM cyI a u)) A) ([.ref (a 0), .int p1] : List Value).toArray s 0 0 A) (F0 m 16 ls [.int s16, .ref (a 0)]) := by
    intro s16 H locs ls hz_16_s1 hP hD hS hl hF
    have hF := (congrFun hj16 s16).symm.trans hF
    obtain ⟨o4, h5, hF⟩ := obd hF
    refine wcWVi (As := [.int s16]) (rest := []) (wr := []) (b := (a 0)) ⟨hx, hb, hml, hown, hts⟩ (met_X6_holds l dC dI cyI cyO cyL a _ N v s16 o4 h5) (cwV 1 hts (gV w_methodLink_X6_107 w_instanceMethod_X6_holds w_selects_X6_holds w_initialized_X6 w_code_X6_holds) rfl rfl rfl (by decide +kernel) ⟨Nat.le_of_ble_eq_true rfl, Nat.le_of_ble_eq_true rfl⟩) (va_recv hK.1 hP (ci := 6) (q0 := 0) rfl rfl) hP hD hK [0, 1, 2, 3, 4, 5, 6, 7] [] rfl rfl (by decide) (by decide) (by decide) rfl hl.1 (Nat.le_of_ble_eq_true rfl) dX6_begin_16 ⟨Nat.le_of_ble_eq_true rfl, Nat.le_of_ble_eq_true rfl⟩ hS hA (fun r u H locs hw hP hD hS => ?_)
    obtain ⟨hw, hz6⟩ := hw
    obtain rfl : r = o4.1 := congrArg Prod.fst hw
    obtain rfl : u = o4.2 := congrArg Prod.snd hw
    clear hw
    have hP : va_P (dC, dI) vwCl (cM cyI a o4.2) H := hP
    have hD : va_D A (cM cyI a o4.2) := hD
    refine lv_if_ne (tgt := 24) hx hb dX6_begin_19 (by decide) (fun c7 => ?_) (fun c7 => ?_)
    · have hF := itn c7 hF
      refine lv_aload_n hx hb dX6_begin_24 rfl (lv_at hl 0 rfl) ?_
      obtain ⟨o8, h9, hF⟩ := obd hF
      refine wcWVv (As := []) (rest := []) (wr := []) (b := (a 0)) ⟨hx, hb, hml, hown, hts⟩ (met_X6_save l dC dI cyI cyO cyL a _ N o4.2  o8 h9) (cwV 0 hts (gV w_methodLink_X6_111 w_instanceMethod_X6_save w_selects_X6_save w_initialized_X6 w_code_X6_save) rfl rfl rfl (by decide +kernel) ⟨Nat.le_of_ble_eq_true rfl, Nat.le_of_ble_eq_true rfl⟩) (va_recv hK.1 hP (ci := 6) (q0 := 0) rfl rfl) hP hD hK [0, 1, 2, 3, 4, 5, 6, 7] [] rfl rfl (by decide) (by decide) (by decide) rfl hl.1 (Nat.le_of_ble_eq_true rfl) dX6_begin_25 ⟨Nat.le_of_ble_eq_true rfl, Nat.le_of_ble_eq_true rfl⟩ hS hA (fun u H locs hw hP hD hS => ?_)
      have hw := hw.symm
      subst hw
      have hP : va_P (dC, dI) vwCl (cM cyI a o8) H := hP
      have hD : va_D A (cM cyI a o8) := hD
      refine lv_aload_n hx hb dX6_begin_28 rfl (lv_at hl 0 rfl) ?_
      refine va_get (D := (dC, dI)) (ci := 6) (v := .ref (a 1)) (C := RX6) (T := TX6) (N := 23) hx hb hts inX6 hown hK.1 hP 0 rfl rfl 1 (by decide) (hts _ w_fieldLink_X6_7) (fun _ h9 => h9) rfl dX6_begin_29 ?_
      refine lv_bipush (v := 67) hx hb dX6_begin_32 (by decide) ?_
      refine va_iald hx hb hK.1 hP 1 0 rfl rfl (i := (67 : Int32)) (show ixok (67 : Int32) 103 by decide) dX6_begin_34 ?_
      refine lv_istore_n (lv' := [(2, .int ((M_s o8) (67 : Int32).toNatClampNeg)), (0, .ref (a 0)), (1, .int p1)]) hx hb dX6_begin_35 rfl hl (by decide) rfl (fun ls hl => ?_)
      refine lv_aload_n hx hb dX6_begin_36 rfl (lv_at hl 1 rfl) ?_
      obtain ⟨o11, h12, hF⟩ := obd hF
      refine wcWVv (As := []) (rest := []) (wr := []) (b := (a 0)) ⟨hx, hb, hml, hown, hts⟩ (met_X6_takesAway l dC dI cyI cyO cyL a _ N o8  o11 h12) (cwV 0 hts (gV w_methodLink_X6_98 w_instanceMethod_X6_takesAway w_selects_X6_takesAway w_initialized_X6 w_code_X6_takesAway) rfl rfl rfl (by decide +kernel) ⟨Nat.le_of_ble_eq_true rfl, Nat.le_of_ble_eq_true rfl⟩) (va_recv hK.1 hP (ci := 6) (q0 := 0) rfl rfl) hP hD hK [0, 1, 2, 3, 4, 5, 6, 7] [] rfl rfl (by decide) (by decide) (by decide) rfl hl.1 (Nat.le_of_ble_eq_true rfl) dX6_begin_37 ⟨Nat.le_of_ble_eq_true rfl, Nat.le_of_ble_eq_true rfl⟩ hS hA (fun u H locs hw hP hD hS => ?_)
      have hw := hw.symm
      subst hw
      have hP : va_P (dC, dI) vwCl (cM cyI a o11) H := hP
      have hD : va_D A (cM cyI a o11) := hD
      refine lv_bipush (v := 65) hx hb dX6_begin_40 (by decide) ?_
      refine lv_istore_n (lv' := [(3, .int (65 : Int32)), (2, .int ((M_s o8) (67 : Int32).toNatClampNeg)), (0, .ref (a 0)), (1, .int p1)]) hx hb dX6_begin_42 rfl hl (by decide) rfl (fun ls hl => ?_)
      obtain ⟨st43, hst43, hF⟩ := lpN_use hF
      have hL43 : ∀ (n : Nat) (s43 : Int32 × MV) (H : Heap) (locs : List Loc) (ls : Array Slot), va_P (dC, dI) vwCl (cM cyI a s43.2) H → va_D A (cM cyI a s43.2) → va_S A s.heap H locs → lv_has ls 4 [(0, .ref (a 0)), (1, .int p1), (2, .int ((M_s o8) (67 : Int32).toNatClampNeg)), (3, .int s43.1)] → lpN st43 n s43 = some out → W p l e (headSpec (Cond.code yX6_begin cX6_begin 4 (some .int) :: wT) ({ frames := 1, cells := 0, slots := 0, locals := 22 } : Room)).room s m ([.ref (a 0), .int p1] : List Value).toArray below meth c H locs 0 0 (MQ below (va_Qi (fun (r : Int32) (u : MV) => (r, u) = out) (fun u t => va_P (dC, dI) vwCl (cM cyI a u) t.heap ∧ va_D A (cM cyI a u)) A) ([.ref (a 0), .int p1] : List Value).toArray s 0 0 A) (F0 m 43 ls []) := by
        intro n
        induction n with
        | zero => intro s43 H locs ls hP hD hS hl hF; exact lpN_0 hF
        | succ n ih43 =>
          intro s43 H locs ls hP hD hS hl hF
          have hF := (congrFun (congrFun hst43 s43) (lpN st43 n)).symm.trans (lpN_s hF)
          refine lv_iload_n hx hb dX6_begin_43 rfl (lv_at hl 3 rfl) ?_
          refine lv_bipush (v := 103) hx hb dX6_begin_44 (by decide) ?_
          refine lv_icmp_ge (tgt := 62) hx hb dX6_begin_46 (by decide) (fun c13 => ?_) (fun c13 => ?_)
          · have hF := itp c13 hF
            refine lv_aload_n hx hb dX6_begin_62 rfl (lv_at hl 0 rfl) ?_
            refine va_get (D := (dC, dI)) (ci := 6) (v := .ref (a 1)) (C := RX6) (T := TX6) (N := 23) hx hb hts inX6 hown hK.1 hP 0 rfl rfl 1 (by decide) (hts _ w_fieldLink_X6_7) (fun _ h9 => h9) rfl dX6_begin_63 ?_
            refine lv_bipush (v := 67) hx hb dX6_begin_66 (by decide) ?_
            refine lv_iload_n hx hb dX6_begin_68 rfl (lv_at hl 1 rfl) ?_
            refine va_iast hx hb hK.1 hP hD hS 1 0 rfl rfl (i := (67 : Int32)) (x := p1) (show ixok (67 : Int32) 103 by decide) dX6_begin_69 (fun H locs hP hD hS => ?_)
            have hP : va_P (dC, dI) vwCl (cM cyI a (M_set_s s43.2 (upd (M_s s43.2) (67 : Int32).toNatClampNeg p1))) H := hP
            have hD : va_D A (cM cyI a (M_set_s s43.2 (upd (M_s s43.2) (67 : Int32).toNatClampNeg p1))) := hD
            refine lv_aload_n hx hb dX6_begin_70 rfl (lv_at hl 0 rfl) ?_
            refine va_get (D := (dC, dI)) (ci := 6) (v := .ref (a 1)) (C := RX6) (T := TX6) (N := 23) hx hb hts inX6 hown hK.1 hP 0 rfl rfl 1 (by decide) (hts _ w_fieldLink_X6_7) (fun _ h9 => h9) rfl dX6_begin_71 ?_
            refine lv_bipush (v := 61) hx hb dX6_begin_74 (by decide) ?_
            refine lv_iconst (v := 0) hx hb dX6_begin_76 (by decide) ?_
            refine va_iast hx hb hK.1 hP hD hS 1 0 rfl rfl (i := (61 : Int32)) (x := (0 : Int32)) (show ixok (61 : Int32) 103 by decide) dX6_begin_77 (fun H locs hP hD hS => ?_)
            have hP : va_P (dC, dI) vwCl (cM cyI a (M_set_s s43.2 (upd (upd (M_s s43.2) (67 : Int32).toNatClampNeg p1) (61 : Int32).toNatClampNeg (0 : Int32)))) H := hP
            have hD : va_D A (cM cyI a (M_set_s s43.2 (upd (upd (M_s s43.2) (67 : Int32).toNatClampNeg p1) (61 : Int32).toNatClampNeg (0 : Int32)))) := hD
            refine lv_iload_n hx hb dX6_begin_78 rfl (lv_at hl 2 rfl) ?_
            exact W.iret (v := ((M_s o8) (67 : Int32).toNatClampNeg)) hx hb hr (fun t ht hW => ⟨⟨_, (M_set_s s43.2 (upd (upd (M_s s43.2) (67 : Int32).toNatClampNeg p1) (61 : Int32).toNatClampNeg (0 : Int32))), rfl, Option.some.inj hF, by rw [ht]; exact hP, hD⟩, hS.F ht⟩) hS.2.2 dX6_begin_79
          · have hF := itn c13 hF
            refine lv_aload_n hx hb dX6_begin_49 rfl (lv_at hl 0 rfl) ?_
            refine va_get (D := (dC, dI)) (ci := 6) (v := .ref (a 1)) (C := RX6) (T := TX6) (N := 23) hx hb hts inX6 hown hK.1 hP 0 rfl rfl 1 (by decide) (hts _ w_fieldLink_X6_7) (fun _ h9 => h9) rfl dX6_begin_50 ?_
            refine lv_iload_n hx hb dX6_begin_53 rfl (lv_at hl 3 rfl) ?_
            refine lv_iconst (v := 0) hx hb dX6_begin_54 (by decide) ?_
            obtain ⟨hg16, hF⟩ := gd_use hF
            refine va_iast hx hb hK.1 hP hD hS 1 0 rfl rfl (i := s43.1) (x := (0 : Int32)) hg16 dX6_begin_55 (fun H locs hP hD hS => ?_)
            have hP : va_P (dC, dI) vwCl (cM cyI a (M_set_s s43.2 (upd (M_s s43.2) s43.1.toNatClampNeg (0 : Int32)))) H := hP
            have hD : va_D A (cM cyI a (M_set_s s43.2 (upd (M_s s43.2) s43.1.toNatClampNeg (0 : Int32)))) := hD
            refine lv_iinc (v := (s43.1 + (1 : Int32))) (lv' := [(3, .int (s43.1 + (1 : Int32))), (0, .ref (a 0)), (1, .int p1), (2, .int ((M_s o8) (67 : Int32).toNatClampNeg))]) hx hb dX6_begin_56 hl (k := 3) rfl rfl (by decide) rfl (fun ls hl => ?_)
            refine lv_goto (tgt := 43) hx hb dX6_begin_59 (by decide) ?_
            exact ih43 ((s43.1 + (1 : Int32)), (M_set_s s43.2 (upd (M_s s43.2) s43.1.toNatClampNeg (0 : Int32)))) _ _ _ hP hD hS (lv_sub hl [1, 2, 3, 0] rfl) hF
      exact hL43 N ((65 : Int32), o11) _ _ _ hP hD hS (lv_sub hl [2, 3, 1, 0] rfl) hF
    · have hF := itp c7 hF
      refine lv_iconst (v := 0) hx hb dX6_begin_22 (by decide) ?_
      exact W.iret (v := (0 : Int32)) hx hb hr (fun t ht hW => ⟨⟨_, o4.2, rfl, Option.some.inj hF, by rw [ht]; exact hP, hD⟩, hS.F ht⟩) hS.2.2 dX6_begin_23
  refine lv_if_eq (tgt := 15) hx hb dX6_begin_8 (by decide) (fun c17 => ?_) (fun c17 => ?_)
  · have hF := itp c17 hF
    refine lv_iconst (v := 1) hx hb dX6_begin_15 (by decide) ?_
    exact hJ16 (1 : Int32) _ _ _ b01_1 hP hD hS (lv_sub hl [0, 1] rfl) hF
  · have hF := itn c17 hF
    refine lv_iconst (v := 0) hx hb dX6_begin_11 (by decide) ?_
    refine lv_goto (tgt := 16) hx hb dX6_begin_12 (by decide) ?_
    exact hJ16 (0 : Int32) _ _ _ b01_0 hP hD hS (lv_sub hl [0, 1] rfl) hF
theorem dX6_changeBowls_0 : decode cX6_changeBowls 0 = .ok (.aload_n 0, 1) := by decide +kernel
theorem dX6_changeBowls_1 : decode cX6_changeBowls 1 = .ok (.iload_n 1, 1) := by decide +kernel
theorem dX6_changeBowls_2 : decode cX6_changeBowls 2 = .ok (.iconst 1, 1) := by decide +kernel
theorem dX6_changeBowls_3 : decode cX6_changeBowls 3 = .ok (.iconst 4, 1) := by decide +kernel
theorem dX6_changeBowls_4 : decode cX6_changeBowls 4 = .ok (.invokestatic 35, 3) := by decide +kernel
theorem dX6_changeBowls_7 : decode cX6_changeBowls 7 = .ok (.ifCond .ne 7, 3) := by decide +kernel
theorem dX6_changeBowls_10 : decode cX6_changeBowls 10 = .ok (.iconst 1, 1) := by decide +kernel
theorem dX6_changeBowls_11 : decode cX6_changeBowls 11 = .ok (.goto 18, 3) := by decide +kernel
theorem dX6_changeBowls_14 : decode cX6_changeBowls 14 = .ok (.aload_n 0, 1) := by decide +kernel
theorem dX6_changeBowls_15 : decode cX6_changeBowls 15 = .ok (.getfield 7, 3) := by decide +kernel
theorem dX6_changeBowls_18 : decode cX6_changeBowls 18 = .ok (.iconst 0, 1) := by decide +kernel
theorem dX6_changeBowls_19 : decode cX6_changeBowls 19 = .ok (.iaload, 1) := by decide +kernel
theorem dX6_changeBowls_20 : decode cX6_changeBowls 20 = .ok (.iconst 1, 1) := by decide +kernel
theorem dX6_changeBowls_21 : decode cX6_changeBowls 21 = .ok (.if_icmp .ne 7, 3) := by decide +kernel
theorem dX6_changeBowls_24 : decode cX6_changeBowls 24 = .ok (.iconst 2, 1) := by decide +kernel
theorem dX6_changeBowls_25 : decode cX6_changeBowls 25 = .ok (.goto 4, 3) := by decide +kernel
theorem dX6_changeBowls_28 : decode cX6_changeBowls 28 = .ok (.iconst 0, 1) := by decide +kernel
theorem dX6_changeBowls_29 : decode cX6_changeBowls 29 = .ok (.invokevirtual 107, 3) := by decide +kernel
theorem dX6_changeBowls_32 : decode cX6_changeBowls 32 = .ok (.ifCond .ne 5, 3) := by decide +kernel
theorem dX6_changeBowls_35 : decode cX6_changeBowls 35 = .ok (.iconst 0, 1) := by decide +kernel
theorem dX6_changeBowls_36 : decode cX6_changeBowls 36 = .ok (.ireturn, 1) := by decide +kernel
theorem dX6_changeBowls_37 : decode cX6_changeBowls 37 = .ok (.aload_n 0, 1) := by decide +kernel
theorem dX6_changeBowls_38 : decode cX6_changeBowls 38 = .ok (.invokevirtual 111, 3) := by decide +kernel
theorem dX6_changeBowls_41 : decode cX6_changeBowls 41 = .ok (.aload_n 0, 1) := by decide +kernel
theorem dX6_changeBowls_42 : decode cX6_changeBowls 42 = .ok (.getfield 7, 3) := by decide +kernel
theorem dX6_changeBowls_45 : decode cX6_changeBowls 45 = .ok (.bipush 60, 2) := by decide +kernel
theorem dX6_changeBowls_47 : decode cX6_changeBowls 47 = .ok (.iaload, 1) := by decide +kernel
theorem dX6_changeBowls_48 : decode cX6_changeBowls 48 = .ok (.istore_n 2, 1) := by decide +kernel
theorem dX6_changeBowls_49 : decode cX6_changeBowls 49 = .ok (.aload_n 0, 1) := by decide +kernel
theorem dX6_changeBowls_50 : decode cX6_changeBowls 50 = .ok (.getfield 7, 3) := by decide +kernel
theorem dX6_changeBowls_53 : decode cX6_changeBowls 53 = .ok (.bipush 60, 2) := by decide +kernel
theorem dX6_changeBowls_55 : decode cX6_changeBowls 55 = .ok (.iload_n 1, 1) := by decide +kernel
theorem dX6_changeBowls_56 : decode cX6_changeBowls 56 = .ok (.iastore, 1) := by decide +kernel
theorem dX6_changeBowls_57 : decode cX6_changeBowls 57 = .ok (.iload_n 2, 1) := by decide +kernel
theorem dX6_changeBowls_58 : decode cX6_changeBowls 58 = .ok (.ireturn, 1) := by decide +kernel
def f_X6_changeBowls (N : Nat) (v : MV) (p1 : Int32) : Option (Int32 × MV) :=
  (f_X6_in N p1 (1 : Int32) (4 : Int32)).bind (fun o1 => jn (fun (s29 : Int32) => (f_X6_holds N v s29).bind (fun o4 => (if o4.1 = 0 then some ((0 : Int32), o4.2) else (f_X6_save N o4.2).bind (fun o8 => some (((M_s o8) (60 : Int32).toNatClampNeg), (M_set_s o8 (upd (M_s o8) (60 : Int32).toNatClampNeg p1))))))) (fun (j29 : (Int32) → Option (Int32 × MV)) => (if o1 = 0 then j29 (1 : Int32) else (if ((M_s v) (0 : Int32).toNatClampNeg) = (1 : Int32) then j29 (2 : Int32) else j29 (0 : Int32)))))
set_option maxHeartbeats 4000000 in
set_option maxRecDepth 100000 in
theorem met_X6_changeBowls (l : Launch) (dC : Nat → ClassId) (dI : Nat → Nat → Nat) (cyI cyO cyL : ClassId) (a : Nat → Nat) (sz : Nat) (N : Nat) (v : MV) (p1 : Int32) (out : Int32 × MV) (hF : f_X6_changeBowls N v p1 = some out) : Met l yX6_changeBowls (Cond.code yX6_changeBowls cX6_changeBowls 3 (some .int) :: wT) ({ frames := 1, cells := 0, slots := 0, locals := 22 } : Room) (wWr dC dI cyI cyO cyL [.ref (a 0), .int p1] (cM cyI a v) sz) (va_Qi (fun (r : Int32) (u : MV) => (r, u) = out) (fun u t => va_P (dC, dI) vwCl (cM cyI a u) t.heap ∧ va_D (va_A (cM cyI a v) sz) (cM cyI a u)) (va_A (cM cyI a v) sz)) 0 0 (va_A (cM cyI a v) sz) := by
  refine Met.ofW (cc := cX6_changeBowls) (maxL := 3) (ret := (some .int)) (by decide) rfl ?_
  intro p e s m args below meth c s₁ B hml hv
  obtain ⟨rfl, hsz, hP, hK, hD0⟩ := hv
  have hx := B.exec
  have hb := B.bytes
  have hr := B.returns
  have hts0 := atoms_spec (ws := (Cond.code yX6_changeBowls cX6_changeBowls 3 (some .int) :: wT)) B.pre
  have hts := fun w h => hts0 w (List.mem_cons_of_mem _ h)
  clear hts0
  have hown : s.vm.findClass RX6 = some m.cls := findClass_of_methodNamed B.named
  have hlocks := B.notSynchronized
  subst hsz
  have hD := hD0.self (sz := s.heap.size)
  generalize hAe : va_A (cM cyI a v) s.heap.size = A at hD ⊢
  have hA : ∀ q : Nat, s.heap.size ≤ q → A q := fun q h => by rw [← hAe]; exact Or.inr h
  clear hD0
  have hS : va_S A s.heap s.heap [] := va_S.rf
  have hl := lv_entry [.ref (a 0), .int p1] (n := 3) (Nat.le_of_ble_eq_true rfl)
  rw [lg_entry_eq]
  generalize (lg_sl [.ref (a 0), .int p1] ++ List.replicate (3 - (lg_sl [.ref (a 0), .int p1]).length) Slot.unset).toArray = ls at hl ⊢
  have hl : lv_has ls 3 [(0, .ref (a 0)), (1, .int p1)] := hl
  unfold f_X6_changeBowls at hF
  refine lv_aload_n hx hb dX6_changeBowls_0 rfl (lv_at hl 0 rfl) ?_
  refine lv_iload_n hx hb dX6_changeBowls_1 rfl (lv_at hl 1 rfl) ?_
  refine lv_iconst (v := 1) hx hb dX6_changeBowls_2 (by decide) ?_
  refine lv_iconst (v := 4) hx hb dX6_changeBowls_3 (by decide) ?_
  obtain ⟨o1, h2, hF⟩ := obd hF
  refine wcRSi (As := [.int p1, .int (1 : Int32), .int (4 : Int32)]) (rest := [.ref (a 0)]) ⟨hx, hb, hml, hown, hts⟩ (met_X6_in l dC dI cyI cyO cyL  N  p1 (1 : Int32) (4 : Int32) o1 h2) (va_cwS 3 hts (gS w_methodLink_X6_35 w_static_X6_in w_initialized_X6 w_code_X6_in) rfl rfl rfl (by decide +kernel) ⟨Nat.le_of_ble_eq_true rfl, Nat.le_of_ble_eq_true rfl⟩) hP hK [] rfl rfl hl.1 (Nat.le_of_ble_eq_true rfl) dX6_changeBowls_4 ⟨Nat.le_of_ble_eq_true rfl, Nat.le_of_ble_eq_true rfl⟩ hS (fun r H locs hw hP hS => ?_)
  obtain ⟨hw, hz3⟩ := hw
  have hw := hw.symm
  subst hw
  obtain ⟨j29, hj29, hF⟩ := jn_use hF
  have hJ29 : ∀ (s29 : Int32) (H : Heap) (locs : List Loc) (ls : Array Slot), va_P (dC, dI) vwCl (cM cyI a v) H → va_D A (cM cyI a v) → va_S A s.heap H locs → lv_has ls 3 [(0, .ref (a 0)), (1, .int p1)] → j29 s29 = some out → W p l e (headSpec (Cond.code yX6_changeBowls cX6_changeBowls 3 (some .int) :: wT) ({ frames := 1, cells := 0, slots := 0, locals := 22 } : Room)).room s m ([.ref (a 0), .int p1] : List Value).toArray below meth c H locs 0 0 (MQ below (va_Qi (fun (r : Int32) (u : MV) => (r, u) = out) (fun u t => va_P (dC, dI) vwCl (cM cyI a u) t.heap ∧ va_D A (cM cyI a u)) A) ([.ref (a 0), .int p1] : List Value).toArray s 0 0 A) (F0 m 29 ls [.int s29, .ref (a 0)]) := by
    intro s29 H locs ls hP hD hS hl hF
    have hF := (congrFun hj29 s29).symm.trans hF
    obtain ⟨o4, h5, hF⟩ := obd hF
    refine wcWVi (As := [.int s29]) (rest := []) (wr := []) (b := (a 0)) ⟨hx, hb, hml, hown, hts⟩ (met_X6_holds l dC dI cyI cyO cyL a _ N v s29 o4 h5) (cwV 1 hts (gV w_methodLink_X6_107 w_instanceMethod_X6_holds w_selects_X6_holds w_initialized_X6 w_code_X6_holds) rfl rfl rfl (by decide +kernel) ⟨Nat.le_of_ble_eq_true rfl, Nat.le_of_ble_eq_true rfl⟩) (va_recv hK.1 hP (ci := 6) (q0 := 0) rfl rfl) hP hD hK [0, 1, 2, 3, 4, 5, 6, 7] [] rfl rfl (by decide) (by decide) (by decide) rfl hl.1 (Nat.le_of_ble_eq_true rfl) dX6_changeBowls_29 ⟨Nat.le_of_ble_eq_true rfl, Nat.le_of_ble_eq_true rfl⟩ hS hA (fun r u H locs hw hP hD hS => ?_)
    obtain ⟨hw, hz6⟩ := hw
    obtain rfl : r = o4.1 := congrArg Prod.fst hw
    obtain rfl : u = o4.2 := congrArg Prod.snd hw
    clear hw
    have hP : va_P (dC, dI) vwCl (cM cyI a o4.2) H := hP
    have hD : va_D A (cM cyI a o4.2) := hD
    refine lv_if_ne (tgt := 37) hx hb dX6_changeBowls_32 (by decide) (fun c7 => ?_) (fun c7 => ?_)
    · have hF := itn c7 hF
      refine lv_aload_n hx hb dX6_changeBowls_37 rfl (lv_at hl 0 rfl) ?_
      obtain ⟨o8, h9, hF⟩ := obd hF
      refine wcWVv (As := []) (rest := []) (wr := []) (b := (a 0)) ⟨hx, hb, hml, hown, hts⟩ (met_X6_save l dC dI cyI cyO cyL a _ N o4.2  o8 h9) (cwV 0 hts (gV w_methodLink_X6_111 w_instanceMethod_X6_save w_selects_X6_save w_initialized_X6 w_code_X6_save) rfl rfl rfl (by decide +kernel) ⟨Nat.le_of_ble_eq_true rfl, Nat.le_of_ble_eq_true rfl⟩) (va_recv hK.1 hP (ci := 6) (q0 := 0) rfl rfl) hP hD hK [0, 1, 2, 3, 4, 5, 6, 7] [] rfl rfl (by decide) (by decide) (by decide) rfl hl.1 (Nat.le_of_ble_eq_true rfl) dX6_changeBowls_38 ⟨Nat.le_of_ble_eq_true rfl, Nat.le_of_ble_eq_true rfl⟩ hS hA (fun u H locs hw hP hD hS => ?_)
      have hw := hw.symm
      subst hw
      have hP : va_P (dC, dI) vwCl (cM cyI a o8) H := hP
      have hD : va_D A (cM cyI a o8) := hD
      refine lv_aload_n hx hb dX6_changeBowls_41 rfl (lv_at hl 0 rfl) ?_
      refine va_get (D := (dC, dI)) (ci := 6) (v := .ref (a 1)) (C := RX6) (T := TX6) (N := 23) hx hb hts inX6 hown hK.1 hP 0 rfl rfl 1 (by decide) (hts _ w_fieldLink_X6_7) (fun _ h9 => h9) rfl dX6_changeBowls_42 ?_
      refine lv_bipush (v := 60) hx hb dX6_changeBowls_45 (by decide) ?_
      refine va_iald hx hb hK.1 hP 1 0 rfl rfl (i := (60 : Int32)) (show ixok (60 : Int32) 103 by decide) dX6_changeBowls_47 ?_
      refine lv_istore_n (lv' := [(2, .int ((M_s o8) (60 : Int32).toNatClampNeg)), (0, .ref (a 0)), (1, .int p1)]) hx hb dX6_changeBowls_48 rfl hl (by decide) rfl (fun ls hl => ?_)
      refine lv_aload_n hx hb dX6_changeBowls_49 rfl (lv_at hl 1 rfl) ?_
      refine va_get (D := (dC, dI)) (ci := 6) (v := .ref (a 1)) (C := RX6) (T := TX6) (N := 23) hx hb hts inX6 hown hK.1 hP 0 rfl rfl 1 (by decide) (hts _ w_fieldLink_X6_7) (fun _ h9 => h9) rfl dX6_changeBowls_50 ?_
      refine lv_bipush (v := 60) hx hb dX6_changeBowls_53 (by decide) ?_
      refine lv_iload_n hx hb dX6_changeBowls_55 rfl (lv_at hl 2 rfl) ?_
      refine va_iast hx hb hK.1 hP hD hS 1 0 rfl rfl (i := (60 : Int32)) (x := p1) (show ixok (60 : Int32) 103 by decide) dX6_changeBowls_56 (fun H locs hP hD hS => ?_)
      have hP : va_P (dC, dI) vwCl (cM cyI a (M_set_s o8 (upd (M_s o8) (60 : Int32).toNatClampNeg p1))) H := hP
      have hD : va_D A (cM cyI a (M_set_s o8 (upd (M_s o8) (60 : Int32).toNatClampNeg p1))) := hD
      refine lv_iload_n hx hb dX6_changeBowls_57 rfl (lv_at hl 0 rfl) ?_
      exact W.iret (v := ((M_s o8) (60 : Int32).toNatClampNeg)) hx hb hr (fun t ht hW => ⟨⟨_, (M_set_s o8 (upd (M_s o8) (60 : Int32).toNatClampNeg p1)), rfl, Option.some.inj hF, by rw [ht]; exact hP, hD⟩, hS.F ht⟩) hS.2.2 dX6_changeBowls_58
    · have hF := itp c7 hF
      refine lv_iconst (v := 0) hx hb dX6_changeBowls_35 (by decide) ?_
      exact W.iret (v := (0 : Int32)) hx hb hr (fun t ht hW => ⟨⟨_, o4.2, rfl, Option.some.inj hF, by rw [ht]; exact hP, hD⟩, hS.F ht⟩) hS.2.2 dX6_changeBowls_36
  refine lv_if_ne (tgt := 14) hx hb dX6_changeBowls_7 (by decide) (fun c12 => ?_) (fun c12 => ?_)
  · have hF := itn c12 hF
    refine lv_aload_n hx hb dX6_changeBowls_14 rfl (lv_at hl 0 rfl) ?_
    refine va_get (D := (dC, dI)) (ci := 6) (v := .ref (a 1)) (C := RX6) (T := TX6) (N := 23) hx hb hts inX6 hown hK.1 hP 0 rfl rfl 1 (by decide) (hts _ w_fieldLink_X6_7) (fun _ h9 => h9) rfl dX6_changeBowls_15 ?_
    refine lv_iconst (v := 0) hx hb dX6_changeBowls_18 (by decide) ?_
    refine va_iald hx hb hK.1 hP 1 0 rfl rfl (i := (0 : Int32)) (show ixok (0 : Int32) 103 by decide) dX6_changeBowls_19 ?_
    refine lv_iconst (v := 1) hx hb dX6_changeBowls_20 (by decide) ?_
    refine lv_icmp_ne (tgt := 28) hx hb dX6_changeBowls_21 (by decide) (fun c14 => ?_) (fun c14 => ?_)
    · have hF := itn c14 hF
      refine lv_iconst (v := 0) hx hb dX6_changeBowls_28 (by decide) ?_
      exact hJ29 (0 : Int32) _ _ _ hP hD hS (lv_sub hl [0, 1] rfl) hF
    · have hF := itp c14 hF
      refine lv_iconst (v := 2) hx hb dX6_changeBowls_24 (by decide) ?_
      refine lv_goto (tgt := 29) hx hb dX6_changeBowls_25 (by decide) ?_
      exact hJ29 (2 : Int32) _ _ _ hP hD hS (lv_sub hl [0, 1] rfl) hF
  · have hF := itp c12 hF
    refine lv_iconst (v := 1) hx hb dX6_changeBowls_10 (by decide) ?_
    refine lv_goto (tgt := 29) hx hb dX6_changeBowls_11 (by decide) ?_
    exact hJ29 (1 : Int32) _ _ _ hP hD hS (lv_sub hl [0, 1] rfl) hF
theorem dX6_blows_0 : decode cX6_blows 0 = .ok (.aload_n 0, 1) := by decide +kernel
theorem dX6_blows_1 : decode cX6_blows 1 = .ok (.getfield 7, 3) := by decide +kernel
theorem dX6_blows_4 : decode cX6_blows 4 = .ok (.bipush 62, 2) := by decide +kernel
theorem dX6_blows_6 : decode cX6_blows 6 = .ok (.iaload, 1) := by decide +kernel
theorem dX6_blows_7 : decode cX6_blows 7 = .ok (.istore_n 2, 1) := by decide +kernel
theorem dX6_blows_8 : decode cX6_blows 8 = .ok (.aload_n 0, 1) := by decide +kernel
theorem dX6_blows_9 : decode cX6_blows 9 = .ok (.getfield 7, 3) := by decide +kernel
theorem dX6_blows_12 : decode cX6_blows 12 = .ok (.bipush 62, 2) := by decide +kernel
theorem dX6_blows_14 : decode cX6_blows 14 = .ok (.iload_n 1, 1) := by decide +kernel
theorem dX6_blows_15 : decode cX6_blows 15 = .ok (.iastore, 1) := by decide +kernel
theorem dX6_blows_16 : decode cX6_blows 16 = .ok (.iload_n 2, 1) := by decide +kernel
theorem dX6_blows_17 : decode cX6_blows 17 = .ok (.ireturn, 1) := by decide +kernel
def f_X6_blows (N : Nat) (v : MV) (p1 : Int32) : Option (Int32 × MV) :=
  some (((M_s v) (62 : Int32).toNatClampNeg), (M_set_s v (upd (M_s v) (62 : Int32).toNatClampNeg p1)))
set_option maxHeartbeats 4000000 in
set_option maxRecDepth 100000 in
theorem met_X6_blows (l : Launch) (dC : Nat → ClassId) (dI : Nat → Nat → Nat) (cyI cyO cyL : ClassId) (a : Nat → Nat) (sz : Nat) (N : Nat) (v : MV) (p1 : Int32) (out : Int32 × MV) (hF : f_X6_blows N v p1 = some out) : Met l yX6_blows (Cond.code yX6_blows cX6_blows 3 (some .int) :: wT) ({ frames := 0, cells := 0, slots := 0, locals := 0 } : Room) (wWr dC dI cyI cyO cyL [.ref (a 0), .int p1] (cM cyI a v) sz) (va_Qi (fun (r : Int32) (u : MV) => (r, u) = out) (fun u t => va_P (dC, dI) vwCl (cM cyI a u) t.heap ∧ va_D (va_A (cM cyI a v) sz) (cM cyI a u)) (va_A (cM cyI a v) sz)) 0 0 (va_A (cM cyI a v) sz) := by
  refine Met.ofW (cc := cX6_blows) (maxL := 3) (ret := (some .int)) (by decide) rfl ?_
  intro p e s m args below meth c s₁ B hml hv
  obtain ⟨rfl, hsz, hP, hK, hD0⟩ := hv
  have hx := B.exec
  have hb := B.bytes
  have hr := B.returns
  have hts0 := atoms_spec (ws := (Cond.code yX6_blows cX6_blows 3 (some .int) :: wT)) B.pre
  have hts := fun w h => hts0 w (List.mem_cons_of_mem _ h)
  clear hts0
  have hown : s.vm.findClass RX6 = some m.cls := findClass_of_methodNamed B.named
  have hlocks := B.notSynchronized
  subst hsz
  have hD := hD0.self (sz := s.heap.size)
  generalize hAe : va_A (cM cyI a v) s.heap.size = A at hD ⊢
  have hA : ∀ q : Nat, s.heap.size ≤ q → A q := fun q h => by rw [← hAe]; exact Or.inr h
  clear hD0
  have hS : va_S A s.heap s.heap [] := va_S.rf
  have hl := lv_entry [.ref (a 0), .int p1] (n := 3) (Nat.le_of_ble_eq_true rfl)
  rw [lg_entry_eq]
  generalize (lg_sl [.ref (a 0), .int p1] ++ List.replicate (3 - (lg_sl [.ref (a 0), .int p1]).length) Slot.unset).toArray = ls at hl ⊢
  have hl : lv_has ls 3 [(0, .ref (a 0)), (1, .int p1)] := hl
  unfold f_X6_blows at hF
  refine lv_aload_n hx hb dX6_blows_0 rfl (lv_at hl 0 rfl) ?_
  refine va_get (D := (dC, dI)) (ci := 6) (v := .ref (a 1)) (C := RX6) (T := TX6) (N := 23) hx hb hts inX6 hown hK.1 hP 0 rfl rfl 1 (by decide) (hts _ w_fieldLink_X6_7) (fun _ h9 => h9) rfl dX6_blows_1 ?_
  refine lv_bipush (v := 62) hx hb dX6_blows_4 (by decide) ?_
  refine va_iald hx hb hK.1 hP 1 0 rfl rfl (i := (62 : Int32)) (show ixok (62 : Int32) 103 by decide) dX6_blows_6 ?_
  refine lv_istore_n (lv' := [(2, .int ((M_s v) (62 : Int32).toNatClampNeg)), (0, .ref (a 0)), (1, .int p1)]) hx hb dX6_blows_7 rfl hl (by decide) rfl (fun ls hl => ?_)
  refine lv_aload_n hx hb dX6_blows_8 rfl (lv_at hl 1 rfl) ?_
  refine va_get (D := (dC, dI)) (ci := 6) (v := .ref (a 1)) (C := RX6) (T := TX6) (N := 23) hx hb hts inX6 hown hK.1 hP 0 rfl rfl 1 (by decide) (hts _ w_fieldLink_X6_7) (fun _ h9 => h9) rfl dX6_blows_9 ?_
  refine lv_bipush (v := 62) hx hb dX6_blows_12 (by decide) ?_
  refine lv_iload_n hx hb dX6_blows_14 rfl (lv_at hl 2 rfl) ?_
  refine va_iast hx hb hK.1 hP hD hS 1 0 rfl rfl (i := (62 : Int32)) (x := p1) (show ixok (62 : Int32) 103 by decide) dX6_blows_15 (fun H locs hP hD hS => ?_)
  have hP : va_P (dC, dI) vwCl (cM cyI a (M_set_s v (upd (M_s v) (62 : Int32).toNatClampNeg p1))) H := hP
  have hD : va_D A (cM cyI a (M_set_s v (upd (M_s v) (62 : Int32).toNatClampNeg p1))) := hD
  refine lv_iload_n hx hb dX6_blows_16 rfl (lv_at hl 0 rfl) ?_
  exact W.iret (v := ((M_s v) (62 : Int32).toNatClampNeg)) hx hb hr (fun t ht hW => ⟨⟨_, (M_set_s v (upd (M_s v) (62 : Int32).toNatClampNeg p1)), rfl, Option.some.inj hF, by rw [ht]; exact hP, hD⟩, hS.F ht⟩) hS.2.2 dX6_blows_17
theorem dX6_changeWind_0 : decode cX6_changeWind 0 = .ok (.aload_n 0, 1) := by decide +kernel
theorem dX6_changeWind_1 : decode cX6_changeWind 1 = .ok (.iload_n 1, 1) := by decide +kernel
theorem dX6_changeWind_2 : decode cX6_changeWind 2 = .ok (.bipush (-5), 2) := by decide +kernel
theorem dX6_changeWind_4 : decode cX6_changeWind 4 = .ok (.iconst 5, 1) := by decide +kernel
theorem dX6_changeWind_5 : decode cX6_changeWind 5 = .ok (.invokestatic 35, 3) := by decide +kernel
theorem dX6_changeWind_8 : decode cX6_changeWind 8 = .ok (.ifCond .eq 7, 3) := by decide +kernel
theorem dX6_changeWind_11 : decode cX6_changeWind 11 = .ok (.iconst 0, 1) := by decide +kernel
theorem dX6_changeWind_12 : decode cX6_changeWind 12 = .ok (.goto 4, 3) := by decide +kernel
theorem dX6_changeWind_15 : decode cX6_changeWind 15 = .ok (.iconst 1, 1) := by decide +kernel
theorem dX6_changeWind_16 : decode cX6_changeWind 16 = .ok (.invokevirtual 107, 3) := by decide +kernel
theorem dX6_changeWind_19 : decode cX6_changeWind 19 = .ok (.ifCond .ne 5, 3) := by decide +kernel
theorem dX6_changeWind_22 : decode cX6_changeWind 22 = .ok (.iconst 0, 1) := by decide +kernel
theorem dX6_changeWind_23 : decode cX6_changeWind 23 = .ok (.ireturn, 1) := by decide +kernel
theorem dX6_changeWind_24 : decode cX6_changeWind 24 = .ok (.aload_n 0, 1) := by decide +kernel
theorem dX6_changeWind_25 : decode cX6_changeWind 25 = .ok (.invokevirtual 111, 3) := by decide +kernel
theorem dX6_changeWind_28 : decode cX6_changeWind 28 = .ok (.aload_n 0, 1) := by decide +kernel
theorem dX6_changeWind_29 : decode cX6_changeWind 29 = .ok (.iload_n 1, 1) := by decide +kernel
theorem dX6_changeWind_30 : decode cX6_changeWind 30 = .ok (.invokevirtual 132, 3) := by decide +kernel
theorem dX6_changeWind_33 : decode cX6_changeWind 33 = .ok (.ireturn, 1) := by decide +kernel
def f_X6_changeWind (N : Nat) (v : MV) (p1 : Int32) : Option (Int32 × MV) :=
  (f_X6_in N p1 (-5 : Int32) (5 : Int32)).bind (fun o1 => jn (fun (s16 : Int32) => (f_X6_holds N v s16).bind (fun o4 => (if o4.1 = 0 then some ((0 : Int32), o4.2) else (f_X6_save N o4.2).bind (fun o8 => (f_X6_blows N o8 p1).bind (fun o10 => some (o10.1, o10.2)))))) (fun (j16 : (Int32) → Option (Int32 × MV)) => (if o1 = 0 then j16 (1 : Int32) else j16 (0 : Int32))))
set_option maxHeartbeats 4000000 in
set_option maxRecDepth 100000 in
theorem met_X6_changeWind (l : Launch) (dC : Nat → ClassId) (dI : Nat → Nat → Nat) (cyI cyO cyL : ClassId) (a : Nat → Nat) (sz : Nat) (N : Nat) (v : MV) (p1 : Int32) (out : Int32 × MV) (hF : f_X6_changeWind N v p1 = some out) : Met l yX6_changeWind (Cond.code yX6_changeWind cX6_changeWind 2 (some .int) :: wT) ({ frames := 1, cells := 0, slots := 0, locals := 22 } : Room) (wWr dC dI cyI cyO cyL [.ref (a 0), .int p1] (cM cyI a v) sz) (va_Qi (fun (r : Int32) (u : MV) => (r, u) = out) (fun u t => va_P (dC, dI) vwCl (cM cyI a u) t.heap ∧ va_D (va_A (cM cyI a v) sz) (cM cyI a u)) (va_A (cM cyI a v) sz)) 0 0 (va_A (cM cyI a v) sz) := by
  refine Met.ofW (cc := cX6_changeWind) (maxL := 2) (ret := (some .int)) (by decide) rfl ?_
  intro p e s m args below meth c s₁ B hml hv
  obtain ⟨rfl, hsz, hP, hK, hD0⟩ := hv
  have hx := B.exec
  have hb := B.bytes
  have hr := B.returns
  have hts0 := atoms_spec (ws := (Cond.code yX6_changeWind cX6_changeWind 2 (some .int) :: wT)) B.pre
  have hts := fun w h => hts0 w (List.mem_cons_of_mem _ h)
  clear hts0
  have hown : s.vm.findClass RX6 = some m.cls := findClass_of_methodNamed B.named
  have hlocks := B.notSynchronized
  subst hsz
  have hD := hD0.self (sz := s.heap.size)
  generalize hAe : va_A (cM cyI a v) s.heap.size = A at hD ⊢
  have hA : ∀ q : Nat, s.heap.size ≤ q → A q := fun q h => by rw [← hAe]; exact Or.inr h
  clear hD0
  have hS : va_S A s.heap s.heap [] := va_S.rf
  have hl := lv_entry [.ref (a 0), .int p1] (n := 2) (Nat.le_of_ble_eq_true rfl)
  rw [lg_entry_eq]
  generalize (lg_sl [.ref (a 0), .int p1] ++ List.replicate (2 - (lg_sl [.ref (a 0), .int p1]).length) Slot.unset).toArray = ls at hl ⊢
  have hl : lv_has ls 2 [(0, .ref (a 0)), (1, .int p1)] := hl
  unfold f_X6_changeWind at hF
  refine lv_aload_n hx hb dX6_changeWind_0 rfl (lv_at hl 0 rfl) ?_
  refine lv_iload_n hx hb dX6_changeWind_1 rfl (lv_at hl 1 rfl) ?_
  refine lv_bipush (v := -5) hx hb dX6_changeWind_2 (by decide) ?_
  refine lv_iconst (v := 5) hx hb dX6_changeWind_4 (by decide) ?_
  obtain ⟨o1, h2, hF⟩ := obd hF
  refine wcRSi (As := [.int p1, .int (-5 : Int32), .int (5 : Int32)]) (rest := [.ref (a 0)]) ⟨hx, hb, hml, hown, hts⟩ (met_X6_in l dC dI cyI cyO cyL  N  p1 (-5 : Int32) (5 : Int32) o1 h2) (va_cwS 3 hts (gS w_methodLink_X6_35 w_static_X6_in w_initialized_X6 w_code_X6_in) rfl rfl rfl (by decide +kernel) ⟨Nat.le_of_ble_eq_true rfl, Nat.le_of_ble_eq_true rfl⟩) hP hK [] rfl rfl hl.1 (Nat.le_of_ble_eq_true rfl) dX6_changeWind_5 ⟨Nat.le_of_ble_eq_true rfl, Nat.le_of_ble_eq_true rfl⟩ hS (fun r H locs hw hP hS => ?_)
  obtain ⟨hw, hz3⟩ := hw
  have hw := hw.symm
  subst hw
  obtain ⟨j16, hj16, hF⟩ := jn_use hF
  have hJ16 : ∀ (s16 : Int32) (H : Heap) (locs : List Loc) (ls : Array Slot) (hz_16_s1 : b01 s16), va_P (dC, dI) vwCl (cM cyI a v) H → va_D A (cM cyI a v) → va_S A s.heap H locs → lv_has ls 2 [(0, .ref (a 0)), (1, .int p1)] → j16 s16 = some out → W p l e (headSpec (Cond.code yX6_changeWind cX6_changeWind 2 (some .int) :: wT) ({ frames := 1, cells := 0, slots := 0, locals := 22 } : Room)).room s m ([.ref (a 0), .int p1] : List Value).toArray below meth c H locs 0 0 (MQ below (va_Qi (fun (r : Int32) (u : MV) => (r, u) = out) (fun u t => va_P (dC, dI) vwCl (cM cyI a u) t.heap ∧ va_D A (cM cyI a u)) A) ([.ref (a 0), .int p1] : List Value).toArray s 0 0 A) (F0 m 16 ls [.int s16, .ref (a 0)]) := by
    intro s16 H locs ls hz_16_s1 hP hD hS hl hF
    have hF := (congrFun hj16 s16).symm.trans hF
    obtain ⟨o4, h5, hF⟩ := obd hF
    refine wcWVi (As := [.int s16]) (rest := []) (wr := []) (b := (a 0)) ⟨hx, hb, hml, hown, hts⟩ (met_X6_holds l dC dI cyI cyO cyL a _ N v s16 o4 h5) (cwV 1 hts (gV w_methodLink_X6_107 w_instanceMethod_X6_holds w_selects_X6_holds w_initialized_X6 w_code_X6_holds) rfl rfl rfl (by decide +kernel) ⟨Nat.le_of_ble_eq_true rfl, Nat.le_of_ble_eq_true rfl⟩) (va_recv hK.1 hP (ci := 6) (q0 := 0) rfl rfl) hP hD hK [0, 1, 2, 3, 4, 5, 6, 7] [] rfl rfl (by decide) (by decide) (by decide) rfl hl.1 (Nat.le_of_ble_eq_true rfl) dX6_changeWind_16 ⟨Nat.le_of_ble_eq_true rfl, Nat.le_of_ble_eq_true rfl⟩ hS hA (fun r u H locs hw hP hD hS => ?_)
    obtain ⟨hw, hz6⟩ := hw
    obtain rfl : r = o4.1 := congrArg Prod.fst hw
    obtain rfl : u = o4.2 := congrArg Prod.snd hw
    clear hw
    have hP : va_P (dC, dI) vwCl (cM cyI a o4.2) H := hP
    have hD : va_D A (cM cyI a o4.2) := hD
    refine lv_if_ne (tgt := 24) hx hb dX6_changeWind_19 (by decide) (fun c7 => ?_) (fun c7 => ?_)
    · have hF := itn c7 hF
      refine lv_aload_n hx hb dX6_changeWind_24 rfl (lv_at hl 0 rfl) ?_
      obtain ⟨o8, h9, hF⟩ := obd hF
      refine wcWVv (As := []) (rest := []) (wr := []) (b := (a 0)) ⟨hx, hb, hml, hown, hts⟩ (met_X6_save l dC dI cyI cyO cyL a _ N o4.2  o8 h9) (cwV 0 hts (gV w_methodLink_X6_111 w_instanceMethod_X6_save w_selects_X6_save w_initialized_X6 w_code_X6_save) rfl rfl rfl (by decide +kernel) ⟨Nat.le_of_ble_eq_true rfl, Nat.le_of_ble_eq_true rfl⟩) (va_recv hK.1 hP (ci := 6) (q0 := 0) rfl rfl) hP hD hK [0, 1, 2, 3, 4, 5, 6, 7] [] rfl rfl (by decide) (by decide) (by decide) rfl hl.1 (Nat.le_of_ble_eq_true rfl) dX6_changeWind_25 ⟨Nat.le_of_ble_eq_true rfl, Nat.le_of_ble_eq_true rfl⟩ hS hA (fun u H locs hw hP hD hS => ?_)
      have hw := hw.symm
      subst hw
      have hP : va_P (dC, dI) vwCl (cM cyI a o8) H := hP
      have hD : va_D A (cM cyI a o8) := hD
      refine lv_aload_n hx hb dX6_changeWind_28 rfl (lv_at hl 0 rfl) ?_
      refine lv_iload_n hx hb dX6_changeWind_29 rfl (lv_at hl 1 rfl) ?_
      obtain ⟨o10, h11, hF⟩ := obd hF
      refine wcWVi (As := [.int p1]) (rest := []) (wr := []) (b := (a 0)) ⟨hx, hb, hml, hown, hts⟩ (met_X6_blows l dC dI cyI cyO cyL a _ N o8 p1 o10 h11) (cwV 1 hts (gV w_methodLink_X6_132 w_instanceMethod_X6_blows w_selects_X6_blows w_initialized_X6 w_code_X6_blows) rfl rfl rfl (by decide +kernel) ⟨Nat.le_of_ble_eq_true rfl, Nat.le_of_ble_eq_true rfl⟩) (va_recv hK.1 hP (ci := 6) (q0 := 0) rfl rfl) hP hD hK [0, 1, 2, 3, 4, 5, 6, 7] [] rfl rfl (by decide) (by decide) (by decide) rfl hl.1 (Nat.le_of_ble_eq_true rfl) dX6_changeWind_30 ⟨Nat.le_of_ble_eq_true rfl, Nat.le_of_ble_eq_true rfl⟩ hS hA (fun r u H locs hw hP hD hS => ?_)
      obtain rfl : r = o10.1 := congrArg Prod.fst hw
      obtain rfl : u = o10.2 := congrArg Prod.snd hw
      clear hw
      have hP : va_P (dC, dI) vwCl (cM cyI a o10.2) H := hP
      have hD : va_D A (cM cyI a o10.2) := hD
      exact W.iret (v := o10.1) hx hb hr (fun t ht hW => ⟨⟨_, o10.2, rfl, Option.some.inj hF, by rw [ht]; exact hP, hD⟩, hS.F ht⟩) hS.2.2 dX6_changeWind_33
    · have hF := itp c7 hF
      refine lv_iconst (v := 0) hx hb dX6_changeWind_22 (by decide) ?_
      exact W.iret (v := (0 : Int32)) hx hb hr (fun t ht hW => ⟨⟨_, o4.2, rfl, Option.some.inj hF, by rw [ht]; exact hP, hD⟩, hS.F ht⟩) hS.2.2 dX6_changeWind_23
  refine lv_if_eq (tgt := 15) hx hb dX6_changeWind_8 (by decide) (fun c12 => ?_) (fun c12 => ?_)
  · have hF := itp c12 hF
    refine lv_iconst (v := 1) hx hb dX6_changeWind_15 (by decide) ?_
    exact hJ16 (1 : Int32) _ _ _ b01_1 hP hD hS (lv_sub hl [0, 1] rfl) hF
  · have hF := itn c12 hF
    refine lv_iconst (v := 0) hx hb dX6_changeWind_11 (by decide) ?_
    refine lv_goto (tgt := 16) hx hb dX6_changeWind_12 (by decide) ?_
    exact hJ16 (0 : Int32) _ _ _ b01_0 hP hD hS (lv_sub hl [0, 1] rfl) hF
theorem dX6_turnBack_0 : decode cX6_turnBack 0 = .ok (.aload_n 0, 1) := by decide +kernel
theorem dX6_turnBack_1 : decode cX6_turnBack 1 = .ok (.iconst 0, 1) := by decide +kernel
theorem dX6_turnBack_2 : decode cX6_turnBack 2 = .ok (.putfield 31, 3) := by decide +kernel
theorem dX6_turnBack_5 : decode cX6_turnBack 5 = .ok (.aload_n 0, 1) := by decide +kernel
theorem dX6_turnBack_6 : decode cX6_turnBack 6 = .ok (.invokevirtual 111, 3) := by decide +kernel
theorem dX6_turnBack_9 : decode cX6_turnBack 9 = .ok (.aload_n 0, 1) := by decide +kernel
theorem dX6_turnBack_10 : decode cX6_turnBack 10 = .ok (.getfield 7, 3) := by decide +kernel
theorem dX6_turnBack_13 : decode cX6_turnBack 13 = .ok (.bipush 63, 2) := by decide +kernel
theorem dX6_turnBack_15 : decode cX6_turnBack 15 = .ok (.iconst 1, 1) := by decide +kernel
theorem dX6_turnBack_16 : decode cX6_turnBack 16 = .ok (.aload_n 0, 1) := by decide +kernel
theorem dX6_turnBack_17 : decode cX6_turnBack 17 = .ok (.getfield 7, 3) := by decide +kernel
theorem dX6_turnBack_20 : decode cX6_turnBack 20 = .ok (.bipush 63, 2) := by decide +kernel
theorem dX6_turnBack_22 : decode cX6_turnBack 22 = .ok (.iaload, 1) := by decide +kernel
theorem dX6_turnBack_23 : decode cX6_turnBack 23 = .ok (.isub, 1) := by decide +kernel
theorem dX6_turnBack_24 : decode cX6_turnBack 24 = .ok (.iastore, 1) := by decide +kernel
theorem dX6_turnBack_25 : decode cX6_turnBack 25 = .ok (.aload_n 0, 1) := by decide +kernel
theorem dX6_turnBack_26 : decode cX6_turnBack 26 = .ok (.invokevirtual 75, 3) := by decide +kernel
theorem dX6_turnBack_29 : decode cX6_turnBack 29 = .ok (.aload_n 0, 1) := by decide +kernel
theorem dX6_turnBack_30 : decode cX6_turnBack 30 = .ok (.getfield 7, 3) := by decide +kernel
theorem dX6_turnBack_33 : decode cX6_turnBack 33 = .ok (.bipush 63, 2) := by decide +kernel
theorem dX6_turnBack_35 : decode cX6_turnBack 35 = .ok (.iaload, 1) := by decide +kernel
theorem dX6_turnBack_36 : decode cX6_turnBack 36 = .ok (.iconst 1, 1) := by decide +kernel
theorem dX6_turnBack_37 : decode cX6_turnBack 37 = .ok (.if_icmp .ne 7, 3) := by decide +kernel
theorem dX6_turnBack_40 : decode cX6_turnBack 40 = .ok (.iconst 1, 1) := by decide +kernel
theorem dX6_turnBack_41 : decode cX6_turnBack 41 = .ok (.goto 4, 3) := by decide +kernel
theorem dX6_turnBack_44 : decode cX6_turnBack 44 = .ok (.iconst 0, 1) := by decide +kernel
theorem dX6_turnBack_45 : decode cX6_turnBack 45 = .ok (.ireturn, 1) := by decide +kernel
def f_X6_turnBack (N : Nat) (v : MV) : Option (Int32 × MV) :=
  (f_X6_save N (M_set_thrown v (0 : Int32))).bind (fun o1 => (f_X6_puts N (M_set_s o1 (upd (M_s o1) (63 : Int32).toNatClampNeg ((1 : Int32) - ((M_s o1) (63 : Int32).toNatClampNeg))))).bind (fun o5 => jn (fun (s45 : Int32) => some (s45, o5)) (fun (j45 : (Int32) → Option (Int32 × MV)) => (if ((M_s o5) (63 : Int32).toNatClampNeg) = (1 : Int32) then j45 (1 : Int32) else j45 (0 : Int32)))))
set_option maxHeartbeats 4000000 in
set_option maxRecDepth 100000 in
theorem met_X6_turnBack (l : Launch) (dC : Nat → ClassId) (dI : Nat → Nat → Nat) (cyI cyO cyL : ClassId) (a : Nat → Nat) (sz : Nat) (N : Nat) (v : MV) (out : Int32 × MV) (hF : f_X6_turnBack N v = some out) : Met l yX6_turnBack (Cond.code yX6_turnBack cX6_turnBack 1 (some .boolean) :: wT) ({ frames := 3, cells := 0, slots := 0, locals := 67 } : Room) (wWr dC dI cyI cyO cyL [.ref (a 0)] (cM cyI a v) sz) (va_Qi (fun (r : Int32) (u : MV) => (r, u) = out ∧ b01 r) (fun u t => va_P (dC, dI) vwCl (cM cyI a u) t.heap ∧ va_D (va_A (cM cyI a v) sz) (cM cyI a u)) (va_A (cM cyI a v) sz)) 0 0 (va_A (cM cyI a v) sz) := by
  refine Met.ofW (cc := cX6_turnBack) (maxL := 1) (ret := (some .boolean)) (by decide) rfl ?_
  intro p e s m args below meth c s₁ B hml hv
  obtain ⟨rfl, hsz, hP, hK, hD0⟩ := hv
  have hx := B.exec
  have hb := B.bytes
  have hr := B.returns
  have hts0 := atoms_spec (ws := (Cond.code yX6_turnBack cX6_turnBack 1 (some .boolean) :: wT)) B.pre
  have hts := fun w h => hts0 w (List.mem_cons_of_mem _ h)
  clear hts0
  have hown : s.vm.findClass RX6 = some m.cls := findClass_of_methodNamed B.named
  have hlocks := B.notSynchronized
  subst hsz
  have hD := hD0.self (sz := s.heap.size)
  generalize hAe : va_A (cM cyI a v) s.heap.size = A at hD ⊢
  have hA : ∀ q : Nat, s.heap.size ≤ q → A q := fun q h => by rw [← hAe]; exact Or.inr h
  clear hD0
  have hS : va_S A s.heap s.heap [] := va_S.rf
  have hl := lv_entry [.ref (a 0)] (n := 1) (Nat.le_of_ble_eq_true rfl)
  rw [lg_entry_eq]
  generalize (lg_sl [.ref (a 0)] ++ List.replicate (1 - (lg_sl [.ref (a 0)]).length) Slot.unset).toArray = ls at hl ⊢
  have hl : lv_has ls 1 [(0, .ref (a 0))] := hl
  unfold f_X6_turnBack at hF
  refine lv_aload_n hx hb dX6_turnBack_0 rfl (lv_at hl 0 rfl) ?_
  refine lv_iconst (v := 0) hx hb dX6_turnBack_1 (by decide) ?_
  refine va_put (D := (dC, dI)) (ci := 6) (v := .int (0 : Int32)) (ty := .int) (C := RX6) (T := TX6) (N := 23) hx hb hts inX6 tyX6 tyX6_ok nmX6 hown hK.1 hP hD hS 0 rfl rfl 0 (by decide) (hts _ w_fieldLink_X6_31) (fun _ h9 => h9) rfl (by decide +kernel) rfl rfl (Nat.le_of_ble_eq_true rfl) dX6_turnBack_2 (fun H locs hP hD hS => ?_)
  have hP : va_P (dC, dI) vwCl (cM cyI a (M_set_thrown v (0 : Int32))) H := hP
  have hD : va_D A (cM cyI a (M_set_thrown v (0 : Int32))) := hD
  refine lv_aload_n hx hb dX6_turnBack_5 rfl (lv_at hl 0 rfl) ?_
  obtain ⟨o1, h2, hF⟩ := obd hF
  refine wcWVv (As := []) (rest := []) (wr := []) (b := (a 0)) ⟨hx, hb, hml, hown, hts⟩ (met_X6_save l dC dI cyI cyO cyL a _ N (M_set_thrown v (0 : Int32))  o1 h2) (cwV 0 hts (gV w_methodLink_X6_111 w_instanceMethod_X6_save w_selects_X6_save w_initialized_X6 w_code_X6_save) rfl rfl rfl (by decide +kernel) ⟨Nat.le_of_ble_eq_true rfl, Nat.le_of_ble_eq_true rfl⟩) (va_recv hK.1 hP (ci := 6) (q0 := 0) rfl rfl) hP hD hK [0, 1, 2, 3, 4, 5, 6, 7] [] rfl rfl (by decide) (by decide) (by decide) rfl hl.1 (Nat.le_of_ble_eq_true rfl) dX6_turnBack_6 ⟨Nat.le_of_ble_eq_true rfl, Nat.le_of_ble_eq_true rfl⟩ hS hA (fun u H locs hw hP hD hS => ?_)
  have hw := hw.symm
  subst hw
  have hP : va_P (dC, dI) vwCl (cM cyI a o1) H := hP
  have hD : va_D A (cM cyI a o1) := hD
  refine lv_aload_n hx hb dX6_turnBack_9 rfl (lv_at hl 0 rfl) ?_
  refine va_get (D := (dC, dI)) (ci := 6) (v := .ref (a 1)) (C := RX6) (T := TX6) (N := 23) hx hb hts inX6 hown hK.1 hP 0 rfl rfl 1 (by decide) (hts _ w_fieldLink_X6_7) (fun _ h9 => h9) rfl dX6_turnBack_10 ?_
  refine lv_bipush (v := 63) hx hb dX6_turnBack_13 (by decide) ?_
  refine lv_iconst (v := 1) hx hb dX6_turnBack_15 (by decide) ?_
  refine lv_aload_n hx hb dX6_turnBack_16 rfl (lv_at hl 0 rfl) ?_
  refine va_get (D := (dC, dI)) (ci := 6) (v := .ref (a 1)) (C := RX6) (T := TX6) (N := 23) hx hb hts inX6 hown hK.1 hP 0 rfl rfl 1 (by decide) (hts _ w_fieldLink_X6_7) (fun _ h9 => h9) rfl dX6_turnBack_17 ?_
  refine lv_bipush (v := 63) hx hb dX6_turnBack_20 (by decide) ?_
  refine va_iald hx hb hK.1 hP 1 0 rfl rfl (i := (63 : Int32)) (show ixok (63 : Int32) 103 by decide) dX6_turnBack_22 ?_
  refine lv_isub hx hb dX6_turnBack_23 ?_
  refine va_iast hx hb hK.1 hP hD hS 1 0 rfl rfl (i := (63 : Int32)) (x := ((1 : Int32) - ((M_s o1) (63 : Int32).toNatClampNeg))) (show ixok (63 : Int32) 103 by decide) dX6_turnBack_24 (fun H locs hP hD hS => ?_)
  have hP : va_P (dC, dI) vwCl (cM cyI a (M_set_s o1 (upd (M_s o1) (63 : Int32).toNatClampNeg ((1 : Int32) - ((M_s o1) (63 : Int32).toNatClampNeg))))) H := hP
  have hD : va_D A (cM cyI a (M_set_s o1 (upd (M_s o1) (63 : Int32).toNatClampNeg ((1 : Int32) - ((M_s o1) (63 : Int32).toNatClampNeg))))) := hD
  refine lv_aload_n hx hb dX6_turnBack_25 rfl (lv_at hl 0 rfl) ?_
  obtain ⟨o5, h6, hF⟩ := obd hF
  refine wcWVv (As := []) (rest := []) (wr := []) (b := (a 0)) ⟨hx, hb, hml, hown, hts⟩ (met_X6_puts l dC dI cyI cyO cyL a _ N (M_set_s o1 (upd (M_s o1) (63 : Int32).toNatClampNeg ((1 : Int32) - ((M_s o1) (63 : Int32).toNatClampNeg))))  o5 h6) (cwV 0 hts (gV w_methodLink_X6_75 w_instanceMethod_X6_puts w_selects_X6_puts w_initialized_X6 w_code_X6_puts) rfl rfl rfl (by decide +kernel) ⟨Nat.le_of_ble_eq_true rfl, Nat.le_of_ble_eq_true rfl⟩) (va_recv hK.1 hP (ci := 6) (q0 := 0) rfl rfl) hP hD hK [0, 1, 2, 3, 4, 5, 6, 7] [] rfl rfl (by decide) (by decide) (by decide) rfl hl.1 (Nat.le_of_ble_eq_true rfl) dX6_turnBack_26 ⟨Nat.le_of_ble_eq_true rfl, Nat.le_of_ble_eq_true rfl⟩ hS hA (fun u H locs hw hP hD hS => ?_)
  have hw := hw.symm
  subst hw
  have hP : va_P (dC, dI) vwCl (cM cyI a o5) H := hP
  have hD : va_D A (cM cyI a o5) := hD
  refine lv_aload_n hx hb dX6_turnBack_29 rfl (lv_at hl 0 rfl) ?_
  refine va_get (D := (dC, dI)) (ci := 6) (v := .ref (a 1)) (C := RX6) (T := TX6) (N := 23) hx hb hts inX6 hown hK.1 hP 0 rfl rfl 1 (by decide) (hts _ w_fieldLink_X6_7) (fun _ h9 => h9) rfl dX6_turnBack_30 ?_
  refine lv_bipush (v := 63) hx hb dX6_turnBack_33 (by decide) ?_
  refine va_iald hx hb hK.1 hP 1 0 rfl rfl (i := (63 : Int32)) (show ixok (63 : Int32) 103 by decide) dX6_turnBack_35 ?_
  refine lv_iconst (v := 1) hx hb dX6_turnBack_36 (by decide) ?_
  obtain ⟨j45, hj45, hF⟩ := jn_use hF
  have hJ45 : ∀ (s45 : Int32) (H : Heap) (locs : List Loc) (ls : Array Slot) (hz_45_s0 : b01 s45), va_P (dC, dI) vwCl (cM cyI a o5) H → va_D A (cM cyI a o5) → va_S A s.heap H locs → lv_has ls 1 [] → j45 s45 = some out → W p l e (headSpec (Cond.code yX6_turnBack cX6_turnBack 1 (some .boolean) :: wT) ({ frames := 3, cells := 0, slots := 0, locals := 67 } : Room)).room s m ([.ref (a 0)] : List Value).toArray below meth c H locs 0 0 (MQ below (va_Qi (fun (r : Int32) (u : MV) => (r, u) = out ∧ b01 r) (fun u t => va_P (dC, dI) vwCl (cM cyI a u) t.heap ∧ va_D A (cM cyI a u)) A) ([.ref (a 0)] : List Value).toArray s 0 0 A) (F0 m 45 ls [.int s45]) := by
    intro s45 H locs ls hz_45_s0 hP hD hS hl hF
    have hF := (congrFun hj45 s45).symm.trans hF
    exact W.zret (ty := .boolean) (v := s45) hx hb hr (b01_n hz_45_s0) (fun t ht hW => ⟨⟨_, o5, rfl, ⟨Option.some.inj hF, hz_45_s0⟩, by rw [ht]; exact hP, hD⟩, hS.F ht⟩) hS.2.2 dX6_turnBack_45
  refine lv_icmp_ne (tgt := 44) hx hb dX6_turnBack_37 (by decide) (fun c8 => ?_) (fun c8 => ?_)
  · have hF := itn c8 hF
    refine lv_iconst (v := 0) hx hb dX6_turnBack_44 (by decide) ?_
    exact hJ45 (0 : Int32) _ _ _ b01_0 hP hD hS (lv_sub hl [] rfl) hF
  · have hF := itp c8 hF
    refine lv_iconst (v := 1) hx hb dX6_turnBack_40 (by decide) ?_
    refine lv_goto (tgt := 45) hx hb dX6_turnBack_41 (by decide) ?_
    exact hJ45 (1 : Int32) _ _ _ b01_1 hP hD hS (lv_sub hl [] rfl) hF
theorem dX6_turnTwice_0 : decode cX6_turnTwice 0 = .ok (.aload_n 0, 1) := by decide +kernel
theorem dX6_turnTwice_1 : decode cX6_turnTwice 1 = .ok (.iconst 0, 1) := by decide +kernel
theorem dX6_turnTwice_2 : decode cX6_turnTwice 2 = .ok (.putfield 31, 3) := by decide +kernel
theorem dX6_turnTwice_5 : decode cX6_turnTwice 5 = .ok (.aload_n 0, 1) := by decide +kernel
theorem dX6_turnTwice_6 : decode cX6_turnTwice 6 = .ok (.invokevirtual 111, 3) := by decide +kernel
theorem dX6_turnTwice_9 : decode cX6_turnTwice 9 = .ok (.aload_n 0, 1) := by decide +kernel
theorem dX6_turnTwice_10 : decode cX6_turnTwice 10 = .ok (.getfield 7, 3) := by decide +kernel
theorem dX6_turnTwice_13 : decode cX6_turnTwice 13 = .ok (.bipush 64, 2) := by decide +kernel
theorem dX6_turnTwice_15 : decode cX6_turnTwice 15 = .ok (.iconst 1, 1) := by decide +kernel
theorem dX6_turnTwice_16 : decode cX6_turnTwice 16 = .ok (.aload_n 0, 1) := by decide +kernel
theorem dX6_turnTwice_17 : decode cX6_turnTwice 17 = .ok (.getfield 7, 3) := by decide +kernel
theorem dX6_turnTwice_20 : decode cX6_turnTwice 20 = .ok (.bipush 64, 2) := by decide +kernel
theorem dX6_turnTwice_22 : decode cX6_turnTwice 22 = .ok (.iaload, 1) := by decide +kernel
theorem dX6_turnTwice_23 : decode cX6_turnTwice 23 = .ok (.isub, 1) := by decide +kernel
theorem dX6_turnTwice_24 : decode cX6_turnTwice 24 = .ok (.iastore, 1) := by decide +kernel
theorem dX6_turnTwice_25 : decode cX6_turnTwice 25 = .ok (.aload_n 0, 1) := by decide +kernel
theorem dX6_turnTwice_26 : decode cX6_turnTwice 26 = .ok (.getfield 7, 3) := by decide +kernel
theorem dX6_turnTwice_29 : decode cX6_turnTwice 29 = .ok (.bipush 64, 2) := by decide +kernel
theorem dX6_turnTwice_31 : decode cX6_turnTwice 31 = .ok (.iaload, 1) := by decide +kernel
theorem dX6_turnTwice_32 : decode cX6_turnTwice 32 = .ok (.iconst 1, 1) := by decide +kernel
theorem dX6_turnTwice_33 : decode cX6_turnTwice 33 = .ok (.if_icmp .ne 7, 3) := by decide +kernel
theorem dX6_turnTwice_36 : decode cX6_turnTwice 36 = .ok (.iconst 1, 1) := by decide +kernel
theorem dX6_turnTwice_37 : decode cX6_turnTwice 37 = .ok (.goto 4, 3) := by decide +kernel
theorem dX6_turnTwice_40 : decode cX6_turnTwice 40 = .ok (.iconst 0, 1) := by decide +kernel
theorem dX6_turnTwice_41 : decode cX6_turnTwice 41 = .ok (.ireturn, 1) := by decide +kernel
def f_X6_turnTwice (N : Nat) (v : MV) : Option (Int32 × MV) :=
  (f_X6_save N (M_set_thrown v (0 : Int32))).bind (fun o1 => jn (fun (s41 : Int32) => some (s41, (M_set_s o1 (upd (M_s o1) (64 : Int32).toNatClampNeg ((1 : Int32) - ((M_s o1) (64 : Int32).toNatClampNeg)))))) (fun (j41 : (Int32) → Option (Int32 × MV)) => (if ((upd (M_s o1) (64 : Int32).toNatClampNeg ((1 : Int32) - ((M_s o1) (64 : Int32).toNatClampNeg))) (64 : Int32).toNatClampNeg) = (1 : Int32) then j41 (1 : Int32) else j41 (0 : Int32))))
set_option maxHeartbeats 4000000 in
set_option maxRecDepth 100000 in
theorem met_X6_turnTwice (l : Launch) (dC : Nat → ClassId) (dI : Nat → Nat → Nat) (cyI cyO cyL : ClassId) (a : Nat → Nat) (sz : Nat) (N : Nat) (v : MV) (out : Int32 × MV) (hF : f_X6_turnTwice N v = some out) : Met l yX6_turnTwice (Cond.code yX6_turnTwice cX6_turnTwice 1 (some .boolean) :: wT) ({ frames := 1, cells := 0, slots := 0, locals := 21 } : Room) (wWr dC dI cyI cyO cyL [.ref (a 0)] (cM cyI a v) sz) (va_Qi (fun (r : Int32) (u : MV) => (r, u) = out ∧ b01 r) (fun u t => va_P (dC, dI) vwCl (cM cyI a u) t.heap ∧ va_D (va_A (cM cyI a v) sz) (cM cyI a u)) (va_A (cM cyI a v) sz)) 0 0 (va_A (cM cyI a v) sz) := by
  refine Met.ofW (cc := cX6_turnTwice) (maxL := 1) (ret := (some .boolean)) (by decide) rfl ?_
  intro p e s m args below meth c s₁ B hml hv
  obtain ⟨rfl, hsz, hP, hK, hD0⟩ := hv
  have hx := B.exec
  have hb := B.bytes
  have hr := B.returns
  have hts0 := atoms_spec (ws := (Cond.code yX6_turnTwice cX6_turnTwice 1 (some .boolean) :: wT)) B.pre
  have hts := fun w h => hts0 w (List.mem_cons_of_mem _ h)
  clear hts0
  have hown : s.vm.findClass RX6 = some m.cls := findClass_of_methodNamed B.named
  have hlocks := B.notSynchronized
  subst hsz
  have hD := hD0.self (sz := s.heap.size)
  generalize hAe : va_A (cM cyI a v) s.heap.size = A at hD ⊢
  have hA : ∀ q : Nat, s.heap.size ≤ q → A q := fun q h => by rw [← hAe]; exact Or.inr h
  clear hD0
  have hS : va_S A s.heap s.heap [] := va_S.rf
  have hl := lv_entry [.ref (a 0)] (n := 1) (Nat.le_of_ble_eq_true rfl)
  rw [lg_entry_eq]
  generalize (lg_sl [.ref (a 0)] ++ List.replicate (1 - (lg_sl [.ref (a 0)]).length) Slot.unset).toArray = ls at hl ⊢
  have hl : lv_has ls 1 [(0, .ref (a 0))] := hl
  unfold f_X6_turnTwice at hF
  refine lv_aload_n hx hb dX6_turnTwice_0 rfl (lv_at hl 0 rfl) ?_
  refine lv_iconst (v := 0) hx hb dX6_turnTwice_1 (by decide) ?_
  refine va_put (D := (dC, dI)) (ci := 6) (v := .int (0 : Int32)) (ty := .int) (C := RX6) (T := TX6) (N := 23) hx hb hts inX6 tyX6 tyX6_ok nmX6 hown hK.1 hP hD hS 0 rfl rfl 0 (by decide) (hts _ w_fieldLink_X6_31) (fun _ h9 => h9) rfl (by decide +kernel) rfl rfl (Nat.le_of_ble_eq_true rfl) dX6_turnTwice_2 (fun H locs hP hD hS => ?_)
  have hP : va_P (dC, dI) vwCl (cM cyI a (M_set_thrown v (0 : Int32))) H := hP
  have hD : va_D A (cM cyI a (M_set_thrown v (0 : Int32))) := hD
  refine lv_aload_n hx hb dX6_turnTwice_5 rfl (lv_at hl 0 rfl) ?_
  obtain ⟨o1, h2, hF⟩ := obd hF
  refine wcWVv (As := []) (rest := []) (wr := []) (b := (a 0)) ⟨hx, hb, hml, hown, hts⟩ (met_X6_save l dC dI cyI cyO cyL a _ N (M_set_thrown v (0 : Int32))  o1 h2) (cwV 0 hts (gV w_methodLink_X6_111 w_instanceMethod_X6_save w_selects_X6_save w_initialized_X6 w_code_X6_save) rfl rfl rfl (by decide +kernel) ⟨Nat.le_of_ble_eq_true rfl, Nat.le_of_ble_eq_true rfl⟩) (va_recv hK.1 hP (ci := 6) (q0 := 0) rfl rfl) hP hD hK [0, 1, 2, 3, 4, 5, 6, 7] [] rfl rfl (by decide) (by decide) (by decide) rfl hl.1 (Nat.le_of_ble_eq_true rfl) dX6_turnTwice_6 ⟨Nat.le_of_ble_eq_true rfl, Nat.le_of_ble_eq_true rfl⟩ hS hA (fun u H locs hw hP hD hS => ?_)
  have hw := hw.symm
  subst hw
  have hP : va_P (dC, dI) vwCl (cM cyI a o1) H := hP
  have hD : va_D A (cM cyI a o1) := hD
  refine lv_aload_n hx hb dX6_turnTwice_9 rfl (lv_at hl 0 rfl) ?_
  refine va_get (D := (dC, dI)) (ci := 6) (v := .ref (a 1)) (C := RX6) (T := TX6) (N := 23) hx hb hts inX6 hown hK.1 hP 0 rfl rfl 1 (by decide) (hts _ w_fieldLink_X6_7) (fun _ h9 => h9) rfl dX6_turnTwice_10 ?_
  refine lv_bipush (v := 64) hx hb dX6_turnTwice_13 (by decide) ?_
  refine lv_iconst (v := 1) hx hb dX6_turnTwice_15 (by decide) ?_
  refine lv_aload_n hx hb dX6_turnTwice_16 rfl (lv_at hl 0 rfl) ?_
  refine va_get (D := (dC, dI)) (ci := 6) (v := .ref (a 1)) (C := RX6) (T := TX6) (N := 23) hx hb hts inX6 hown hK.1 hP 0 rfl rfl 1 (by decide) (hts _ w_fieldLink_X6_7) (fun _ h9 => h9) rfl dX6_turnTwice_17 ?_
  refine lv_bipush (v := 64) hx hb dX6_turnTwice_20 (by decide) ?_
  refine va_iald hx hb hK.1 hP 1 0 rfl rfl (i := (64 : Int32)) (show ixok (64 : Int32) 103 by decide) dX6_turnTwice_22 ?_
  refine lv_isub hx hb dX6_turnTwice_23 ?_
  refine va_iast hx hb hK.1 hP hD hS 1 0 rfl rfl (i := (64 : Int32)) (x := ((1 : Int32) - ((M_s o1) (64 : Int32).toNatClampNeg))) (show ixok (64 : Int32) 103 by decide) dX6_turnTwice_24 (fun H locs hP hD hS => ?_)
  have hP : va_P (dC, dI) vwCl (cM cyI a (M_set_s o1 (upd (M_s o1) (64 : Int32).toNatClampNeg ((1 : Int32) - ((M_s o1) (64 : Int32).toNatClampNeg))))) H := hP
  have hD : va_D A (cM cyI a (M_set_s o1 (upd (M_s o1) (64 : Int32).toNatClampNeg ((1 : Int32) - ((M_s o1) (64 : Int32).toNatClampNeg))))) := hD
  refine lv_aload_n hx hb dX6_turnTwice_25 rfl (lv_at hl 0 rfl) ?_
  refine va_get (D := (dC, dI)) (ci := 6) (v := .ref (a 1)) (C := RX6) (T := TX6) (N := 23) hx hb hts inX6 hown hK.1 hP 0 rfl rfl 1 (by decide) (hts _ w_fieldLink_X6_7) (fun _ h9 => h9) rfl dX6_turnTwice_26 ?_
  refine lv_bipush (v := 64) hx hb dX6_turnTwice_29 (by decide) ?_
  refine va_iald hx hb hK.1 hP 1 0 rfl rfl (i := (64 : Int32)) (show ixok (64 : Int32) 103 by decide) dX6_turnTwice_31 ?_
  refine lv_iconst (v := 1) hx hb dX6_turnTwice_32 (by decide) ?_
  obtain ⟨j41, hj41, hF⟩ := jn_use hF
  have hJ41 : ∀ (s41 : Int32) (H : Heap) (locs : List Loc) (ls : Array Slot) (hz_41_s0 : b01 s41), va_P (dC, dI) vwCl (cM cyI a (M_set_s o1 (upd (M_s o1) (64 : Int32).toNatClampNeg ((1 : Int32) - ((M_s o1) (64 : Int32).toNatClampNeg))))) H → va_D A (cM cyI a (M_set_s o1 (upd (M_s o1) (64 : Int32).toNatClampNeg ((1 : Int32) - ((M_s o1) (64 : Int32).toNatClampNeg))))) → va_S A s.heap H locs → lv_has ls 1 [] → j41 s41 = some out → W p l e (headSpec (Cond.code yX6_turnTwice cX6_turnTwice 1 (some .boolean) :: wT) ({ frames := 1, cells := 0, slots := 0, locals := 21 } : Room)).room s m ([.ref (a 0)] : List Value).toArray below meth c H locs 0 0 (MQ below (va_Qi (fun (r : Int32) (u : MV) => (r, u) = out ∧ b01 r) (fun u t => va_P (dC, dI) vwCl (cM cyI a u) t.heap ∧ va_D A (cM cyI a u)) A) ([.ref (a 0)] : List Value).toArray s 0 0 A) (F0 m 41 ls [.int s41]) := by
    intro s41 H locs ls hz_41_s0 hP hD hS hl hF
    have hF := (congrFun hj41 s41).symm.trans hF
    exact W.zret (ty := .boolean) (v := s41) hx hb hr (b01_n hz_41_s0) (fun t ht hW => ⟨⟨_, (M_set_s o1 (upd (M_s o1) (64 : Int32).toNatClampNeg ((1 : Int32) - ((M_s o1) (64 : Int32).toNatClampNeg)))), rfl, ⟨Option.some.inj hF, hz_41_s0⟩, by rw [ht]; exact hP, hD⟩, hS.F ht⟩) hS.2.2 dX6_turnTwice_41
  refine lv_icmp_ne (tgt := 40) hx hb dX6_turnTwice_33 (by decide) (fun c6 => ?_) (fun c6 => ?_)
  · have hF := itn c6 hF
    refine lv_iconst (v := 0) hx hb dX6_turnTwice_40 (by decide) ?_
    exact hJ41 (0 : Int32) _ _ _ b01_0 hP hD hS (lv_sub hl [] rfl) hF
  · have hF := itp c6 hF
    refine lv_iconst (v := 1) hx hb dX6_turnTwice_36 (by decide) ?_
    refine lv_goto (tgt := 41) hx hb dX6_turnTwice_37 (by decide) ?_
    exact hJ41 (1 : Int32) _ _ _ b01_1 hP hD hS (lv_sub hl [] rfl) hF
theorem dX6_append_0 : decode cX6_append 0 = .ok (.aload_n 0, 1) := by decide +kernel
theorem dX6_append_1 : decode cX6_append 1 = .ok (.iload_n 1, 1) := by decide +kernel
theorem dX6_append_2 : decode cX6_append 2 = .ok (.bipush 33, 2) := by decide +kernel
theorem dX6_append_4 : decode cX6_append 4 = .ok (.bipush 126, 2) := by decide +kernel
theorem dX6_append_6 : decode cX6_append 6 = .ok (.invokestatic 35, 3) := by decide +kernel
theorem dX6_append_9 : decode cX6_append 9 = .ok (.ifCond .ne 7, 3) := by decide +kernel
theorem dX6_append_12 : decode cX6_append 12 = .ok (.iconst 1, 1) := by decide +kernel
theorem dX6_append_13 : decode cX6_append 13 = .ok (.goto 17, 3) := by decide +kernel
theorem dX6_append_16 : decode cX6_append 16 = .ok (.aload_n 0, 1) := by decide +kernel
theorem dX6_append_17 : decode cX6_append 17 = .ok (.getfield 135, 3) := by decide +kernel
theorem dX6_append_20 : decode cX6_append 20 = .ok (.bipush 60, 2) := by decide +kernel
theorem dX6_append_22 : decode cX6_append 22 = .ok (.if_icmp .ne 7, 3) := by decide +kernel
theorem dX6_append_25 : decode cX6_append 25 = .ok (.iconst 2, 1) := by decide +kernel
theorem dX6_append_26 : decode cX6_append 26 = .ok (.goto 4, 3) := by decide +kernel
theorem dX6_append_29 : decode cX6_append 29 = .ok (.iconst 0, 1) := by decide +kernel
theorem dX6_append_30 : decode cX6_append 30 = .ok (.invokevirtual 107, 3) := by decide +kernel
theorem dX6_append_33 : decode cX6_append 33 = .ok (.ifCond .ne 5, 3) := by decide +kernel
theorem dX6_append_36 : decode cX6_append 36 = .ok (.iconst 0, 1) := by decide +kernel
theorem dX6_append_37 : decode cX6_append 37 = .ok (.ireturn, 1) := by decide +kernel
theorem dX6_append_38 : decode cX6_append 38 = .ok (.aload_n 0, 1) := by decide +kernel
theorem dX6_append_39 : decode cX6_append 39 = .ok (.getfield 25, 3) := by decide +kernel
theorem dX6_append_42 : decode cX6_append 42 = .ok (.aload_n 0, 1) := by decide +kernel
theorem dX6_append_43 : decode cX6_append 43 = .ok (.getfield 135, 3) := by decide +kernel
theorem dX6_append_46 : decode cX6_append 46 = .ok (.iload_n 1, 1) := by decide +kernel
theorem dX6_append_47 : decode cX6_append 47 = .ok (.iastore, 1) := by decide +kernel
theorem dX6_append_48 : decode cX6_append 48 = .ok (.aload_n 0, 1) := by decide +kernel
theorem dX6_append_49 : decode cX6_append 49 = .ok (.dup, 1) := by decide +kernel
theorem dX6_append_50 : decode cX6_append 50 = .ok (.getfield 135, 3) := by decide +kernel
theorem dX6_append_53 : decode cX6_append 53 = .ok (.iconst 1, 1) := by decide +kernel
theorem dX6_append_54 : decode cX6_append 54 = .ok (.iadd, 1) := by decide +kernel
theorem dX6_append_55 : decode cX6_append 55 = .ok (.putfield 135, 3) := by decide +kernel
theorem dX6_append_58 : decode cX6_append 58 = .ok (.aload_n 0, 1) := by decide +kernel
theorem dX6_append_59 : decode cX6_append 59 = .ok (.getfield 135, 3) := by decide +kernel
theorem dX6_append_62 : decode cX6_append 62 = .ok (.ireturn, 1) := by decide +kernel
def f_X6_append (N : Nat) (v : MV) (p1 : Int32) : Option (Int32 × MV) :=
  (f_X6_in N p1 (33 : Int32) (126 : Int32)).bind (fun o1 => jn (fun (s30 : Int32) => (f_X6_holds N v s30).bind (fun o4 => (if o4.1 = 0 then some ((0 : Int32), o4.2) else gd (ixok (M_length o4.2) 60) (some (((M_length o4.2) + (1 : Int32)), (M_set_length (M_set_buffer o4.2 (upd (M_buffer o4.2) (M_length o4.2).toNatClampNeg p1)) ((M_length o4.2) + (1 : Int32)))))))) (fun (j30 : (Int32) → Option (Int32 × MV)) => (if o1 = 0 then j30 (1 : Int32) else (if (M_length v) = (60 : Int32) then j30 (2 : Int32) else j30 (0 : Int32)))))
set_option maxHeartbeats 4000000 in
set_option maxRecDepth 100000 in
theorem met_X6_append (l : Launch) (dC : Nat → ClassId) (dI : Nat → Nat → Nat) (cyI cyO cyL : ClassId) (a : Nat → Nat) (sz : Nat) (N : Nat) (v : MV) (p1 : Int32) (out : Int32 × MV) (hF : f_X6_append N v p1 = some out) : Met l yX6_append (Cond.code yX6_append cX6_append 2 (some .int) :: wT) ({ frames := 1, cells := 0, slots := 0, locals := 22 } : Room) (wWr dC dI cyI cyO cyL [.ref (a 0), .int p1] (cM cyI a v) sz) (va_Qi (fun (r : Int32) (u : MV) => (r, u) = out) (fun u t => va_P (dC, dI) vwCl (cM cyI a u) t.heap ∧ va_D (va_A (cM cyI a v) sz) (cM cyI a u)) (va_A (cM cyI a v) sz)) 0 0 (va_A (cM cyI a v) sz) := by
  refine Met.ofW (cc := cX6_append) (maxL := 2) (ret := (some .int)) (by decide) rfl ?_
  intro p e s m args below meth c s₁ B hml hv
  obtain ⟨rfl, hsz, hP, hK, hD0⟩ := hv
  have hx := B.exec
  have hb := B.bytes
  have hr := B.returns
  have hts0 := atoms_spec (ws := (Cond.code yX6_append cX6_append 2 (some .int) :: wT)) B.pre
  have hts := fun w h => hts0 w (List.mem_cons_of_mem _ h)
  clear hts0
  have hown : s.vm.findClass RX6 = some m.cls := findClass_of_methodNamed B.named
  have hlocks := B.notSynchronized
  subst hsz
  have hD := hD0.self (sz := s.heap.size)
  generalize hAe : va_A (cM cyI a v) s.heap.size = A at hD ⊢
  have hA : ∀ q : Nat, s.heap.size ≤ q → A q := fun q h => by rw [← hAe]; exact Or.inr h
  clear hD0
  have hS : va_S A s.heap s.heap [] := va_S.rf
  have hl := lv_entry [.ref (a 0), .int p1] (n := 2) (Nat.le_of_ble_eq_true rfl)
  rw [lg_entry_eq]
  generalize (lg_sl [.ref (a 0), .int p1] ++ List.replicate (2 - (lg_sl [.ref (a 0), .int p1]).length) Slot.unset).toArray = ls at hl ⊢
  have hl : lv_has ls 2 [(0, .ref (a 0)), (1, .int p1)] := hl
  unfold f_X6_append at hF
  refine lv_aload_n hx hb dX6_append_0 rfl (lv_at hl 0 rfl) ?_
  refine lv_iload_n hx hb dX6_append_1 rfl (lv_at hl 1 rfl) ?_
  refine lv_bipush (v := 33) hx hb dX6_append_2 (by decide) ?_
  refine lv_bipush (v := 126) hx hb dX6_append_4 (by decide) ?_
  obtain ⟨o1, h2, hF⟩ := obd hF
  refine wcRSi (As := [.int p1, .int (33 : Int32), .int (126 : Int32)]) (rest := [.ref (a 0)]) ⟨hx, hb, hml, hown, hts⟩ (met_X6_in l dC dI cyI cyO cyL  N  p1 (33 : Int32) (126 : Int32) o1 h2) (va_cwS 3 hts (gS w_methodLink_X6_35 w_static_X6_in w_initialized_X6 w_code_X6_in) rfl rfl rfl (by decide +kernel) ⟨Nat.le_of_ble_eq_true rfl, Nat.le_of_ble_eq_true rfl⟩) hP hK [] rfl rfl hl.1 (Nat.le_of_ble_eq_true rfl) dX6_append_6 ⟨Nat.le_of_ble_eq_true rfl, Nat.le_of_ble_eq_true rfl⟩ hS (fun r H locs hw hP hS => ?_)
  obtain ⟨hw, hz3⟩ := hw
  have hw := hw.symm
  subst hw
  obtain ⟨j30, hj30, hF⟩ := jn_use hF
  have hJ30 : ∀ (s30 : Int32) (H : Heap) (locs : List Loc) (ls : Array Slot), va_P (dC, dI) vwCl (cM cyI a v) H → va_D A (cM cyI a v) → va_S A s.heap H locs → lv_has ls 2 [(0, .ref (a 0)), (1, .int p1)] → j30 s30 = some out → W p l e (headSpec (Cond.code yX6_append cX6_append 2 (some .int) :: wT) ({ frames := 1, cells := 0, slots := 0, locals := 22 } : Room)).room s m ([.ref (a 0), .int p1] : List Value).toArray below meth c H locs 0 0 (MQ below (va_Qi (fun (r : Int32) (u : MV) => (r, u) = out) (fun u t => va_P (dC, dI) vwCl (cM cyI a u) t.heap ∧ va_D A (cM cyI a u)) A) ([.ref (a 0), .int p1] : List Value).toArray s 0 0 A) (F0 m 30 ls [.int s30, .ref (a 0)]) := by
    intro s30 H locs ls hP hD hS hl hF
    have hF := (congrFun hj30 s30).symm.trans hF
    obtain ⟨o4, h5, hF⟩ := obd hF
    refine wcWVi (As := [.int s30]) (rest := []) (wr := []) (b := (a 0)) ⟨hx, hb, hml, hown, hts⟩ (met_X6_holds l dC dI cyI cyO cyL a _ N v s30 o4 h5) (cwV 1 hts (gV w_methodLink_X6_107 w_instanceMethod_X6_holds w_selects_X6_holds w_initialized_X6 w_code_X6_holds) rfl rfl rfl (by decide +kernel) ⟨Nat.le_of_ble_eq_true rfl, Nat.le_of_ble_eq_true rfl⟩) (va_recv hK.1 hP (ci := 6) (q0 := 0) rfl rfl) hP hD hK [0, 1, 2, 3, 4, 5, 6, 7] [] rfl rfl (by decide) (by decide) (by decide) rfl hl.1 (Nat.le_of_ble_eq_true rfl) dX6_append_30 ⟨Nat.le_of_ble_eq_true rfl, Nat.le_of_ble_eq_true rfl⟩ hS hA (fun r u H locs hw hP hD hS => ?_)
    obtain ⟨hw, hz6⟩ := hw
    obtain rfl : r = o4.1 := congrArg Prod.fst hw
    obtain rfl : u = o4.2 := congrArg Prod.snd hw
    clear hw
    have hP : va_P (dC, dI) vwCl (cM cyI a o4.2) H := hP
    have hD : va_D A (cM cyI a o4.2) := hD
    refine lv_if_ne (tgt := 38) hx hb dX6_append_33 (by decide) (fun c7 => ?_) (fun c7 => ?_)
    · have hF := itn c7 hF
      refine lv_aload_n hx hb dX6_append_38 rfl (lv_at hl 0 rfl) ?_
      refine va_get (D := (dC, dI)) (ci := 6) (v := .ref (a 6)) (C := RX6) (T := TX6) (N := 23) hx hb hts inX6 hown hK.1 hP 0 rfl rfl 8 (by decide) (hts _ w_fieldLink_X6_25) (fun _ h9 => h9) rfl dX6_append_39 ?_
      refine lv_aload_n hx hb dX6_append_42 rfl (lv_at hl 0 rfl) ?_
      refine va_get (D := (dC, dI)) (ci := 6) (v := .int (M_length o4.2)) (C := RX6) (T := TX6) (N := 23) hx hb hts inX6 hown hK.1 hP 0 rfl rfl 9 (by decide) (hts _ w_fieldLink_X6_135) (fun _ h9 => h9) rfl dX6_append_43 ?_
      refine lv_iload_n hx hb dX6_append_46 rfl (lv_at hl 1 rfl) ?_
      obtain ⟨hg8, hF⟩ := gd_use hF
      refine va_iast hx hb hK.1 hP hD hS 6 0 rfl rfl (i := (M_length o4.2)) (x := p1) hg8 dX6_append_47 (fun H locs hP hD hS => ?_)
      have hP : va_P (dC, dI) vwCl (cM cyI a (M_set_buffer o4.2 (upd (M_buffer o4.2) (M_length o4.2).toNatClampNeg p1))) H := hP
      have hD : va_D A (cM cyI a (M_set_buffer o4.2 (upd (M_buffer o4.2) (M_length o4.2).toNatClampNeg p1))) := hD
      refine lv_aload_n hx hb dX6_append_48 rfl (lv_at hl 0 rfl) ?_
      refine lv_dup hx hb dX6_append_49 rfl ?_
      refine va_get (D := (dC, dI)) (ci := 6) (v := .int (M_length o4.2)) (C := RX6) (T := TX6) (N := 23) hx hb hts inX6 hown hK.1 hP 0 rfl rfl 9 (by decide) (hts _ w_fieldLink_X6_135) (fun _ h9 => h9) rfl dX6_append_50 ?_
      refine lv_iconst (v := 1) hx hb dX6_append_53 (by decide) ?_
      refine lv_iadd hx hb dX6_append_54 ?_
      refine va_put (D := (dC, dI)) (ci := 6) (v := .int ((M_length o4.2) + (1 : Int32))) (ty := .int) (C := RX6) (T := TX6) (N := 23) hx hb hts inX6 tyX6 tyX6_ok nmX6 hown hK.1 hP hD hS 0 rfl rfl 9 (by decide) (hts _ w_fieldLink_X6_135) (fun _ h9 => h9) rfl (by decide +kernel) rfl rfl (Nat.le_of_ble_eq_true rfl) dX6_append_55 (fun H locs hP hD hS => ?_)
      have hP : va_P (dC, dI) vwCl (cM cyI a (M_set_length (M_set_buffer o4.2 (upd (M_buffer o4.2) (M_length o4.2).toNatClampNeg p1)) ((M_length o4.2) + (1 : Int32)))) H := hP
      have hD : va_D A (cM cyI a (M_set_length (M_set_buffer o4.2 (upd (M_buffer o4.2) (M_length o4.2).toNatClampNeg p1)) ((M_length o4.2) + (1 : Int32)))) := hD
      refine lv_aload_n hx hb dX6_append_58 rfl (lv_at hl 0 rfl) ?_
      refine va_get (D := (dC, dI)) (ci := 6) (v := .int ((M_length o4.2) + (1 : Int32))) (C := RX6) (T := TX6) (N := 23) hx hb hts inX6 hown hK.1 hP 0 rfl rfl 9 (by decide) (hts _ w_fieldLink_X6_135) (fun _ h9 => h9) rfl dX6_append_59 ?_
      exact W.iret (v := ((M_length o4.2) + (1 : Int32))) hx hb hr (fun t ht hW => ⟨⟨_, (M_set_length (M_set_buffer o4.2 (upd (M_buffer o4.2) (M_length o4.2).toNatClampNeg p1)) ((M_length o4.2) + (1 : Int32))), rfl, Option.some.inj hF, by rw [ht]; exact hP, hD⟩, hS.F ht⟩) hS.2.2 dX6_append_62
    · have hF := itp c7 hF
      refine lv_iconst (v := 0) hx hb dX6_append_36 (by decide) ?_
      exact W.iret (v := (0 : Int32)) hx hb hr (fun t ht hW => ⟨⟨_, o4.2, rfl, Option.some.inj hF, by rw [ht]; exact hP, hD⟩, hS.F ht⟩) hS.2.2 dX6_append_37
  refine lv_if_ne (tgt := 16) hx hb dX6_append_9 (by decide) (fun c9 => ?_) (fun c9 => ?_)
  · have hF := itn c9 hF
    refine lv_aload_n hx hb dX6_append_16 rfl (lv_at hl 0 rfl) ?_
    refine va_get (D := (dC, dI)) (ci := 6) (v := .int (M_length v)) (C := RX6) (T := TX6) (N := 23) hx hb hts inX6 hown hK.1 hP 0 rfl rfl 9 (by decide) (hts _ w_fieldLink_X6_135) (fun _ h9 => h9) rfl dX6_append_17 ?_
    refine lv_bipush (v := 60) hx hb dX6_append_20 (by decide) ?_
    refine lv_icmp_ne (tgt := 29) hx hb dX6_append_22 (by decide) (fun c10 => ?_) (fun c10 => ?_)
    · have hF := itn c10 hF
      refine lv_iconst (v := 0) hx hb dX6_append_29 (by decide) ?_
      exact hJ30 (0 : Int32) _ _ _ hP hD hS (lv_sub hl [0, 1] rfl) hF
    · have hF := itp c10 hF
      refine lv_iconst (v := 2) hx hb dX6_append_25 (by decide) ?_
      refine lv_goto (tgt := 30) hx hb dX6_append_26 (by decide) ?_
      exact hJ30 (2 : Int32) _ _ _ hP hD hS (lv_sub hl [0, 1] rfl) hF
  · have hF := itp c9 hF
    refine lv_iconst (v := 1) hx hb dX6_append_12 (by decide) ?_
    refine lv_goto (tgt := 30) hx hb dX6_append_13 (by decide) ?_
    exact hJ30 (1 : Int32) _ _ _ hP hD hS (lv_sub hl [0, 1] rfl) hF
theorem dX6_clearBuffer_0 : decode cX6_clearBuffer 0 = .ok (.aload_n 0, 1) := by decide +kernel
theorem dX6_clearBuffer_1 : decode cX6_clearBuffer 1 = .ok (.iconst 0, 1) := by decide +kernel
theorem dX6_clearBuffer_2 : decode cX6_clearBuffer 2 = .ok (.putfield 31, 3) := by decide +kernel
theorem dX6_clearBuffer_5 : decode cX6_clearBuffer 5 = .ok (.aload_n 0, 1) := by decide +kernel
theorem dX6_clearBuffer_6 : decode cX6_clearBuffer 6 = .ok (.getfield 135, 3) := by decide +kernel
theorem dX6_clearBuffer_9 : decode cX6_clearBuffer 9 = .ok (.istore_n 1, 1) := by decide +kernel
theorem dX6_clearBuffer_10 : decode cX6_clearBuffer 10 = .ok (.aload_n 0, 1) := by decide +kernel
theorem dX6_clearBuffer_11 : decode cX6_clearBuffer 11 = .ok (.iconst 0, 1) := by decide +kernel
theorem dX6_clearBuffer_12 : decode cX6_clearBuffer 12 = .ok (.putfield 135, 3) := by decide +kernel
theorem dX6_clearBuffer_15 : decode cX6_clearBuffer 15 = .ok (.iload_n 1, 1) := by decide +kernel
theorem dX6_clearBuffer_16 : decode cX6_clearBuffer 16 = .ok (.ireturn, 1) := by decide +kernel
def f_X6_clearBuffer (N : Nat) (v : MV) : Option (Int32 × MV) :=
  some ((M_length v), (M_set_length (M_set_thrown v (0 : Int32)) (0 : Int32)))
set_option maxHeartbeats 4000000 in
set_option maxRecDepth 100000 in
theorem met_X6_clearBuffer (l : Launch) (dC : Nat → ClassId) (dI : Nat → Nat → Nat) (cyI cyO cyL : ClassId) (a : Nat → Nat) (sz : Nat) (N : Nat) (v : MV) (out : Int32 × MV) (hF : f_X6_clearBuffer N v = some out) : Met l yX6_clearBuffer (Cond.code yX6_clearBuffer cX6_clearBuffer 2 (some .int) :: wT) ({ frames := 0, cells := 0, slots := 0, locals := 0 } : Room) (wWr dC dI cyI cyO cyL [.ref (a 0)] (cM cyI a v) sz) (va_Qi (fun (r : Int32) (u : MV) => (r, u) = out) (fun u t => va_P (dC, dI) vwCl (cM cyI a u) t.heap ∧ va_D (va_A (cM cyI a v) sz) (cM cyI a u)) (va_A (cM cyI a v) sz)) 0 0 (va_A (cM cyI a v) sz) := by
  refine Met.ofW (cc := cX6_clearBuffer) (maxL := 2) (ret := (some .int)) (by decide) rfl ?_
  intro p e s m args below meth c s₁ B hml hv
  obtain ⟨rfl, hsz, hP, hK, hD0⟩ := hv
  have hx := B.exec
  have hb := B.bytes
  have hr := B.returns
  have hts0 := atoms_spec (ws := (Cond.code yX6_clearBuffer cX6_clearBuffer 2 (some .int) :: wT)) B.pre
  have hts := fun w h => hts0 w (List.mem_cons_of_mem _ h)
  clear hts0
  have hown : s.vm.findClass RX6 = some m.cls := findClass_of_methodNamed B.named
  have hlocks := B.notSynchronized
  subst hsz
  have hD := hD0.self (sz := s.heap.size)
  generalize hAe : va_A (cM cyI a v) s.heap.size = A at hD ⊢
  have hA : ∀ q : Nat, s.heap.size ≤ q → A q := fun q h => by rw [← hAe]; exact Or.inr h
  clear hD0
  have hS : va_S A s.heap s.heap [] := va_S.rf
  have hl := lv_entry [.ref (a 0)] (n := 2) (Nat.le_of_ble_eq_true rfl)
  rw [lg_entry_eq]
  generalize (lg_sl [.ref (a 0)] ++ List.replicate (2 - (lg_sl [.ref (a 0)]).length) Slot.unset).toArray = ls at hl ⊢
  have hl : lv_has ls 2 [(0, .ref (a 0))] := hl
  unfold f_X6_clearBuffer at hF
  refine lv_aload_n hx hb dX6_clearBuffer_0 rfl (lv_at hl 0 rfl) ?_
  refine lv_iconst (v := 0) hx hb dX6_clearBuffer_1 (by decide) ?_
  refine va_put (D := (dC, dI)) (ci := 6) (v := .int (0 : Int32)) (ty := .int) (C := RX6) (T := TX6) (N := 23) hx hb hts inX6 tyX6 tyX6_ok nmX6 hown hK.1 hP hD hS 0 rfl rfl 0 (by decide) (hts _ w_fieldLink_X6_31) (fun _ h9 => h9) rfl (by decide +kernel) rfl rfl (Nat.le_of_ble_eq_true rfl) dX6_clearBuffer_2 (fun H locs hP hD hS => ?_)
  have hP : va_P (dC, dI) vwCl (cM cyI a (M_set_thrown v (0 : Int32))) H := hP
  have hD : va_D A (cM cyI a (M_set_thrown v (0 : Int32))) := hD
  refine lv_aload_n hx hb dX6_clearBuffer_5 rfl (lv_at hl 0 rfl) ?_
  refine va_get (D := (dC, dI)) (ci := 6) (v := .int (M_length v)) (C := RX6) (T := TX6) (N := 23) hx hb hts inX6 hown hK.1 hP 0 rfl rfl 9 (by decide) (hts _ w_fieldLink_X6_135) (fun _ h9 => h9) rfl dX6_clearBuffer_6 ?_
  refine lv_istore_n (lv' := [(1, .int (M_length v)), (0, .ref (a 0))]) hx hb dX6_clearBuffer_9 rfl hl (by decide) rfl (fun ls hl => ?_)
  refine lv_aload_n hx hb dX6_clearBuffer_10 rfl (lv_at hl 1 rfl) ?_
  refine lv_iconst (v := 0) hx hb dX6_clearBuffer_11 (by decide) ?_
  refine va_put (D := (dC, dI)) (ci := 6) (v := .int (0 : Int32)) (ty := .int) (C := RX6) (T := TX6) (N := 23) hx hb hts inX6 tyX6 tyX6_ok nmX6 hown hK.1 hP hD hS 0 rfl rfl 9 (by decide) (hts _ w_fieldLink_X6_135) (fun _ h9 => h9) rfl (by decide +kernel) rfl rfl (Nat.le_of_ble_eq_true rfl) dX6_clearBuffer_12 (fun H locs hP hD hS => ?_)
  have hP : va_P (dC, dI) vwCl (cM cyI a (M_set_length (M_set_thrown v (0 : Int32)) (0 : Int32))) H := hP
  have hD : va_D A (cM cyI a (M_set_length (M_set_thrown v (0 : Int32)) (0 : Int32))) := hD
  refine lv_iload_n hx hb dX6_clearBuffer_15 rfl (lv_at hl 0 rfl) ?_
  exact W.iret (v := (M_length v)) hx hb hr (fun t ht hW => ⟨⟨_, (M_set_length (M_set_thrown v (0 : Int32)) (0 : Int32)), rfl, Option.some.inj hF, by rw [ht]; exact hP, hD⟩, hS.F ht⟩) hS.2.2 dX6_clearBuffer_16
theorem dX6_isNext_0 : decode cX6_isNext 0 = .ok (.aload_n 0, 1) := by decide +kernel
theorem dX6_isNext_1 : decode cX6_isNext 1 = .ok (.getfield 138, 3) := by decide +kernel
theorem dX6_isNext_4 : decode cX6_isNext 4 = .ok (.ifCond .ne 35, 3) := by decide +kernel
theorem dX6_isNext_7 : decode cX6_isNext 7 = .ok (.aload_n 0, 1) := by decide +kernel
theorem dX6_isNext_8 : decode cX6_isNext 8 = .ok (.getfield 142, 3) := by decide +kernel
theorem dX6_isNext_11 : decode cX6_isNext 11 = .ok (.aload_n 0, 1) := by decide +kernel
theorem dX6_isNext_12 : decode cX6_isNext 12 = .ok (.getfield 135, 3) := by decide +kernel
theorem dX6_isNext_15 : decode cX6_isNext 15 = .ok (.if_icmp .ge 24, 3) := by decide +kernel
theorem dX6_isNext_18 : decode cX6_isNext 18 = .ok (.aload_n 0, 1) := by decide +kernel
theorem dX6_isNext_19 : decode cX6_isNext 19 = .ok (.getfield 25, 3) := by decide +kernel
theorem dX6_isNext_22 : decode cX6_isNext 22 = .ok (.aload_n 0, 1) := by decide +kernel
theorem dX6_isNext_23 : decode cX6_isNext 23 = .ok (.getfield 142, 3) := by decide +kernel
theorem dX6_isNext_26 : decode cX6_isNext 26 = .ok (.iaload, 1) := by decide +kernel
theorem dX6_isNext_27 : decode cX6_isNext 27 = .ok (.iload_n 1, 1) := by decide +kernel
theorem dX6_isNext_28 : decode cX6_isNext 28 = .ok (.iload_n 2, 1) := by decide +kernel
theorem dX6_isNext_29 : decode cX6_isNext 29 = .ok (.invokestatic 35, 3) := by decide +kernel
theorem dX6_isNext_32 : decode cX6_isNext 32 = .ok (.ifCond .eq 7, 3) := by decide +kernel
theorem dX6_isNext_35 : decode cX6_isNext 35 = .ok (.iconst 1, 1) := by decide +kernel
theorem dX6_isNext_36 : decode cX6_isNext 36 = .ok (.goto 4, 3) := by decide +kernel
theorem dX6_isNext_39 : decode cX6_isNext 39 = .ok (.iconst 0, 1) := by decide +kernel
theorem dX6_isNext_40 : decode cX6_isNext 40 = .ok (.ireturn, 1) := by decide +kernel
def f_X6_isNext (N : Nat) (v : MV) (p1 : Int32) (p2 : Int32) : Option (Int32) :=
  jn (fun (s40 : Int32) => some s40) (fun (j40 : (Int32) → Option (Int32)) => jn (fun (s39 : Unit) => j40 (0 : Int32)) (fun (j39 : (Unit) → Option (Int32)) => (if (M_isWrong v) = 0 then (if (M_length v) ≤ (M_spot v) then j39 () else gd (ixok (M_spot v) 60) ((f_X6_in N ((M_buffer v) (M_spot v).toNatClampNeg) p1 p2).bind (fun o4 => (if o4 = 0 then j39 () else j40 (1 : Int32))))) else j39 ())))
set_option maxHeartbeats 4000000 in
set_option maxRecDepth 100000 in
theorem met_X6_isNext (l : Launch) (dC : Nat → ClassId) (dI : Nat → Nat → Nat) (cyI cyO cyL : ClassId) (a : Nat → Nat) (N : Nat) (v : MV) (p1 : Int32) (p2 : Int32) (out : Int32) (hF : f_X6_isNext N v p1 p2 = some out) : Met l yX6_isNext (Cond.code yX6_isNext cX6_isNext 3 (some .boolean) :: wT) ({ frames := 1, cells := 0, slots := 0, locals := 22 } : Room) (wRd dC dI cyI cyO cyL [.ref (a 0), .int p1, .int p2] (cM cyI a v)) (va_Qi (fun (r : Int32) (_ : Unit) => r = out ∧ b01 r) (fun _ _ => True) wN0) 0 0 wN0 := by
  refine Met.ofW (cc := cX6_isNext) (maxL := 3) (ret := (some .boolean)) (by decide) rfl ?_
  intro p e s m args below meth c s₁ B hml hv
  obtain ⟨rfl, hP, hK⟩ := hv
  have hx := B.exec
  have hb := B.bytes
  have hr := B.returns
  have hts0 := atoms_spec (ws := (Cond.code yX6_isNext cX6_isNext 3 (some .boolean) :: wT)) B.pre
  have hts := fun w h => hts0 w (List.mem_cons_of_mem _ h)
  clear hts0
  have hown : s.vm.findClass RX6 = some m.cls := findClass_of_methodNamed B.named
  have hlocks := B.notSynchronized
  have hS : va_S wN0 s.heap s.heap [] := va_S.rf
  have hl := lv_entry [.ref (a 0), .int p1, .int p2] (n := 3) (Nat.le_of_ble_eq_true rfl)
  rw [lg_entry_eq]
  generalize (lg_sl [.ref (a 0), .int p1, .int p2] ++ List.replicate (3 - (lg_sl [.ref (a 0), .int p1, .int p2]).length) Slot.unset).toArray = ls at hl ⊢
  have hl : lv_has ls 3 [(0, .ref (a 0)), (1, .int p1), (2, .int p2)] := hl
  unfold f_X6_isNext at hF
  refine lv_aload_n hx hb dX6_isNext_0 rfl (lv_at hl 0 rfl) ?_
  refine va_get (D := (dC, dI)) (ci := 6) (v := .int (M_isWrong v)) (C := RX6) (T := TX6) (N := 23) hx hb hts inX6 hown hK.1 hP 0 rfl rfl 14 (by decide) (hts _ w_fieldLink_X6_138) (fun _ h9 => h9) rfl dX6_isNext_1 ?_
  obtain ⟨j40, hj40, hF⟩ := jn_use hF
  have hJ40 : ∀ (s40 : Int32) (H : Heap) (locs : List Loc) (ls : Array Slot) (hz_40_s0 : b01 s40), va_P (dC, dI) vwCl (cM cyI a v) H → va_S wN0 s.heap H locs → lv_has ls 3 [] → j40 s40 = some out → W p l e (headSpec (Cond.code yX6_isNext cX6_isNext 3 (some .boolean) :: wT) ({ frames := 1, cells := 0, slots := 0, locals := 22 } : Room)).room s m ([.ref (a 0), .int p1, .int p2] : List Value).toArray below meth c H locs 0 0 (MQ below (va_Qi (fun (r : Int32) (_ : Unit) => r = out ∧ b01 r) (fun _ _ => True) wN0) ([.ref (a 0), .int p1, .int p2] : List Value).toArray s 0 0 wN0) (F0 m 40 ls [.int s40]) := by
    intro s40 H locs ls hz_40_s0 hP hS hl hF
    have hF := (congrFun hj40 s40).symm.trans hF
    exact W.zret (ty := .boolean) (v := s40) hx hb hr (b01_n hz_40_s0) (fun t ht hW => ⟨⟨_, (), rfl, ⟨Option.some.inj hF, hz_40_s0⟩, trivial⟩, hS.F ht⟩) hS.2.2 dX6_isNext_40
  obtain ⟨j39, hj39, hF⟩ := jn_use hF
  have hJ39 : ∀ (s39 : Unit) (H : Heap) (locs : List Loc) (ls : Array Slot), va_P (dC, dI) vwCl (cM cyI a v) H → va_S wN0 s.heap H locs → lv_has ls 3 [] → j39 s39 = some out → W p l e (headSpec (Cond.code yX6_isNext cX6_isNext 3 (some .boolean) :: wT) ({ frames := 1, cells := 0, slots := 0, locals := 22 } : Room)).room s m ([.ref (a 0), .int p1, .int p2] : List Value).toArray below meth c H locs 0 0 (MQ below (va_Qi (fun (r : Int32) (_ : Unit) => r = out ∧ b01 r) (fun _ _ => True) wN0) ([.ref (a 0), .int p1, .int p2] : List Value).toArray s 0 0 wN0) (F0 m 39 ls []) := by
    intro s39 H locs ls hP hS hl hF
    have hF := (congrFun hj39 s39).symm.trans hF
    refine lv_iconst (v := 0) hx hb dX6_isNext_39 (by decide) ?_
    exact hJ40 (0 : Int32) _ _ _ b01_0 hP hS (lv_sub hl [] rfl) hF
  refine lv_if_ne (tgt := 39) hx hb dX6_isNext_4 (by decide) (fun c1 => ?_) (fun c1 => ?_)
  · have hF := itn c1 hF
    exact hJ39 () _ _ _ hP hS (lv_sub hl [] rfl) hF
  · have hF := itp c1 hF
    refine lv_aload_n hx hb dX6_isNext_7 rfl (lv_at hl 0 rfl) ?_
    refine va_get (D := (dC, dI)) (ci := 6) (v := .int (M_spot v)) (C := RX6) (T := TX6) (N := 23) hx hb hts inX6 hown hK.1 hP 0 rfl rfl 13 (by decide) (hts _ w_fieldLink_X6_142) (fun _ h9 => h9) rfl dX6_isNext_8 ?_
    refine lv_aload_n hx hb dX6_isNext_11 rfl (lv_at hl 0 rfl) ?_
    refine va_get (D := (dC, dI)) (ci := 6) (v := .int (M_length v)) (C := RX6) (T := TX6) (N := 23) hx hb hts inX6 hown hK.1 hP 0 rfl rfl 9 (by decide) (hts _ w_fieldLink_X6_135) (fun _ h9 => h9) rfl dX6_isNext_12 ?_
    refine lv_icmp_ge (tgt := 39) hx hb dX6_isNext_15 (by decide) (fun c2 => ?_) (fun c2 => ?_)
    · have hF := itp c2 hF
      exact hJ39 () _ _ _ hP hS (lv_sub hl [] rfl) hF
    · have hF := itn c2 hF
      refine lv_aload_n hx hb dX6_isNext_18 rfl (lv_at hl 0 rfl) ?_
      refine va_get (D := (dC, dI)) (ci := 6) (v := .ref (a 6)) (C := RX6) (T := TX6) (N := 23) hx hb hts inX6 hown hK.1 hP 0 rfl rfl 8 (by decide) (hts _ w_fieldLink_X6_25) (fun _ h9 => h9) rfl dX6_isNext_19 ?_
      refine lv_aload_n hx hb dX6_isNext_22 rfl (lv_at hl 0 rfl) ?_
      refine va_get (D := (dC, dI)) (ci := 6) (v := .int (M_spot v)) (C := RX6) (T := TX6) (N := 23) hx hb hts inX6 hown hK.1 hP 0 rfl rfl 13 (by decide) (hts _ w_fieldLink_X6_142) (fun _ h9 => h9) rfl dX6_isNext_23 ?_
      obtain ⟨hg3, hF⟩ := gd_use hF
      refine va_iald hx hb hK.1 hP 6 0 rfl rfl (i := (M_spot v)) hg3 dX6_isNext_26 ?_
      refine lv_iload_n hx hb dX6_isNext_27 rfl (lv_at hl 1 rfl) ?_
      refine lv_iload_n hx hb dX6_isNext_28 rfl (lv_at hl 2 rfl) ?_
      obtain ⟨o4, h5, hF⟩ := obd hF
      refine wcRSi (As := [.int ((M_buffer v) (M_spot v).toNatClampNeg), .int p1, .int p2]) (rest := []) ⟨hx, hb, hml, hown, hts⟩ (met_X6_in l dC dI cyI cyO cyL  N  ((M_buffer v) (M_spot v).toNatClampNeg) p1 p2 o4 h5) (va_cwS 3 hts (gS w_methodLink_X6_35 w_static_X6_in w_initialized_X6 w_code_X6_in) rfl rfl rfl (by decide +kernel) ⟨Nat.le_of_ble_eq_true rfl, Nat.le_of_ble_eq_true rfl⟩) hP hK [] rfl rfl hl.1 (Nat.le_of_ble_eq_true rfl) dX6_isNext_29 ⟨Nat.le_of_ble_eq_true rfl, Nat.le_of_ble_eq_true rfl⟩ hS (fun r H locs hw hP hS => ?_)
      obtain ⟨hw, hz6⟩ := hw
      have hw := hw.symm
      subst hw
      refine lv_if_eq (tgt := 39) hx hb dX6_isNext_32 (by decide) (fun c7 => ?_) (fun c7 => ?_)
      · have hF := itp c7 hF
        exact hJ39 () _ _ _ hP hS (lv_sub hl [] rfl) hF
      · have hF := itn c7 hF
        refine lv_iconst (v := 1) hx hb dX6_isNext_35 (by decide) ?_
        refine lv_goto (tgt := 40) hx hb dX6_isNext_36 (by decide) ?_
        exact hJ40 (1 : Int32) _ _ _ b01_1 hP hS (lv_sub hl [] rfl) hF
theorem dX6_takes_0 : decode cX6_takes 0 = .ok (.aload_n 0, 1) := by decide +kernel
theorem dX6_takes_1 : decode cX6_takes 1 = .ok (.iload_n 1, 1) := by decide +kernel
theorem dX6_takes_2 : decode cX6_takes 2 = .ok (.iload_n 2, 1) := by decide +kernel
theorem dX6_takes_3 : decode cX6_takes 3 = .ok (.invokevirtual 145, 3) := by decide +kernel
theorem dX6_takes_6 : decode cX6_takes 6 = .ok (.istore_n 3, 1) := by decide +kernel
theorem dX6_takes_7 : decode cX6_takes 7 = .ok (.iload_n 3, 1) := by decide +kernel
theorem dX6_takes_8 : decode cX6_takes 8 = .ok (.ifCond .eq 15, 3) := by decide +kernel
theorem dX6_takes_11 : decode cX6_takes 11 = .ok (.aload_n 0, 1) := by decide +kernel
theorem dX6_takes_12 : decode cX6_takes 12 = .ok (.getfield 25, 3) := by decide +kernel
theorem dX6_takes_15 : decode cX6_takes 15 = .ok (.aload_n 0, 1) := by decide +kernel
theorem dX6_takes_16 : decode cX6_takes 16 = .ok (.getfield 142, 3) := by decide +kernel
theorem dX6_takes_19 : decode cX6_takes 19 = .ok (.iaload, 1) := by decide +kernel
theorem dX6_takes_20 : decode cX6_takes 20 = .ok (.goto 4, 3) := by decide +kernel
theorem dX6_takes_23 : decode cX6_takes 23 = .ok (.iload_n 1, 1) := by decide +kernel
theorem dX6_takes_24 : decode cX6_takes 24 = .ok (.istore 4, 2) := by decide +kernel
theorem dX6_takes_26 : decode cX6_takes 26 = .ok (.aload_n 0, 1) := by decide +kernel
theorem dX6_takes_27 : decode cX6_takes 27 = .ok (.dup, 1) := by decide +kernel
theorem dX6_takes_28 : decode cX6_takes 28 = .ok (.getfield 142, 3) := by decide +kernel
theorem dX6_takes_31 : decode cX6_takes 31 = .ok (.iload_n 3, 1) := by decide +kernel
theorem dX6_takes_32 : decode cX6_takes 32 = .ok (.ifCond .eq 7, 3) := by decide +kernel
theorem dX6_takes_35 : decode cX6_takes 35 = .ok (.iconst 1, 1) := by decide +kernel
theorem dX6_takes_36 : decode cX6_takes 36 = .ok (.goto 4, 3) := by decide +kernel
theorem dX6_takes_39 : decode cX6_takes 39 = .ok (.iconst 0, 1) := by decide +kernel
theorem dX6_takes_40 : decode cX6_takes 40 = .ok (.iadd, 1) := by decide +kernel
theorem dX6_takes_41 : decode cX6_takes 41 = .ok (.putfield 142, 3) := by decide +kernel
theorem dX6_takes_44 : decode cX6_takes 44 = .ok (.aload_n 0, 1) := by decide +kernel
theorem dX6_takes_45 : decode cX6_takes 45 = .ok (.aload_n 0, 1) := by decide +kernel
theorem dX6_takes_46 : decode cX6_takes 46 = .ok (.getfield 138, 3) := by decide +kernel
theorem dX6_takes_49 : decode cX6_takes 49 = .ok (.ifCond .ne 7, 3) := by decide +kernel
theorem dX6_takes_52 : decode cX6_takes 52 = .ok (.iload_n 3, 1) := by decide +kernel
theorem dX6_takes_53 : decode cX6_takes 53 = .ok (.ifCond .ne 7, 3) := by decide +kernel
theorem dX6_takes_56 : decode cX6_takes 56 = .ok (.iconst 1, 1) := by decide +kernel
theorem dX6_takes_57 : decode cX6_takes 57 = .ok (.goto 4, 3) := by decide +kernel
theorem dX6_takes_60 : decode cX6_takes 60 = .ok (.iconst 0, 1) := by decide +kernel
theorem dX6_takes_61 : decode cX6_takes 61 = .ok (.putfield 138, 3) := by decide +kernel
theorem dX6_takes_64 : decode cX6_takes 64 = .ok (.iload 4, 2) := by decide +kernel
theorem dX6_takes_66 : decode cX6_takes 66 = .ok (.ireturn, 1) := by decide +kernel
def f_X6_takes (N : Nat) (v : MV) (p1 : Int32) (p2 : Int32) : Option (Int32 × MV) :=
  (f_X6_isNext N v p1 p2).bind (fun o1 => jn (fun (s24 : Int32) => jn (fun (s40 : Int32) => jn (fun (s61 : Int32) => some (s24, (M_set_isWrong (M_set_spot v ((M_spot v) + s40)) s61))) (fun (j61 : (Int32) → Option (Int32 × MV)) => jn (fun (s56 : Unit) => j61 (1 : Int32)) (fun (j56 : (Unit) → Option (Int32 × MV)) => (if (M_isWrong v) = 0 then (if o1 = 0 then j56 () else j61 (0 : Int32)) else j56 ())))) (fun (j40 : (Int32) → Option (Int32 × MV)) => (if o1 = 0 then j40 (0 : Int32) else j40 (1 : Int32)))) (fun (j24 : (Int32) → Option (Int32 × MV)) => (if o1 = 0 then j24 p1 else gd (ixok (M_spot v) 60) (j24 ((M_buffer v) (M_spot v).toNatClampNeg)))))
set_option maxHeartbeats 4000000 in
set_option maxRecDepth 100000 in
theorem met_X6_takes (l : Launch) (dC : Nat → ClassId) (dI : Nat → Nat → Nat) (cyI cyO cyL : ClassId) (a : Nat → Nat) (sz : Nat) (N : Nat) (v : MV) (p1 : Int32) (p2 : Int32) (out : Int32 × MV) (hF : f_X6_takes N v p1 p2 = some out) : Met l yX6_takes (Cond.code yX6_takes cX6_takes 5 (some .int) :: wT) ({ frames := 2, cells := 0, slots := 0, locals := 44 } : Room) (wWr dC dI cyI cyO cyL [.ref (a 0), .int p1, .int p2] (cM cyI a v) sz) (va_Qi (fun (r : Int32) (u : MV) => (r, u) = out) (fun u t => va_P (dC, dI) vwCl (cM cyI a u) t.heap ∧ va_D (va_A (cM cyI a v) sz) (cM cyI a u)) (va_A (cM cyI a v) sz)) 0 0 (va_A (cM cyI a v) sz) := by
  refine Met.ofW (cc := cX6_takes) (maxL := 5) (ret := (some .int)) (by decide) rfl ?_
  intro p e s m args below meth c s₁ B hml hv
  obtain ⟨rfl, hsz, hP, hK, hD0⟩ := hv
  have hx := B.exec
  have hb := B.bytes
  have hr := B.returns
  have hts0 := atoms_spec (ws := (Cond.code yX6_takes cX6_takes 5 (some .int) :: wT)) B.pre
  have hts := fun w h => hts0 w (List.mem_cons_of_mem _ h)
  clear hts0
  have hown : s.vm.findClass RX6 = some m.cls := findClass_of_methodNamed B.named
  have hlocks := B.notSynchronized
  subst hsz
  have hD := hD0.self (sz := s.heap.size)
  generalize hAe : va_A (cM cyI a v) s.heap.size = A at hD ⊢
  have hA : ∀ q : Nat, s.heap.size ≤ q → A q := fun q h => by rw [← hAe]; exact Or.inr h
  clear hD0
  have hS : va_S A s.heap s.heap [] := va_S.rf
  have hl := lv_entry [.ref (a 0), .int p1, .int p2] (n := 5) (Nat.le_of_ble_eq_true rfl)
  rw [lg_entry_eq]
  generalize (lg_sl [.ref (a 0), .int p1, .int p2] ++ List.replicate (5 - (lg_sl [.ref (a 0), .int p1, .int p2]).length) Slot.unset).toArray = ls at hl ⊢
  have hl : lv_has ls 5 [(0, .ref (a 0)), (1, .int p1), (2, .int p2)] := hl
  unfold f_X6_takes at hF
  refine lv_aload_n hx hb dX6_takes_0 rfl (lv_at hl 0 rfl) ?_
  refine lv_iload_n hx hb dX6_takes_1 rfl (lv_at hl 1 rfl) ?_
  refine lv_iload_n hx hb dX6_takes_2 rfl (lv_at hl 2 rfl) ?_
  obtain ⟨o1, h2, hF⟩ := obd hF
  refine wcRVi (As := [.int p1, .int p2]) (rest := []) (b := (a 0)) ⟨hx, hb, hml, hown, hts⟩ (met_X6_isNext l dC dI cyI cyO cyL a N v p1 p2 o1 h2) (cwV 2 hts (gV w_methodLink_X6_145 w_instanceMethod_X6_isNext w_selects_X6_isNext w_initialized_X6 w_code_X6_isNext) rfl rfl rfl (by decide +kernel) ⟨Nat.le_of_ble_eq_true rfl, Nat.le_of_ble_eq_true rfl⟩) (va_recv hK.1 hP (ci := 6) (q0 := 0) rfl rfl) hP hK [0, 1, 2, 3, 4, 5, 6, 7] rfl rfl hl.1 (Nat.le_of_ble_eq_true rfl) dX6_takes_3 ⟨Nat.le_of_ble_eq_true rfl, Nat.le_of_ble_eq_true rfl⟩ hS (fun r H locs hw hP hS => ?_)
  obtain ⟨hw, hz3⟩ := hw
  have hw := hw.symm
  subst hw
  refine lv_istore_n (lv' := [(3, .int o1), (0, .ref (a 0)), (1, .int p1), (2, .int p2)]) hx hb dX6_takes_6 rfl hl (by decide) rfl (fun ls hl => ?_)
  refine lv_iload_n hx hb dX6_takes_7 rfl (lv_at hl 0 rfl) ?_
  obtain ⟨j24, hj24, hF⟩ := jn_use hF
  have hJ24 : ∀ (s24 : Int32) (H : Heap) (locs : List Loc) (ls : Array Slot), va_P (dC, dI) vwCl (cM cyI a v) H → va_D A (cM cyI a v) → va_S A s.heap H locs → lv_has ls 5 [(0, .ref (a 0)), (3, .int o1)] → j24 s24 = some out → W p l e (headSpec (Cond.code yX6_takes cX6_takes 5 (some .int) :: wT) ({ frames := 2, cells := 0, slots := 0, locals := 44 } : Room)).room s m ([.ref (a 0), .int p1, .int p2] : List Value).toArray below meth c H locs 0 0 (MQ below (va_Qi (fun (r : Int32) (u : MV) => (r, u) = out) (fun u t => va_P (dC, dI) vwCl (cM cyI a u) t.heap ∧ va_D A (cM cyI a u)) A) ([.ref (a 0), .int p1, .int p2] : List Value).toArray s 0 0 A) (F0 m 24 ls [.int s24]) := by
    intro s24 H locs ls hP hD hS hl hF
    have hF := (congrFun hj24 s24).symm.trans hF
    refine lv_istore (lv' := [(4, .int s24), (0, .ref (a 0)), (3, .int o1)]) hx hb dX6_takes_24 hl (by decide) rfl (fun ls hl => ?_)
    refine lv_aload_n hx hb dX6_takes_26 rfl (lv_at hl 1 rfl) ?_
    refine lv_dup hx hb dX6_takes_27 rfl ?_
    refine va_get (D := (dC, dI)) (ci := 6) (v := .int (M_spot v)) (C := RX6) (T := TX6) (N := 23) hx hb hts inX6 hown hK.1 hP 0 rfl rfl 13 (by decide) (hts _ w_fieldLink_X6_142) (fun _ h9 => h9) rfl dX6_takes_28 ?_
    refine lv_iload_n hx hb dX6_takes_31 rfl (lv_at hl 2 rfl) ?_
    obtain ⟨j40, hj40, hF⟩ := jn_use hF
    have hJ40 : ∀ (s40 : Int32) (H : Heap) (locs : List Loc) (ls : Array Slot) (hz_40_s2 : b01 s40), va_P (dC, dI) vwCl (cM cyI a v) H → va_D A (cM cyI a v) → va_S A s.heap H locs → lv_has ls 5 [(0, .ref (a 0)), (3, .int o1), (4, .int s24)] → j40 s40 = some out → W p l e (headSpec (Cond.code yX6_takes cX6_takes 5 (some .int) :: wT) ({ frames := 2, cells := 0, slots := 0, locals := 44 } : Room)).room s m ([.ref (a 0), .int p1, .int p2] : List Value).toArray below meth c H locs 0 0 (MQ below (va_Qi (fun (r : Int32) (u : MV) => (r, u) = out) (fun u t => va_P (dC, dI) vwCl (cM cyI a u) t.heap ∧ va_D A (cM cyI a u)) A) ([.ref (a 0), .int p1, .int p2] : List Value).toArray s 0 0 A) (F0 m 40 ls [.int s40, .int (M_spot v), .ref (a 0)]) := by
      intro s40 H locs ls hz_40_s2 hP hD hS hl hF
      have hF := (congrFun hj40 s40).symm.trans hF
      refine lv_iadd hx hb dX6_takes_40 ?_
      refine va_put (D := (dC, dI)) (ci := 6) (v := .int ((M_spot v) + s40)) (ty := .int) (C := RX6) (T := TX6) (N := 23) hx hb hts inX6 tyX6 tyX6_ok nmX6 hown hK.1 hP hD hS 0 rfl rfl 13 (by decide) (hts _ w_fieldLink_X6_142) (fun _ h9 => h9) rfl (by decide +kernel) rfl rfl (Nat.le_of_ble_eq_true rfl) dX6_takes_41 (fun H locs hP hD hS => ?_)
      have hP : va_P (dC, dI) vwCl (cM cyI a (M_set_spot v ((M_spot v) + s40))) H := hP
      have hD : va_D A (cM cyI a (M_set_spot v ((M_spot v) + s40))) := hD
      refine lv_aload_n hx hb dX6_takes_44 rfl (lv_at hl 0 rfl) ?_
      refine lv_aload_n hx hb dX6_takes_45 rfl (lv_at hl 0 rfl) ?_
      refine va_get (D := (dC, dI)) (ci := 6) (v := .int (M_isWrong v)) (C := RX6) (T := TX6) (N := 23) hx hb hts inX6 hown hK.1 hP 0 rfl rfl 14 (by decide) (hts _ w_fieldLink_X6_138) (fun _ h9 => h9) rfl dX6_takes_46 ?_
      obtain ⟨j61, hj61, hF⟩ := jn_use hF
      have hJ61 : ∀ (s61 : Int32) (H : Heap) (locs : List Loc) (ls : Array Slot) (hz_61_s1 : b01 s61), va_P (dC, dI) vwCl (cM cyI a (M_set_spot v ((M_spot v) + s40))) H → va_D A (cM cyI a (M_set_spot v ((M_spot v) + s40))) → va_S A s.heap H locs → lv_has ls 5 [(4, .int s24)] → j61 s61 = some out → W p l e (headSpec (Cond.code yX6_takes cX6_takes 5 (some .int) :: wT) ({ frames := 2, cells := 0, slots := 0, locals := 44 } : Room)).room s m ([.ref (a 0), .int p1, .int p2] : List Value).toArray below meth c H locs 0 0 (MQ below (va_Qi (fun (r : Int32) (u : MV) => (r, u) = out) (fun u t => va_P (dC, dI) vwCl (cM cyI a u) t.heap ∧ va_D A (cM cyI a u)) A) ([.ref (a 0), .int p1, .int p2] : List Value).toArray s 0 0 A) (F0 m 61 ls [.int s61, .ref (a 0)]) := by
        intro s61 H locs ls hz_61_s1 hP hD hS hl hF
        have hF := (congrFun hj61 s61).symm.trans hF
        refine va_put (D := (dC, dI)) (ci := 6) (v := .int s61) (ty := .boolean) (C := RX6) (T := TX6) (N := 23) hx hb hts inX6 tyX6 tyX6_ok nmX6 hown hK.1 hP hD hS 0 rfl rfl 14 (by decide) (hts _ w_fieldLink_X6_138) (fun _ h9 => h9) rfl (by decide +kernel) (b01_n hz_61_s1) (b01_f hz_61_s1) (Nat.le_of_ble_eq_true rfl) dX6_takes_61 (fun H locs hP hD hS => ?_)
        have hP : va_P (dC, dI) vwCl (cM cyI a (M_set_isWrong (M_set_spot v ((M_spot v) + s40)) s61)) H := hP
        have hD : va_D A (cM cyI a (M_set_isWrong (M_set_spot v ((M_spot v) + s40)) s61)) := hD
        refine lv_iload hx hb dX6_takes_64 (lv_at hl 0 rfl) ?_
        exact W.iret (v := s24) hx hb hr (fun t ht hW => ⟨⟨_, (M_set_isWrong (M_set_spot v ((M_spot v) + s40)) s61), rfl, Option.some.inj hF, by rw [ht]; exact hP, hD⟩, hS.F ht⟩) hS.2.2 dX6_takes_66
      obtain ⟨j56, hj56, hF⟩ := jn_use hF
      have hJ56 : ∀ (s56 : Unit) (H : Heap) (locs : List Loc) (ls : Array Slot), va_P (dC, dI) vwCl (cM cyI a (M_set_spot v ((M_spot v) + s40))) H → va_D A (cM cyI a (M_set_spot v ((M_spot v) + s40))) → va_S A s.heap H locs → lv_has ls 5 [(4, .int s24)] → j56 s56 = some out → W p l e (headSpec (Cond.code yX6_takes cX6_takes 5 (some .int) :: wT) ({ frames := 2, cells := 0, slots := 0, locals := 44 } : Room)).room s m ([.ref (a 0), .int p1, .int p2] : List Value).toArray below meth c H locs 0 0 (MQ below (va_Qi (fun (r : Int32) (u : MV) => (r, u) = out) (fun u t => va_P (dC, dI) vwCl (cM cyI a u) t.heap ∧ va_D A (cM cyI a u)) A) ([.ref (a 0), .int p1, .int p2] : List Value).toArray s 0 0 A) (F0 m 56 ls [.ref (a 0)]) := by
        intro s56 H locs ls hP hD hS hl hF
        have hF := (congrFun hj56 s56).symm.trans hF
        refine lv_iconst (v := 1) hx hb dX6_takes_56 (by decide) ?_
        refine lv_goto (tgt := 61) hx hb dX6_takes_57 (by decide) ?_
        exact hJ61 (1 : Int32) _ _ _ b01_1 hP hD hS (lv_sub hl [0] rfl) hF
      refine lv_if_ne (tgt := 56) hx hb dX6_takes_49 (by decide) (fun c4 => ?_) (fun c4 => ?_)
      · have hF := itn c4 hF
        exact hJ56 () _ _ _ hP hD hS (lv_sub hl [2] rfl) hF
      · have hF := itp c4 hF
        refine lv_iload_n hx hb dX6_takes_52 rfl (lv_at hl 1 rfl) ?_
        refine lv_if_ne (tgt := 60) hx hb dX6_takes_53 (by decide) (fun c5 => ?_) (fun c5 => ?_)
        · have hF := itn c5 hF
          refine lv_iconst (v := 0) hx hb dX6_takes_60 (by decide) ?_
          exact hJ61 (0 : Int32) _ _ _ b01_0 hP hD hS (lv_sub hl [2] rfl) hF
        · have hF := itp c5 hF
          exact hJ56 () _ _ _ hP hD hS (lv_sub hl [2] rfl) hF
    refine lv_if_eq (tgt := 39) hx hb dX6_takes_32 (by decide) (fun c6 => ?_) (fun c6 => ?_)
    · have hF := itp c6 hF
      refine lv_iconst (v := 0) hx hb dX6_takes_39 (by decide) ?_
      exact hJ40 (0 : Int32) _ _ _ b01_0 hP hD hS (lv_sub hl [1, 2, 0] rfl) hF
    · have hF := itn c6 hF
      refine lv_iconst (v := 1) hx hb dX6_takes_35 (by decide) ?_
      refine lv_goto (tgt := 40) hx hb dX6_takes_36 (by decide) ?_
      exact hJ40 (1 : Int32) _ _ _ b01_1 hP hD hS (lv_sub hl [1, 2, 0] rfl) hF
  refine lv_if_eq (tgt := 23) hx hb dX6_takes_8 (by decide) (fun c7 => ?_) (fun c7 => ?_)
  · have hF := itp c7 hF
    refine lv_iload_n hx hb dX6_takes_23 rfl (lv_at hl 2 rfl) ?_
    exact hJ24 p1 _ _ _ hP hD hS (lv_sub hl [1, 0] rfl) hF
  · have hF := itn c7 hF
    refine lv_aload_n hx hb dX6_takes_11 rfl (lv_at hl 1 rfl) ?_
    refine va_get (D := (dC, dI)) (ci := 6) (v := .ref (a 6)) (C := RX6) (T := TX6) (N := 23) hx hb hts inX6 hown hK.1 hP 0 rfl rfl 8 (by decide) (hts _ w_fieldLink_X6_25) (fun _ h9 => h9) rfl dX6_takes_12 ?_
    refine lv_aload_n hx hb dX6_takes_15 rfl (lv_at hl 1 rfl) ?_
    refine va_get (D := (dC, dI)) (ci := 6) (v := .int (M_spot v)) (C := RX6) (T := TX6) (N := 23) hx hb hts inX6 hown hK.1 hP 0 rfl rfl 13 (by decide) (hts _ w_fieldLink_X6_142) (fun _ h9 => h9) rfl dX6_takes_16 ?_
    obtain ⟨hg8, hF⟩ := gd_use hF
    refine va_iald hx hb hK.1 hP 6 0 rfl rfl (i := (M_spot v)) hg8 dX6_takes_19 ?_
    refine lv_goto (tgt := 24) hx hb dX6_takes_20 (by decide) ?_
    exact hJ24 ((M_buffer v) (M_spot v).toNatClampNeg) _ _ _ hP hD hS (lv_sub hl [1, 0] rfl) hF
theorem dX6_number_0 : decode cX6_number 0 = .ok (.aload_n 0, 1) := by decide +kernel
theorem dX6_number_1 : decode cX6_number 1 = .ok (.bipush 48, 2) := by decide +kernel
theorem dX6_number_3 : decode cX6_number 3 = .ok (.iload_n 1, 1) := by decide +kernel
theorem dX6_number_4 : decode cX6_number 4 = .ok (.bipush 10, 2) := by decide +kernel
theorem dX6_number_6 : decode cX6_number 6 = .ok (.idiv, 1) := by decide +kernel
theorem dX6_number_7 : decode cX6_number 7 = .ok (.iadd, 1) := by decide +kernel
theorem dX6_number_8 : decode cX6_number 8 = .ok (.bipush 48, 2) := by decide +kernel
theorem dX6_number_10 : decode cX6_number 10 = .ok (.iload_n 2, 1) := by decide +kernel
theorem dX6_number_11 : decode cX6_number 11 = .ok (.bipush 10, 2) := by decide +kernel
theorem dX6_number_13 : decode cX6_number 13 = .ok (.idiv, 1) := by decide +kernel
theorem dX6_number_14 : decode cX6_number 14 = .ok (.iadd, 1) := by decide +kernel
theorem dX6_number_15 : decode cX6_number 15 = .ok (.invokevirtual 149, 3) := by decide +kernel
theorem dX6_number_18 : decode cX6_number 18 = .ok (.bipush 48, 2) := by decide +kernel
theorem dX6_number_20 : decode cX6_number 20 = .ok (.isub, 1) := by decide +kernel
theorem dX6_number_21 : decode cX6_number 21 = .ok (.istore_n 3, 1) := by decide +kernel
theorem dX6_number_22 : decode cX6_number 22 = .ok (.iload_n 3, 1) := by decide +kernel
theorem dX6_number_23 : decode cX6_number 23 = .ok (.iload_n 1, 1) := by decide +kernel
theorem dX6_number_24 : decode cX6_number 24 = .ok (.bipush 10, 2) := by decide +kernel
theorem dX6_number_26 : decode cX6_number 26 = .ok (.idiv, 1) := by decide +kernel
theorem dX6_number_27 : decode cX6_number 27 = .ok (.if_icmp .ne 10, 3) := by decide +kernel
theorem dX6_number_30 : decode cX6_number 30 = .ok (.iload_n 1, 1) := by decide +kernel
theorem dX6_number_31 : decode cX6_number 31 = .ok (.bipush 10, 2) := by decide +kernel
theorem dX6_number_33 : decode cX6_number 33 = .ok (.irem, 1) := by decide +kernel
theorem dX6_number_34 : decode cX6_number 34 = .ok (.goto 4, 3) := by decide +kernel
theorem dX6_number_37 : decode cX6_number 37 = .ok (.iconst 0, 1) := by decide +kernel
theorem dX6_number_38 : decode cX6_number 38 = .ok (.istore 4, 2) := by decide +kernel
theorem dX6_number_40 : decode cX6_number 40 = .ok (.iload_n 3, 1) := by decide +kernel
theorem dX6_number_41 : decode cX6_number 41 = .ok (.iload_n 2, 1) := by decide +kernel
theorem dX6_number_42 : decode cX6_number 42 = .ok (.bipush 10, 2) := by decide +kernel
theorem dX6_number_44 : decode cX6_number 44 = .ok (.idiv, 1) := by decide +kernel
theorem dX6_number_45 : decode cX6_number 45 = .ok (.if_icmp .ne 10, 3) := by decide +kernel
theorem dX6_number_48 : decode cX6_number 48 = .ok (.iload_n 2, 1) := by decide +kernel
theorem dX6_number_49 : decode cX6_number 49 = .ok (.bipush 10, 2) := by decide +kernel
theorem dX6_number_51 : decode cX6_number 51 = .ok (.irem, 1) := by decide +kernel
theorem dX6_number_52 : decode cX6_number 52 = .ok (.goto 5, 3) := by decide +kernel
theorem dX6_number_55 : decode cX6_number 55 = .ok (.bipush 9, 2) := by decide +kernel
theorem dX6_number_57 : decode cX6_number 57 = .ok (.istore 5, 2) := by decide +kernel
theorem dX6_number_59 : decode cX6_number 59 = .ok (.bipush 10, 2) := by decide +kernel
theorem dX6_number_61 : decode cX6_number 61 = .ok (.iload_n 3, 1) := by decide +kernel
theorem dX6_number_62 : decode cX6_number 62 = .ok (.imul, 1) := by decide +kernel
theorem dX6_number_63 : decode cX6_number 63 = .ok (.aload_n 0, 1) := by decide +kernel
theorem dX6_number_64 : decode cX6_number 64 = .ok (.bipush 48, 2) := by decide +kernel
theorem dX6_number_66 : decode cX6_number 66 = .ok (.iload 4, 2) := by decide +kernel
theorem dX6_number_68 : decode cX6_number 68 = .ok (.iadd, 1) := by decide +kernel
theorem dX6_number_69 : decode cX6_number 69 = .ok (.bipush 48, 2) := by decide +kernel
theorem dX6_number_71 : decode cX6_number 71 = .ok (.iload 5, 2) := by decide +kernel
theorem dX6_number_73 : decode cX6_number 73 = .ok (.iadd, 1) := by decide +kernel
theorem dX6_number_74 : decode cX6_number 74 = .ok (.invokevirtual 149, 3) := by decide +kernel
theorem dX6_number_77 : decode cX6_number 77 = .ok (.iadd, 1) := by decide +kernel
theorem dX6_number_78 : decode cX6_number 78 = .ok (.bipush 48, 2) := by decide +kernel
theorem dX6_number_80 : decode cX6_number 80 = .ok (.isub, 1) := by decide +kernel
theorem dX6_number_81 : decode cX6_number 81 = .ok (.ireturn, 1) := by decide +kernel
def f_X6_number (N : Nat) (v : MV) (p1 : Int32) (p2 : Int32) : Option (Int32 × MV) :=
  (f_X6_takes N v ((48 : Int32) + (p1 / (10 : Int32))) ((48 : Int32) + (p2 / (10 : Int32)))).bind (fun o1 => jn (fun (s38 : Int32) => jn (fun (s57 : Int32) => (f_X6_takes N o1.2 ((48 : Int32) + s38) ((48 : Int32) + s57)).bind (fun o3 => some (((((10 : Int32) * (o1.1 - (48 : Int32))) + o3.1) - (48 : Int32)), o3.2))) (fun (j57 : (Int32) → Option (Int32 × MV)) => (if (o1.1 - (48 : Int32)) = (p2 / (10 : Int32)) then j57 (p2 - p2 / (10 : Int32) * (10 : Int32)) else j57 (9 : Int32)))) (fun (j38 : (Int32) → Option (Int32 × MV)) => (if (o1.1 - (48 : Int32)) = (p1 / (10 : Int32)) then j38 (p1 - p1 / (10 : Int32) * (10 : Int32)) else j38 (0 : Int32))))
set_option maxHeartbeats 4000000 in
set_option maxRecDepth 100000 in
theorem met_X6_number (l : Launch) (dC : Nat → ClassId) (dI : Nat → Nat → Nat) (cyI cyO cyL : ClassId) (a : Nat → Nat) (sz : Nat) (N : Nat) (v : MV) (p1 : Int32) (p2 : Int32) (out : Int32 × MV) (hF : f_X6_number N v p1 p2 = some out) : Met l yX6_number (Cond.code yX6_number cX6_number 6 (some .int) :: wT) ({ frames := 3, cells := 0, slots := 0, locals := 68 } : Room) (wWr dC dI cyI cyO cyL [.ref (a 0), .int p1, .int p2] (cM cyI a v) sz) (va_Qi (fun (r : Int32) (u : MV) => (r, u) = out) (fun u t => va_P (dC, dI) vwCl (cM cyI a u) t.heap ∧ va_D (va_A (cM cyI a v) sz) (cM cyI a u)) (va_A (cM cyI a v) sz)) 0 0 (va_A (cM cyI a v) sz) := by
  refine Met.ofW (cc := cX6_number) (maxL := 6) (ret := (some .int)) (by decide) rfl ?_
  intro p e s m args below meth c s₁ B hml hv
  obtain ⟨rfl, hsz, hP, hK, hD0⟩ := hv
  have hx := B.exec
  have hb := B.bytes
  have hr := B.returns
  have hts0 := atoms_spec (ws := (Cond.code yX6_number cX6_number 6 (some .int) :: wT)) B.pre
  have hts := fun w h => hts0 w (List.mem_cons_of_mem _ h)
  clear hts0
  have hown : s.vm.findClass RX6 = some m.cls := findClass_of_methodNamed B.named
  have hlocks := B.notSynchronized
  subst hsz
  have hD := hD0.self (sz := s.heap.size)
  generalize hAe : va_A (cM cyI a v) s.heap.size = A at hD ⊢
  have hA : ∀ q : Nat, s.heap.size ≤ q → A q := fun q h => by rw [← hAe]; exact Or.inr h
  clear hD0
  have hS : va_S A s.heap s.heap [] := va_S.rf
  have hl := lv_entry [.ref (a 0), .int p1, .int p2] (n := 6) (Nat.le_of_ble_eq_true rfl)
  rw [lg_entry_eq]
  generalize (lg_sl [.ref (a 0), .int p1, .int p2] ++ List.replicate (6 - (lg_sl [.ref (a 0), .int p1, .int p2]).length) Slot.unset).toArray = ls at hl ⊢
  have hl : lv_has ls 6 [(0, .ref (a 0)), (1, .int p1), (2, .int p2)] := hl
  unfold f_X6_number at hF
  refine lv_aload_n hx hb dX6_number_0 rfl (lv_at hl 0 rfl) ?_
  refine lv_bipush (v := 48) hx hb dX6_number_1 (by decide) ?_
  refine lv_iload_n hx hb dX6_number_3 rfl (lv_at hl 1 rfl) ?_
  refine lv_bipush (v := 10) hx hb dX6_number_4 (by decide) ?_
  refine lv_idiv hx hb dX6_number_6 (by decide) ?_
  refine lv_iadd hx hb dX6_number_7 ?_
  refine lv_bipush (v := 48) hx hb dX6_number_8 (by decide) ?_
  refine lv_iload_n hx hb dX6_number_10 rfl (lv_at hl 2 rfl) ?_
  refine lv_bipush (v := 10) hx hb dX6_number_11 (by decide) ?_
  refine lv_idiv hx hb dX6_number_13 (by decide) ?_
  refine lv_iadd hx hb dX6_number_14 ?_
  obtain ⟨o1, h2, hF⟩ := obd hF
  refine wcWVi (As := [.int ((48 : Int32) + (p1 / (10 : Int32))), .int ((48 : Int32) + (p2 / (10 : Int32)))]) (rest := []) (wr := []) (b := (a 0)) ⟨hx, hb, hml, hown, hts⟩ (met_X6_takes l dC dI cyI cyO cyL a _ N v ((48 : Int32) + (p1 / (10 : Int32))) ((48 : Int32) + (p2 / (10 : Int32))) o1 h2) (cwV 2 hts (gV w_methodLink_X6_149 w_instanceMethod_X6_takes w_selects_X6_takes w_initialized_X6 w_code_X6_takes) rfl rfl rfl (by decide +kernel) ⟨Nat.le_of_ble_eq_true rfl, Nat.le_of_ble_eq_true rfl⟩) (va_recv hK.1 hP (ci := 6) (q0 := 0) rfl rfl) hP hD hK [0, 1, 2, 3, 4, 5, 6, 7] [] rfl rfl (by decide) (by decide) (by decide) rfl hl.1 (Nat.le_of_ble_eq_true rfl) dX6_number_15 ⟨Nat.le_of_ble_eq_true rfl, Nat.le_of_ble_eq_true rfl⟩ hS hA (fun r u H locs hw hP hD hS => ?_)
  obtain rfl : r = o1.1 := congrArg Prod.fst hw
  obtain rfl : u = o1.2 := congrArg Prod.snd hw
  clear hw
  have hP : va_P (dC, dI) vwCl (cM cyI a o1.2) H := hP
  have hD : va_D A (cM cyI a o1.2) := hD
  refine lv_bipush (v := 48) hx hb dX6_number_18 (by decide) ?_
  refine lv_isub hx hb dX6_number_20 ?_
  refine lv_istore_n (lv' := [(3, .int (o1.1 - (48 : Int32))), (0, .ref (a 0)), (1, .int p1), (2, .int p2)]) hx hb dX6_number_21 rfl hl (by decide) rfl (fun ls hl => ?_)
  refine lv_iload_n hx hb dX6_number_22 rfl (lv_at hl 0 rfl) ?_
  refine lv_iload_n hx hb dX6_number_23 rfl (lv_at hl 2 rfl) ?_
  refine lv_bipush (v := 10) hx hb dX6_number_24 (by decide) ?_
  refine lv_idiv hx hb dX6_number_26 (by decide) ?_
  obtain ⟨j38, hj38, hF⟩ := jn_use hF
  have hJ38 : ∀ (s38 : Int32) (H : Heap) (locs : List Loc) (ls : Array Slot), va_P (dC, dI) vwCl (cM cyI a o1.2) H → va_D A (cM cyI a o1.2) → va_S A s.heap H locs → lv_has ls 6 [(0, .ref (a 0)), (2, .int p2), (3, .int (o1.1 - (48 : Int32)))] → j38 s38 = some out → W p l e (headSpec (Cond.code yX6_number cX6_number 6 (some .int) :: wT) ({ frames := 3, cells := 0, slots := 0, locals := 68 } : Room)).room s m ([.ref (a 0), .int p1, .int p2] : List Value).toArray below meth c H locs 0 0 (MQ below (va_Qi (fun (r : Int32) (u : MV) => (r, u) = out) (fun u t => va_P (dC, dI) vwCl (cM cyI a u) t.heap ∧ va_D A (cM cyI a u)) A) ([.ref (a 0), .int p1, .int p2] : List Value).toArray s 0 0 A) (F0 m 38 ls [.int s38]) := by
    intro s38 H locs ls hP hD hS hl hF
    have hF := (congrFun hj38 s38).symm.trans hF
    refine lv_istore (lv' := [(4, .int s38), (0, .ref (a 0)), (2, .int p2), (3, .int (o1.1 - (48 : Int32)))]) hx hb dX6_number_38 hl (by decide) rfl (fun ls hl => ?_)
    refine lv_iload_n hx hb dX6_number_40 rfl (lv_at hl 3 rfl) ?_
    refine lv_iload_n hx hb dX6_number_41 rfl (lv_at hl 2 rfl) ?_
    refine lv_bipush (v := 10) hx hb dX6_number_42 (by decide) ?_
    refine lv_idiv hx hb dX6_number_44 (by decide) ?_
    obtain ⟨j57, hj57, hF⟩ := jn_use hF
    have hJ57 : ∀ (s57 : Int32) (H : Heap) (locs : List Loc) (ls : Array Slot), va_P (dC, dI) vwCl (cM cyI a o1.2) H → va_D A (cM cyI a o1.2) → va_S A s.heap H locs → lv_has ls 6 [(0, .ref (a 0)), (3, .int (o1.1 - (48 : Int32))), (4, .int s38)] → j57 s57 = some out → W p l e (headSpec (Cond.code yX6_number cX6_number 6 (some .int) :: wT) ({ frames := 3, cells := 0, slots := 0, locals := 68 } : Room)).room s m ([.ref (a 0), .int p1, .int p2] : List Value).toArray below meth c H locs 0 0 (MQ below (va_Qi (fun (r : Int32) (u : MV) => (r, u) = out) (fun u t => va_P (dC, dI) vwCl (cM cyI a u) t.heap ∧ va_D A (cM cyI a u)) A) ([.ref (a 0), .int p1, .int p2] : List Value).toArray s 0 0 A) (F0 m 57 ls [.int s57]) := by
      intro s57 H locs ls hP hD hS hl hF
      have hF := (congrFun hj57 s57).symm.trans hF
      refine lv_istore (lv' := [(5, .int s57), (0, .ref (a 0)), (3, .int (o1.1 - (48 : Int32))), (4, .int s38)]) hx hb dX6_number_57 hl (by decide) rfl (fun ls hl => ?_)
      refine lv_bipush (v := 10) hx hb dX6_number_59 (by decide) ?_
      refine lv_iload_n hx hb dX6_number_61 rfl (lv_at hl 2 rfl) ?_
      refine lv_imul hx hb dX6_number_62 ?_
      refine lv_aload_n hx hb dX6_number_63 rfl (lv_at hl 1 rfl) ?_
      refine lv_bipush (v := 48) hx hb dX6_number_64 (by decide) ?_
      refine lv_iload hx hb dX6_number_66 (lv_at hl 3 rfl) ?_
      refine lv_iadd hx hb dX6_number_68 ?_
      refine lv_bipush (v := 48) hx hb dX6_number_69 (by decide) ?_
      refine lv_iload hx hb dX6_number_71 (lv_at hl 0 rfl) ?_
      refine lv_iadd hx hb dX6_number_73 ?_
      obtain ⟨o3, h4, hF⟩ := obd hF
      refine wcWVi (As := [.int ((48 : Int32) + s38), .int ((48 : Int32) + s57)]) (rest := [.int ((10 : Int32) * (o1.1 - (48 : Int32)))]) (wr := []) (b := (a 0)) ⟨hx, hb, hml, hown, hts⟩ (met_X6_takes l dC dI cyI cyO cyL a _ N o1.2 ((48 : Int32) + s38) ((48 : Int32) + s57) o3 h4) (cwV 2 hts (gV w_methodLink_X6_149 w_instanceMethod_X6_takes w_selects_X6_takes w_initialized_X6 w_code_X6_takes) rfl rfl rfl (by decide +kernel) ⟨Nat.le_of_ble_eq_true rfl, Nat.le_of_ble_eq_true rfl⟩) (va_recv hK.1 hP (ci := 6) (q0 := 0) rfl rfl) hP hD hK [0, 1, 2, 3, 4, 5, 6, 7] [] rfl rfl (by decide) (by decide) (by decide) rfl hl.1 (Nat.le_of_ble_eq_true rfl) dX6_number_74 ⟨Nat.le_of_ble_eq_true rfl, Nat.le_of_ble_eq_true rfl⟩ hS hA (fun r u H locs hw hP hD hS => ?_)
      obtain rfl : r = o3.1 := congrArg Prod.fst hw
      obtain rfl : u = o3.2 := congrArg Prod.snd hw
      clear hw
      have hP : va_P (dC, dI) vwCl (cM cyI a o3.2) H := hP
      have hD : va_D A (cM cyI a o3.2) := hD
      refine lv_iadd hx hb dX6_number_77 ?_
      refine lv_bipush (v := 48) hx hb dX6_number_78 (by decide) ?_
      refine lv_isub hx hb dX6_number_80 ?_
      exact W.iret (v := ((((10 : Int32) * (o1.1 - (48 : Int32))) + o3.1) - (48 : Int32))) hx hb hr (fun t ht hW => ⟨⟨_, o3.2, rfl, Option.some.inj hF, by rw [ht]; exact hP, hD⟩, hS.F ht⟩) hS.2.2 dX6_number_81
    refine lv_icmp_ne (tgt := 55) hx hb dX6_number_45 (by decide) (fun c5 => ?_) (fun c5 => ?_)
    · have hF := itn c5 hF
      refine lv_bipush (v := 9) hx hb dX6_number_55 (by decide) ?_
      exact hJ57 (9 : Int32) _ _ _ hP hD hS (lv_sub hl [1, 3, 0] rfl) hF
    · have hF := itp c5 hF
      refine lv_iload_n hx hb dX6_number_48 rfl (lv_at hl 2 rfl) ?_
      refine lv_bipush (v := 10) hx hb dX6_number_49 (by decide) ?_
      refine lv_irem hx hb dX6_number_51 (by decide) ?_
      refine lv_goto (tgt := 57) hx hb dX6_number_52 (by decide) ?_
      exact hJ57 (p2 - p2 / (10 : Int32) * (10 : Int32)) _ _ _ hP hD hS (lv_sub hl [1, 3, 0] rfl) hF
  refine lv_icmp_ne (tgt := 37) hx hb dX6_number_27 (by decide) (fun c6 => ?_) (fun c6 => ?_)
  · have hF := itn c6 hF
    refine lv_iconst (v := 0) hx hb dX6_number_37 (by decide) ?_
    exact hJ38 (0 : Int32) _ _ _ hP hD hS (lv_sub hl [1, 3, 0] rfl) hF
  · have hF := itp c6 hF
    refine lv_iload_n hx hb dX6_number_30 rfl (lv_at hl 2 rfl) ?_
    refine lv_bipush (v := 10) hx hb dX6_number_31 (by decide) ?_
    refine lv_irem hx hb dX6_number_33 (by decide) ?_
    refine lv_goto (tgt := 38) hx hb dX6_number_34 (by decide) ?_
    exact hJ38 (p1 - p1 / (10 : Int32) * (10 : Int32)) _ _ _ hP hD hS (lv_sub hl [1, 3, 0] rfl) hF
theorem dX6_signed_0 : decode cX6_signed 0 = .ok (.aload_n 0, 1) := by decide +kernel
theorem dX6_signed_1 : decode cX6_signed 1 = .ok (.bipush 45, 2) := by decide +kernel
theorem dX6_signed_3 : decode cX6_signed 3 = .ok (.bipush 45, 2) := by decide +kernel
theorem dX6_signed_5 : decode cX6_signed 5 = .ok (.invokevirtual 145, 3) := by decide +kernel
theorem dX6_signed_8 : decode cX6_signed 8 = .ok (.ifCond .eq 28, 3) := by decide +kernel
theorem dX6_signed_11 : decode cX6_signed 11 = .ok (.aload_n 0, 1) := by decide +kernel
theorem dX6_signed_12 : decode cX6_signed 12 = .ok (.dup, 1) := by decide +kernel
theorem dX6_signed_13 : decode cX6_signed 13 = .ok (.getfield 142, 3) := by decide +kernel
theorem dX6_signed_16 : decode cX6_signed 16 = .ok (.iconst 1, 1) := by decide +kernel
theorem dX6_signed_17 : decode cX6_signed 17 = .ok (.iadd, 1) := by decide +kernel
theorem dX6_signed_18 : decode cX6_signed 18 = .ok (.putfield 142, 3) := by decide +kernel
theorem dX6_signed_21 : decode cX6_signed 21 = .ok (.aload_n 0, 1) := by decide +kernel
theorem dX6_signed_22 : decode cX6_signed 22 = .ok (.bipush 49, 2) := by decide +kernel
theorem dX6_signed_24 : decode cX6_signed 24 = .ok (.bipush 48, 2) := by decide +kernel
theorem dX6_signed_26 : decode cX6_signed 26 = .ok (.iload_n 1, 1) := by decide +kernel
theorem dX6_signed_27 : decode cX6_signed 27 = .ok (.iadd, 1) := by decide +kernel
theorem dX6_signed_28 : decode cX6_signed 28 = .ok (.invokevirtual 149, 3) := by decide +kernel
theorem dX6_signed_31 : decode cX6_signed 31 = .ok (.bipush 48, 2) := by decide +kernel
theorem dX6_signed_33 : decode cX6_signed 33 = .ok (.isub, 1) := by decide +kernel
theorem dX6_signed_34 : decode cX6_signed 34 = .ok (.ineg, 1) := by decide +kernel
theorem dX6_signed_35 : decode cX6_signed 35 = .ok (.ireturn, 1) := by decide +kernel
theorem dX6_signed_36 : decode cX6_signed 36 = .ok (.aload_n 0, 1) := by decide +kernel
theorem dX6_signed_37 : decode cX6_signed 37 = .ok (.bipush 48, 2) := by decide +kernel
theorem dX6_signed_39 : decode cX6_signed 39 = .ok (.bipush 48, 2) := by decide +kernel
theorem dX6_signed_41 : decode cX6_signed 41 = .ok (.iload_n 1, 1) := by decide +kernel
theorem dX6_signed_42 : decode cX6_signed 42 = .ok (.iadd, 1) := by decide +kernel
theorem dX6_signed_43 : decode cX6_signed 43 = .ok (.invokevirtual 149, 3) := by decide +kernel
theorem dX6_signed_46 : decode cX6_signed 46 = .ok (.bipush 48, 2) := by decide +kernel
theorem dX6_signed_48 : decode cX6_signed 48 = .ok (.isub, 1) := by decide +kernel
theorem dX6_signed_49 : decode cX6_signed 49 = .ok (.ireturn, 1) := by decide +kernel
def f_X6_signed (N : Nat) (v : MV) (p1 : Int32) : Option (Int32 × MV) :=
  (f_X6_isNext N v (45 : Int32) (45 : Int32)).bind (fun o1 => (if o1 = 0 then (f_X6_takes N v (48 : Int32) ((48 : Int32) + p1)).bind (fun o5 => some ((o5.1 - (48 : Int32)), o5.2)) else (f_X6_takes N (M_set_spot v ((M_spot v) + (1 : Int32))) (49 : Int32) ((48 : Int32) + p1)).bind (fun o7 => some ((-(o7.1 - (48 : Int32))), o7.2))))
set_option maxHeartbeats 4000000 in
set_option maxRecDepth 100000 in
theorem met_X6_signed (l : Launch) (dC : Nat → ClassId) (dI : Nat → Nat → Nat) (cyI cyO cyL : ClassId) (a : Nat → Nat) (sz : Nat) (N : Nat) (v : MV) (p1 : Int32) (out : Int32 × MV) (hF : f_X6_signed N v p1 = some out) : Met l yX6_signed (Cond.code yX6_signed cX6_signed 2 (some .int) :: wT) ({ frames := 3, cells := 0, slots := 0, locals := 68 } : Room) (wWr dC dI cyI cyO cyL [.ref (a 0), .int p1] (cM cyI a v) sz) (va_Qi (fun (r : Int32) (u : MV) => (r, u) = out) (fun u t => va_P (dC, dI) vwCl (cM cyI a u) t.heap ∧ va_D (va_A (cM cyI a v) sz) (cM cyI a u)) (va_A (cM cyI a v) sz)) 0 0 (va_A (cM cyI a v) sz) := by
  refine Met.ofW (cc := cX6_signed) (maxL := 2) (ret := (some .int)) (by decide) rfl ?_
  intro p e s m args below meth c s₁ B hml hv
  obtain ⟨rfl, hsz, hP, hK, hD0⟩ := hv
  have hx := B.exec
  have hb := B.bytes
  have hr := B.returns
  have hts0 := atoms_spec (ws := (Cond.code yX6_signed cX6_signed 2 (some .int) :: wT)) B.pre
  have hts := fun w h => hts0 w (List.mem_cons_of_mem _ h)
  clear hts0
  have hown : s.vm.findClass RX6 = some m.cls := findClass_of_methodNamed B.named
  have hlocks := B.notSynchronized
  subst hsz
  have hD := hD0.self (sz := s.heap.size)
  generalize hAe : va_A (cM cyI a v) s.heap.size = A at hD ⊢
  have hA : ∀ q : Nat, s.heap.size ≤ q → A q := fun q h => by rw [← hAe]; exact Or.inr h
  clear hD0
  have hS : va_S A s.heap s.heap [] := va_S.rf
  have hl := lv_entry [.ref (a 0), .int p1] (n := 2) (Nat.le_of_ble_eq_true rfl)
  rw [lg_entry_eq]
  generalize (lg_sl [.ref (a 0), .int p1] ++ List.replicate (2 - (lg_sl [.ref (a 0), .int p1]).length) Slot.unset).toArray = ls at hl ⊢
  have hl : lv_has ls 2 [(0, .ref (a 0)), (1, .int p1)] := hl
  unfold f_X6_signed at hF
  refine lv_aload_n hx hb dX6_signed_0 rfl (lv_at hl 0 rfl) ?_
  refine lv_bipush (v := 45) hx hb dX6_signed_1 (by decide) ?_
  refine lv_bipush (v := 45) hx hb dX6_signed_3 (by decide) ?_
  obtain ⟨o1, h2, hF⟩ := obd hF
  refine wcRVi (As := [.int (45 : Int32), .int (45 : Int32)]) (rest := []) (b := (a 0)) ⟨hx, hb, hml, hown, hts⟩ (met_X6_isNext l dC dI cyI cyO cyL a N v (45 : Int32) (45 : Int32) o1 h2) (cwV 2 hts (gV w_methodLink_X6_145 w_instanceMethod_X6_isNext w_selects_X6_isNext w_initialized_X6 w_code_X6_isNext) rfl rfl rfl (by decide +kernel) ⟨Nat.le_of_ble_eq_true rfl, Nat.le_of_ble_eq_true rfl⟩) (va_recv hK.1 hP (ci := 6) (q0 := 0) rfl rfl) hP hK [0, 1, 2, 3, 4, 5, 6, 7] rfl rfl hl.1 (Nat.le_of_ble_eq_true rfl) dX6_signed_5 ⟨Nat.le_of_ble_eq_true rfl, Nat.le_of_ble_eq_true rfl⟩ hS (fun r H locs hw hP hS => ?_)
  obtain ⟨hw, hz3⟩ := hw
  have hw := hw.symm
  subst hw
  refine lv_if_eq (tgt := 36) hx hb dX6_signed_8 (by decide) (fun c4 => ?_) (fun c4 => ?_)
  · have hF := itp c4 hF
    refine lv_aload_n hx hb dX6_signed_36 rfl (lv_at hl 0 rfl) ?_
    refine lv_bipush (v := 48) hx hb dX6_signed_37 (by decide) ?_
    refine lv_bipush (v := 48) hx hb dX6_signed_39 (by decide) ?_
    refine lv_iload_n hx hb dX6_signed_41 rfl (lv_at hl 1 rfl) ?_
    refine lv_iadd hx hb dX6_signed_42 ?_
    obtain ⟨o5, h6, hF⟩ := obd hF
    refine wcWVi (As := [.int (48 : Int32), .int ((48 : Int32) + p1)]) (rest := []) (wr := []) (b := (a 0)) ⟨hx, hb, hml, hown, hts⟩ (met_X6_takes l dC dI cyI cyO cyL a _ N v (48 : Int32) ((48 : Int32) + p1) o5 h6) (cwV 2 hts (gV w_methodLink_X6_149 w_instanceMethod_X6_takes w_selects_X6_takes w_initialized_X6 w_code_X6_takes) rfl rfl rfl (by decide +kernel) ⟨Nat.le_of_ble_eq_true rfl, Nat.le_of_ble_eq_true rfl⟩) (va_recv hK.1 hP (ci := 6) (q0 := 0) rfl rfl) hP hD hK [0, 1, 2, 3, 4, 5, 6, 7] [] rfl rfl (by decide) (by decide) (by decide) rfl hl.1 (Nat.le_of_ble_eq_true rfl) dX6_signed_43 ⟨Nat.le_of_ble_eq_true rfl, Nat.le_of_ble_eq_true rfl⟩ hS hA (fun r u H locs hw hP hD hS => ?_)
    obtain rfl : r = o5.1 := congrArg Prod.fst hw
    obtain rfl : u = o5.2 := congrArg Prod.snd hw
    clear hw
    have hP : va_P (dC, dI) vwCl (cM cyI a o5.2) H := hP
    have hD : va_D A (cM cyI a o5.2) := hD
    refine lv_bipush (v := 48) hx hb dX6_signed_46 (by decide) ?_
    refine lv_isub hx hb dX6_signed_48 ?_
    exact W.iret (v := (o5.1 - (48 : Int32))) hx hb hr (fun t ht hW => ⟨⟨_, o5.2, rfl, Option.some.inj hF, by rw [ht]; exact hP, hD⟩, hS.F ht⟩) hS.2.2 dX6_signed_49
  · have hF := itn c4 hF
    refine lv_aload_n hx hb dX6_signed_11 rfl (lv_at hl 0 rfl) ?_
    refine lv_dup hx hb dX6_signed_12 rfl ?_
    refine va_get (D := (dC, dI)) (ci := 6) (v := .int (M_spot v)) (C := RX6) (T := TX6) (N := 23) hx hb hts inX6 hown hK.1 hP 0 rfl rfl 13 (by decide) (hts _ w_fieldLink_X6_142) (fun _ h9 => h9) rfl dX6_signed_13 ?_
    refine lv_iconst (v := 1) hx hb dX6_signed_16 (by decide) ?_
    refine lv_iadd hx hb dX6_signed_17 ?_
    refine va_put (D := (dC, dI)) (ci := 6) (v := .int ((M_spot v) + (1 : Int32))) (ty := .int) (C := RX6) (T := TX6) (N := 23) hx hb hts inX6 tyX6 tyX6_ok nmX6 hown hK.1 hP hD hS 0 rfl rfl 13 (by decide) (hts _ w_fieldLink_X6_142) (fun _ h9 => h9) rfl (by decide +kernel) rfl rfl (Nat.le_of_ble_eq_true rfl) dX6_signed_18 (fun H locs hP hD hS => ?_)
    have hP : va_P (dC, dI) vwCl (cM cyI a (M_set_spot v ((M_spot v) + (1 : Int32)))) H := hP
    have hD : va_D A (cM cyI a (M_set_spot v ((M_spot v) + (1 : Int32)))) := hD
    refine lv_aload_n hx hb dX6_signed_21 rfl (lv_at hl 0 rfl) ?_
    refine lv_bipush (v := 49) hx hb dX6_signed_22 (by decide) ?_
    refine lv_bipush (v := 48) hx hb dX6_signed_24 (by decide) ?_
    refine lv_iload_n hx hb dX6_signed_26 rfl (lv_at hl 1 rfl) ?_
    refine lv_iadd hx hb dX6_signed_27 ?_
    obtain ⟨o7, h8, hF⟩ := obd hF
    refine wcWVi (As := [.int (49 : Int32), .int ((48 : Int32) + p1)]) (rest := []) (wr := []) (b := (a 0)) ⟨hx, hb, hml, hown, hts⟩ (met_X6_takes l dC dI cyI cyO cyL a _ N (M_set_spot v ((M_spot v) + (1 : Int32))) (49 : Int32) ((48 : Int32) + p1) o7 h8) (cwV 2 hts (gV w_methodLink_X6_149 w_instanceMethod_X6_takes w_selects_X6_takes w_initialized_X6 w_code_X6_takes) rfl rfl rfl (by decide +kernel) ⟨Nat.le_of_ble_eq_true rfl, Nat.le_of_ble_eq_true rfl⟩) (va_recv hK.1 hP (ci := 6) (q0 := 0) rfl rfl) hP hD hK [0, 1, 2, 3, 4, 5, 6, 7] [] rfl rfl (by decide) (by decide) (by decide) rfl hl.1 (Nat.le_of_ble_eq_true rfl) dX6_signed_28 ⟨Nat.le_of_ble_eq_true rfl, Nat.le_of_ble_eq_true rfl⟩ hS hA (fun r u H locs hw hP hD hS => ?_)
    obtain rfl : r = o7.1 := congrArg Prod.fst hw
    obtain rfl : u = o7.2 := congrArg Prod.snd hw
    clear hw
    have hP : va_P (dC, dI) vwCl (cM cyI a o7.2) H := hP
    have hD : va_D A (cM cyI a o7.2) := hD
    refine lv_bipush (v := 48) hx hb dX6_signed_31 (by decide) ?_
    refine lv_isub hx hb dX6_signed_33 ?_
    refine lv_ineg hx hb dX6_signed_34 ?_
    exact W.iret (v := (-(o7.1 - (48 : Int32)))) hx hb hr (fun t ht hW => ⟨⟨_, o7.2, rfl, Option.some.inj hF, by rw [ht]; exact hP, hD⟩, hS.F ht⟩) hS.2.2 dX6_signed_35
theorem dX6_readMove_0 : decode cX6_readMove 0 = .ok (.aload_n 0, 1) := by decide +kernel
theorem dX6_readMove_1 : decode cX6_readMove 1 = .ok (.getfield 142, 3) := by decide +kernel
theorem dX6_readMove_4 : decode cX6_readMove 4 = .ok (.aload_n 0, 1) := by decide +kernel
theorem dX6_readMove_5 : decode cX6_readMove 5 = .ok (.getfield 135, 3) := by decide +kernel
theorem dX6_readMove_8 : decode cX6_readMove 8 = .ok (.if_icmp .eq 59, 3) := by decide +kernel
theorem dX6_readMove_11 : decode cX6_readMove 11 = .ok (.aload_n 0, 1) := by decide +kernel
theorem dX6_readMove_12 : decode cX6_readMove 12 = .ok (.getfield 25, 3) := by decide +kernel
theorem dX6_readMove_15 : decode cX6_readMove 15 = .ok (.aload_n 0, 1) := by decide +kernel
theorem dX6_readMove_16 : decode cX6_readMove 16 = .ok (.getfield 142, 3) := by decide +kernel
theorem dX6_readMove_19 : decode cX6_readMove 19 = .ok (.iaload, 1) := by decide +kernel
theorem dX6_readMove_20 : decode cX6_readMove 20 = .ok (.bipush 106, 2) := by decide +kernel
theorem dX6_readMove_22 : decode cX6_readMove 22 = .ok (.if_icmp .eq 51, 3) := by decide +kernel
theorem dX6_readMove_25 : decode cX6_readMove 25 = .ok (.aload_n 0, 1) := by decide +kernel
theorem dX6_readMove_26 : decode cX6_readMove 26 = .ok (.getfield 25, 3) := by decide +kernel
theorem dX6_readMove_29 : decode cX6_readMove 29 = .ok (.aload_n 0, 1) := by decide +kernel
theorem dX6_readMove_30 : decode cX6_readMove 30 = .ok (.getfield 142, 3) := by decide +kernel
theorem dX6_readMove_33 : decode cX6_readMove 33 = .ok (.iaload, 1) := by decide +kernel
theorem dX6_readMove_34 : decode cX6_readMove 34 = .ok (.bipush 98, 2) := by decide +kernel
theorem dX6_readMove_36 : decode cX6_readMove 36 = .ok (.if_icmp .eq 37, 3) := by decide +kernel
theorem dX6_readMove_39 : decode cX6_readMove 39 = .ok (.aload_n 0, 1) := by decide +kernel
theorem dX6_readMove_40 : decode cX6_readMove 40 = .ok (.getfield 25, 3) := by decide +kernel
theorem dX6_readMove_43 : decode cX6_readMove 43 = .ok (.aload_n 0, 1) := by decide +kernel
theorem dX6_readMove_44 : decode cX6_readMove 44 = .ok (.getfield 142, 3) := by decide +kernel
theorem dX6_readMove_47 : decode cX6_readMove 47 = .ok (.iaload, 1) := by decide +kernel
theorem dX6_readMove_48 : decode cX6_readMove 48 = .ok (.bipush 99, 2) := by decide +kernel
theorem dX6_readMove_50 : decode cX6_readMove 50 = .ok (.if_icmp .eq 23, 3) := by decide +kernel
theorem dX6_readMove_53 : decode cX6_readMove 53 = .ok (.aload_n 0, 1) := by decide +kernel
theorem dX6_readMove_54 : decode cX6_readMove 54 = .ok (.getfield 25, 3) := by decide +kernel
theorem dX6_readMove_57 : decode cX6_readMove 57 = .ok (.aload_n 0, 1) := by decide +kernel
theorem dX6_readMove_58 : decode cX6_readMove 58 = .ok (.getfield 142, 3) := by decide +kernel
theorem dX6_readMove_61 : decode cX6_readMove 61 = .ok (.iaload, 1) := by decide +kernel
theorem dX6_readMove_62 : decode cX6_readMove 62 = .ok (.bipush 119, 2) := by decide +kernel
theorem dX6_readMove_64 : decode cX6_readMove 64 = .ok (.if_icmp .eq 9, 3) := by decide +kernel
theorem dX6_readMove_67 : decode cX6_readMove 67 = .ok (.aload_n 0, 1) := by decide +kernel
theorem dX6_readMove_68 : decode cX6_readMove 68 = .ok (.iconst 1, 1) := by decide +kernel
theorem dX6_readMove_69 : decode cX6_readMove 69 = .ok (.putfield 138, 3) := by decide +kernel
theorem dX6_readMove_72 : decode cX6_readMove 72 = .ok (.return_, 1) := by decide +kernel
theorem dX6_readMove_73 : decode cX6_readMove 73 = .ok (.aload_n 0, 1) := by decide +kernel
theorem dX6_readMove_74 : decode cX6_readMove 74 = .ok (.aload_n 0, 1) := by decide +kernel
theorem dX6_readMove_75 : decode cX6_readMove 75 = .ok (.getfield 25, 3) := by decide +kernel
theorem dX6_readMove_78 : decode cX6_readMove 78 = .ok (.aload_n 0, 1) := by decide +kernel
theorem dX6_readMove_79 : decode cX6_readMove 79 = .ok (.getfield 142, 3) := by decide +kernel
theorem dX6_readMove_82 : decode cX6_readMove 82 = .ok (.iaload, 1) := by decide +kernel
theorem dX6_readMove_83 : decode cX6_readMove 83 = .ok (.putfield 152, 3) := by decide +kernel
theorem dX6_readMove_86 : decode cX6_readMove 86 = .ok (.aload_n 0, 1) := by decide +kernel
theorem dX6_readMove_87 : decode cX6_readMove 87 = .ok (.dup, 1) := by decide +kernel
theorem dX6_readMove_88 : decode cX6_readMove 88 = .ok (.getfield 142, 3) := by decide +kernel
theorem dX6_readMove_91 : decode cX6_readMove 91 = .ok (.iconst 1, 1) := by decide +kernel
theorem dX6_readMove_92 : decode cX6_readMove 92 = .ok (.iadd, 1) := by decide +kernel
theorem dX6_readMove_93 : decode cX6_readMove 93 = .ok (.putfield 142, 3) := by decide +kernel
theorem dX6_readMove_96 : decode cX6_readMove 96 = .ok (.aload_n 0, 1) := by decide +kernel
theorem dX6_readMove_97 : decode cX6_readMove 97 = .ok (.getfield 152, 3) := by decide +kernel
theorem dX6_readMove_100 : decode cX6_readMove 100 = .ok (.bipush 106, 2) := by decide +kernel
theorem dX6_readMove_102 : decode cX6_readMove 102 = .ok (.if_icmp .ne 18, 3) := by decide +kernel
theorem dX6_readMove_105 : decode cX6_readMove 105 = .ok (.aload_n 0, 1) := by decide +kernel
theorem dX6_readMove_106 : decode cX6_readMove 106 = .ok (.aload_n 0, 1) := by decide +kernel
theorem dX6_readMove_107 : decode cX6_readMove 107 = .ok (.bipush 20, 2) := by decide +kernel
theorem dX6_readMove_109 : decode cX6_readMove 109 = .ok (.bipush 50, 2) := by decide +kernel
theorem dX6_readMove_111 : decode cX6_readMove 111 = .ok (.invokevirtual 155, 3) := by decide +kernel
theorem dX6_readMove_114 : decode cX6_readMove 114 = .ok (.putfield 158, 3) := by decide +kernel
theorem dX6_readMove_117 : decode cX6_readMove 117 = .ok (.goto 82, 3) := by decide +kernel
theorem dX6_readMove_120 : decode cX6_readMove 120 = .ok (.aload_n 0, 1) := by decide +kernel
theorem dX6_readMove_121 : decode cX6_readMove 121 = .ok (.getfield 152, 3) := by decide +kernel
theorem dX6_readMove_124 : decode cX6_readMove 124 = .ok (.bipush 119, 2) := by decide +kernel
theorem dX6_readMove_126 : decode cX6_readMove 126 = .ok (.if_icmp .ne 15, 3) := by decide +kernel
theorem dX6_readMove_129 : decode cX6_readMove 129 = .ok (.aload_n 0, 1) := by decide +kernel
theorem dX6_readMove_130 : decode cX6_readMove 130 = .ok (.aload_n 0, 1) := by decide +kernel
theorem dX6_readMove_131 : decode cX6_readMove 131 = .ok (.iconst 5, 1) := by decide +kernel
theorem dX6_readMove_132 : decode cX6_readMove 132 = .ok (.invokevirtual 161, 3) := by decide +kernel
theorem dX6_readMove_135 : decode cX6_readMove 135 = .ok (.putfield 158, 3) := by decide +kernel
theorem dX6_readMove_138 : decode cX6_readMove 138 = .ok (.goto 61, 3) := by decide +kernel
theorem dX6_readMove_141 : decode cX6_readMove 141 = .ok (.aload_n 0, 1) := by decide +kernel
theorem dX6_readMove_142 : decode cX6_readMove 142 = .ok (.getfield 152, 3) := by decide +kernel
theorem dX6_readMove_145 : decode cX6_readMove 145 = .ok (.bipush 98, 2) := by decide +kernel
theorem dX6_readMove_147 : decode cX6_readMove 147 = .ok (.if_icmp .ne 52, 3) := by decide +kernel
theorem dX6_readMove_150 : decode cX6_readMove 150 = .ok (.aload_n 0, 1) := by decide +kernel
theorem dX6_readMove_151 : decode cX6_readMove 151 = .ok (.aload_n 0, 1) := by decide +kernel
theorem dX6_readMove_152 : decode cX6_readMove 152 = .ok (.bipush 9, 2) := by decide +kernel
theorem dX6_readMove_154 : decode cX6_readMove 154 = .ok (.invokevirtual 161, 3) := by decide +kernel
theorem dX6_readMove_157 : decode cX6_readMove 157 = .ok (.putfield 158, 3) := by decide +kernel
theorem dX6_readMove_160 : decode cX6_readMove 160 = .ok (.aload_n 0, 1) := by decide +kernel
theorem dX6_readMove_161 : decode cX6_readMove 161 = .ok (.bipush 44, 2) := by decide +kernel
theorem dX6_readMove_163 : decode cX6_readMove 163 = .ok (.bipush 44, 2) := by decide +kernel
theorem dX6_readMove_165 : decode cX6_readMove 165 = .ok (.invokevirtual 149, 3) := by decide +kernel
theorem dX6_readMove_168 : decode cX6_readMove 168 = .ok (.istore_n 1, 1) := by decide +kernel
theorem dX6_readMove_169 : decode cX6_readMove 169 = .ok (.aload_n 0, 1) := by decide +kernel
theorem dX6_readMove_170 : decode cX6_readMove 170 = .ok (.aload_n 0, 1) := by decide +kernel
theorem dX6_readMove_171 : decode cX6_readMove 171 = .ok (.bipush 15, 2) := by decide +kernel
theorem dX6_readMove_173 : decode cX6_readMove 173 = .ok (.bipush 70, 2) := by decide +kernel
theorem dX6_readMove_175 : decode cX6_readMove 175 = .ok (.invokevirtual 155, 3) := by decide +kernel
theorem dX6_readMove_178 : decode cX6_readMove 178 = .ok (.putfield 164, 3) := by decide +kernel
theorem dX6_readMove_181 : decode cX6_readMove 181 = .ok (.aload_n 0, 1) := by decide +kernel
theorem dX6_readMove_182 : decode cX6_readMove 182 = .ok (.bipush 44, 2) := by decide +kernel
theorem dX6_readMove_184 : decode cX6_readMove 184 = .ok (.bipush 44, 2) := by decide +kernel
theorem dX6_readMove_186 : decode cX6_readMove 186 = .ok (.invokevirtual 149, 3) := by decide +kernel
theorem dX6_readMove_189 : decode cX6_readMove 189 = .ok (.istore_n 1, 1) := by decide +kernel
theorem dX6_readMove_190 : decode cX6_readMove 190 = .ok (.aload_n 0, 1) := by decide +kernel
theorem dX6_readMove_191 : decode cX6_readMove 191 = .ok (.aload_n 0, 1) := by decide +kernel
theorem dX6_readMove_192 : decode cX6_readMove 192 = .ok (.iconst 3, 1) := by decide +kernel
theorem dX6_readMove_193 : decode cX6_readMove 193 = .ok (.invokevirtual 161, 3) := by decide +kernel
theorem dX6_readMove_196 : decode cX6_readMove 196 = .ok (.putfield 167, 3) := by decide +kernel
theorem dX6_readMove_199 : decode cX6_readMove 199 = .ok (.return_, 1) := by decide +kernel
def f_X6_readMove (N : Nat) (v : MV) : Option (MV) :=
  jn (fun (s67 : Unit) => some (M_set_isWrong v (1 : Int32))) (fun (j67 : (Unit) → Option (MV)) => (if (M_spot v) = (M_length v) then j67 () else gd (ixok (M_spot v) 60) (jn (fun (s73 : Unit) => gd (ixok (M_spot v) 60) (jn (fun (s199 : MV) => some s199) (fun (j199 : (MV) → Option (MV)) => (if ((M_buffer v) (M_spot v).toNatClampNeg) = (106 : Int32) then (f_X6_number N (M_set_sign (M_set_spot v ((M_spot v) + (1 : Int32))) ((M_buffer v) (M_spot v).toNatClampNeg)) (20 : Int32) (50 : Int32)).bind (fun o19 => j199 (M_set_one o19.2 o19.1)) else (if ((M_buffer v) (M_spot v).toNatClampNeg) = (119 : Int32) then (f_X6_signed N (M_set_sign (M_set_spot v ((M_spot v) + (1 : Int32))) ((M_buffer v) (M_spot v).toNatClampNeg)) (5 : Int32)).bind (fun o17 => j199 (M_set_one o17.2 o17.1)) else (if ((M_buffer v) (M_spot v).toNatClampNeg) = (98 : Int32) then (f_X6_signed N (M_set_sign (M_set_spot v ((M_spot v) + (1 : Int32))) ((M_buffer v) (M_spot v).toNatClampNeg)) (9 : Int32)).bind (fun o7 => (f_X6_takes N (M_set_one o7.2 o7.1) (44 : Int32) (44 : Int32)).bind (fun o9 => (f_X6_number N o9.2 (15 : Int32) (70 : Int32)).bind (fun o11 => (f_X6_takes N (M_set_two o11.2 o11.1) (44 : Int32) (44 : Int32)).bind (fun o13 => (f_X6_signed N o13.2 (3 : Int32)).bind (fun o15 => j199 (M_set_three o15.2 o15.1)))))) else j199 (M_set_sign (M_set_spot v ((M_spot v) + (1 : Int32))) ((M_buffer v) (M_spot v).toNatClampNeg)))))))) (fun (j73 : (Unit) → Option (MV)) => (if ((M_buffer v) (M_spot v).toNatClampNeg) = (106 : Int32) then j73 () else gd (ixok (M_spot v) 60) ((if ((M_buffer v) (M_spot v).toNatClampNeg) = (98 : Int32) then j73 () else gd (ixok (M_spot v) 60) ((if ((M_buffer v) (M_spot v).toNatClampNeg) = (99 : Int32) then j73 () else gd (ixok (M_spot v) 60) ((if ((M_buffer v) (M_spot v).toNatClampNeg) = (119 : Int32) then j73 () else j67 ())))))))))))
set_option maxHeartbeats 4000000 in
set_option maxRecDepth 100000 in
theorem met_X6_readMove (l : Launch) (dC : Nat → ClassId) (dI : Nat → Nat → Nat) (cyI cyO cyL : ClassId) (a : Nat → Nat) (sz : Nat) (N : Nat) (v : MV) (out : MV) (hF : f_X6_readMove N v = some out) : Met l yX6_readMove (Cond.code yX6_readMove cX6_readMove 2 none :: wT) ({ frames := 4, cells := 0, slots := 0, locals := 93 } : Room) (wWr dC dI cyI cyO cyL [.ref (a 0)] (cM cyI a v) sz) (va_Qv (fun (u : MV) => u = out) (fun u t => va_P (dC, dI) vwCl (cM cyI a u) t.heap ∧ va_D (va_A (cM cyI a v) sz) (cM cyI a u)) (va_A (cM cyI a v) sz)) 0 0 (va_A (cM cyI a v) sz) := by
  refine Met.ofW (cc := cX6_readMove) (maxL := 2) (ret := none) (by decide) rfl ?_
  intro p e s m args below meth c s₁ B hml hv
  obtain ⟨rfl, hsz, hP, hK, hD0⟩ := hv
  have hx := B.exec
  have hb := B.bytes
  have hr := B.returns
  have hts0 := atoms_spec (ws := (Cond.code yX6_readMove cX6_readMove 2 none :: wT)) B.pre
  have hts := fun w h => hts0 w (List.mem_cons_of_mem _ h)
  clear hts0
  have hown : s.vm.findClass RX6 = some m.cls := findClass_of_methodNamed B.named
  have hlocks := B.notSynchronized
  subst hsz
  have hD := hD0.self (sz := s.heap.size)
  generalize hAe : va_A (cM cyI a v) s.heap.size = A at hD ⊢
  have hA : ∀ q : Nat, s.heap.size ≤ q → A q := fun q h => by rw [← hAe]; exact Or.inr h
  clear hD0
  have hS : va_S A s.heap s.heap [] := va_S.rf
  have hl := lv_entry [.ref (a 0)] (n := 2) (Nat.le_of_ble_eq_true rfl)
  rw [lg_entry_eq]
  generalize (lg_sl [.ref (a 0)] ++ List.replicate (2 - (lg_sl [.ref (a 0)]).length) Slot.unset).toArray = ls at hl ⊢
  have hl : lv_has ls 2 [(0, .ref (a 0))] := hl
  unfold f_X6_readMove at hF
  refine lv_aload_n hx hb dX6_readMove_0 rfl (lv_at hl 0 rfl) ?_
  refine va_get (D := (dC, dI)) (ci := 6) (v := .int (M_spot v)) (C := RX6) (T := TX6) (N := 23) hx hb hts inX6 hown hK.1 hP 0 rfl rfl 13 (by decide) (hts _ w_fieldLink_X6_142) (fun _ h9 => h9) rfl dX6_readMove_1 ?_
  refine lv_aload_n hx hb dX6_readMove_4 rfl (lv_at hl 0 rfl) ?_
  refine va_get (D := (dC, dI)) (ci := 6) (v := .int (M_length v)) (C := RX6) (T := TX6) (N := 23) hx hb hts inX6 hown hK.1 hP 0 rfl rfl 9 (by decide) (hts _ w_fieldLink_X6_135) (fun _ h9 => h9) rfl dX6_readMove_5 ?_
  obtain ⟨j67, hj67, hF⟩ := jn_use hF
  have hJ67 : ∀ (s67 : Unit) (H : Heap) (locs : List Loc) (ls : Array Slot), va_P (dC, dI) vwCl (cM cyI a v) H → va_D A (cM cyI a v) → va_S A s.heap H locs → lv_has ls 2 [(0, .ref (a 0))] → j67 s67 = some out → W p l e (headSpec (Cond.code yX6_readMove cX6_readMove 2 none :: wT) ({ frames := 4, cells := 0, slots := 0, locals := 93 } : Room)).room s m ([.ref (a 0)] : List Value).toArray below meth c H locs 0 0 (MQ below (va_Qv (fun (u : MV) => u = out) (fun u t => va_P (dC, dI) vwCl (cM cyI a u) t.heap ∧ va_D A (cM cyI a u)) A) ([.ref (a 0)] : List Value).toArray s 0 0 A) (F0 m 67 ls []) := by
    intro s67 H locs ls hP hD hS hl hF
    have hF := (congrFun hj67 s67).symm.trans hF
    refine lv_aload_n hx hb dX6_readMove_67 rfl (lv_at hl 0 rfl) ?_
    refine lv_iconst (v := 1) hx hb dX6_readMove_68 (by decide) ?_
    refine va_put (D := (dC, dI)) (ci := 6) (v := .int (1 : Int32)) (ty := .boolean) (C := RX6) (T := TX6) (N := 23) hx hb hts inX6 tyX6 tyX6_ok nmX6 hown hK.1 hP hD hS 0 rfl rfl 14 (by decide) (hts _ w_fieldLink_X6_138) (fun _ h9 => h9) rfl (by decide +kernel) (b01_n b01_1) (b01_f b01_1) (Nat.le_of_ble_eq_true rfl) dX6_readMove_69 (fun H locs hP hD hS => ?_)
    have hP : va_P (dC, dI) vwCl (cM cyI a (M_set_isWrong v (1 : Int32))) H := hP
    have hD : va_D A (cM cyI a (M_set_isWrong v (1 : Int32))) := hD
    exact W.vret hx hb hr (fun t ht hW => ⟨⟨_, rfl, Option.some.inj hF, by rw [ht]; exact hP, hD⟩, hS.F ht⟩) hS.2.2 dX6_readMove_72
  refine lv_icmp_eq (tgt := 67) hx hb dX6_readMove_8 (by decide) (fun c1 => ?_) (fun c1 => ?_)
  · have hF := itp c1 hF
    exact hJ67 () _ _ _ hP hD hS (lv_sub hl [0] rfl) hF
  · have hF := itn c1 hF
    refine lv_aload_n hx hb dX6_readMove_11 rfl (lv_at hl 0 rfl) ?_
    refine va_get (D := (dC, dI)) (ci := 6) (v := .ref (a 6)) (C := RX6) (T := TX6) (N := 23) hx hb hts inX6 hown hK.1 hP 0 rfl rfl 8 (by decide) (hts _ w_fieldLink_X6_25) (fun _ h9 => h9) rfl dX6_readMove_12 ?_
    refine lv_aload_n hx hb dX6_readMove_15 rfl (lv_at hl 0 rfl) ?_
    refine va_get (D := (dC, dI)) (ci := 6) (v := .int (M_spot v)) (C := RX6) (T := TX6) (N := 23) hx hb hts inX6 hown hK.1 hP 0 rfl rfl 13 (by decide) (hts _ w_fieldLink_X6_142) (fun _ h9 => h9) rfl dX6_readMove_16 ?_
    obtain ⟨hg2, hF⟩ := gd_use hF
    refine va_iald hx hb hK.1 hP 6 0 rfl rfl (i := (M_spot v)) hg2 dX6_readMove_19 ?_
    refine lv_bipush (v := 106) hx hb dX6_readMove_20 (by decide) ?_
    obtain ⟨j73, hj73, hF⟩ := jn_use hF
    have hJ73 : ∀ (s73 : Unit) (H : Heap) (locs : List Loc) (ls : Array Slot), va_P (dC, dI) vwCl (cM cyI a v) H → va_D A (cM cyI a v) → va_S A s.heap H locs → lv_has ls 2 [(0, .ref (a 0))] → j73 s73 = some out → W p l e (headSpec (Cond.code yX6_readMove cX6_readMove 2 none :: wT) ({ frames := 4, cells := 0, slots := 0, locals := 93 } : Room)).room s m ([.ref (a 0)] : List Value).toArray below meth c H locs 0 0 (MQ below (va_Qv (fun (u : MV) => u = out) (fun u t => va_P (dC, dI) vwCl (cM cyI a u) t.heap ∧ va_D A (cM cyI a u)) A) ([.ref (a 0)] : List Value).toArray s 0 0 A) (F0 m 73 ls []) := by
      intro s73 H locs ls hP hD hS hl hF
      have hF := (congrFun hj73 s73).symm.trans hF
      refine lv_aload_n hx hb dX6_readMove_73 rfl (lv_at hl 0 rfl) ?_
      refine lv_aload_n hx hb dX6_readMove_74 rfl (lv_at hl 0 rfl) ?_
      refine va_get (D := (dC, dI)) (ci := 6) (v := .ref (a 6)) (C := RX6) (T := TX6) (N := 23) hx hb hts inX6 hown hK.1 hP 0 rfl rfl 8 (by decide) (hts _ w_fieldLink_X6_25) (fun _ h9 => h9) rfl dX6_readMove_75 ?_
      refine lv_aload_n hx hb dX6_readMove_78 rfl (lv_at hl 0 rfl) ?_
      refine va_get (D := (dC, dI)) (ci := 6) (v := .int (M_spot v)) (C := RX6) (T := TX6) (N := 23) hx hb hts inX6 hown hK.1 hP 0 rfl rfl 13 (by decide) (hts _ w_fieldLink_X6_142) (fun _ h9 => h9) rfl dX6_readMove_79 ?_
      obtain ⟨hg3, hF⟩ := gd_use hF
      refine va_iald hx hb hK.1 hP 6 0 rfl rfl (i := (M_spot v)) hg3 dX6_readMove_82 ?_
      refine va_put (D := (dC, dI)) (ci := 6) (v := .int ((M_buffer v) (M_spot v).toNatClampNeg)) (ty := .int) (C := RX6) (T := TX6) (N := 23) hx hb hts inX6 tyX6 tyX6_ok nmX6 hown hK.1 hP hD hS 0 rfl rfl 15 (by decide) (hts _ w_fieldLink_X6_152) (fun _ h9 => h9) rfl (by decide +kernel) rfl rfl (Nat.le_of_ble_eq_true rfl) dX6_readMove_83 (fun H locs hP hD hS => ?_)
      have hP : va_P (dC, dI) vwCl (cM cyI a (M_set_sign v ((M_buffer v) (M_spot v).toNatClampNeg))) H := hP
      have hD : va_D A (cM cyI a (M_set_sign v ((M_buffer v) (M_spot v).toNatClampNeg))) := hD
      refine lv_aload_n hx hb dX6_readMove_86 rfl (lv_at hl 0 rfl) ?_
      refine lv_dup hx hb dX6_readMove_87 rfl ?_
      refine va_get (D := (dC, dI)) (ci := 6) (v := .int (M_spot v)) (C := RX6) (T := TX6) (N := 23) hx hb hts inX6 hown hK.1 hP 0 rfl rfl 13 (by decide) (hts _ w_fieldLink_X6_142) (fun _ h9 => h9) rfl dX6_readMove_88 ?_
      refine lv_iconst (v := 1) hx hb dX6_readMove_91 (by decide) ?_
      refine lv_iadd hx hb dX6_readMove_92 ?_
      refine va_put (D := (dC, dI)) (ci := 6) (v := .int ((M_spot v) + (1 : Int32))) (ty := .int) (C := RX6) (T := TX6) (N := 23) hx hb hts inX6 tyX6 tyX6_ok nmX6 hown hK.1 hP hD hS 0 rfl rfl 13 (by decide) (hts _ w_fieldLink_X6_142) (fun _ h9 => h9) rfl (by decide +kernel) rfl rfl (Nat.le_of_ble_eq_true rfl) dX6_readMove_93 (fun H locs hP hD hS => ?_)
      have hP : va_P (dC, dI) vwCl (cM cyI a (M_set_sign (M_set_spot v ((M_spot v) + (1 : Int32))) ((M_buffer v) (M_spot v).toNatClampNeg))) H := hP
      have hD : va_D A (cM cyI a (M_set_sign (M_set_spot v ((M_spot v) + (1 : Int32))) ((M_buffer v) (M_spot v).toNatClampNeg))) := hD
      refine lv_aload_n hx hb dX6_readMove_96 rfl (lv_at hl 0 rfl) ?_
      refine va_get (D := (dC, dI)) (ci := 6) (v := .int ((M_buffer v) (M_spot v).toNatClampNeg)) (C := RX6) (T := TX6) (N := 23) hx hb hts inX6 hown hK.1 hP 0 rfl rfl 15 (by decide) (hts _ w_fieldLink_X6_152) (fun _ h9 => h9) rfl dX6_readMove_97 ?_
      refine lv_bipush (v := 106) hx hb dX6_readMove_100 (by decide) ?_
      obtain ⟨j199, hj199, hF⟩ := jn_use hF
      have hJ199 : ∀ (s199 : MV) (H : Heap) (locs : List Loc) (ls : Array Slot), va_P (dC, dI) vwCl (cM cyI a s199) H → va_D A (cM cyI a s199) → va_S A s.heap H locs → lv_has ls 2 [] → j199 s199 = some out → W p l e (headSpec (Cond.code yX6_readMove cX6_readMove 2 none :: wT) ({ frames := 4, cells := 0, slots := 0, locals := 93 } : Room)).room s m ([.ref (a 0)] : List Value).toArray below meth c H locs 0 0 (MQ below (va_Qv (fun (u : MV) => u = out) (fun u t => va_P (dC, dI) vwCl (cM cyI a u) t.heap ∧ va_D A (cM cyI a u)) A) ([.ref (a 0)] : List Value).toArray s 0 0 A) (F0 m 199 ls []) := by
        intro s199 H locs ls hP hD hS hl hF
        have hF := (congrFun hj199 s199).symm.trans hF
        exact W.vret hx hb hr (fun t ht hW => ⟨⟨_, rfl, Option.some.inj hF, by rw [ht]; exact hP, hD⟩, hS.F ht⟩) hS.2.2 dX6_readMove_199
      refine lv_icmp_ne (tgt := 120) hx hb dX6_readMove_102 (by decide) (fun c4 => ?_) (fun c4 => ?_)
      · have hF := itn c4 hF
        refine lv_aload_n hx hb dX6_readMove_120 rfl (lv_at hl 0 rfl) ?_
        refine va_get (D := (dC, dI)) (ci := 6) (v := .int ((M_buffer v) (M_spot v).toNatClampNeg)) (C := RX6) (T := TX6) (N := 23) hx hb hts inX6 hown hK.1 hP 0 rfl rfl 15 (by decide) (hts _ w_fieldLink_X6_152) (fun _ h9 => h9) rfl dX6_readMove_121 ?_
        refine lv_bipush (v := 119) hx hb dX6_readMove_124 (by decide) ?_
        refine lv_icmp_ne (tgt := 141) hx hb dX6_readMove_126 (by decide) (fun c5 => ?_) (fun c5 => ?_)
        · have hF := itn c5 hF
          refine lv_aload_n hx hb dX6_readMove_141 rfl (lv_at hl 0 rfl) ?_
          refine va_get (D := (dC, dI)) (ci := 6) (v := .int ((M_buffer v) (M_spot v).toNatClampNeg)) (C := RX6) (T := TX6) (N := 23) hx hb hts inX6 hown hK.1 hP 0 rfl rfl 15 (by decide) (hts _ w_fieldLink_X6_152) (fun _ h9 => h9) rfl dX6_readMove_142 ?_
          refine lv_bipush (v := 98) hx hb dX6_readMove_145 (by decide) ?_
          refine lv_icmp_ne (tgt := 199) hx hb dX6_readMove_147 (by decide) (fun c6 => ?_) (fun c6 => ?_)
          · have hF := itn c6 hF
            exact hJ199 (M_set_sign (M_set_spot v ((M_spot v) + (1 : Int32))) ((M_buffer v) (M_spot v).toNatClampNeg)) _ _ _ hP hD hS (lv_sub hl [] rfl) hF
          · have hF := itp c6 hF
            refine lv_aload_n hx hb dX6_readMove_150 rfl (lv_at hl 0 rfl) ?_
            refine lv_aload_n hx hb dX6_readMove_151 rfl (lv_at hl 0 rfl) ?_
            refine lv_bipush (v := 9) hx hb dX6_readMove_152 (by decide) ?_
            obtain ⟨o7, h8, hF⟩ := obd hF
            refine wcWVi (As := [.int (9 : Int32)]) (rest := [.ref (a 0)]) (wr := []) (b := (a 0)) ⟨hx, hb, hml, hown, hts⟩ (met_X6_signed l dC dI cyI cyO cyL a _ N (M_set_sign (M_set_spot v ((M_spot v) + (1 : Int32))) ((M_buffer v) (M_spot v).toNatClampNeg)) (9 : Int32) o7 h8) (cwV 1 hts (gV w_methodLink_X6_161 w_instanceMethod_X6_signed w_selects_X6_signed w_initialized_X6 w_code_X6_signed) rfl rfl rfl (by decide +kernel) ⟨Nat.le_of_ble_eq_true rfl, Nat.le_of_ble_eq_true rfl⟩) (va_recv hK.1 hP (ci := 6) (q0 := 0) rfl rfl) hP hD hK [0, 1, 2, 3, 4, 5, 6, 7] [] rfl rfl (by decide) (by decide) (by decide) rfl hl.1 (Nat.le_of_ble_eq_true rfl) dX6_readMove_154 ⟨Nat.le_of_ble_eq_true rfl, Nat.le_of_ble_eq_true rfl⟩ hS hA (fun r u H locs hw hP hD hS => ?_)
            obtain rfl : r = o7.1 := congrArg Prod.fst hw
            obtain rfl : u = o7.2 := congrArg Prod.snd hw
            clear hw
            have hP : va_P (dC, dI) vwCl (cM cyI a o7.2) H := hP
            have hD : va_D A (cM cyI a o7.2) := hD
            refine va_put (D := (dC, dI)) (ci := 6) (v := .int o7.1) (ty := .int) (C := RX6) (T := TX6) (N := 23) hx hb hts inX6 tyX6 tyX6_ok nmX6 hown hK.1 hP hD hS 0 rfl rfl 16 (by decide) (hts _ w_fieldLink_X6_158) (fun _ h9 => h9) rfl (by decide +kernel) rfl rfl (Nat.le_of_ble_eq_true rfl) dX6_readMove_157 (fun H locs hP hD hS => ?_)
            have hP : va_P (dC, dI) vwCl (cM cyI a (M_set_one o7.2 o7.1)) H := hP
            have hD : va_D A (cM cyI a (M_set_one o7.2 o7.1)) := hD
            refine lv_aload_n hx hb dX6_readMove_160 rfl (lv_at hl 0 rfl) ?_
            refine lv_bipush (v := 44) hx hb dX6_readMove_161 (by decide) ?_
            refine lv_bipush (v := 44) hx hb dX6_readMove_163 (by decide) ?_
            obtain ⟨o9, h10, hF⟩ := obd hF
            refine wcWVi (As := [.int (44 : Int32), .int (44 : Int32)]) (rest := []) (wr := []) (b := (a 0)) ⟨hx, hb, hml, hown, hts⟩ (met_X6_takes l dC dI cyI cyO cyL a _ N (M_set_one o7.2 o7.1) (44 : Int32) (44 : Int32) o9 h10) (cwV 2 hts (gV w_methodLink_X6_149 w_instanceMethod_X6_takes w_selects_X6_takes w_initialized_X6 w_code_X6_takes) rfl rfl rfl (by decide +kernel) ⟨Nat.le_of_ble_eq_true rfl, Nat.le_of_ble_eq_true rfl⟩) (va_recv hK.1 hP (ci := 6) (q0 := 0) rfl rfl) hP hD hK [0, 1, 2, 3, 4, 5, 6, 7] [] rfl rfl (by decide) (by decide) (by decide) rfl hl.1 (Nat.le_of_ble_eq_true rfl) dX6_readMove_165 ⟨Nat.le_of_ble_eq_true rfl, Nat.le_of_ble_eq_true rfl⟩ hS hA (fun r u H locs hw hP hD hS => ?_)
            obtain rfl : r = o9.1 := congrArg Prod.fst hw
            obtain rfl : u = o9.2 := congrArg Prod.snd hw
            clear hw
            have hP : va_P (dC, dI) vwCl (cM cyI a o9.2) H := hP
            have hD : va_D A (cM cyI a o9.2) := hD
            refine lv_istore_n (lv' := [(1, .int o9.1), (0, .ref (a 0))]) hx hb dX6_readMove_168 rfl hl (by decide) rfl (fun ls hl => ?_)
            refine lv_aload_n hx hb dX6_readMove_169 rfl (lv_at hl 1 rfl) ?_
            refine lv_aload_n hx hb dX6_readMove_170 rfl (lv_at hl 1 rfl) ?_
            refine lv_bipush (v := 15) hx hb dX6_readMove_171 (by decide) ?_
            refine lv_bipush (v := 70) hx hb dX6_readMove_173 (by decide) ?_
            obtain ⟨o11, h12, hF⟩ := obd hF
            refine wcWVi (As := [.int (15 : Int32), .int (70 : Int32)]) (rest := [.ref (a 0)]) (wr := []) (b := (a 0)) ⟨hx, hb, hml, hown, hts⟩ (met_X6_number l dC dI cyI cyO cyL a _ N o9.2 (15 : Int32) (70 : Int32) o11 h12) (cwV 2 hts (gV w_methodLink_X6_155 w_instanceMethod_X6_number w_selects_X6_number w_initialized_X6 w_code_X6_number) rfl rfl rfl (by decide +kernel) ⟨Nat.le_of_ble_eq_true rfl, Nat.le_of_ble_eq_true rfl⟩) (va_recv hK.1 hP (ci := 6) (q0 := 0) rfl rfl) hP hD hK [0, 1, 2, 3, 4, 5, 6, 7] [] rfl rfl (by decide) (by decide) (by decide) rfl hl.1 (Nat.le_of_ble_eq_true rfl) dX6_readMove_175 ⟨Nat.le_of_ble_eq_true rfl, Nat.le_of_ble_eq_true rfl⟩ hS hA (fun r u H locs hw hP hD hS => ?_)
            obtain rfl : r = o11.1 := congrArg Prod.fst hw
            obtain rfl : u = o11.2 := congrArg Prod.snd hw
            clear hw
            have hP : va_P (dC, dI) vwCl (cM cyI a o11.2) H := hP
            have hD : va_D A (cM cyI a o11.2) := hD
            refine va_put (D := (dC, dI)) (ci := 6) (v := .int o11.1) (ty := .int) (C := RX6) (T := TX6) (N := 23) hx hb hts inX6 tyX6 tyX6_ok nmX6 hown hK.1 hP hD hS 0 rfl rfl 17 (by decide) (hts _ w_fieldLink_X6_164) (fun _ h9 => h9) rfl (by decide +kernel) rfl rfl (Nat.le_of_ble_eq_true rfl) dX6_readMove_178 (fun H locs hP hD hS => ?_)
            have hP : va_P (dC, dI) vwCl (cM cyI a (M_set_two o11.2 o11.1)) H := hP
            have hD : va_D A (cM cyI a (M_set_two o11.2 o11.1)) := hD
            refine lv_aload_n hx hb dX6_readMove_181 rfl (lv_at hl 1 rfl) ?_
            refine lv_bipush (v := 44) hx hb dX6_readMove_182 (by decide) ?_
            refine lv_bipush (v := 44) hx hb dX6_readMove_184 (by decide) ?_
            obtain ⟨o13, h14, hF⟩ := obd hF
            refine wcWVi (As := [.int (44 : Int32), .int (44 : Int32)]) (rest := []) (wr := []) (b := (a 0)) ⟨hx, hb, hml, hown, hts⟩ (met_X6_takes l dC dI cyI cyO cyL a _ N (M_set_two o11.2 o11.1) (44 : Int32) (44 : Int32) o13 h14) (cwV 2 hts (gV w_methodLink_X6_149 w_instanceMethod_X6_takes w_selects_X6_takes w_initialized_X6 w_code_X6_takes) rfl rfl rfl (by decide +kernel) ⟨Nat.le_of_ble_eq_true rfl, Nat.le_of_ble_eq_true rfl⟩) (va_recv hK.1 hP (ci := 6) (q0 := 0) rfl rfl) hP hD hK [0, 1, 2, 3, 4, 5, 6, 7] [] rfl rfl (by decide) (by decide) (by decide) rfl hl.1 (Nat.le_of_ble_eq_true rfl) dX6_readMove_186 ⟨Nat.le_of_ble_eq_true rfl, Nat.le_of_ble_eq_true rfl⟩ hS hA (fun r u H locs hw hP hD hS => ?_)
            obtain rfl : r = o13.1 := congrArg Prod.fst hw
            obtain rfl : u = o13.2 := congrArg Prod.snd hw
            clear hw
            have hP : va_P (dC, dI) vwCl (cM cyI a o13.2) H := hP
            have hD : va_D A (cM cyI a o13.2) := hD
            refine lv_istore_n (lv' := [(1, .int o13.1), (0, .ref (a 0))]) hx hb dX6_readMove_189 rfl hl (by decide) rfl (fun ls hl => ?_)
            refine lv_aload_n hx hb dX6_readMove_190 rfl (lv_at hl 1 rfl) ?_
            refine lv_aload_n hx hb dX6_readMove_191 rfl (lv_at hl 1 rfl) ?_
            refine lv_iconst (v := 3) hx hb dX6_readMove_192 (by decide) ?_
            obtain ⟨o15, h16, hF⟩ := obd hF
            refine wcWVi (As := [.int (3 : Int32)]) (rest := [.ref (a 0)]) (wr := []) (b := (a 0)) ⟨hx, hb, hml, hown, hts⟩ (met_X6_signed l dC dI cyI cyO cyL a _ N o13.2 (3 : Int32) o15 h16) (cwV 1 hts (gV w_methodLink_X6_161 w_instanceMethod_X6_signed w_selects_X6_signed w_initialized_X6 w_code_X6_signed) rfl rfl rfl (by decide +kernel) ⟨Nat.le_of_ble_eq_true rfl, Nat.le_of_ble_eq_true rfl⟩) (va_recv hK.1 hP (ci := 6) (q0 := 0) rfl rfl) hP hD hK [0, 1, 2, 3, 4, 5, 6, 7] [] rfl rfl (by decide) (by decide) (by decide) rfl hl.1 (Nat.le_of_ble_eq_true rfl) dX6_readMove_193 ⟨Nat.le_of_ble_eq_true rfl, Nat.le_of_ble_eq_true rfl⟩ hS hA (fun r u H locs hw hP hD hS => ?_)
            obtain rfl : r = o15.1 := congrArg Prod.fst hw
            obtain rfl : u = o15.2 := congrArg Prod.snd hw
            clear hw
            have hP : va_P (dC, dI) vwCl (cM cyI a o15.2) H := hP
            have hD : va_D A (cM cyI a o15.2) := hD
            refine va_put (D := (dC, dI)) (ci := 6) (v := .int o15.1) (ty := .int) (C := RX6) (T := TX6) (N := 23) hx hb hts inX6 tyX6 tyX6_ok nmX6 hown hK.1 hP hD hS 0 rfl rfl 18 (by decide) (hts _ w_fieldLink_X6_167) (fun _ h9 => h9) rfl (by decide +kernel) rfl rfl (Nat.le_of_ble_eq_true rfl) dX6_readMove_196 (fun H locs hP hD hS => ?_)
            have hP : va_P (dC, dI) vwCl (cM cyI a (M_set_three o15.2 o15.1)) H := hP
            have hD : va_D A (cM cyI a (M_set_three o15.2 o15.1)) := hD
            exact hJ199 (M_set_three o15.2 o15.1) _ _ _ hP hD hS (lv_sub hl [] rfl) hF
        · have hF := itp c5 hF
          refine lv_aload_n hx hb dX6_readMove_129 rfl (lv_at hl 0 rfl) ?_
          refine lv_aload_n hx hb dX6_readMove_130 rfl (lv_at hl 0 rfl) ?_
          refine lv_iconst (v := 5) hx hb dX6_readMove_131 (by decide) ?_
          obtain ⟨o17, h18, hF⟩ := obd hF
          refine wcWVi (As := [.int (5 : Int32)]) (rest := [.ref (a 0)]) (wr := []) (b := (a 0)) ⟨hx, hb, hml, hown, hts⟩ (met_X6_signed l dC dI cyI cyO cyL a _ N (M_set_sign (M_set_spot v ((M_spot v) + (1 : Int32))) ((M_buffer v) (M_spot v).toNatClampNeg)) (5 : Int32) o17 h18) (cwV 1 hts (gV w_methodLink_X6_161 w_instanceMethod_X6_signed w_selects_X6_signed w_initialized_X6 w_code_X6_signed) rfl rfl rfl (by decide +kernel) ⟨Nat.le_of_ble_eq_true rfl, Nat.le_of_ble_eq_true rfl⟩) (va_recv hK.1 hP (ci := 6) (q0 := 0) rfl rfl) hP hD hK [0, 1, 2, 3, 4, 5, 6, 7] [] rfl rfl (by decide) (by decide) (by decide) rfl hl.1 (Nat.le_of_ble_eq_true rfl) dX6_readMove_132 ⟨Nat.le_of_ble_eq_true rfl, Nat.le_of_ble_eq_true rfl⟩ hS hA (fun r u H locs hw hP hD hS => ?_)
          obtain rfl : r = o17.1 := congrArg Prod.fst hw
          obtain rfl : u = o17.2 := congrArg Prod.snd hw
          clear hw
          have hP : va_P (dC, dI) vwCl (cM cyI a o17.2) H := hP
          have hD : va_D A (cM cyI a o17.2) := hD
          refine va_put (D := (dC, dI)) (ci := 6) (v := .int o17.1) (ty := .int) (C := RX6) (T := TX6) (N := 23) hx hb hts inX6 tyX6 tyX6_ok nmX6 hown hK.1 hP hD hS 0 rfl rfl 16 (by decide) (hts _ w_fieldLink_X6_158) (fun _ h9 => h9) rfl (by decide +kernel) rfl rfl (Nat.le_of_ble_eq_true rfl) dX6_readMove_135 (fun H locs hP hD hS => ?_)
          have hP : va_P (dC, dI) vwCl (cM cyI a (M_set_one o17.2 o17.1)) H := hP
          have hD : va_D A (cM cyI a (M_set_one o17.2 o17.1)) := hD
          refine lv_goto (tgt := 199) hx hb dX6_readMove_138 (by decide) ?_
          exact hJ199 (M_set_one o17.2 o17.1) _ _ _ hP hD hS (lv_sub hl [] rfl) hF
      · have hF := itp c4 hF
        refine lv_aload_n hx hb dX6_readMove_105 rfl (lv_at hl 0 rfl) ?_
        refine lv_aload_n hx hb dX6_readMove_106 rfl (lv_at hl 0 rfl) ?_
        refine lv_bipush (v := 20) hx hb dX6_readMove_107 (by decide) ?_
        refine lv_bipush (v := 50) hx hb dX6_readMove_109 (by decide) ?_
        obtain ⟨o19, h20, hF⟩ := obd hF
        refine wcWVi (As := [.int (20 : Int32), .int (50 : Int32)]) (rest := [.ref (a 0)]) (wr := []) (b := (a 0)) ⟨hx, hb, hml, hown, hts⟩ (met_X6_number l dC dI cyI cyO cyL a _ N (M_set_sign (M_set_spot v ((M_spot v) + (1 : Int32))) ((M_buffer v) (M_spot v).toNatClampNeg)) (20 : Int32) (50 : Int32) o19 h20) (cwV 2 hts (gV w_methodLink_X6_155 w_instanceMethod_X6_number w_selects_X6_number w_initialized_X6 w_code_X6_number) rfl rfl rfl (by decide +kernel) ⟨Nat.le_of_ble_eq_true rfl, Nat.le_of_ble_eq_true rfl⟩) (va_recv hK.1 hP (ci := 6) (q0 := 0) rfl rfl) hP hD hK [0, 1, 2, 3, 4, 5, 6, 7] [] rfl rfl (by decide) (by decide) (by decide) rfl hl.1 (Nat.le_of_ble_eq_true rfl) dX6_readMove_111 ⟨Nat.le_of_ble_eq_true rfl, Nat.le_of_ble_eq_true rfl⟩ hS hA (fun r u H locs hw hP hD hS => ?_)
        obtain rfl : r = o19.1 := congrArg Prod.fst hw
        obtain rfl : u = o19.2 := congrArg Prod.snd hw
        clear hw
        have hP : va_P (dC, dI) vwCl (cM cyI a o19.2) H := hP
        have hD : va_D A (cM cyI a o19.2) := hD
        refine va_put (D := (dC, dI)) (ci := 6) (v := .int o19.1) (ty := .int) (C := RX6) (T := TX6) (N := 23) hx hb hts inX6 tyX6 tyX6_ok nmX6 hown hK.1 hP hD hS 0 rfl rfl 16 (by decide) (hts _ w_fieldLink_X6_158) (fun _ h9 => h9) rfl (by decide +kernel) rfl rfl (Nat.le_of_ble_eq_true rfl) dX6_readMove_114 (fun H locs hP hD hS => ?_)
        have hP : va_P (dC, dI) vwCl (cM cyI a (M_set_one o19.2 o19.1)) H := hP
        have hD : va_D A (cM cyI a (M_set_one o19.2 o19.1)) := hD
        refine lv_goto (tgt := 199) hx hb dX6_readMove_117 (by decide) ?_
        exact hJ199 (M_set_one o19.2 o19.1) _ _ _ hP hD hS (lv_sub hl [] rfl) hF
    refine lv_icmp_eq (tgt := 73) hx hb dX6_readMove_22 (by decide) (fun c21 => ?_) (fun c21 => ?_)
    · have hF := itp c21 hF
      exact hJ73 () _ _ _ hP hD hS (lv_sub hl [0] rfl) hF
    · have hF := itn c21 hF
      refine lv_aload_n hx hb dX6_readMove_25 rfl (lv_at hl 0 rfl) ?_
      refine va_get (D := (dC, dI)) (ci := 6) (v := .ref (a 6)) (C := RX6) (T := TX6) (N := 23) hx hb hts inX6 hown hK.1 hP 0 rfl rfl 8 (by decide) (hts _ w_fieldLink_X6_25) (fun _ h9 => h9) rfl dX6_readMove_26 ?_
      refine lv_aload_n hx hb dX6_readMove_29 rfl (lv_at hl 0 rfl) ?_
      refine va_get (D := (dC, dI)) (ci := 6) (v := .int (M_spot v)) (C := RX6) (T := TX6) (N := 23) hx hb hts inX6 hown hK.1 hP 0 rfl rfl 13 (by decide) (hts _ w_fieldLink_X6_142) (fun _ h9 => h9) rfl dX6_readMove_30 ?_
      obtain ⟨hg22, hF⟩ := gd_use hF
      refine va_iald hx hb hK.1 hP 6 0 rfl rfl (i := (M_spot v)) hg22 dX6_readMove_33 ?_
      refine lv_bipush (v := 98) hx hb dX6_readMove_34 (by decide) ?_
      refine lv_icmp_eq (tgt := 73) hx hb dX6_readMove_36 (by decide) (fun c23 => ?_) (fun c23 => ?_)
      · have hF := itp c23 hF
        exact hJ73 () _ _ _ hP hD hS (lv_sub hl [0] rfl) hF
      · have hF := itn c23 hF
        refine lv_aload_n hx hb dX6_readMove_39 rfl (lv_at hl 0 rfl) ?_
        refine va_get (D := (dC, dI)) (ci := 6) (v := .ref (a 6)) (C := RX6) (T := TX6) (N := 23) hx hb hts inX6 hown hK.1 hP 0 rfl rfl 8 (by decide) (hts _ w_fieldLink_X6_25) (fun _ h9 => h9) rfl dX6_readMove_40 ?_
        refine lv_aload_n hx hb dX6_readMove_43 rfl (lv_at hl 0 rfl) ?_
        refine va_get (D := (dC, dI)) (ci := 6) (v := .int (M_spot v)) (C := RX6) (T := TX6) (N := 23) hx hb hts inX6 hown hK.1 hP 0 rfl rfl 13 (by decide) (hts _ w_fieldLink_X6_142) (fun _ h9 => h9) rfl dX6_readMove_44 ?_
        obtain ⟨hg24, hF⟩ := gd_use hF
        refine va_iald hx hb hK.1 hP 6 0 rfl rfl (i := (M_spot v)) hg24 dX6_readMove_47 ?_
        refine lv_bipush (v := 99) hx hb dX6_readMove_48 (by decide) ?_
        refine lv_icmp_eq (tgt := 73) hx hb dX6_readMove_50 (by decide) (fun c25 => ?_) (fun c25 => ?_)
        · have hF := itp c25 hF
          exact hJ73 () _ _ _ hP hD hS (lv_sub hl [0] rfl) hF
        · have hF := itn c25 hF
          refine lv_aload_n hx hb dX6_readMove_53 rfl (lv_at hl 0 rfl) ?_
          refine va_get (D := (dC, dI)) (ci := 6) (v := .ref (a 6)) (C := RX6) (T := TX6) (N := 23) hx hb hts inX6 hown hK.1 hP 0 rfl rfl 8 (by decide) (hts _ w_fieldLink_X6_25) (fun _ h9 => h9) rfl dX6_readMove_54 ?_
          refine lv_aload_n hx hb dX6_readMove_57 rfl (lv_at hl 0 rfl) ?_
          refine va_get (D := (dC, dI)) (ci := 6) (v := .int (M_spot v)) (C := RX6) (T := TX6) (N := 23) hx hb hts inX6 hown hK.1 hP 0 rfl rfl 13 (by decide) (hts _ w_fieldLink_X6_142) (fun _ h9 => h9) rfl dX6_readMove_58 ?_
          obtain ⟨hg26, hF⟩ := gd_use hF
          refine va_iald hx hb hK.1 hP 6 0 rfl rfl (i := (M_spot v)) hg26 dX6_readMove_61 ?_
          refine lv_bipush (v := 119) hx hb dX6_readMove_62 (by decide) ?_
          refine lv_icmp_eq (tgt := 73) hx hb dX6_readMove_64 (by decide) (fun c27 => ?_) (fun c27 => ?_)
          · have hF := itp c27 hF
            exact hJ73 () _ _ _ hP hD hS (lv_sub hl [0] rfl) hF
          · have hF := itn c27 hF
            exact hJ67 () _ _ _ hP hD hS (lv_sub hl [0] rfl) hF
theorem dX6_does_0 : decode cX6_does 0 = .ok (.aload_n 0, 1) := by decide +kernel
theorem dX6_does_1 : decode cX6_does 1 = .ok (.getfield 152, 3) := by decide +kernel
theorem dX6_does_4 : decode cX6_does 4 = .ok (.bipush 106, 2) := by decide +kernel
theorem dX6_does_6 : decode cX6_does 6 = .ok (.if_icmp .ne 10, 3) := by decide +kernel
theorem dX6_does_9 : decode cX6_does 9 = .ok (.aload_n 0, 1) := by decide +kernel
theorem dX6_does_10 : decode cX6_does 10 = .ok (.invokevirtual 104, 3) := by decide +kernel
theorem dX6_does_13 : decode cX6_does 13 = .ok (.goto 40, 3) := by decide +kernel
theorem dX6_does_16 : decode cX6_does 16 = .ok (.aload_n 0, 1) := by decide +kernel
theorem dX6_does_17 : decode cX6_does 17 = .ok (.getfield 152, 3) := by decide +kernel
theorem dX6_does_20 : decode cX6_does 20 = .ok (.bipush 98, 2) := by decide +kernel
theorem dX6_does_22 : decode cX6_does 22 = .ok (.if_icmp .ne 10, 3) := by decide +kernel
theorem dX6_does_25 : decode cX6_does 25 = .ok (.aload_n 0, 1) := by decide +kernel
theorem dX6_does_26 : decode cX6_does 26 = .ok (.invokevirtual 120, 3) := by decide +kernel
theorem dX6_does_29 : decode cX6_does 29 = .ok (.goto 24, 3) := by decide +kernel
theorem dX6_does_32 : decode cX6_does 32 = .ok (.aload_n 0, 1) := by decide +kernel
theorem dX6_does_33 : decode cX6_does 33 = .ok (.getfield 152, 3) := by decide +kernel
theorem dX6_does_36 : decode cX6_does 36 = .ok (.bipush 99, 2) := by decide +kernel
theorem dX6_does_38 : decode cX6_does 38 = .ok (.if_icmp .ne 10, 3) := by decide +kernel
theorem dX6_does_41 : decode cX6_does 41 = .ok (.aload_n 0, 1) := by decide +kernel
theorem dX6_does_42 : decode cX6_does 42 = .ok (.invokevirtual 126, 3) := by decide +kernel
theorem dX6_does_45 : decode cX6_does 45 = .ok (.ifCond .eq 7, 3) := by decide +kernel
theorem dX6_does_48 : decode cX6_does 48 = .ok (.iconst 1, 1) := by decide +kernel
theorem dX6_does_49 : decode cX6_does 49 = .ok (.goto 4, 3) := by decide +kernel
theorem dX6_does_52 : decode cX6_does 52 = .ok (.iconst 0, 1) := by decide +kernel
theorem dX6_does_53 : decode cX6_does 53 = .ok (.istore_n 1, 1) := by decide +kernel
theorem dX6_does_54 : decode cX6_does 54 = .ok (.iconst 0, 1) := by decide +kernel
theorem dX6_does_55 : decode cX6_does 55 = .ok (.istore_n 2, 1) := by decide +kernel
theorem dX6_does_56 : decode cX6_does 56 = .ok (.iload_n 1, 1) := by decide +kernel
theorem dX6_does_57 : decode cX6_does 57 = .ok (.ifCond .eq 99, 3) := by decide +kernel
theorem dX6_does_60 : decode cX6_does 60 = .ok (.aload_n 0, 1) := by decide +kernel
theorem dX6_does_61 : decode cX6_does 61 = .ok (.getfield 152, 3) := by decide +kernel
theorem dX6_does_64 : decode cX6_does 64 = .ok (.bipush 106, 2) := by decide +kernel
theorem dX6_does_66 : decode cX6_does 66 = .ok (.if_icmp .ne 14, 3) := by decide +kernel
theorem dX6_does_69 : decode cX6_does 69 = .ok (.aload_n 0, 1) := by decide +kernel
theorem dX6_does_70 : decode cX6_does 70 = .ok (.aload_n 0, 1) := by decide +kernel
theorem dX6_does_71 : decode cX6_does 71 = .ok (.getfield 158, 3) := by decide +kernel
theorem dX6_does_74 : decode cX6_does 74 = .ok (.invokevirtual 114, 3) := by decide +kernel
theorem dX6_does_77 : decode cX6_does 77 = .ok (.goto 55, 3) := by decide +kernel
theorem dX6_does_80 : decode cX6_does 80 = .ok (.aload_n 0, 1) := by decide +kernel
theorem dX6_does_81 : decode cX6_does 81 = .ok (.getfield 152, 3) := by decide +kernel
theorem dX6_does_84 : decode cX6_does 84 = .ok (.bipush 98, 2) := by decide +kernel
theorem dX6_does_86 : decode cX6_does 86 = .ok (.if_icmp .ne 22, 3) := by decide +kernel
theorem dX6_does_89 : decode cX6_does 89 = .ok (.aload_n 0, 1) := by decide +kernel
theorem dX6_does_90 : decode cX6_does 90 = .ok (.aload_n 0, 1) := by decide +kernel
theorem dX6_does_91 : decode cX6_does 91 = .ok (.getfield 158, 3) := by decide +kernel
theorem dX6_does_94 : decode cX6_does 94 = .ok (.aload_n 0, 1) := by decide +kernel
theorem dX6_does_95 : decode cX6_does 95 = .ok (.getfield 164, 3) := by decide +kernel
theorem dX6_does_98 : decode cX6_does 98 = .ok (.aload_n 0, 1) := by decide +kernel
theorem dX6_does_99 : decode cX6_does 99 = .ok (.getfield 167, 3) := by decide +kernel
theorem dX6_does_102 : decode cX6_does 102 = .ok (.invokevirtual 123, 3) := by decide +kernel
theorem dX6_does_105 : decode cX6_does 105 = .ok (.goto 27, 3) := by decide +kernel
theorem dX6_does_108 : decode cX6_does 108 = .ok (.aload_n 0, 1) := by decide +kernel
theorem dX6_does_109 : decode cX6_does 109 = .ok (.getfield 152, 3) := by decide +kernel
theorem dX6_does_112 : decode cX6_does 112 = .ok (.bipush 99, 2) := by decide +kernel
theorem dX6_does_114 : decode cX6_does 114 = .ok (.if_icmp .ne 10, 3) := by decide +kernel
theorem dX6_does_117 : decode cX6_does 117 = .ok (.aload_n 0, 1) := by decide +kernel
theorem dX6_does_118 : decode cX6_does 118 = .ok (.invokevirtual 129, 3) := by decide +kernel
theorem dX6_does_121 : decode cX6_does 121 = .ok (.goto 11, 3) := by decide +kernel
theorem dX6_does_124 : decode cX6_does 124 = .ok (.aload_n 0, 1) := by decide +kernel
theorem dX6_does_125 : decode cX6_does 125 = .ok (.aload_n 0, 1) := by decide +kernel
theorem dX6_does_126 : decode cX6_does 126 = .ok (.getfield 158, 3) := by decide +kernel
theorem dX6_does_129 : decode cX6_does 129 = .ok (.invokevirtual 132, 3) := by decide +kernel
theorem dX6_does_132 : decode cX6_does 132 = .ok (.istore_n 2, 1) := by decide +kernel
theorem dX6_does_133 : decode cX6_does 133 = .ok (.aload_n 0, 1) := by decide +kernel
theorem dX6_does_134 : decode cX6_does 134 = .ok (.dup, 1) := by decide +kernel
theorem dX6_does_135 : decode cX6_does 135 = .ok (.getfield 170, 3) := by decide +kernel
theorem dX6_does_138 : decode cX6_does 138 = .ok (.aload_n 0, 1) := by decide +kernel
theorem dX6_does_139 : decode cX6_does 139 = .ok (.getfield 152, 3) := by decide +kernel
theorem dX6_does_142 : decode cX6_does 142 = .ok (.bipush 98, 2) := by decide +kernel
theorem dX6_does_144 : decode cX6_does 144 = .ok (.if_icmp .ne 7, 3) := by decide +kernel
theorem dX6_does_147 : decode cX6_does 147 = .ok (.iconst 1, 1) := by decide +kernel
theorem dX6_does_148 : decode cX6_does 148 = .ok (.goto 4, 3) := by decide +kernel
theorem dX6_does_151 : decode cX6_does 151 = .ok (.iconst 0, 1) := by decide +kernel
theorem dX6_does_152 : decode cX6_does 152 = .ok (.iadd, 1) := by decide +kernel
theorem dX6_does_153 : decode cX6_does 153 = .ok (.putfield 170, 3) := by decide +kernel
theorem dX6_does_156 : decode cX6_does 156 = .ok (.iload_n 1, 1) := by decide +kernel
theorem dX6_does_157 : decode cX6_does 157 = .ok (.ireturn, 1) := by decide +kernel
def f_X6_does (N : Nat) (v : MV) : Option (Int32 × MV) :=
  jn (fun (s53 : Int32) => jn (fun (s156 : MV) => some (s53, s156)) (fun (j156 : (MV) → Option (Int32 × MV)) => (if s53 = 0 then j156 v else jn (fun (s132 : Int32 × MV) => jn (fun (s152 : Int32) => j156 (M_set_played s132.2 ((M_played s132.2) + s152))) (fun (j152 : (Int32) → Option (Int32 × MV)) => (if (M_sign s132.2) = (98 : Int32) then j152 (1 : Int32) else j152 (0 : Int32)))) (fun (j132 : (Int32 × MV) → Option (Int32 × MV)) => (if (M_sign v) = (106 : Int32) then (f_X6_rolls N v (M_one v)).bind (fun o12 => j132 (o12.1, o12.2)) else (if (M_sign v) = (98 : Int32) then (f_X6_plays N v (M_one v) (M_two v) (M_three v)).bind (fun o10 => j132 (o10.1, o10.2)) else (if (M_sign v) = (99 : Int32) then (f_X6_counts N v).bind (fun o8 => j132 (o8.1, o8.2)) else (f_X6_blows N v (M_one v)).bind (fun o6 => j132 (o6.1, o6.2))))))))) (fun (j53 : (Int32) → Option (Int32 × MV)) => (if (M_sign v) = (106 : Int32) then (f_X6_canRoll N v).bind (fun o24 => j53 o24) else (if (M_sign v) = (98 : Int32) then (f_X6_canPlay N v).bind (fun o21 => j53 o21) else jn (fun (s48 : Unit) => j53 (1 : Int32)) (fun (j48 : (Unit) → Option (Int32 × MV)) => (if (M_sign v) = (99 : Int32) then (f_X6_canCount N v).bind (fun o17 => (if o17 = 0 then j53 (0 : Int32) else j48 ())) else j48 ())))))
set_option maxHeartbeats 4000000 in
set_option maxRecDepth 100000 in
theorem met_X6_does (l : Launch) (dC : Nat → ClassId) (dI : Nat → Nat → Nat) (cyI cyO cyL : ClassId) (a : Nat → Nat) (sz : Nat) (N : Nat) (v : MV) (out : Int32 × MV) (hF : f_X6_does N v = some out) : Met l yX6_does (Cond.code yX6_does cX6_does 3 (some .boolean) :: wT) ({ frames := 5, cells := 0, slots := 0, locals := 123 } : Room) (wWr dC dI cyI cyO cyL [.ref (a 0)] (cM cyI a v) sz) (va_Qi (fun (r : Int32) (u : MV) => (r, u) = out ∧ b01 r) (fun u t => va_P (dC, dI) vwCl (cM cyI a u) t.heap ∧ va_D (va_A (cM cyI a v) sz) (cM cyI a u)) (va_A (cM cyI a v) sz)) 0 0 (va_A (cM cyI a v) sz) := by
  refine Met.ofW (cc := cX6_does) (maxL := 3) (ret := (some .boolean)) (by decide) rfl ?_
  intro p e s m args below meth c s₁ B hml hv
  obtain ⟨rfl, hsz, hP, hK, hD0⟩ := hv
  have hx := B.exec
  have hb := B.bytes
  have hr := B.returns
  have hts0 := atoms_spec (ws := (Cond.code yX6_does cX6_does 3 (some .boolean) :: wT)) B.pre
  have hts := fun w h => hts0 w (List.mem_cons_of_mem _ h)
  clear hts0
  have hown : s.vm.findClass RX6 = some m.cls := findClass_of_methodNamed B.named
  have hlocks := B.notSynchronized
  subst hsz
  have hD := hD0.self (sz := s.heap.size)
  generalize hAe : va_A (cM cyI a v) s.heap.size = A at hD ⊢
  have hA : ∀ q : Nat, s.heap.size ≤ q → A q := fun q h => by rw [← hAe]; exact Or.inr h
  clear hD0
  have hS : va_S A s.heap s.heap [] := va_S.rf
  have hl := lv_entry [.ref (a 0)] (n := 3) (Nat.le_of_ble_eq_true rfl)
  rw [lg_entry_eq]
  generalize (lg_sl [.ref (a 0)] ++ List.replicate (3 - (lg_sl [.ref (a 0)]).length) Slot.unset).toArray = ls at hl ⊢
  have hl : lv_has ls 3 [(0, .ref (a 0))] := hl
  unfold f_X6_does at hF
  refine lv_aload_n hx hb dX6_does_0 rfl (lv_at hl 0 rfl) ?_
  refine va_get (D := (dC, dI)) (ci := 6) (v := .int (M_sign v)) (C := RX6) (T := TX6) (N := 23) hx hb hts inX6 hown hK.1 hP 0 rfl rfl 15 (by decide) (hts _ w_fieldLink_X6_152) (fun _ h9 => h9) rfl dX6_does_1 ?_
  refine lv_bipush (v := 106) hx hb dX6_does_4 (by decide) ?_
  obtain ⟨j53, hj53, hF⟩ := jn_use hF
  have hJ53 : ∀ (s53 : Int32) (H : Heap) (locs : List Loc) (ls : Array Slot) (hz_53_s0 : b01 s53), va_P (dC, dI) vwCl (cM cyI a v) H → va_D A (cM cyI a v) → va_S A s.heap H locs → lv_has ls 3 [(0, .ref (a 0))] → j53 s53 = some out → W p l e (headSpec (Cond.code yX6_does cX6_does 3 (some .boolean) :: wT) ({ frames := 5, cells := 0, slots := 0, locals := 123 } : Room)).room s m ([.ref (a 0)] : List Value).toArray below meth c H locs 0 0 (MQ below (va_Qi (fun (r : Int32) (u : MV) => (r, u) = out ∧ b01 r) (fun u t => va_P (dC, dI) vwCl (cM cyI a u) t.heap ∧ va_D A (cM cyI a u)) A) ([.ref (a 0)] : List Value).toArray s 0 0 A) (F0 m 53 ls [.int s53]) := by
    intro s53 H locs ls hz_53_s0 hP hD hS hl hF
    have hF := (congrFun hj53 s53).symm.trans hF
    refine lv_istore_n (lv' := [(1, .int s53), (0, .ref (a 0))]) hx hb dX6_does_53 rfl hl (by decide) rfl (fun ls hl => ?_)
    refine lv_iconst (v := 0) hx hb dX6_does_54 (by decide) ?_
    refine lv_istore_n (lv' := [(2, .int (0 : Int32)), (1, .int s53), (0, .ref (a 0))]) hx hb dX6_does_55 rfl hl (by decide) rfl (fun ls hl => ?_)
    refine lv_iload_n hx hb dX6_does_56 rfl (lv_at hl 1 rfl) ?_
    obtain ⟨j156, hj156, hF⟩ := jn_use hF
    have hJ156 : ∀ (s156 : MV) (H : Heap) (locs : List Loc) (ls : Array Slot), va_P (dC, dI) vwCl (cM cyI a s156) H → va_D A (cM cyI a s156) → va_S A s.heap H locs → lv_has ls 3 [(1, .int s53)] → j156 s156 = some out → W p l e (headSpec (Cond.code yX6_does cX6_does 3 (some .boolean) :: wT) ({ frames := 5, cells := 0, slots := 0, locals := 123 } : Room)).room s m ([.ref (a 0)] : List Value).toArray below meth c H locs 0 0 (MQ below (va_Qi (fun (r : Int32) (u : MV) => (r, u) = out ∧ b01 r) (fun u t => va_P (dC, dI) vwCl (cM cyI a u) t.heap ∧ va_D A (cM cyI a u)) A) ([.ref (a 0)] : List Value).toArray s 0 0 A) (F0 m 156 ls []) := by
      intro s156 H locs ls hP hD hS hl hF
      have hF := (congrFun hj156 s156).symm.trans hF
      refine lv_iload_n hx hb dX6_does_156 rfl (lv_at hl 0 rfl) ?_
      exact W.zret (ty := .boolean) (v := s53) hx hb hr (b01_n hz_53_s0) (fun t ht hW => ⟨⟨_, s156, rfl, ⟨Option.some.inj hF, hz_53_s0⟩, by rw [ht]; exact hP, hD⟩, hS.F ht⟩) hS.2.2 dX6_does_157
    refine lv_if_eq (tgt := 156) hx hb dX6_does_57 (by decide) (fun c1 => ?_) (fun c1 => ?_)
    · have hF := itp c1 hF
      exact hJ156 v _ _ _ hP hD hS (lv_sub hl [1] rfl) hF
    · have hF := itn c1 hF
      refine lv_aload_n hx hb dX6_does_60 rfl (lv_at hl 2 rfl) ?_
      refine va_get (D := (dC, dI)) (ci := 6) (v := .int (M_sign v)) (C := RX6) (T := TX6) (N := 23) hx hb hts inX6 hown hK.1 hP 0 rfl rfl 15 (by decide) (hts _ w_fieldLink_X6_152) (fun _ h9 => h9) rfl dX6_does_61 ?_
      refine lv_bipush (v := 106) hx hb dX6_does_64 (by decide) ?_
      obtain ⟨j132, hj132, hF⟩ := jn_use hF
      have hJ132 : ∀ (s132 : Int32 × MV) (H : Heap) (locs : List Loc) (ls : Array Slot), va_P (dC, dI) vwCl (cM cyI a s132.2) H → va_D A (cM cyI a s132.2) → va_S A s.heap H locs → lv_has ls 3 [(0, .ref (a 0)), (1, .int s53)] → j132 s132 = some out → W p l e (headSpec (Cond.code yX6_does cX6_does 3 (some .boolean) :: wT) ({ frames := 5, cells := 0, slots := 0, locals := 123 } : Room)).room s m ([.ref (a 0)] : List Value).toArray below meth c H locs 0 0 (MQ below (va_Qi (fun (r : Int32) (u : MV) => (r, u) = out ∧ b01 r) (fun u t => va_P (dC, dI) vwCl (cM cyI a u) t.heap ∧ va_D A (cM cyI a u)) A) ([.ref (a 0)] : List Value).toArray s 0 0 A) (F0 m 132 ls [.int s132.1]) := by
        intro s132 H locs ls hP hD hS hl hF
        have hF := (congrFun hj132 s132).symm.trans hF
        refine lv_istore_n (lv' := [(2, .int s132.1), (0, .ref (a 0)), (1, .int s53)]) hx hb dX6_does_132 rfl hl (by decide) rfl (fun ls hl => ?_)
        refine lv_aload_n hx hb dX6_does_133 rfl (lv_at hl 1 rfl) ?_
        refine lv_dup hx hb dX6_does_134 rfl ?_
        refine va_get (D := (dC, dI)) (ci := 6) (v := .int (M_played s132.2)) (C := RX6) (T := TX6) (N := 23) hx hb hts inX6 hown hK.1 hP 0 rfl rfl 19 (by decide) (hts _ w_fieldLink_X6_170) (fun _ h9 => h9) rfl dX6_does_135 ?_
        refine lv_aload_n hx hb dX6_does_138 rfl (lv_at hl 1 rfl) ?_
        refine va_get (D := (dC, dI)) (ci := 6) (v := .int (M_sign s132.2)) (C := RX6) (T := TX6) (N := 23) hx hb hts inX6 hown hK.1 hP 0 rfl rfl 15 (by decide) (hts _ w_fieldLink_X6_152) (fun _ h9 => h9) rfl dX6_does_139 ?_
        refine lv_bipush (v := 98) hx hb dX6_does_142 (by decide) ?_
        obtain ⟨j152, hj152, hF⟩ := jn_use hF
        have hJ152 : ∀ (s152 : Int32) (H : Heap) (locs : List Loc) (ls : Array Slot) (hz_152_s2 : b01 s152), va_P (dC, dI) vwCl (cM cyI a s132.2) H → va_D A (cM cyI a s132.2) → va_S A s.heap H locs → lv_has ls 3 [(1, .int s53)] → j152 s152 = some out → W p l e (headSpec (Cond.code yX6_does cX6_does 3 (some .boolean) :: wT) ({ frames := 5, cells := 0, slots := 0, locals := 123 } : Room)).room s m ([.ref (a 0)] : List Value).toArray below meth c H locs 0 0 (MQ below (va_Qi (fun (r : Int32) (u : MV) => (r, u) = out ∧ b01 r) (fun u t => va_P (dC, dI) vwCl (cM cyI a u) t.heap ∧ va_D A (cM cyI a u)) A) ([.ref (a 0)] : List Value).toArray s 0 0 A) (F0 m 152 ls [.int s152, .int (M_played s132.2), .ref (a 0)]) := by
          intro s152 H locs ls hz_152_s2 hP hD hS hl hF
          have hF := (congrFun hj152 s152).symm.trans hF
          refine lv_iadd hx hb dX6_does_152 ?_
          refine va_put (D := (dC, dI)) (ci := 6) (v := .int ((M_played s132.2) + s152)) (ty := .int) (C := RX6) (T := TX6) (N := 23) hx hb hts inX6 tyX6 tyX6_ok nmX6 hown hK.1 hP hD hS 0 rfl rfl 19 (by decide) (hts _ w_fieldLink_X6_170) (fun _ h9 => h9) rfl (by decide +kernel) rfl rfl (Nat.le_of_ble_eq_true rfl) dX6_does_153 (fun H locs hP hD hS => ?_)
          have hP : va_P (dC, dI) vwCl (cM cyI a (M_set_played s132.2 ((M_played s132.2) + s152))) H := hP
          have hD : va_D A (cM cyI a (M_set_played s132.2 ((M_played s132.2) + s152))) := hD
          exact hJ156 (M_set_played s132.2 ((M_played s132.2) + s152)) _ _ _ hP hD hS (lv_sub hl [0] rfl) hF
        refine lv_icmp_ne (tgt := 151) hx hb dX6_does_144 (by decide) (fun c2 => ?_) (fun c2 => ?_)
        · have hF := itn c2 hF
          refine lv_iconst (v := 0) hx hb dX6_does_151 (by decide) ?_
          exact hJ152 (0 : Int32) _ _ _ b01_0 hP hD hS (lv_sub hl [2] rfl) hF
        · have hF := itp c2 hF
          refine lv_iconst (v := 1) hx hb dX6_does_147 (by decide) ?_
          refine lv_goto (tgt := 152) hx hb dX6_does_148 (by decide) ?_
          exact hJ152 (1 : Int32) _ _ _ b01_1 hP hD hS (lv_sub hl [2] rfl) hF
      refine lv_icmp_ne (tgt := 80) hx hb dX6_does_66 (by decide) (fun c3 => ?_) (fun c3 => ?_)
      · have hF := itn c3 hF
        refine lv_aload_n hx hb dX6_does_80 rfl (lv_at hl 2 rfl) ?_
        refine va_get (D := (dC, dI)) (ci := 6) (v := .int (M_sign v)) (C := RX6) (T := TX6) (N := 23) hx hb hts inX6 hown hK.1 hP 0 rfl rfl 15 (by decide) (hts _ w_fieldLink_X6_152) (fun _ h9 => h9) rfl dX6_does_81 ?_
        refine lv_bipush (v := 98) hx hb dX6_does_84 (by decide) ?_
        refine lv_icmp_ne (tgt := 108) hx hb dX6_does_86 (by decide) (fun c4 => ?_) (fun c4 => ?_)
        · have hF := itn c4 hF
          refine lv_aload_n hx hb dX6_does_108 rfl (lv_at hl 2 rfl) ?_
          refine va_get (D := (dC, dI)) (ci := 6) (v := .int (M_sign v)) (C := RX6) (T := TX6) (N := 23) hx hb hts inX6 hown hK.1 hP 0 rfl rfl 15 (by decide) (hts _ w_fieldLink_X6_152) (fun _ h9 => h9) rfl dX6_does_109 ?_
          refine lv_bipush (v := 99) hx hb dX6_does_112 (by decide) ?_
          refine lv_icmp_ne (tgt := 124) hx hb dX6_does_114 (by decide) (fun c5 => ?_) (fun c5 => ?_)
          · have hF := itn c5 hF
            refine lv_aload_n hx hb dX6_does_124 rfl (lv_at hl 2 rfl) ?_
            refine lv_aload_n hx hb dX6_does_125 rfl (lv_at hl 2 rfl) ?_
            refine va_get (D := (dC, dI)) (ci := 6) (v := .int (M_one v)) (C := RX6) (T := TX6) (N := 23) hx hb hts inX6 hown hK.1 hP 0 rfl rfl 16 (by decide) (hts _ w_fieldLink_X6_158) (fun _ h9 => h9) rfl dX6_does_126 ?_
            obtain ⟨o6, h7, hF⟩ := obd hF
            refine wcWVi (As := [.int (M_one v)]) (rest := []) (wr := []) (b := (a 0)) ⟨hx, hb, hml, hown, hts⟩ (met_X6_blows l dC dI cyI cyO cyL a _ N v (M_one v) o6 h7) (cwV 1 hts (gV w_methodLink_X6_132 w_instanceMethod_X6_blows w_selects_X6_blows w_initialized_X6 w_code_X6_blows) rfl rfl rfl (by decide +kernel) ⟨Nat.le_of_ble_eq_true rfl, Nat.le_of_ble_eq_true rfl⟩) (va_recv hK.1 hP (ci := 6) (q0 := 0) rfl rfl) hP hD hK [0, 1, 2, 3, 4, 5, 6, 7] [] rfl rfl (by decide) (by decide) (by decide) rfl hl.1 (Nat.le_of_ble_eq_true rfl) dX6_does_129 ⟨Nat.le_of_ble_eq_true rfl, Nat.le_of_ble_eq_true rfl⟩ hS hA (fun r u H locs hw hP hD hS => ?_)
            obtain rfl : r = o6.1 := congrArg Prod.fst hw
            obtain rfl : u = o6.2 := congrArg Prod.snd hw
            clear hw
            have hP : va_P (dC, dI) vwCl (cM cyI a o6.2) H := hP
            have hD : va_D A (cM cyI a o6.2) := hD
            exact hJ132 (o6.1, o6.2) _ _ _ hP hD hS (lv_sub hl [2, 1] rfl) hF
          · have hF := itp c5 hF
            refine lv_aload_n hx hb dX6_does_117 rfl (lv_at hl 2 rfl) ?_
            obtain ⟨o8, h9, hF⟩ := obd hF
            refine wcWVi (As := []) (rest := []) (wr := []) (b := (a 0)) ⟨hx, hb, hml, hown, hts⟩ (met_X6_counts l dC dI cyI cyO cyL a _ N v  o8 h9) (cwV 0 hts (gV w_methodLink_X6_129 w_instanceMethod_X6_counts w_selects_X6_counts w_initialized_X6 w_code_X6_counts) rfl rfl rfl (by decide +kernel) ⟨Nat.le_of_ble_eq_true rfl, Nat.le_of_ble_eq_true rfl⟩) (va_recv hK.1 hP (ci := 6) (q0 := 0) rfl rfl) hP hD hK [0, 1, 2, 3, 4, 5, 6, 7] [] rfl rfl (by decide) (by decide) (by decide) rfl hl.1 (Nat.le_of_ble_eq_true rfl) dX6_does_118 ⟨Nat.le_of_ble_eq_true rfl, Nat.le_of_ble_eq_true rfl⟩ hS hA (fun r u H locs hw hP hD hS => ?_)
            obtain rfl : r = o8.1 := congrArg Prod.fst hw
            obtain rfl : u = o8.2 := congrArg Prod.snd hw
            clear hw
            have hP : va_P (dC, dI) vwCl (cM cyI a o8.2) H := hP
            have hD : va_D A (cM cyI a o8.2) := hD
            refine lv_goto (tgt := 132) hx hb dX6_does_121 (by decide) ?_
            exact hJ132 (o8.1, o8.2) _ _ _ hP hD hS (lv_sub hl [2, 1] rfl) hF
        · have hF := itp c4 hF
          refine lv_aload_n hx hb dX6_does_89 rfl (lv_at hl 2 rfl) ?_
          refine lv_aload_n hx hb dX6_does_90 rfl (lv_at hl 2 rfl) ?_
          refine va_get (D := (dC, dI)) (ci := 6) (v := .int (M_one v)) (C := RX6) (T := TX6) (N := 23) hx hb hts inX6 hown hK.1 hP 0 rfl rfl 16 (by decide) (hts _ w_fieldLink_X6_158) (fun _ h9 => h9) rfl dX6_does_91 ?_
          refine lv_aload_n hx hb dX6_does_94 rfl (lv_at hl 2 rfl) ?_
          refine va_get (D := (dC, dI)) (ci := 6) (v := .int (M_two v)) (C := RX6) (T := TX6) (N := 23) hx hb hts inX6 hown hK.1 hP 0 rfl rfl 17 (by decide) (hts _ w_fieldLink_X6_164) (fun _ h9 => h9) rfl dX6_does_95 ?_
          refine lv_aload_n hx hb dX6_does_98 rfl (lv_at hl 2 rfl) ?_
          refine va_get (D := (dC, dI)) (ci := 6) (v := .int (M_three v)) (C := RX6) (T := TX6) (N := 23) hx hb hts inX6 hown hK.1 hP 0 rfl rfl 18 (by decide) (hts _ w_fieldLink_X6_167) (fun _ h9 => h9) rfl dX6_does_99 ?_
          obtain ⟨o10, h11, hF⟩ := obd hF
          refine wcWVi (As := [.int (M_one v), .int (M_two v), .int (M_three v)]) (rest := []) (wr := []) (b := (a 0)) ⟨hx, hb, hml, hown, hts⟩ (met_X6_plays l dC dI cyI cyO cyL a _ N v (M_one v) (M_two v) (M_three v) o10 h11) (cwV 3 hts (gV w_methodLink_X6_123 w_instanceMethod_X6_plays w_selects_X6_plays w_initialized_X6 w_code_X6_plays) rfl rfl rfl (by decide +kernel) ⟨Nat.le_of_ble_eq_true rfl, Nat.le_of_ble_eq_true rfl⟩) (va_recv hK.1 hP (ci := 6) (q0 := 0) rfl rfl) hP hD hK [0, 1, 2, 3, 4, 5, 6, 7] [] rfl rfl (by decide) (by decide) (by decide) rfl hl.1 (Nat.le_of_ble_eq_true rfl) dX6_does_102 ⟨Nat.le_of_ble_eq_true rfl, Nat.le_of_ble_eq_true rfl⟩ hS hA (fun r u H locs hw hP hD hS => ?_)
          obtain rfl : r = o10.1 := congrArg Prod.fst hw
          obtain rfl : u = o10.2 := congrArg Prod.snd hw
          clear hw
          have hP : va_P (dC, dI) vwCl (cM cyI a o10.2) H := hP
          have hD : va_D A (cM cyI a o10.2) := hD
          refine lv_goto (tgt := 132) hx hb dX6_does_105 (by decide) ?_
          exact hJ132 (o10.1, o10.2) _ _ _ hP hD hS (lv_sub hl [2, 1] rfl) hF
      · have hF := itp c3 hF
        refine lv_aload_n hx hb dX6_does_69 rfl (lv_at hl 2 rfl) ?_
        refine lv_aload_n hx hb dX6_does_70 rfl (lv_at hl 2 rfl) ?_
        refine va_get (D := (dC, dI)) (ci := 6) (v := .int (M_one v)) (C := RX6) (T := TX6) (N := 23) hx hb hts inX6 hown hK.1 hP 0 rfl rfl 16 (by decide) (hts _ w_fieldLink_X6_158) (fun _ h9 => h9) rfl dX6_does_71 ?_
        obtain ⟨o12, h13, hF⟩ := obd hF
        refine wcWVi (As := [.int (M_one v)]) (rest := []) (wr := []) (b := (a 0)) ⟨hx, hb, hml, hown, hts⟩ (met_X6_rolls l dC dI cyI cyO cyL a _ N v (M_one v) o12 h13) (cwV 1 hts (gV w_methodLink_X6_114 w_instanceMethod_X6_rolls w_selects_X6_rolls w_initialized_X6 w_code_X6_rolls) rfl rfl rfl (by decide +kernel) ⟨Nat.le_of_ble_eq_true rfl, Nat.le_of_ble_eq_true rfl⟩) (va_recv hK.1 hP (ci := 6) (q0 := 0) rfl rfl) hP hD hK [0, 1, 2, 3, 4, 5, 6, 7] [] rfl rfl (by decide) (by decide) (by decide) rfl hl.1 (Nat.le_of_ble_eq_true rfl) dX6_does_74 ⟨Nat.le_of_ble_eq_true rfl, Nat.le_of_ble_eq_true rfl⟩ hS hA (fun r u H locs hw hP hD hS => ?_)
        obtain rfl : r = o12.1 := congrArg Prod.fst hw
        obtain rfl : u = o12.2 := congrArg Prod.snd hw
        clear hw
        have hP : va_P (dC, dI) vwCl (cM cyI a o12.2) H := hP
        have hD : va_D A (cM cyI a o12.2) := hD
        refine lv_goto (tgt := 132) hx hb dX6_does_77 (by decide) ?_
        exact hJ132 (o12.1, o12.2) _ _ _ hP hD hS (lv_sub hl [2, 1] rfl) hF
  refine lv_icmp_ne (tgt := 16) hx hb dX6_does_6 (by decide) (fun c14 => ?_) (fun c14 => ?_)
  · have hF := itn c14 hF
    refine lv_aload_n hx hb dX6_does_16 rfl (lv_at hl 0 rfl) ?_
    refine va_get (D := (dC, dI)) (ci := 6) (v := .int (M_sign v)) (C := RX6) (T := TX6) (N := 23) hx hb hts inX6 hown hK.1 hP 0 rfl rfl 15 (by decide) (hts _ w_fieldLink_X6_152) (fun _ h9 => h9) rfl dX6_does_17 ?_
    refine lv_bipush (v := 98) hx hb dX6_does_20 (by decide) ?_
    refine lv_icmp_ne (tgt := 32) hx hb dX6_does_22 (by decide) (fun c15 => ?_) (fun c15 => ?_)
    · have hF := itn c15 hF
      refine lv_aload_n hx hb dX6_does_32 rfl (lv_at hl 0 rfl) ?_
      refine va_get (D := (dC, dI)) (ci := 6) (v := .int (M_sign v)) (C := RX6) (T := TX6) (N := 23) hx hb hts inX6 hown hK.1 hP 0 rfl rfl 15 (by decide) (hts _ w_fieldLink_X6_152) (fun _ h9 => h9) rfl dX6_does_33 ?_
      refine lv_bipush (v := 99) hx hb dX6_does_36 (by decide) ?_
      obtain ⟨j48, hj48, hF⟩ := jn_use hF
      have hJ48 : ∀ (s48 : Unit) (H : Heap) (locs : List Loc) (ls : Array Slot), va_P (dC, dI) vwCl (cM cyI a v) H → va_D A (cM cyI a v) → va_S A s.heap H locs → lv_has ls 3 [(0, .ref (a 0))] → j48 s48 = some out → W p l e (headSpec (Cond.code yX6_does cX6_does 3 (some .boolean) :: wT) ({ frames := 5, cells := 0, slots := 0, locals := 123 } : Room)).room s m ([.ref (a 0)] : List Value).toArray below meth c H locs 0 0 (MQ below (va_Qi (fun (r : Int32) (u : MV) => (r, u) = out ∧ b01 r) (fun u t => va_P (dC, dI) vwCl (cM cyI a u) t.heap ∧ va_D A (cM cyI a u)) A) ([.ref (a 0)] : List Value).toArray s 0 0 A) (F0 m 48 ls []) := by
        intro s48 H locs ls hP hD hS hl hF
        have hF := (congrFun hj48 s48).symm.trans hF
        refine lv_iconst (v := 1) hx hb dX6_does_48 (by decide) ?_
        refine lv_goto (tgt := 53) hx hb dX6_does_49 (by decide) ?_
        exact hJ53 (1 : Int32) _ _ _ b01_1 hP hD hS (lv_sub hl [0] rfl) hF
      refine lv_icmp_ne (tgt := 48) hx hb dX6_does_38 (by decide) (fun c16 => ?_) (fun c16 => ?_)
      · have hF := itn c16 hF
        exact hJ48 () _ _ _ hP hD hS (lv_sub hl [0] rfl) hF
      · have hF := itp c16 hF
        refine lv_aload_n hx hb dX6_does_41 rfl (lv_at hl 0 rfl) ?_
        obtain ⟨o17, h18, hF⟩ := obd hF
        refine wcRVi (As := []) (rest := []) (b := (a 0)) ⟨hx, hb, hml, hown, hts⟩ (met_X6_canCount l dC dI cyI cyO cyL a N v  o17 h18) (cwV 0 hts (gV w_methodLink_X6_126 w_instanceMethod_X6_canCount w_selects_X6_canCount w_initialized_X6 w_code_X6_canCount) rfl rfl rfl (by decide +kernel) ⟨Nat.le_of_ble_eq_true rfl, Nat.le_of_ble_eq_true rfl⟩) (va_recv hK.1 hP (ci := 6) (q0 := 0) rfl rfl) hP hK [0, 1, 2, 3, 4, 5, 6, 7] rfl rfl hl.1 (Nat.le_of_ble_eq_true rfl) dX6_does_42 ⟨Nat.le_of_ble_eq_true rfl, Nat.le_of_ble_eq_true rfl⟩ hS (fun r H locs hw hP hS => ?_)
        obtain ⟨hw, hz19⟩ := hw
        have hw := hw.symm
        subst hw
        refine lv_if_eq (tgt := 52) hx hb dX6_does_45 (by decide) (fun c20 => ?_) (fun c20 => ?_)
        · have hF := itp c20 hF
          refine lv_iconst (v := 0) hx hb dX6_does_52 (by decide) ?_
          exact hJ53 (0 : Int32) _ _ _ b01_0 hP hD hS (lv_sub hl [0] rfl) hF
        · have hF := itn c20 hF
          exact hJ48 () _ _ _ hP hD hS (lv_sub hl [0] rfl) hF
    · have hF := itp c15 hF
      refine lv_aload_n hx hb dX6_does_25 rfl (lv_at hl 0 rfl) ?_
      obtain ⟨o21, h22, hF⟩ := obd hF
      refine wcRVi (As := []) (rest := []) (b := (a 0)) ⟨hx, hb, hml, hown, hts⟩ (met_X6_canPlay l dC dI cyI cyO cyL a N v  o21 h22) (cwV 0 hts (gV w_methodLink_X6_120 w_instanceMethod_X6_canPlay w_selects_X6_canPlay w_initialized_X6 w_code_X6_canPlay) rfl rfl rfl (by decide +kernel) ⟨Nat.le_of_ble_eq_true rfl, Nat.le_of_ble_eq_true rfl⟩) (va_recv hK.1 hP (ci := 6) (q0 := 0) rfl rfl) hP hK [0, 1, 2, 3, 4, 5, 6, 7] rfl rfl hl.1 (Nat.le_of_ble_eq_true rfl) dX6_does_26 ⟨Nat.le_of_ble_eq_true rfl, Nat.le_of_ble_eq_true rfl⟩ hS (fun r H locs hw hP hS => ?_)
      obtain ⟨hw, hz23⟩ := hw
      have hw := hw.symm
      subst hw
      refine lv_goto (tgt := 53) hx hb dX6_does_29 (by decide) ?_
      exact hJ53 o21 _ _ _ hz23 hP hD hS (lv_sub hl [0] rfl) hF
  · have hF := itp c14 hF
    refine lv_aload_n hx hb dX6_does_9 rfl (lv_at hl 0 rfl) ?_
    obtain ⟨o24, h25, hF⟩ := obd hF
    refine wcRVi (As := []) (rest := []) (b := (a 0)) ⟨hx, hb, hml, hown, hts⟩ (met_X6_canRoll l dC dI cyI cyO cyL a N v  o24 h25) (cwV 0 hts (gV w_methodLink_X6_104 w_instanceMethod_X6_canRoll w_selects_X6_canRoll w_initialized_X6 w_code_X6_canRoll) rfl rfl rfl (by decide +kernel) ⟨Nat.le_of_ble_eq_true rfl, Nat.le_of_ble_eq_true rfl⟩) (va_recv hK.1 hP (ci := 6) (q0 := 0) rfl rfl) hP hK [0, 1, 2, 3, 4, 5, 6, 7] rfl rfl hl.1 (Nat.le_of_ble_eq_true rfl) dX6_does_10 ⟨Nat.le_of_ble_eq_true rfl, Nat.le_of_ble_eq_true rfl⟩ hS (fun r H locs hw hP hS => ?_)
    obtain ⟨hw, hz26⟩ := hw
    have hw := hw.symm
    subst hw
    refine lv_goto (tgt := 53) hx hb dX6_does_13 (by decide) ?_
    exact hJ53 o24 _ _ _ hz26 hP hD hS (lv_sub hl [0] rfl) hF
theorem dX6_goesThrough_0 : decode cX6_goesThrough 0 = .ok (.aload_n 0, 1) := by decide +kernel
theorem dX6_goesThrough_1 : decode cX6_goesThrough 1 = .ok (.iconst 0, 1) := by decide +kernel
theorem dX6_goesThrough_2 : decode cX6_goesThrough 2 = .ok (.putfield 142, 3) := by decide +kernel
theorem dX6_goesThrough_5 : decode cX6_goesThrough 5 = .ok (.aload_n 0, 1) := by decide +kernel
theorem dX6_goesThrough_6 : decode cX6_goesThrough 6 = .ok (.iconst 0, 1) := by decide +kernel
theorem dX6_goesThrough_7 : decode cX6_goesThrough 7 = .ok (.putfield 138, 3) := by decide +kernel
theorem dX6_goesThrough_10 : decode cX6_goesThrough 10 = .ok (.aload_n 0, 1) := by decide +kernel
theorem dX6_goesThrough_11 : decode cX6_goesThrough 11 = .ok (.iconst 0, 1) := by decide +kernel
theorem dX6_goesThrough_12 : decode cX6_goesThrough 12 = .ok (.putfield 170, 3) := by decide +kernel
theorem dX6_goesThrough_15 : decode cX6_goesThrough 15 = .ok (.aload_n 0, 1) := by decide +kernel
theorem dX6_goesThrough_16 : decode cX6_goesThrough 16 = .ok (.iconst 1, 1) := by decide +kernel
theorem dX6_goesThrough_17 : decode cX6_goesThrough 17 = .ok (.putfield 173, 3) := by decide +kernel
theorem dX6_goesThrough_20 : decode cX6_goesThrough 20 = .ok (.iconst 1, 1) := by decide +kernel
theorem dX6_goesThrough_21 : decode cX6_goesThrough 21 = .ok (.istore_n 2, 1) := by decide +kernel
theorem dX6_goesThrough_22 : decode cX6_goesThrough 22 = .ok (.iload_n 2, 1) := by decide +kernel
theorem dX6_goesThrough_23 : decode cX6_goesThrough 23 = .ok (.ifCond .eq 94, 3) := by decide +kernel
theorem dX6_goesThrough_26 : decode cX6_goesThrough 26 = .ok (.aload_n 0, 1) := by decide +kernel
theorem dX6_goesThrough_27 : decode cX6_goesThrough 27 = .ok (.invokevirtual 176, 3) := by decide +kernel
theorem dX6_goesThrough_30 : decode cX6_goesThrough 30 = .ok (.aload_n 0, 1) := by decide +kernel
theorem dX6_goesThrough_31 : decode cX6_goesThrough 31 = .ok (.aload_n 0, 1) := by decide +kernel
theorem dX6_goesThrough_32 : decode cX6_goesThrough 32 = .ok (.getfield 173, 3) := by decide +kernel
theorem dX6_goesThrough_35 : decode cX6_goesThrough 35 = .ok (.ifCond .eq 25, 3) := by decide +kernel
theorem dX6_goesThrough_38 : decode cX6_goesThrough 38 = .ok (.aload_n 0, 1) := by decide +kernel
theorem dX6_goesThrough_39 : decode cX6_goesThrough 39 = .ok (.getfield 138, 3) := by decide +kernel
theorem dX6_goesThrough_42 : decode cX6_goesThrough 42 = .ok (.ifCond .ne 18, 3) := by decide +kernel
theorem dX6_goesThrough_45 : decode cX6_goesThrough 45 = .ok (.iload_n 1, 1) := by decide +kernel
theorem dX6_goesThrough_46 : decode cX6_goesThrough 46 = .ok (.ifCond .eq 10, 3) := by decide +kernel
theorem dX6_goesThrough_49 : decode cX6_goesThrough 49 = .ok (.aload_n 0, 1) := by decide +kernel
theorem dX6_goesThrough_50 : decode cX6_goesThrough 50 = .ok (.invokevirtual 179, 3) := by decide +kernel
theorem dX6_goesThrough_53 : decode cX6_goesThrough 53 = .ok (.ifCond .eq 7, 3) := by decide +kernel
theorem dX6_goesThrough_56 : decode cX6_goesThrough 56 = .ok (.iconst 1, 1) := by decide +kernel
theorem dX6_goesThrough_57 : decode cX6_goesThrough 57 = .ok (.goto 4, 3) := by decide +kernel
theorem dX6_goesThrough_60 : decode cX6_goesThrough 60 = .ok (.iconst 0, 1) := by decide +kernel
theorem dX6_goesThrough_61 : decode cX6_goesThrough 61 = .ok (.putfield 173, 3) := by decide +kernel
theorem dX6_goesThrough_64 : decode cX6_goesThrough 64 = .ok (.aload_n 0, 1) := by decide +kernel
theorem dX6_goesThrough_65 : decode cX6_goesThrough 65 = .ok (.getfield 138, 3) := by decide +kernel
theorem dX6_goesThrough_68 : decode cX6_goesThrough 68 = .ok (.ifCond .ne 18, 3) := by decide +kernel
theorem dX6_goesThrough_71 : decode cX6_goesThrough 71 = .ok (.aload_n 0, 1) := by decide +kernel
theorem dX6_goesThrough_72 : decode cX6_goesThrough 72 = .ok (.getfield 142, 3) := by decide +kernel
theorem dX6_goesThrough_75 : decode cX6_goesThrough 75 = .ok (.aload_n 0, 1) := by decide +kernel
theorem dX6_goesThrough_76 : decode cX6_goesThrough 76 = .ok (.getfield 135, 3) := by decide +kernel
theorem dX6_goesThrough_79 : decode cX6_goesThrough 79 = .ok (.if_icmp .ge 7, 3) := by decide +kernel
theorem dX6_goesThrough_82 : decode cX6_goesThrough 82 = .ok (.iconst 1, 1) := by decide +kernel
theorem dX6_goesThrough_83 : decode cX6_goesThrough 83 = .ok (.goto 4, 3) := by decide +kernel
theorem dX6_goesThrough_86 : decode cX6_goesThrough 86 = .ok (.iconst 0, 1) := by decide +kernel
theorem dX6_goesThrough_87 : decode cX6_goesThrough 87 = .ok (.istore_n 2, 1) := by decide +kernel
theorem dX6_goesThrough_88 : decode cX6_goesThrough 88 = .ok (.iload_n 2, 1) := by decide +kernel
theorem dX6_goesThrough_89 : decode cX6_goesThrough 89 = .ok (.ifCond .eq (-67), 3) := by decide +kernel
theorem dX6_goesThrough_92 : decode cX6_goesThrough 92 = .ok (.aload_n 0, 1) := by decide +kernel
theorem dX6_goesThrough_93 : decode cX6_goesThrough 93 = .ok (.bipush 59, 2) := by decide +kernel
theorem dX6_goesThrough_95 : decode cX6_goesThrough 95 = .ok (.bipush 59, 2) := by decide +kernel
theorem dX6_goesThrough_97 : decode cX6_goesThrough 97 = .ok (.invokevirtual 149, 3) := by decide +kernel
theorem dX6_goesThrough_100 : decode cX6_goesThrough 100 = .ok (.istore_n 3, 1) := by decide +kernel
theorem dX6_goesThrough_101 : decode cX6_goesThrough 101 = .ok (.aload_n 0, 1) := by decide +kernel
theorem dX6_goesThrough_102 : decode cX6_goesThrough 102 = .ok (.getfield 138, 3) := by decide +kernel
theorem dX6_goesThrough_105 : decode cX6_goesThrough 105 = .ok (.ifCond .ne 7, 3) := by decide +kernel
theorem dX6_goesThrough_108 : decode cX6_goesThrough 108 = .ok (.iconst 1, 1) := by decide +kernel
theorem dX6_goesThrough_109 : decode cX6_goesThrough 109 = .ok (.goto 4, 3) := by decide +kernel
theorem dX6_goesThrough_112 : decode cX6_goesThrough 112 = .ok (.iconst 0, 1) := by decide +kernel
theorem dX6_goesThrough_113 : decode cX6_goesThrough 113 = .ok (.istore_n 2, 1) := by decide +kernel
theorem dX6_goesThrough_114 : decode cX6_goesThrough 114 = .ok (.goto (-92), 3) := by decide +kernel
theorem dX6_goesThrough_117 : decode cX6_goesThrough 117 = .ok (.return_, 1) := by decide +kernel
def f_X6_goesThrough (N : Nat) (v : MV) (p1 : Int32) : Option (MV) :=
  lpN (fun (s22 : Int32 × MV) (k22 : (Int32 × MV) → Option (MV)) => (if s22.1 = 0 then some s22.2 else (f_X6_readMove N s22.2).bind (fun o2 => jn (fun (s61 : Int32 × MV) => jn (fun (s87 : Int32) => (if s87 = 0 then k22 (s87, (M_set_isFine s61.2 s61.1)) else (f_X6_takes N (M_set_isFine s61.2 s61.1) (59 : Int32) (59 : Int32)).bind (fun o5 => jn (fun (s113 : Int32) => k22 (s113, o5.2)) (fun (j113 : (Int32) → Option (MV)) => (if (M_isWrong o5.2) = 0 then j113 (1 : Int32) else j113 (0 : Int32)))))) (fun (j87 : (Int32) → Option (MV)) => jn (fun (s86 : Unit) => j87 (0 : Int32)) (fun (j86 : (Unit) → Option (MV)) => (if (M_isWrong s61.2) = 0 then (if (M_length s61.2) ≤ (M_spot s61.2) then j86 () else j87 (1 : Int32)) else j86 ())))) (fun (j61 : (Int32 × MV) → Option (MV)) => jn (fun (s60 : MV) => j61 ((0 : Int32), s60)) (fun (j60 : (MV) → Option (MV)) => (if (M_isFine o2) = 0 then j60 o2 else (if (M_isWrong o2) = 0 then jn (fun (s56 : MV) => j61 ((1 : Int32), s56)) (fun (j56 : (MV) → Option (MV)) => (if p1 = 0 then j56 o2 else (f_X6_does N o2).bind (fun o13 => (if o13.1 = 0 then j60 o13.2 else j56 o13.2)))) else j60 o2))))))) N ((1 : Int32), (M_set_isFine (M_set_played (M_set_isWrong (M_set_spot v (0 : Int32)) (0 : Int32)) (0 : Int32)) (1 : Int32)))
set_option maxHeartbeats 4000000 in
set_option maxRecDepth 100000 in
theorem met_X6_goesThrough (l : Launch) (dC : Nat → ClassId) (dI : Nat → Nat → Nat) (cyI cyO cyL : ClassId) (a : Nat → Nat) (sz : Nat) (N : Nat) (v : MV) (p1 : Int32) (out : MV) (hF : f_X6_goesThrough N v p1 = some out) : Met l yX6_goesThrough (Cond.code yX6_goesThrough cX6_goesThrough 4 none :: wT) ({ frames := 6, cells := 0, slots := 0, locals := 145 } : Room) (wWr dC dI cyI cyO cyL [.ref (a 0), .int p1] (cM cyI a v) sz) (va_Qv (fun (u : MV) => u = out) (fun u t => va_P (dC, dI) vwCl (cM cyI a u) t.heap ∧ va_D (va_A (cM cyI a v) sz) (cM cyI a u)) (va_A (cM cyI a v) sz)) 0 0 (va_A (cM cyI a v) sz) := by
  refine Met.ofW (cc := cX6_goesThrough) (maxL := 4) (ret := none) (by decide) rfl ?_
  intro p e s m args below meth c s₁ B hml hv
  obtain ⟨rfl, hsz, hP, hK, hD0⟩ := hv
  have hx := B.exec
  have hb := B.bytes
  have hr := B.returns
  have hts0 := atoms_spec (ws := (Cond.code yX6_goesThrough cX6_goesThrough 4 none :: wT)) B.pre
  have hts := fun w h => hts0 w (List.mem_cons_of_mem _ h)
  clear hts0
  have hown : s.vm.findClass RX6 = some m.cls := findClass_of_methodNamed B.named
  have hlocks := B.notSynchronized
  subst hsz
  have hD := hD0.self (sz := s.heap.size)
  generalize hAe : va_A (cM cyI a v) s.heap.size = A at hD ⊢
  have hA : ∀ q : Nat, s.heap.size ≤ q → A q := fun q h => by rw [← hAe]; exact Or.inr h
  clear hD0
  have hS : va_S A s.heap s.heap [] := va_S.rf
  have hl := lv_entry [.ref (a 0), .int p1] (n := 4) (Nat.le_of_ble_eq_true rfl)
  rw [lg_entry_eq]
  generalize (lg_sl [.ref (a 0), .int p1] ++ List.replicate (4 - (lg_sl [.ref (a 0), .int p1]).length) Slot.unset).toArray = ls at hl ⊢
  have hl : lv_has ls 4 [(0, .ref (a 0)), (1, .int p1)] := hl
  unfold f_X6_goesThrough at hF
  refine lv_aload_n hx hb dX6_goesThrough_0 rfl (lv_at hl 0 rfl) ?_
  refine lv_iconst (v := 0) hx hb dX6_goesThrough_1 (by decide) ?_
  refine va_put (D := (dC, dI)) (ci := 6) (v := .int (0 : Int32)) (ty := .int) (C := RX6) (T := TX6) (N := 23) hx hb hts inX6 tyX6 tyX6_ok nmX6 hown hK.1 hP hD hS 0 rfl rfl 13 (by decide) (hts _ w_fieldLink_X6_142) (fun _ h9 => h9) rfl (by decide +kernel) rfl rfl (Nat.le_of_ble_eq_true rfl) dX6_goesThrough_2 (fun H locs hP hD hS => ?_)
  have hP : va_P (dC, dI) vwCl (cM cyI a (M_set_spot v (0 : Int32))) H := hP
  have hD : va_D A (cM cyI a (M_set_spot v (0 : Int32))) := hD
  refine lv_aload_n hx hb dX6_goesThrough_5 rfl (lv_at hl 0 rfl) ?_
  refine lv_iconst (v := 0) hx hb dX6_goesThrough_6 (by decide) ?_
  refine va_put (D := (dC, dI)) (ci := 6) (v := .int (0 : Int32)) (ty := .boolean) (C := RX6) (T := TX6) (N := 23) hx hb hts inX6 tyX6 tyX6_ok nmX6 hown hK.1 hP hD hS 0 rfl rfl 14 (by decide) (hts _ w_fieldLink_X6_138) (fun _ h9 => h9) rfl (by decide +kernel) (b01_n b01_0) (b01_f b01_0) (Nat.le_of_ble_eq_true rfl) dX6_goesThrough_7 (fun H locs hP hD hS => ?_)
  have hP : va_P (dC, dI) vwCl (cM cyI a (M_set_isWrong (M_set_spot v (0 : Int32)) (0 : Int32))) H := hP
  have hD : va_D A (cM cyI a (M_set_isWrong (M_set_spot v (0 : Int32)) (0 : Int32))) := hD
  refine lv_aload_n hx hb dX6_goesThrough_10 rfl (lv_at hl 0 rfl) ?_
  refine lv_iconst (v := 0) hx hb dX6_goesThrough_11 (by decide) ?_
  refine va_put (D := (dC, dI)) (ci := 6) (v := .int (0 : Int32)) (ty := .int) (C := RX6) (T := TX6) (N := 23) hx hb hts inX6 tyX6 tyX6_ok nmX6 hown hK.1 hP hD hS 0 rfl rfl 19 (by decide) (hts _ w_fieldLink_X6_170) (fun _ h9 => h9) rfl (by decide +kernel) rfl rfl (Nat.le_of_ble_eq_true rfl) dX6_goesThrough_12 (fun H locs hP hD hS => ?_)
  have hP : va_P (dC, dI) vwCl (cM cyI a (M_set_played (M_set_isWrong (M_set_spot v (0 : Int32)) (0 : Int32)) (0 : Int32))) H := hP
  have hD : va_D A (cM cyI a (M_set_played (M_set_isWrong (M_set_spot v (0 : Int32)) (0 : Int32)) (0 : Int32))) := hD
  refine lv_aload_n hx hb dX6_goesThrough_15 rfl (lv_at hl 0 rfl) ?_
  refine lv_iconst (v := 1) hx hb dX6_goesThrough_16 (by decide) ?_
  refine va_put (D := (dC, dI)) (ci := 6) (v := .int (1 : Int32)) (ty := .boolean) (C := RX6) (T := TX6) (N := 23) hx hb hts inX6 tyX6 tyX6_ok nmX6 hown hK.1 hP hD hS 0 rfl rfl 20 (by decide) (hts _ w_fieldLink_X6_173) (fun _ h9 => h9) rfl (by decide +kernel) (b01_n b01_1) (b01_f b01_1) (Nat.le_of_ble_eq_true rfl) dX6_goesThrough_17 (fun H locs hP hD hS => ?_)
  have hP : va_P (dC, dI) vwCl (cM cyI a (M_set_isFine (M_set_played (M_set_isWrong (M_set_spot v (0 : Int32)) (0 : Int32)) (0 : Int32)) (1 : Int32))) H := hP
  have hD : va_D A (cM cyI a (M_set_isFine (M_set_played (M_set_isWrong (M_set_spot v (0 : Int32)) (0 : Int32)) (0 : Int32)) (1 : Int32))) := hD
  refine lv_iconst (v := 1) hx hb dX6_goesThrough_20 (by decide) ?_
  refine lv_istore_n (lv' := [(2, .int (1 : Int32)), (0, .ref (a 0)), (1, .int p1)]) hx hb dX6_goesThrough_21 rfl hl (by decide) rfl (fun ls hl => ?_)
  obtain ⟨st22, hst22, hF⟩ := lpN_use hF
  have hL22 : ∀ (n : Nat) (s22 : Int32 × MV) (H : Heap) (locs : List Loc) (ls : Array Slot) (hz_22_2 : b01 s22.1), va_P (dC, dI) vwCl (cM cyI a s22.2) H → va_D A (cM cyI a s22.2) → va_S A s.heap H locs → lv_has ls 4 [(0, .ref (a 0)), (1, .int p1), (2, .int s22.1)] → lpN st22 n s22 = some out → W p l e (headSpec (Cond.code yX6_goesThrough cX6_goesThrough 4 none :: wT) ({ frames := 6, cells := 0, slots := 0, locals := 145 } : Room)).room s m ([.ref (a 0), .int p1] : List Value).toArray below meth c H locs 0 0 (MQ below (va_Qv (fun (u : MV) => u = out) (fun u t => va_P (dC, dI) vwCl (cM cyI a u) t.heap ∧ va_D A (cM cyI a u)) A) ([.ref (a 0), .int p1] : List Value).toArray s 0 0 A) (F0 m 22 ls []) := by
    intro n
    induction n with
    | zero => intro s22 H locs ls hz_22_2 hP hD hS hl hF; exact lpN_0 hF
    | succ n ih22 =>
      intro s22 H locs ls hz_22_2 hP hD hS hl hF
      have hF := (congrFun (congrFun hst22 s22) (lpN st22 n)).symm.trans (lpN_s hF)
      refine lv_iload_n hx hb dX6_goesThrough_22 rfl (lv_at hl 2 rfl) ?_
      refine lv_if_eq (tgt := 117) hx hb dX6_goesThrough_23 (by decide) (fun c1 => ?_) (fun c1 => ?_)
      · have hF := itp c1 hF
        exact W.vret hx hb hr (fun t ht hW => ⟨⟨_, rfl, Option.some.inj hF, by rw [ht]; exact hP, hD⟩, hS.F ht⟩) hS.2.2 dX6_goesThrough_117
      · have hF := itn c1 hF
        refine lv_aload_n hx hb dX6_goesThrough_26 rfl (lv_at hl 0 rfl) ?_
        obtain ⟨o2, h3, hF⟩ := obd hF
        refine wcWVv (As := []) (rest := []) (wr := []) (b := (a 0)) ⟨hx, hb, hml, hown, hts⟩ (met_X6_readMove l dC dI cyI cyO cyL a _ N s22.2  o2 h3) (cwV 0 hts (gV w_methodLink_X6_176 w_instanceMethod_X6_readMove w_selects_X6_readMove w_initialized_X6 w_code_X6_readMove) rfl rfl rfl (by decide +kernel) ⟨Nat.le_of_ble_eq_true rfl, Nat.le_of_ble_eq_true rfl⟩) (va_recv hK.1 hP (ci := 6) (q0 := 0) rfl rfl) hP hD hK [0, 1, 2, 3, 4, 5, 6, 7] [] rfl rfl (by decide) (by decide) (by decide) rfl hl.1 (Nat.le_of_ble_eq_true rfl) dX6_goesThrough_27 ⟨Nat.le_of_ble_eq_true rfl, Nat.le_of_ble_eq_true rfl⟩ hS hA (fun u H locs hw hP hD hS => ?_)
        have hw := hw.symm
        subst hw
        have hP : va_P (dC, dI) vwCl (cM cyI a o2) H := hP
        have hD : va_D A (cM cyI a o2) := hD
        refine lv_aload_n hx hb dX6_goesThrough_30 rfl (lv_at hl 0 rfl) ?_
        refine lv_aload_n hx hb dX6_goesThrough_31 rfl (lv_at hl 0 rfl) ?_
        refine va_get (D := (dC, dI)) (ci := 6) (v := .int (M_isFine o2)) (C := RX6) (T := TX6) (N := 23) hx hb hts inX6 hown hK.1 hP 0 rfl rfl 20 (by decide) (hts _ w_fieldLink_X6_173) (fun _ h9 => h9) rfl dX6_goesThrough_32 ?_
        obtain ⟨j61, hj61, hF⟩ := jn_use hF
        have hJ61 : ∀ (s61 : Int32 × MV) (H : Heap) (locs : List Loc) (ls : Array Slot) (hz_61_s1 : b01 s61.1), va_P (dC, dI) vwCl (cM cyI a s61.2) H → va_D A (cM cyI a s61.2) → va_S A s.heap H locs → lv_has ls 4 [(0, .ref (a 0)), (1, .int p1)] → j61 s61 = some out → W p l e (headSpec (Cond.code yX6_goesThrough cX6_goesThrough 4 none :: wT) ({ frames := 6, cells := 0, slots := 0, locals := 145 } : Room)).room s m ([.ref (a 0), .int p1] : List Value).toArray below meth c H locs 0 0 (MQ below (va_Qv (fun (u : MV) => u = out) (fun u t => va_P (dC, dI) vwCl (cM cyI a u) t.heap ∧ va_D A (cM cyI a u)) A) ([.ref (a 0), .int p1] : List Value).toArray s 0 0 A) (F0 m 61 ls [.int s61.1, .ref (a 0)]) := by
          intro s61 H locs ls hz_61_s1 hP hD hS hl hF
          have hF := (congrFun hj61 s61).symm.trans hF
          refine va_put (D := (dC, dI)) (ci := 6) (v := .int s61.1) (ty := .boolean) (C := RX6) (T := TX6) (N := 23) hx hb hts inX6 tyX6 tyX6_ok nmX6 hown hK.1 hP hD hS 0 rfl rfl 20 (by decide) (hts _ w_fieldLink_X6_173) (fun _ h9 => h9) rfl (by decide +kernel) (b01_n hz_61_s1) (b01_f hz_61_s1) (Nat.le_of_ble_eq_true rfl) dX6_goesThrough_61 (fun H locs hP hD hS => ?_)
          have hP : va_P (dC, dI) vwCl (cM cyI a (M_set_isFine s61.2 s61.1)) H := hP
          have hD : va_D A (cM cyI a (M_set_isFine s61.2 s61.1)) := hD
          refine lv_aload_n hx hb dX6_goesThrough_64 rfl (lv_at hl 0 rfl) ?_
          refine va_get (D := (dC, dI)) (ci := 6) (v := .int (M_isWrong s61.2)) (C := RX6) (T := TX6) (N := 23) hx hb hts inX6 hown hK.1 hP 0 rfl rfl 14 (by decide) (hts _ w_fieldLink_X6_138) (fun _ h9 => h9) rfl dX6_goesThrough_65 ?_
          obtain ⟨j87, hj87, hF⟩ := jn_use hF
          have hJ87 : ∀ (s87 : Int32) (H : Heap) (locs : List Loc) (ls : Array Slot) (hz_87_s0 : b01 s87), va_P (dC, dI) vwCl (cM cyI a (M_set_isFine s61.2 s61.1)) H → va_D A (cM cyI a (M_set_isFine s61.2 s61.1)) → va_S A s.heap H locs → lv_has ls 4 [(0, .ref (a 0)), (1, .int p1)] → j87 s87 = some out → W p l e (headSpec (Cond.code yX6_goesThrough cX6_goesThrough 4 none :: wT) ({ frames := 6, cells := 0, slots := 0, locals := 145 } : Room)).room s m ([.ref (a 0), .int p1] : List Value).toArray below meth c H locs 0 0 (MQ below (va_Qv (fun (u : MV) => u = out) (fun u t => va_P (dC, dI) vwCl (cM cyI a u) t.heap ∧ va_D A (cM cyI a u)) A) ([.ref (a 0), .int p1] : List Value).toArray s 0 0 A) (F0 m 87 ls [.int s87]) := by
            intro s87 H locs ls hz_87_s0 hP hD hS hl hF
            have hF := (congrFun hj87 s87).symm.trans hF
            refine lv_istore_n (lv' := [(2, .int s87), (0, .ref (a 0)), (1, .int p1)]) hx hb dX6_goesThrough_87 rfl hl (by decide) rfl (fun ls hl => ?_)
            refine lv_iload_n hx hb dX6_goesThrough_88 rfl (lv_at hl 0 rfl) ?_
            refine lv_if_eq (tgt := 22) hx hb dX6_goesThrough_89 (by decide) (fun c4 => ?_) (fun c4 => ?_)
            · have hF := itp c4 hF
              exact ih22 (s87, (M_set_isFine s61.2 s61.1)) _ _ _ hz_87_s0 hP hD hS (lv_sub hl [1, 2, 0] rfl) hF
            · have hF := itn c4 hF
              refine lv_aload_n hx hb dX6_goesThrough_92 rfl (lv_at hl 1 rfl) ?_
              refine lv_bipush (v := 59) hx hb dX6_goesThrough_93 (by decide) ?_
              refine lv_bipush (v := 59) hx hb dX6_goesThrough_95 (by decide) ?_
              obtain ⟨o5, h6, hF⟩ := obd hF
              refine wcWVi (As := [.int (59 : Int32), .int (59 : Int32)]) (rest := []) (wr := []) (b := (a 0)) ⟨hx, hb, hml, hown, hts⟩ (met_X6_takes l dC dI cyI cyO cyL a _ N (M_set_isFine s61.2 s61.1) (59 : Int32) (59 : Int32) o5 h6) (cwV 2 hts (gV w_methodLink_X6_149 w_instanceMethod_X6_takes w_selects_X6_takes w_initialized_X6 w_code_X6_takes) rfl rfl rfl (by decide +kernel) ⟨Nat.le_of_ble_eq_true rfl, Nat.le_of_ble_eq_true rfl⟩) (va_recv hK.1 hP (ci := 6) (q0 := 0) rfl rfl) hP hD hK [0, 1, 2, 3, 4, 5, 6, 7] [] rfl rfl (by decide) (by decide) (by decide) rfl hl.1 (Nat.le_of_ble_eq_true rfl) dX6_goesThrough_97 ⟨Nat.le_of_ble_eq_true rfl, Nat.le_of_ble_eq_true rfl⟩ hS hA (fun r u H locs hw hP hD hS => ?_)
              obtain rfl : r = o5.1 := congrArg Prod.fst hw
              obtain rfl : u = o5.2 := congrArg Prod.snd hw
              clear hw
              have hP : va_P (dC, dI) vwCl (cM cyI a o5.2) H := hP
              have hD : va_D A (cM cyI a o5.2) := hD
              refine lv_istore_n (lv' := [(3, .int o5.1), (2, .int s87), (0, .ref (a 0)), (1, .int p1)]) hx hb dX6_goesThrough_100 rfl hl (by decide) rfl (fun ls hl => ?_)
              refine lv_aload_n hx hb dX6_goesThrough_101 rfl (lv_at hl 2 rfl) ?_
              refine va_get (D := (dC, dI)) (ci := 6) (v := .int (M_isWrong o5.2)) (C := RX6) (T := TX6) (N := 23) hx hb hts inX6 hown hK.1 hP 0 rfl rfl 14 (by decide) (hts _ w_fieldLink_X6_138) (fun _ h9 => h9) rfl dX6_goesThrough_102 ?_
              obtain ⟨j113, hj113, hF⟩ := jn_use hF
              have hJ113 : ∀ (s113 : Int32) (H : Heap) (locs : List Loc) (ls : Array Slot) (hz_113_s0 : b01 s113), va_P (dC, dI) vwCl (cM cyI a o5.2) H → va_D A (cM cyI a o5.2) → va_S A s.heap H locs → lv_has ls 4 [(0, .ref (a 0)), (1, .int p1)] → j113 s113 = some out → W p l e (headSpec (Cond.code yX6_goesThrough cX6_goesThrough 4 none :: wT) ({ frames := 6, cells := 0, slots := 0, locals := 145 } : Room)).room s m ([.ref (a 0), .int p1] : List Value).toArray below meth c H locs 0 0 (MQ below (va_Qv (fun (u : MV) => u = out) (fun u t => va_P (dC, dI) vwCl (cM cyI a u) t.heap ∧ va_D A (cM cyI a u)) A) ([.ref (a 0), .int p1] : List Value).toArray s 0 0 A) (F0 m 113 ls [.int s113]) := by
                intro s113 H locs ls hz_113_s0 hP hD hS hl hF
                have hF := (congrFun hj113 s113).symm.trans hF
                refine lv_istore_n (lv' := [(2, .int s113), (0, .ref (a 0)), (1, .int p1)]) hx hb dX6_goesThrough_113 rfl hl (by decide) rfl (fun ls hl => ?_)
                refine lv_goto (tgt := 22) hx hb dX6_goesThrough_114 (by decide) ?_
                exact ih22 (s113, o5.2) _ _ _ hz_113_s0 hP hD hS (lv_sub hl [1, 2, 0] rfl) hF
              refine lv_if_ne (tgt := 112) hx hb dX6_goesThrough_105 (by decide) (fun c7 => ?_) (fun c7 => ?_)
              · have hF := itn c7 hF
                refine lv_iconst (v := 0) hx hb dX6_goesThrough_112 (by decide) ?_
                exact hJ113 (0 : Int32) _ _ _ b01_0 hP hD hS (lv_sub hl [2, 3] rfl) hF
              · have hF := itp c7 hF
                refine lv_iconst (v := 1) hx hb dX6_goesThrough_108 (by decide) ?_
                refine lv_goto (tgt := 113) hx hb dX6_goesThrough_109 (by decide) ?_
                exact hJ113 (1 : Int32) _ _ _ b01_1 hP hD hS (lv_sub hl [2, 3] rfl) hF
          obtain ⟨j86, hj86, hF⟩ := jn_use hF
          have hJ86 : ∀ (s86 : Unit) (H : Heap) (locs : List Loc) (ls : Array Slot), va_P (dC, dI) vwCl (cM cyI a (M_set_isFine s61.2 s61.1)) H → va_D A (cM cyI a (M_set_isFine s61.2 s61.1)) → va_S A s.heap H locs → lv_has ls 4 [(0, .ref (a 0)), (1, .int p1)] → j86 s86 = some out → W p l e (headSpec (Cond.code yX6_goesThrough cX6_goesThrough 4 none :: wT) ({ frames := 6, cells := 0, slots := 0, locals := 145 } : Room)).room s m ([.ref (a 0), .int p1] : List Value).toArray below meth c H locs 0 0 (MQ below (va_Qv (fun (u : MV) => u = out) (fun u t => va_P (dC, dI) vwCl (cM cyI a u) t.heap ∧ va_D A (cM cyI a u)) A) ([.ref (a 0), .int p1] : List Value).toArray s 0 0 A) (F0 m 86 ls []) := by
            intro s86 H locs ls hP hD hS hl hF
            have hF := (congrFun hj86 s86).symm.trans hF
            refine lv_iconst (v := 0) hx hb dX6_goesThrough_86 (by decide) ?_
            exact hJ87 (0 : Int32) _ _ _ b01_0 hP hD hS (lv_sub hl [0, 1] rfl) hF
          refine lv_if_ne (tgt := 86) hx hb dX6_goesThrough_68 (by decide) (fun c8 => ?_) (fun c8 => ?_)
          · have hF := itn c8 hF
            exact hJ86 () _ _ _ hP hD hS (lv_sub hl [0, 1] rfl) hF
          · have hF := itp c8 hF
            refine lv_aload_n hx hb dX6_goesThrough_71 rfl (lv_at hl 0 rfl) ?_
            refine va_get (D := (dC, dI)) (ci := 6) (v := .int (M_spot s61.2)) (C := RX6) (T := TX6) (N := 23) hx hb hts inX6 hown hK.1 hP 0 rfl rfl 13 (by decide) (hts _ w_fieldLink_X6_142) (fun _ h9 => h9) rfl dX6_goesThrough_72 ?_
            refine lv_aload_n hx hb dX6_goesThrough_75 rfl (lv_at hl 0 rfl) ?_
            refine va_get (D := (dC, dI)) (ci := 6) (v := .int (M_length s61.2)) (C := RX6) (T := TX6) (N := 23) hx hb hts inX6 hown hK.1 hP 0 rfl rfl 9 (by decide) (hts _ w_fieldLink_X6_135) (fun _ h9 => h9) rfl dX6_goesThrough_76 ?_
            refine lv_icmp_ge (tgt := 86) hx hb dX6_goesThrough_79 (by decide) (fun c9 => ?_) (fun c9 => ?_)
            · have hF := itp c9 hF
              exact hJ86 () _ _ _ hP hD hS (lv_sub hl [0, 1] rfl) hF
            · have hF := itn c9 hF
              refine lv_iconst (v := 1) hx hb dX6_goesThrough_82 (by decide) ?_
              refine lv_goto (tgt := 87) hx hb dX6_goesThrough_83 (by decide) ?_
              exact hJ87 (1 : Int32) _ _ _ b01_1 hP hD hS (lv_sub hl [0, 1] rfl) hF
        obtain ⟨j60, hj60, hF⟩ := jn_use hF
        have hJ60 : ∀ (s60 : MV) (H : Heap) (locs : List Loc) (ls : Array Slot), va_P (dC, dI) vwCl (cM cyI a s60) H → va_D A (cM cyI a s60) → va_S A s.heap H locs → lv_has ls 4 [(0, .ref (a 0)), (1, .int p1)] → j60 s60 = some out → W p l e (headSpec (Cond.code yX6_goesThrough cX6_goesThrough 4 none :: wT) ({ frames := 6, cells := 0, slots := 0, locals := 145 } : Room)).room s m ([.ref (a 0), .int p1] : List Value).toArray below meth c H locs 0 0 (MQ below (va_Qv (fun (u : MV) => u = out) (fun u t => va_P (dC, dI) vwCl (cM cyI a u) t.heap ∧ va_D A (cM cyI a u)) A) ([.ref (a 0), .int p1] : List Value).toArray s 0 0 A) (F0 m 60 ls [.ref (a 0)]) := by
          intro s60 H locs ls hP hD hS hl hF
          have hF := (congrFun hj60 s60).symm.trans hF
          refine lv_iconst (v := 0) hx hb dX6_goesThrough_60 (by decide) ?_
          exact hJ61 ((0 : Int32), s60) _ _ _ b01_0 hP hD hS (lv_sub hl [0, 1] rfl) hF
        refine lv_if_eq (tgt := 60) hx hb dX6_goesThrough_35 (by decide) (fun c10 => ?_) (fun c10 => ?_)
        · have hF := itp c10 hF
          exact hJ60 o2 _ _ _ hP hD hS (lv_sub hl [0, 1] rfl) hF
        · have hF := itn c10 hF
          refine lv_aload_n hx hb dX6_goesThrough_38 rfl (lv_at hl 0 rfl) ?_
          refine va_get (D := (dC, dI)) (ci := 6) (v := .int (M_isWrong o2)) (C := RX6) (T := TX6) (N := 23) hx hb hts inX6 hown hK.1 hP 0 rfl rfl 14 (by decide) (hts _ w_fieldLink_X6_138) (fun _ h9 => h9) rfl dX6_goesThrough_39 ?_
          refine lv_if_ne (tgt := 60) hx hb dX6_goesThrough_42 (by decide) (fun c11 => ?_) (fun c11 => ?_)
          · have hF := itn c11 hF
            exact hJ60 o2 _ _ _ hP hD hS (lv_sub hl [0, 1] rfl) hF
          · have hF := itp c11 hF
            refine lv_iload_n hx hb dX6_goesThrough_45 rfl (lv_at hl 1 rfl) ?_
            obtain ⟨j56, hj56, hF⟩ := jn_use hF
            have hJ56 : ∀ (s56 : MV) (H : Heap) (locs : List Loc) (ls : Array Slot), va_P (dC, dI) vwCl (cM cyI a s56) H → va_D A (cM cyI a s56) → va_S A s.heap H locs → lv_has ls 4 [(0, .ref (a 0)), (1, .int p1)] → j56 s56 = some out → W p l e (headSpec (Cond.code yX6_goesThrough cX6_goesThrough 4 none :: wT) ({ frames := 6, cells := 0, slots := 0, locals := 145 } : Room)).room s m ([.ref (a 0), .int p1] : List Value).toArray below meth c H locs 0 0 (MQ below (va_Qv (fun (u : MV) => u = out) (fun u t => va_P (dC, dI) vwCl (cM cyI a u) t.heap ∧ va_D A (cM cyI a u)) A) ([.ref (a 0), .int p1] : List Value).toArray s 0 0 A) (F0 m 56 ls [.ref (a 0)]) := by
              intro s56 H locs ls hP hD hS hl hF
              have hF := (congrFun hj56 s56).symm.trans hF
              refine lv_iconst (v := 1) hx hb dX6_goesThrough_56 (by decide) ?_
              refine lv_goto (tgt := 61) hx hb dX6_goesThrough_57 (by decide) ?_
              exact hJ61 ((1 : Int32), s56) _ _ _ b01_1 hP hD hS (lv_sub hl [0, 1] rfl) hF
            refine lv_if_eq (tgt := 56) hx hb dX6_goesThrough_46 (by decide) (fun c12 => ?_) (fun c12 => ?_)
            · have hF := itp c12 hF
              exact hJ56 o2 _ _ _ hP hD hS (lv_sub hl [0, 1] rfl) hF
            · have hF := itn c12 hF
              refine lv_aload_n hx hb dX6_goesThrough_49 rfl (lv_at hl 0 rfl) ?_
              obtain ⟨o13, h14, hF⟩ := obd hF
              refine wcWVi (As := []) (rest := [.ref (a 0)]) (wr := []) (b := (a 0)) ⟨hx, hb, hml, hown, hts⟩ (met_X6_does l dC dI cyI cyO cyL a _ N o2  o13 h14) (cwV 0 hts (gV w_methodLink_X6_179 w_instanceMethod_X6_does w_selects_X6_does w_initialized_X6 w_code_X6_does) rfl rfl rfl (by decide +kernel) ⟨Nat.le_of_ble_eq_true rfl, Nat.le_of_ble_eq_true rfl⟩) (va_recv hK.1 hP (ci := 6) (q0 := 0) rfl rfl) hP hD hK [0, 1, 2, 3, 4, 5, 6, 7] [] rfl rfl (by decide) (by decide) (by decide) rfl hl.1 (Nat.le_of_ble_eq_true rfl) dX6_goesThrough_50 ⟨Nat.le_of_ble_eq_true rfl, Nat.le_of_ble_eq_true rfl⟩ hS hA (fun r u H locs hw hP hD hS => ?_)
              obtain ⟨hw, hz15⟩ := hw
              obtain rfl : r = o13.1 := congrArg Prod.fst hw
              obtain rfl : u = o13.2 := congrArg Prod.snd hw
              clear hw
              have hP : va_P (dC, dI) vwCl (cM cyI a o13.2) H := hP
              have hD : va_D A (cM cyI a o13.2) := hD
              refine lv_if_eq (tgt := 60) hx hb dX6_goesThrough_53 (by decide) (fun c16 => ?_) (fun c16 => ?_)
              · have hF := itp c16 hF
                exact hJ60 o13.2 _ _ _ hP hD hS (lv_sub hl [0, 1] rfl) hF
              · have hF := itn c16 hF
                exact hJ56 o13.2 _ _ _ hP hD hS (lv_sub hl [0, 1] rfl) hF
  exact hL22 N ((1 : Int32), (M_set_isFine (M_set_played (M_set_isWrong (M_set_spot v (0 : Int32)) (0 : Int32)) (0 : Int32)) (1 : Int32))) _ _ _ b01_1 hP hD hS (lv_sub hl [1, 2, 0] rfl) hF
theorem dX6_firstError_0 : decode cX6_firstError 0 = .ok (.aload_n 0, 1) := by decide +kernel
theorem dX6_firstError_1 : decode cX6_firstError 1 = .ok (.iconst 0, 1) := by decide +kernel
theorem dX6_firstError_2 : decode cX6_firstError 2 = .ok (.putfield 31, 3) := by decide +kernel
theorem dX6_firstError_5 : decode cX6_firstError 5 = .ok (.aload_n 0, 1) := by decide +kernel
theorem dX6_firstError_6 : decode cX6_firstError 6 = .ok (.iconst 0, 1) := by decide +kernel
theorem dX6_firstError_7 : decode cX6_firstError 7 = .ok (.invokevirtual 182, 3) := by decide +kernel
theorem dX6_firstError_10 : decode cX6_firstError 10 = .ok (.aload_n 0, 1) := by decide +kernel
theorem dX6_firstError_11 : decode cX6_firstError 11 = .ok (.getfield 138, 3) := by decide +kernel
theorem dX6_firstError_14 : decode cX6_firstError 14 = .ok (.ifCond .eq 10, 3) := by decide +kernel
theorem dX6_firstError_17 : decode cX6_firstError 17 = .ok (.aload_n 0, 1) := by decide +kernel
theorem dX6_firstError_18 : decode cX6_firstError 18 = .ok (.getfield 142, 3) := by decide +kernel
theorem dX6_firstError_21 : decode cX6_firstError 21 = .ok (.goto 7, 3) := by decide +kernel
theorem dX6_firstError_24 : decode cX6_firstError 24 = .ok (.aload_n 0, 1) := by decide +kernel
theorem dX6_firstError_25 : decode cX6_firstError 25 = .ok (.getfield 135, 3) := by decide +kernel
theorem dX6_firstError_28 : decode cX6_firstError 28 = .ok (.ireturn, 1) := by decide +kernel
def f_X6_firstError (N : Nat) (v : MV) : Option (Int32 × MV) :=
  (f_X6_goesThrough N (M_set_thrown v (0 : Int32)) (0 : Int32)).bind (fun o1 => jn (fun (s28 : Int32) => some (s28, o1)) (fun (j28 : (Int32) → Option (Int32 × MV)) => (if (M_isWrong o1) = 0 then j28 (M_length o1) else j28 (M_spot o1))))
set_option maxHeartbeats 4000000 in
set_option maxRecDepth 100000 in
theorem met_X6_firstError (l : Launch) (dC : Nat → ClassId) (dI : Nat → Nat → Nat) (cyI cyO cyL : ClassId) (a : Nat → Nat) (sz : Nat) (N : Nat) (v : MV) (out : Int32 × MV) (hF : f_X6_firstError N v = some out) : Met l yX6_firstError (Cond.code yX6_firstError cX6_firstError 1 (some .int) :: wT) ({ frames := 7, cells := 0, slots := 0, locals := 168 } : Room) (wWr dC dI cyI cyO cyL [.ref (a 0)] (cM cyI a v) sz) (va_Qi (fun (r : Int32) (u : MV) => (r, u) = out) (fun u t => va_P (dC, dI) vwCl (cM cyI a u) t.heap ∧ va_D (va_A (cM cyI a v) sz) (cM cyI a u)) (va_A (cM cyI a v) sz)) 0 0 (va_A (cM cyI a v) sz) := by
  refine Met.ofW (cc := cX6_firstError) (maxL := 1) (ret := (some .int)) (by decide) rfl ?_
  intro p e s m args below meth c s₁ B hml hv
  obtain ⟨rfl, hsz, hP, hK, hD0⟩ := hv
  have hx := B.exec
  have hb := B.bytes
  have hr := B.returns
  have hts0 := atoms_spec (ws := (Cond.code yX6_firstError cX6_firstError 1 (some .int) :: wT)) B.pre
  have hts := fun w h => hts0 w (List.mem_cons_of_mem _ h)
  clear hts0
  have hown : s.vm.findClass RX6 = some m.cls := findClass_of_methodNamed B.named
  have hlocks := B.notSynchronized
  subst hsz
  have hD := hD0.self (sz := s.heap.size)
  generalize hAe : va_A (cM cyI a v) s.heap.size = A at hD ⊢
  have hA : ∀ q : Nat, s.heap.size ≤ q → A q := fun q h => by rw [← hAe]; exact Or.inr h
  clear hD0
  have hS : va_S A s.heap s.heap [] := va_S.rf
  have hl := lv_entry [.ref (a 0)] (n := 1) (Nat.le_of_ble_eq_true rfl)
  rw [lg_entry_eq]
  generalize (lg_sl [.ref (a 0)] ++ List.replicate (1 - (lg_sl [.ref (a 0)]).length) Slot.unset).toArray = ls at hl ⊢
  have hl : lv_has ls 1 [(0, .ref (a 0))] := hl
  unfold f_X6_firstError at hF
  refine lv_aload_n hx hb dX6_firstError_0 rfl (lv_at hl 0 rfl) ?_
  refine lv_iconst (v := 0) hx hb dX6_firstError_1 (by decide) ?_
  refine va_put (D := (dC, dI)) (ci := 6) (v := .int (0 : Int32)) (ty := .int) (C := RX6) (T := TX6) (N := 23) hx hb hts inX6 tyX6 tyX6_ok nmX6 hown hK.1 hP hD hS 0 rfl rfl 0 (by decide) (hts _ w_fieldLink_X6_31) (fun _ h9 => h9) rfl (by decide +kernel) rfl rfl (Nat.le_of_ble_eq_true rfl) dX6_firstError_2 (fun H locs hP hD hS => ?_)
  have hP : va_P (dC, dI) vwCl (cM cyI a (M_set_thrown v (0 : Int32))) H := hP
  have hD : va_D A (cM cyI a (M_set_thrown v (0 : Int32))) := hD
  refine lv_aload_n hx hb dX6_firstError_5 rfl (lv_at hl 0 rfl) ?_
  refine lv_iconst (v := 0) hx hb dX6_firstError_6 (by decide) ?_
  obtain ⟨o1, h2, hF⟩ := obd hF
  refine wcWVv (As := [.int (0 : Int32)]) (rest := []) (wr := []) (b := (a 0)) ⟨hx, hb, hml, hown, hts⟩ (met_X6_goesThrough l dC dI cyI cyO cyL a _ N (M_set_thrown v (0 : Int32)) (0 : Int32) o1 h2) (cwV 1 hts (gV w_methodLink_X6_182 w_instanceMethod_X6_goesThrough w_selects_X6_goesThrough w_initialized_X6 w_code_X6_goesThrough) rfl rfl rfl (by decide +kernel) ⟨Nat.le_of_ble_eq_true rfl, Nat.le_of_ble_eq_true rfl⟩) (va_recv hK.1 hP (ci := 6) (q0 := 0) rfl rfl) hP hD hK [0, 1, 2, 3, 4, 5, 6, 7] [] rfl rfl (by decide) (by decide) (by decide) rfl hl.1 (Nat.le_of_ble_eq_true rfl) dX6_firstError_7 ⟨Nat.le_of_ble_eq_true rfl, Nat.le_of_ble_eq_true rfl⟩ hS hA (fun u H locs hw hP hD hS => ?_)
  have hw := hw.symm
  subst hw
  have hP : va_P (dC, dI) vwCl (cM cyI a o1) H := hP
  have hD : va_D A (cM cyI a o1) := hD
  refine lv_aload_n hx hb dX6_firstError_10 rfl (lv_at hl 0 rfl) ?_
  refine va_get (D := (dC, dI)) (ci := 6) (v := .int (M_isWrong o1)) (C := RX6) (T := TX6) (N := 23) hx hb hts inX6 hown hK.1 hP 0 rfl rfl 14 (by decide) (hts _ w_fieldLink_X6_138) (fun _ h9 => h9) rfl dX6_firstError_11 ?_
  obtain ⟨j28, hj28, hF⟩ := jn_use hF
  have hJ28 : ∀ (s28 : Int32) (H : Heap) (locs : List Loc) (ls : Array Slot), va_P (dC, dI) vwCl (cM cyI a o1) H → va_D A (cM cyI a o1) → va_S A s.heap H locs → lv_has ls 1 [] → j28 s28 = some out → W p l e (headSpec (Cond.code yX6_firstError cX6_firstError 1 (some .int) :: wT) ({ frames := 7, cells := 0, slots := 0, locals := 168 } : Room)).room s m ([.ref (a 0)] : List Value).toArray below meth c H locs 0 0 (MQ below (va_Qi (fun (r : Int32) (u : MV) => (r, u) = out) (fun u t => va_P (dC, dI) vwCl (cM cyI a u) t.heap ∧ va_D A (cM cyI a u)) A) ([.ref (a 0)] : List Value).toArray s 0 0 A) (F0 m 28 ls [.int s28]) := by
    intro s28 H locs ls hP hD hS hl hF
    have hF := (congrFun hj28 s28).symm.trans hF
    exact W.iret (v := s28) hx hb hr (fun t ht hW => ⟨⟨_, o1, rfl, Option.some.inj hF, by rw [ht]; exact hP, hD⟩, hS.F ht⟩) hS.2.2 dX6_firstError_28
  refine lv_if_eq (tgt := 24) hx hb dX6_firstError_14 (by decide) (fun c3 => ?_) (fun c3 => ?_)
  · have hF := itp c3 hF
    refine lv_aload_n hx hb dX6_firstError_24 rfl (lv_at hl 0 rfl) ?_
    refine va_get (D := (dC, dI)) (ci := 6) (v := .int (M_length o1)) (C := RX6) (T := TX6) (N := 23) hx hb hts inX6 hown hK.1 hP 0 rfl rfl 9 (by decide) (hts _ w_fieldLink_X6_135) (fun _ h9 => h9) rfl dX6_firstError_25 ?_
    exact hJ28 (M_length o1) _ _ _ hP hD hS (lv_sub hl [] rfl) hF
  · have hF := itn c3 hF
    refine lv_aload_n hx hb dX6_firstError_17 rfl (lv_at hl 0 rfl) ?_
    refine va_get (D := (dC, dI)) (ci := 6) (v := .int (M_spot o1)) (C := RX6) (T := TX6) (N := 23) hx hb hts inX6 hown hK.1 hP 0 rfl rfl 13 (by decide) (hts _ w_fieldLink_X6_142) (fun _ h9 => h9) rfl dX6_firstError_18 ?_
    refine lv_goto (tgt := 28) hx hb dX6_firstError_21 (by decide) ?_
    exact hJ28 (M_spot o1) _ _ _ hP hD hS (lv_sub hl [] rfl) hF
theorem dX6_playAll_0 : decode cX6_playAll 0 = .ok (.aload_n 0, 1) := by decide +kernel
theorem dX6_playAll_1 : decode cX6_playAll 1 = .ok (.iconst 0, 1) := by decide +kernel
theorem dX6_playAll_2 : decode cX6_playAll 2 = .ok (.invokevirtual 182, 3) := by decide +kernel
theorem dX6_playAll_5 : decode cX6_playAll 5 = .ok (.aload_n 0, 1) := by decide +kernel
theorem dX6_playAll_6 : decode cX6_playAll 6 = .ok (.getfield 138, 3) := by decide +kernel
theorem dX6_playAll_9 : decode cX6_playAll 9 = .ok (.ifCond .ne 7, 3) := by decide +kernel
theorem dX6_playAll_12 : decode cX6_playAll 12 = .ok (.iconst 1, 1) := by decide +kernel
theorem dX6_playAll_13 : decode cX6_playAll 13 = .ok (.goto 4, 3) := by decide +kernel
theorem dX6_playAll_16 : decode cX6_playAll 16 = .ok (.iconst 0, 1) := by decide +kernel
theorem dX6_playAll_17 : decode cX6_playAll 17 = .ok (.istore_n 1, 1) := by decide +kernel
theorem dX6_playAll_18 : decode cX6_playAll 18 = .ok (.iload_n 1, 1) := by decide +kernel
theorem dX6_playAll_19 : decode cX6_playAll 19 = .ok (.ifCond .ne 10, 3) := by decide +kernel
theorem dX6_playAll_22 : decode cX6_playAll 22 = .ok (.aload_n 0, 1) := by decide +kernel
theorem dX6_playAll_23 : decode cX6_playAll 23 = .ok (.iconst 1, 1) := by decide +kernel
theorem dX6_playAll_24 : decode cX6_playAll 24 = .ok (.putfield 31, 3) := by decide +kernel
theorem dX6_playAll_27 : decode cX6_playAll 27 = .ok (.iconst 0, 1) := by decide +kernel
theorem dX6_playAll_28 : decode cX6_playAll 28 = .ok (.ireturn, 1) := by decide +kernel
theorem dX6_playAll_29 : decode cX6_playAll 29 = .ok (.aload_n 0, 1) := by decide +kernel
theorem dX6_playAll_30 : decode cX6_playAll 30 = .ok (.invokevirtual 186, 3) := by decide +kernel
theorem dX6_playAll_33 : decode cX6_playAll 33 = .ok (.aload_n 0, 1) := by decide +kernel
theorem dX6_playAll_34 : decode cX6_playAll 34 = .ok (.iconst 1, 1) := by decide +kernel
theorem dX6_playAll_35 : decode cX6_playAll 35 = .ok (.invokevirtual 182, 3) := by decide +kernel
theorem dX6_playAll_38 : decode cX6_playAll 38 = .ok (.aload_n 0, 1) := by decide +kernel
theorem dX6_playAll_39 : decode cX6_playAll 39 = .ok (.getfield 173, 3) := by decide +kernel
theorem dX6_playAll_42 : decode cX6_playAll 42 = .ok (.istore_n 2, 1) := by decide +kernel
theorem dX6_playAll_43 : decode cX6_playAll 43 = .ok (.iconst 0, 1) := by decide +kernel
theorem dX6_playAll_44 : decode cX6_playAll 44 = .ok (.istore_n 3, 1) := by decide +kernel
theorem dX6_playAll_45 : decode cX6_playAll 45 = .ok (.iload_n 3, 1) := by decide +kernel
theorem dX6_playAll_46 : decode cX6_playAll 46 = .ok (.bipush 103, 2) := by decide +kernel
theorem dX6_playAll_48 : decode cX6_playAll 48 = .ok (.if_icmp .ge 21, 3) := by decide +kernel
theorem dX6_playAll_51 : decode cX6_playAll 51 = .ok (.aload_n 0, 1) := by decide +kernel
theorem dX6_playAll_52 : decode cX6_playAll 52 = .ok (.getfield 16, 3) := by decide +kernel
theorem dX6_playAll_55 : decode cX6_playAll 55 = .ok (.iload_n 3, 1) := by decide +kernel
theorem dX6_playAll_56 : decode cX6_playAll 56 = .ok (.aload_n 0, 1) := by decide +kernel
theorem dX6_playAll_57 : decode cX6_playAll 57 = .ok (.getfield 7, 3) := by decide +kernel
theorem dX6_playAll_60 : decode cX6_playAll 60 = .ok (.iload_n 3, 1) := by decide +kernel
theorem dX6_playAll_61 : decode cX6_playAll 61 = .ok (.iaload, 1) := by decide +kernel
theorem dX6_playAll_62 : decode cX6_playAll 62 = .ok (.iastore, 1) := by decide +kernel
theorem dX6_playAll_63 : decode cX6_playAll 63 = .ok (.iinc 3 1, 3) := by decide +kernel
theorem dX6_playAll_66 : decode cX6_playAll 66 = .ok (.goto (-21), 3) := by decide +kernel
theorem dX6_playAll_69 : decode cX6_playAll 69 = .ok (.aload_n 0, 1) := by decide +kernel
theorem dX6_playAll_70 : decode cX6_playAll 70 = .ok (.invokevirtual 189, 3) := by decide +kernel
theorem dX6_playAll_73 : decode cX6_playAll 73 = .ok (.aload_n 0, 1) := by decide +kernel
theorem dX6_playAll_74 : decode cX6_playAll 74 = .ok (.iload_n 2, 1) := by decide +kernel
theorem dX6_playAll_75 : decode cX6_playAll 75 = .ok (.ifCond .eq 7, 3) := by decide +kernel
theorem dX6_playAll_78 : decode cX6_playAll 78 = .ok (.iconst 0, 1) := by decide +kernel
theorem dX6_playAll_79 : decode cX6_playAll 79 = .ok (.goto 4, 3) := by decide +kernel
theorem dX6_playAll_82 : decode cX6_playAll 82 = .ok (.iconst 2, 1) := by decide +kernel
theorem dX6_playAll_83 : decode cX6_playAll 83 = .ok (.invokevirtual 107, 3) := by decide +kernel
theorem dX6_playAll_86 : decode cX6_playAll 86 = .ok (.ifCond .ne 5, 3) := by decide +kernel
theorem dX6_playAll_89 : decode cX6_playAll 89 = .ok (.iconst 0, 1) := by decide +kernel
theorem dX6_playAll_90 : decode cX6_playAll 90 = .ok (.ireturn, 1) := by decide +kernel
theorem dX6_playAll_91 : decode cX6_playAll 91 = .ok (.aload_n 0, 1) := by decide +kernel
theorem dX6_playAll_92 : decode cX6_playAll 92 = .ok (.invokevirtual 111, 3) := by decide +kernel
theorem dX6_playAll_95 : decode cX6_playAll 95 = .ok (.iconst 0, 1) := by decide +kernel
theorem dX6_playAll_96 : decode cX6_playAll 96 = .ok (.istore_n 3, 1) := by decide +kernel
theorem dX6_playAll_97 : decode cX6_playAll 97 = .ok (.iload_n 3, 1) := by decide +kernel
theorem dX6_playAll_98 : decode cX6_playAll 98 = .ok (.bipush 103, 2) := by decide +kernel
theorem dX6_playAll_100 : decode cX6_playAll 100 = .ok (.if_icmp .ge 21, 3) := by decide +kernel
theorem dX6_playAll_103 : decode cX6_playAll 103 = .ok (.aload_n 0, 1) := by decide +kernel
theorem dX6_playAll_104 : decode cX6_playAll 104 = .ok (.getfield 7, 3) := by decide +kernel
theorem dX6_playAll_107 : decode cX6_playAll 107 = .ok (.iload_n 3, 1) := by decide +kernel
theorem dX6_playAll_108 : decode cX6_playAll 108 = .ok (.aload_n 0, 1) := by decide +kernel
theorem dX6_playAll_109 : decode cX6_playAll 109 = .ok (.getfield 16, 3) := by decide +kernel
theorem dX6_playAll_112 : decode cX6_playAll 112 = .ok (.iload_n 3, 1) := by decide +kernel
theorem dX6_playAll_113 : decode cX6_playAll 113 = .ok (.iaload, 1) := by decide +kernel
theorem dX6_playAll_114 : decode cX6_playAll 114 = .ok (.iastore, 1) := by decide +kernel
theorem dX6_playAll_115 : decode cX6_playAll 115 = .ok (.iinc 3 1, 3) := by decide +kernel
theorem dX6_playAll_118 : decode cX6_playAll 118 = .ok (.goto (-21), 3) := by decide +kernel
theorem dX6_playAll_121 : decode cX6_playAll 121 = .ok (.aload_n 0, 1) := by decide +kernel
theorem dX6_playAll_122 : decode cX6_playAll 122 = .ok (.iconst 0, 1) := by decide +kernel
theorem dX6_playAll_123 : decode cX6_playAll 123 = .ok (.putfield 135, 3) := by decide +kernel
theorem dX6_playAll_126 : decode cX6_playAll 126 = .ok (.aload_n 0, 1) := by decide +kernel
theorem dX6_playAll_127 : decode cX6_playAll 127 = .ok (.getfield 170, 3) := by decide +kernel
theorem dX6_playAll_130 : decode cX6_playAll 130 = .ok (.ireturn, 1) := by decide +kernel
def f_X6_playAll (N : Nat) (v : MV) : Option (Int32 × MV) :=
  (f_X6_goesThrough N v (0 : Int32)).bind (fun o1 => jn (fun (s17 : Int32) => (if s17 = 0 then some ((0 : Int32), (M_set_thrown o1 (1 : Int32))) else (f_X6_putAside N o1).bind (fun o4 => (f_X6_goesThrough N o4 (1 : Int32)).bind (fun o6 => lpN (fun (s45 : Int32 × MV) (k45 : (Int32 × MV) → Option (Int32 × MV)) => (if (103 : Int32) ≤ s45.1 then (f_X6_putsBack N s45.2).bind (fun o9 => jn (fun (s83 : Int32) => (f_X6_holds N o9 s83).bind (fun o11 => (if o11.1 = 0 then some ((0 : Int32), o11.2) else (f_X6_save N o11.2).bind (fun o15 => lpN (fun (s97 : Int32 × MV) (k97 : (Int32 × MV) → Option (Int32 × MV)) => (if (103 : Int32) ≤ s97.1 then some ((M_played s97.2), (M_set_length s97.2 (0 : Int32))) else gd (ixok s97.1 103) (gd (ixok s97.1 103) (k97 ((s97.1 + (1 : Int32)), (M_set_s s97.2 (upd (M_s s97.2) s97.1.toNatClampNeg ((M_ahead s97.2) s97.1.toNatClampNeg)))))))) N ((0 : Int32), o15))))) (fun (j83 : (Int32) → Option (Int32 × MV)) => (if (M_isFine o6) = 0 then j83 (2 : Int32) else j83 (0 : Int32)))) else gd (ixok s45.1 103) (gd (ixok s45.1 103) (k45 ((s45.1 + (1 : Int32)), (M_set_ahead s45.2 (upd (M_ahead s45.2) s45.1.toNatClampNeg ((M_s s45.2) s45.1.toNatClampNeg)))))))) N ((0 : Int32), o6))))) (fun (j17 : (Int32) → Option (Int32 × MV)) => (if (M_isWrong o1) = 0 then j17 (1 : Int32) else j17 (0 : Int32))))
set_option maxHeartbeats 4000000 in
set_option maxRecDepth 100000 in
theorem met_X6_playAll (l : Launch) (dC : Nat → ClassId) (dI : Nat → Nat → Nat) (cyI cyO cyL : ClassId) (a : Nat → Nat) (sz : Nat) (N : Nat) (v : MV) (out : Int32 × MV) (hF : f_X6_playAll N v = some out) : Met l yX6_playAll (Cond.code yX6_playAll cX6_playAll 4 (some .int) :: wT) ({ frames := 7, cells := 0, slots := 0, locals := 168 } : Room) (wWr dC dI cyI cyO cyL [.ref (a 0)] (cM cyI a v) sz) (va_Qi (fun (r : Int32) (u : MV) => (r, u) = out) (fun u t => va_P (dC, dI) vwCl (cM cyI a u) t.heap ∧ va_D (va_A (cM cyI a v) sz) (cM cyI a u)) (va_A (cM cyI a v) sz)) 0 0 (va_A (cM cyI a v) sz) := by
  refine Met.ofW (cc := cX6_playAll) (maxL := 4) (ret := (some .int)) (by decide) rfl ?_
  intro p e s m args below meth c s₁ B hml hv
  obtain ⟨rfl, hsz, hP, hK, hD0⟩ := hv
  have hx := B.exec
  have hb := B.bytes
  have hr := B.returns
  have hts0 := atoms_spec (ws := (Cond.code yX6_playAll cX6_playAll 4 (some .int) :: wT)) B.pre
  have hts := fun w h => hts0 w (List.mem_cons_of_mem _ h)
  clear hts0
  have hown : s.vm.findClass RX6 = some m.cls := findClass_of_methodNamed B.named
  have hlocks := B.notSynchronized
  subst hsz
  have hD := hD0.self (sz := s.heap.size)
  generalize hAe : va_A (cM cyI a v) s.heap.size = A at hD ⊢
  have hA : ∀ q : Nat, s.heap.size ≤ q → A q := fun q h => by rw [← hAe]; exact Or.inr h
  clear hD0
  have hS : va_S A s.heap s.heap [] := va_S.rf
  have hl := lv_entry [.ref (a 0)] (n := 4) (Nat.le_of_ble_eq_true rfl)
  rw [lg_entry_eq]
  generalize (lg_sl [.ref (a 0)] ++ List.replicate (4 - (lg_sl [.ref (a 0)]).length) Slot.unset).toArray = ls at hl ⊢
  have hl : lv_has ls 4 [(0, .ref (a 0))] := hl
  unfold f_X6_playAll at hF
  refine lv_aload_n hx hb dX6_playAll_0 rfl (lv_at hl 0 rfl) ?_
  refine lv_iconst (v := 0) hx hb dX6_playAll_1 (by decide) ?_
  obtain ⟨o1, h2, hF⟩ := obd hF
  refine wcWVv (As := [.int (0 : Int32)]) (rest := []) (wr := []) (b := (a 0)) ⟨hx, hb, hml, hown, hts⟩ (met_X6_goesThrough l dC dI cyI cyO cyL a _ N v (0 : Int32) o1 h2) (cwV 1 hts (gV w_methodLink_X6_182 w_instanceMethod_X6_goesThrough w_selects_X6_goesThrough w_initialized_X6 w_code_X6_goesThrough) rfl rfl rfl (by decide +kernel) ⟨Nat.le_of_ble_eq_true rfl, Nat.le_of_ble_eq_true rfl⟩) (va_recv hK.1 hP (ci := 6) (q0 := 0) rfl rfl) hP hD hK [0, 1, 2, 3, 4, 5, 6, 7] [] rfl rfl (by decide) (by decide) (by decide) rfl hl.1 (Nat.le_of_ble_eq_true rfl) dX6_playAll_2 ⟨Nat.le_of_ble_eq_true rfl, Nat.le_of_ble_eq_true rfl⟩ hS hA (fun u H locs hw hP hD hS => ?_)
  have hw := hw.symm
  subst hw
  have hP : va_P (dC, dI) vwCl (cM cyI a o1) H := hP
  have hD : va_D A (cM cyI a o1) := hD
  refine lv_aload_n hx hb dX6_playAll_5 rfl (lv_at hl 0 rfl) ?_
  refine va_get (D := (dC, dI)) (ci := 6) (v := .int (M_isWrong o1)) (C := RX6) (T := TX6) (N := 23) hx hb hts inX6 hown hK.1 hP 0 rfl rfl 14 (by decide) (hts _ w_fieldLink_X6_138) (fun _ h9 => h9) rfl dX6_playAll_6 ?_
  obtain ⟨j17, hj17, hF⟩ := jn_use hF
  have hJ17 : ∀ (s17 : Int32) (H : Heap) (locs : List Loc) (ls : Array Slot) (hz_17_s0 : b01 s17), va_P (dC, dI) vwCl (cM cyI a o1) H → va_D A (cM cyI a o1) → va_S A s.heap H locs → lv_has ls 4 [(0, .ref (a 0))] → j17 s17 = some out → W p l e (headSpec (Cond.code yX6_playAll cX6_playAll 4 (some .int) :: wT) ({ frames := 7, cells := 0, slots := 0, locals := 168 } : Room)).room s m ([.ref (a 0)] : List Value).toArray below meth c H locs 0 0 (MQ below (va_Qi (fun (r : Int32) (u : MV) => (r, u) = out) (fun u t => va_P (dC, dI) vwCl (cM cyI a u) t.heap ∧ va_D A (cM cyI a u)) A) ([.ref (a 0)] : List Value).toArray s 0 0 A) (F0 m 17 ls [.int s17]) := by
    intro s17 H locs ls hz_17_s0 hP hD hS hl hF
    have hF := (congrFun hj17 s17).symm.trans hF
    refine lv_istore_n (lv' := [(1, .int s17), (0, .ref (a 0))]) hx hb dX6_playAll_17 rfl hl (by decide) rfl (fun ls hl => ?_)
    refine lv_iload_n hx hb dX6_playAll_18 rfl (lv_at hl 0 rfl) ?_
    refine lv_if_ne (tgt := 29) hx hb dX6_playAll_19 (by decide) (fun c3 => ?_) (fun c3 => ?_)
    · have hF := itn c3 hF
      refine lv_aload_n hx hb dX6_playAll_29 rfl (lv_at hl 1 rfl) ?_
      obtain ⟨o4, h5, hF⟩ := obd hF
      refine wcWVv (As := []) (rest := []) (wr := []) (b := (a 0)) ⟨hx, hb, hml, hown, hts⟩ (met_X6_putAside l dC dI cyI cyO cyL a _ N o1  o4 h5) (cwV 0 hts (gV w_methodLink_X6_186 w_instanceMethod_X6_putAside w_selects_X6_putAside w_initialized_X6 w_code_X6_putAside) rfl rfl rfl (by decide +kernel) ⟨Nat.le_of_ble_eq_true rfl, Nat.le_of_ble_eq_true rfl⟩) (va_recv hK.1 hP (ci := 6) (q0 := 0) rfl rfl) hP hD hK [0, 1, 2, 3, 4, 5, 6, 7] [] rfl rfl (by decide) (by decide) (by decide) rfl hl.1 (Nat.le_of_ble_eq_true rfl) dX6_playAll_30 ⟨Nat.le_of_ble_eq_true rfl, Nat.le_of_ble_eq_true rfl⟩ hS hA (fun u H locs hw hP hD hS => ?_)
      have hw := hw.symm
      subst hw
      have hP : va_P (dC, dI) vwCl (cM cyI a o4) H := hP
      have hD : va_D A (cM cyI a o4) := hD
      refine lv_aload_n hx hb dX6_playAll_33 rfl (lv_at hl 1 rfl) ?_
      refine lv_iconst (v := 1) hx hb dX6_playAll_34 (by decide) ?_
      obtain ⟨o6, h7, hF⟩ := obd hF
      refine wcWVv (As := [.int (1 : Int32)]) (rest := []) (wr := []) (b := (a 0)) ⟨hx, hb, hml, hown, hts⟩ (met_X6_goesThrough l dC dI cyI cyO cyL a _ N o4 (1 : Int32) o6 h7) (cwV 1 hts (gV w_methodLink_X6_182 w_instanceMethod_X6_goesThrough w_selects_X6_goesThrough w_initialized_X6 w_code_X6_goesThrough) rfl rfl rfl (by decide +kernel) ⟨Nat.le_of_ble_eq_true rfl, Nat.le_of_ble_eq_true rfl⟩) (va_recv hK.1 hP (ci := 6) (q0 := 0) rfl rfl) hP hD hK [0, 1, 2, 3, 4, 5, 6, 7] [] rfl rfl (by decide) (by decide) (by decide) rfl hl.1 (Nat.le_of_ble_eq_true rfl) dX6_playAll_35 ⟨Nat.le_of_ble_eq_true rfl, Nat.le_of_ble_eq_true rfl⟩ hS hA (fun u H locs hw hP hD hS => ?_)
      have hw := hw.symm
      subst hw
      have hP : va_P (dC, dI) vwCl (cM cyI a o6) H := hP
      have hD : va_D A (cM cyI a o6) := hD
      refine lv_aload_n hx hb dX6_playAll_38 rfl (lv_at hl 1 rfl) ?_
      refine va_get (D := (dC, dI)) (ci := 6) (v := .int (M_isFine o6)) (C := RX6) (T := TX6) (N := 23) hx hb hts inX6 hown hK.1 hP 0 rfl rfl 20 (by decide) (hts _ w_fieldLink_X6_173) (fun _ h9 => h9) rfl dX6_playAll_39 ?_
      refine lv_istore_n (lv' := [(2, .int (M_isFine o6)), (1, .int s17), (0, .ref (a 0))]) hx hb dX6_playAll_42 rfl hl (by decide) rfl (fun ls hl => ?_)
      refine lv_iconst (v := 0) hx hb dX6_playAll_43 (by decide) ?_
      refine lv_istore_n (lv' := [(3, .int (0 : Int32)), (2, .int (M_isFine o6)), (1, .int s17), (0, .ref (a 0))]) hx hb dX6_playAll_44 rfl hl (by decide) rfl (fun ls hl => ?_)
      obtain ⟨st45, hst45, hF⟩ := lpN_use hF
      have hL45 : ∀ (n : Nat) (s45 : Int32 × MV) (H : Heap) (locs : List Loc) (ls : Array Slot), va_P (dC, dI) vwCl (cM cyI a s45.2) H → va_D A (cM cyI a s45.2) → va_S A s.heap H locs → lv_has ls 4 [(0, .ref (a 0)), (2, .int (M_isFine o6)), (3, .int s45.1)] → lpN st45 n s45 = some out → W p l e (headSpec (Cond.code yX6_playAll cX6_playAll 4 (some .int) :: wT) ({ frames := 7, cells := 0, slots := 0, locals := 168 } : Room)).room s m ([.ref (a 0)] : List Value).toArray below meth c H locs 0 0 (MQ below (va_Qi (fun (r : Int32) (u : MV) => (r, u) = out) (fun u t => va_P (dC, dI) vwCl (cM cyI a u) t.heap ∧ va_D A (cM cyI a u)) A) ([.ref (a 0)] : List Value).toArray s 0 0 A) (F0 m 45 ls []) := by
        intro n
        induction n with
        | zero => intro s45 H locs ls hP hD hS hl hF; exact lpN_0 hF
        | succ n ih45 =>
          intro s45 H locs ls hP hD hS hl hF
          have hF := (congrFun (congrFun hst45 s45) (lpN st45 n)).symm.trans (lpN_s hF)
          refine lv_iload_n hx hb dX6_playAll_45 rfl (lv_at hl 2 rfl) ?_
          refine lv_bipush (v := 103) hx hb dX6_playAll_46 (by decide) ?_
          refine lv_icmp_ge (tgt := 69) hx hb dX6_playAll_48 (by decide) (fun c8 => ?_) (fun c8 => ?_)
          · have hF := itp c8 hF
            refine lv_aload_n hx hb dX6_playAll_69 rfl (lv_at hl 0 rfl) ?_
            obtain ⟨o9, h10, hF⟩ := obd hF
            refine wcWVv (As := []) (rest := []) (wr := []) (b := (a 0)) ⟨hx, hb, hml, hown, hts⟩ (met_X6_putsBack l dC dI cyI cyO cyL a _ N s45.2  o9 h10) (cwV 0 hts (gV w_methodLink_X6_189 w_instanceMethod_X6_putsBack w_selects_X6_putsBack w_initialized_X6 w_code_X6_putsBack) rfl rfl rfl (by decide +kernel) ⟨Nat.le_of_ble_eq_true rfl, Nat.le_of_ble_eq_true rfl⟩) (va_recv hK.1 hP (ci := 6) (q0 := 0) rfl rfl) hP hD hK [0, 1, 2, 3, 4, 5, 6, 7] [] rfl rfl (by decide) (by decide) (by decide) rfl hl.1 (Nat.le_of_ble_eq_true rfl) dX6_playAll_70 ⟨Nat.le_of_ble_eq_true rfl, Nat.le_of_ble_eq_true rfl⟩ hS hA (fun u H locs hw hP hD hS => ?_)
            have hw := hw.symm
            subst hw
            have hP : va_P (dC, dI) vwCl (cM cyI a o9) H := hP
            have hD : va_D A (cM cyI a o9) := hD
            refine lv_aload_n hx hb dX6_playAll_73 rfl (lv_at hl 0 rfl) ?_
            refine lv_iload_n hx hb dX6_playAll_74 rfl (lv_at hl 1 rfl) ?_
            obtain ⟨j83, hj83, hF⟩ := jn_use hF
            have hJ83 : ∀ (s83 : Int32) (H : Heap) (locs : List Loc) (ls : Array Slot), va_P (dC, dI) vwCl (cM cyI a o9) H → va_D A (cM cyI a o9) → va_S A s.heap H locs → lv_has ls 4 [(0, .ref (a 0))] → j83 s83 = some out → W p l e (headSpec (Cond.code yX6_playAll cX6_playAll 4 (some .int) :: wT) ({ frames := 7, cells := 0, slots := 0, locals := 168 } : Room)).room s m ([.ref (a 0)] : List Value).toArray below meth c H locs 0 0 (MQ below (va_Qi (fun (r : Int32) (u : MV) => (r, u) = out) (fun u t => va_P (dC, dI) vwCl (cM cyI a u) t.heap ∧ va_D A (cM cyI a u)) A) ([.ref (a 0)] : List Value).toArray s 0 0 A) (F0 m 83 ls [.int s83, .ref (a 0)]) := by
              intro s83 H locs ls hP hD hS hl hF
              have hF := (congrFun hj83 s83).symm.trans hF
              obtain ⟨o11, h12, hF⟩ := obd hF
              refine wcWVi (As := [.int s83]) (rest := []) (wr := []) (b := (a 0)) ⟨hx, hb, hml, hown, hts⟩ (met_X6_holds l dC dI cyI cyO cyL a _ N o9 s83 o11 h12) (cwV 1 hts (gV w_methodLink_X6_107 w_instanceMethod_X6_holds w_selects_X6_holds w_initialized_X6 w_code_X6_holds) rfl rfl rfl (by decide +kernel) ⟨Nat.le_of_ble_eq_true rfl, Nat.le_of_ble_eq_true rfl⟩) (va_recv hK.1 hP (ci := 6) (q0 := 0) rfl rfl) hP hD hK [0, 1, 2, 3, 4, 5, 6, 7] [] rfl rfl (by decide) (by decide) (by decide) rfl hl.1 (Nat.le_of_ble_eq_true rfl) dX6_playAll_83 ⟨Nat.le_of_ble_eq_true rfl, Nat.le_of_ble_eq_true rfl⟩ hS hA (fun r u H locs hw hP hD hS => ?_)
              obtain ⟨hw, hz13⟩ := hw
              obtain rfl : r = o11.1 := congrArg Prod.fst hw
              obtain rfl : u = o11.2 := congrArg Prod.snd hw
              clear hw
              have hP : va_P (dC, dI) vwCl (cM cyI a o11.2) H := hP
              have hD : va_D A (cM cyI a o11.2) := hD
              refine lv_if_ne (tgt := 91) hx hb dX6_playAll_86 (by decide) (fun c14 => ?_) (fun c14 => ?_)
              · have hF := itn c14 hF
                refine lv_aload_n hx hb dX6_playAll_91 rfl (lv_at hl 0 rfl) ?_
                obtain ⟨o15, h16, hF⟩ := obd hF
                refine wcWVv (As := []) (rest := []) (wr := []) (b := (a 0)) ⟨hx, hb, hml, hown, hts⟩ (met_X6_save l dC dI cyI cyO cyL a _ N o11.2  o15 h16) (cwV 0 hts (gV w_methodLink_X6_111 w_instanceMethod_X6_save w_selects_X6_save w_initialized_X6 w_code_X6_save) rfl rfl rfl (by decide +kernel) ⟨Nat.le_of_ble_eq_true rfl, Nat.le_of_ble_eq_true rfl⟩) (va_recv hK.1 hP (ci := 6) (q0 := 0) rfl rfl) hP hD hK [0, 1, 2, 3, 4, 5, 6, 7] [] rfl rfl (by decide) (by decide) (by decide) rfl hl.1 (Nat.le_of_ble_eq_true rfl) dX6_playAll_92 ⟨Nat.le_of_ble_eq_true rfl, Nat.le_of_ble_eq_true rfl⟩ hS hA (fun u H locs hw hP hD hS => ?_)
                have hw := hw.symm
                subst hw
                have hP : va_P (dC, dI) vwCl (cM cyI a o15) H := hP
                have hD : va_D A (cM cyI a o15) := hD
                refine lv_iconst (v := 0) hx hb dX6_playAll_95 (by decide) ?_
                refine lv_istore_n (lv' := [(3, .int (0 : Int32)), (0, .ref (a 0))]) hx hb dX6_playAll_96 rfl hl (by decide) rfl (fun ls hl => ?_)
                obtain ⟨st97, hst97, hF⟩ := lpN_use hF
                have hL97 : ∀ (n : Nat) (s97 : Int32 × MV) (H : Heap) (locs : List Loc) (ls : Array Slot), va_P (dC, dI) vwCl (cM cyI a s97.2) H → va_D A (cM cyI a s97.2) → va_S A s.heap H locs → lv_has ls 4 [(0, .ref (a 0)), (3, .int s97.1)] → lpN st97 n s97 = some out → W p l e (headSpec (Cond.code yX6_playAll cX6_playAll 4 (some .int) :: wT) ({ frames := 7, cells := 0, slots := 0, locals := 168 } : Room)).room s m ([.ref (a 0)] : List Value).toArray below meth c H locs 0 0 (MQ below (va_Qi (fun (r : Int32) (u : MV) => (r, u) = out) (fun u t => va_P (dC, dI) vwCl (cM cyI a u) t.heap ∧ va_D A (cM cyI a u)) A) ([.ref (a 0)] : List Value).toArray s 0 0 A) (F0 m 97 ls []) := by
                  intro n
                  induction n with
                  | zero => intro s97 H locs ls hP hD hS hl hF; exact lpN_0 hF
                  | succ n ih97 =>
                    intro s97 H locs ls hP hD hS hl hF
                    have hF := (congrFun (congrFun hst97 s97) (lpN st97 n)).symm.trans (lpN_s hF)
                    refine lv_iload_n hx hb dX6_playAll_97 rfl (lv_at hl 1 rfl) ?_
                    refine lv_bipush (v := 103) hx hb dX6_playAll_98 (by decide) ?_
                    refine lv_icmp_ge (tgt := 121) hx hb dX6_playAll_100 (by decide) (fun c17 => ?_) (fun c17 => ?_)
                    · have hF := itp c17 hF
                      refine lv_aload_n hx hb dX6_playAll_121 rfl (lv_at hl 0 rfl) ?_
                      refine lv_iconst (v := 0) hx hb dX6_playAll_122 (by decide) ?_
                      refine va_put (D := (dC, dI)) (ci := 6) (v := .int (0 : Int32)) (ty := .int) (C := RX6) (T := TX6) (N := 23) hx hb hts inX6 tyX6 tyX6_ok nmX6 hown hK.1 hP hD hS 0 rfl rfl 9 (by decide) (hts _ w_fieldLink_X6_135) (fun _ h9 => h9) rfl (by decide +kernel) rfl rfl (Nat.le_of_ble_eq_true rfl) dX6_playAll_123 (fun H locs hP hD hS => ?_)
                      have hP : va_P (dC, dI) vwCl (cM cyI a (M_set_length s97.2 (0 : Int32))) H := hP
                      have hD : va_D A (cM cyI a (M_set_length s97.2 (0 : Int32))) := hD
                      refine lv_aload_n hx hb dX6_playAll_126 rfl (lv_at hl 0 rfl) ?_
                      refine va_get (D := (dC, dI)) (ci := 6) (v := .int (M_played s97.2)) (C := RX6) (T := TX6) (N := 23) hx hb hts inX6 hown hK.1 hP 0 rfl rfl 19 (by decide) (hts _ w_fieldLink_X6_170) (fun _ h9 => h9) rfl dX6_playAll_127 ?_
                      exact W.iret (v := (M_played s97.2)) hx hb hr (fun t ht hW => ⟨⟨_, (M_set_length s97.2 (0 : Int32)), rfl, Option.some.inj hF, by rw [ht]; exact hP, hD⟩, hS.F ht⟩) hS.2.2 dX6_playAll_130
                    · have hF := itn c17 hF
                      refine lv_aload_n hx hb dX6_playAll_103 rfl (lv_at hl 0 rfl) ?_
                      refine va_get (D := (dC, dI)) (ci := 6) (v := .ref (a 1)) (C := RX6) (T := TX6) (N := 23) hx hb hts inX6 hown hK.1 hP 0 rfl rfl 1 (by decide) (hts _ w_fieldLink_X6_7) (fun _ h9 => h9) rfl dX6_playAll_104 ?_
                      refine lv_iload_n hx hb dX6_playAll_107 rfl (lv_at hl 1 rfl) ?_
                      refine lv_aload_n hx hb dX6_playAll_108 rfl (lv_at hl 0 rfl) ?_
                      refine va_get (D := (dC, dI)) (ci := 6) (v := .ref (a 3)) (C := RX6) (T := TX6) (N := 23) hx hb hts inX6 hown hK.1 hP 0 rfl rfl 3 (by decide) (hts _ w_fieldLink_X6_16) (fun _ h9 => h9) rfl dX6_playAll_109 ?_
                      refine lv_iload_n hx hb dX6_playAll_112 rfl (lv_at hl 1 rfl) ?_
                      obtain ⟨hg18, hF⟩ := gd_use hF
                      refine va_iald hx hb hK.1 hP 3 0 rfl rfl (i := s97.1) hg18 dX6_playAll_113 ?_
                      obtain ⟨hg19, hF⟩ := gd_use hF
                      refine va_iast hx hb hK.1 hP hD hS 1 0 rfl rfl (i := s97.1) (x := ((M_ahead s97.2) s97.1.toNatClampNeg)) hg19 dX6_playAll_114 (fun H locs hP hD hS => ?_)
                      have hP : va_P (dC, dI) vwCl (cM cyI a (M_set_s s97.2 (upd (M_s s97.2) s97.1.toNatClampNeg ((M_ahead s97.2) s97.1.toNatClampNeg)))) H := hP
                      have hD : va_D A (cM cyI a (M_set_s s97.2 (upd (M_s s97.2) s97.1.toNatClampNeg ((M_ahead s97.2) s97.1.toNatClampNeg)))) := hD
                      refine lv_iinc (v := (s97.1 + (1 : Int32))) (lv' := [(3, .int (s97.1 + (1 : Int32))), (0, .ref (a 0))]) hx hb dX6_playAll_115 hl (k := 1) rfl rfl (by decide) rfl (fun ls hl => ?_)
                      refine lv_goto (tgt := 97) hx hb dX6_playAll_118 (by decide) ?_
                      exact ih97 ((s97.1 + (1 : Int32)), (M_set_s s97.2 (upd (M_s s97.2) s97.1.toNatClampNeg ((M_ahead s97.2) s97.1.toNatClampNeg)))) _ _ _ hP hD hS (lv_sub hl [1, 0] rfl) hF
                exact hL97 N ((0 : Int32), o15) _ _ _ hP hD hS (lv_sub hl [1, 0] rfl) hF
              · have hF := itp c14 hF
                refine lv_iconst (v := 0) hx hb dX6_playAll_89 (by decide) ?_
                exact W.iret (v := (0 : Int32)) hx hb hr (fun t ht hW => ⟨⟨_, o11.2, rfl, Option.some.inj hF, by rw [ht]; exact hP, hD⟩, hS.F ht⟩) hS.2.2 dX6_playAll_90
            refine lv_if_eq (tgt := 82) hx hb dX6_playAll_75 (by decide) (fun c20 => ?_) (fun c20 => ?_)
            · have hF := itp c20 hF
              refine lv_iconst (v := 2) hx hb dX6_playAll_82 (by decide) ?_
              exact hJ83 (2 : Int32) _ _ _ hP hD hS (lv_sub hl [0] rfl) hF
            · have hF := itn c20 hF
              refine lv_iconst (v := 0) hx hb dX6_playAll_78 (by decide) ?_
              refine lv_goto (tgt := 83) hx hb dX6_playAll_79 (by decide) ?_
              exact hJ83 (0 : Int32) _ _ _ hP hD hS (lv_sub hl [0] rfl) hF
          · have hF := itn c8 hF
            refine lv_aload_n hx hb dX6_playAll_51 rfl (lv_at hl 0 rfl) ?_
            refine va_get (D := (dC, dI)) (ci := 6) (v := .ref (a 3)) (C := RX6) (T := TX6) (N := 23) hx hb hts inX6 hown hK.1 hP 0 rfl rfl 3 (by decide) (hts _ w_fieldLink_X6_16) (fun _ h9 => h9) rfl dX6_playAll_52 ?_
            refine lv_iload_n hx hb dX6_playAll_55 rfl (lv_at hl 2 rfl) ?_
            refine lv_aload_n hx hb dX6_playAll_56 rfl (lv_at hl 0 rfl) ?_
            refine va_get (D := (dC, dI)) (ci := 6) (v := .ref (a 1)) (C := RX6) (T := TX6) (N := 23) hx hb hts inX6 hown hK.1 hP 0 rfl rfl 1 (by decide) (hts _ w_fieldLink_X6_7) (fun _ h9 => h9) rfl dX6_playAll_57 ?_
            refine lv_iload_n hx hb dX6_playAll_60 rfl (lv_at hl 2 rfl) ?_
            obtain ⟨hg21, hF⟩ := gd_use hF
            refine va_iald hx hb hK.1 hP 1 0 rfl rfl (i := s45.1) hg21 dX6_playAll_61 ?_
            obtain ⟨hg22, hF⟩ := gd_use hF
            refine va_iast hx hb hK.1 hP hD hS 3 0 rfl rfl (i := s45.1) (x := ((M_s s45.2) s45.1.toNatClampNeg)) hg22 dX6_playAll_62 (fun H locs hP hD hS => ?_)
            have hP : va_P (dC, dI) vwCl (cM cyI a (M_set_ahead s45.2 (upd (M_ahead s45.2) s45.1.toNatClampNeg ((M_s s45.2) s45.1.toNatClampNeg)))) H := hP
            have hD : va_D A (cM cyI a (M_set_ahead s45.2 (upd (M_ahead s45.2) s45.1.toNatClampNeg ((M_s s45.2) s45.1.toNatClampNeg)))) := hD
            refine lv_iinc (v := (s45.1 + (1 : Int32))) (lv' := [(3, .int (s45.1 + (1 : Int32))), (0, .ref (a 0)), (2, .int (M_isFine o6))]) hx hb dX6_playAll_63 hl (k := 2) rfl rfl (by decide) rfl (fun ls hl => ?_)
            refine lv_goto (tgt := 45) hx hb dX6_playAll_66 (by decide) ?_
            exact ih45 ((s45.1 + (1 : Int32)), (M_set_ahead s45.2 (upd (M_ahead s45.2) s45.1.toNatClampNeg ((M_s s45.2) s45.1.toNatClampNeg)))) _ _ _ hP hD hS (lv_sub hl [1, 2, 0] rfl) hF
      exact hL45 N ((0 : Int32), o6) _ _ _ hP hD hS (lv_sub hl [3, 1, 0] rfl) hF
    · have hF := itp c3 hF
      refine lv_aload_n hx hb dX6_playAll_22 rfl (lv_at hl 1 rfl) ?_
      refine lv_iconst (v := 1) hx hb dX6_playAll_23 (by decide) ?_
      refine va_put (D := (dC, dI)) (ci := 6) (v := .int (1 : Int32)) (ty := .int) (C := RX6) (T := TX6) (N := 23) hx hb hts inX6 tyX6 tyX6_ok nmX6 hown hK.1 hP hD hS 0 rfl rfl 0 (by decide) (hts _ w_fieldLink_X6_31) (fun _ h9 => h9) rfl (by decide +kernel) rfl rfl (Nat.le_of_ble_eq_true rfl) dX6_playAll_24 (fun H locs hP hD hS => ?_)
      have hP : va_P (dC, dI) vwCl (cM cyI a (M_set_thrown o1 (1 : Int32))) H := hP
      have hD : va_D A (cM cyI a (M_set_thrown o1 (1 : Int32))) := hD
      refine lv_iconst (v := 0) hx hb dX6_playAll_27 (by decide) ?_
      exact W.iret (v := (0 : Int32)) hx hb hr (fun t ht hW => ⟨⟨_, (M_set_thrown o1 (1 : Int32)), rfl, Option.some.inj hF, by rw [ht]; exact hP, hD⟩, hS.F ht⟩) hS.2.2 dX6_playAll_28
  refine lv_if_ne (tgt := 16) hx hb dX6_playAll_9 (by decide) (fun c23 => ?_) (fun c23 => ?_)
  · have hF := itn c23 hF
    refine lv_iconst (v := 0) hx hb dX6_playAll_16 (by decide) ?_
    exact hJ17 (0 : Int32) _ _ _ b01_0 hP hD hS (lv_sub hl [0] rfl) hF
  · have hF := itp c23 hF
    refine lv_iconst (v := 1) hx hb dX6_playAll_12 (by decide) ?_
    refine lv_goto (tgt := 17) hx hb dX6_playAll_13 (by decide) ?_
    exact hJ17 (1 : Int32) _ _ _ b01_1 hP hD hS (lv_sub hl [0] rfl) hF
theorem dX6_keep_0 : decode cX6_keep 0 = .ok (.aload_n 0, 1) := by decide +kernel
theorem dX6_keep_1 : decode cX6_keep 1 = .ok (.iload_n 1, 1) := by decide +kernel
theorem dX6_keep_2 : decode cX6_keep 2 = .ok (.iconst 0, 1) := by decide +kernel
theorem dX6_keep_3 : decode cX6_keep 3 = .ok (.iconst 1, 1) := by decide +kernel
theorem dX6_keep_4 : decode cX6_keep 4 = .ok (.invokestatic 35, 3) := by decide +kernel
theorem dX6_keep_7 : decode cX6_keep 7 = .ok (.ifCond .eq 7, 3) := by decide +kernel
theorem dX6_keep_10 : decode cX6_keep 10 = .ok (.iconst 0, 1) := by decide +kernel
theorem dX6_keep_11 : decode cX6_keep 11 = .ok (.goto 4, 3) := by decide +kernel
theorem dX6_keep_14 : decode cX6_keep 14 = .ok (.iconst 1, 1) := by decide +kernel
theorem dX6_keep_15 : decode cX6_keep 15 = .ok (.invokevirtual 107, 3) := by decide +kernel
theorem dX6_keep_18 : decode cX6_keep 18 = .ok (.ifCond .eq 46, 3) := by decide +kernel
theorem dX6_keep_21 : decode cX6_keep 21 = .ok (.aload_n 0, 1) := by decide +kernel
theorem dX6_keep_22 : decode cX6_keep 22 = .ok (.dup, 1) := by decide +kernel
theorem dX6_keep_23 : decode cX6_keep 23 = .ok (.getfield 192, 3) := by decide +kernel
theorem dX6_keep_26 : decode cX6_keep 26 = .ok (.iconst 1, 1) := by decide +kernel
theorem dX6_keep_27 : decode cX6_keep 27 = .ok (.iload_n 1, 1) := by decide +kernel
theorem dX6_keep_28 : decode cX6_keep 28 = .ok (.ishl, 1) := by decide +kernel
theorem dX6_keep_29 : decode cX6_keep 29 = .ok (.ior, 1) := by decide +kernel
theorem dX6_keep_30 : decode cX6_keep 30 = .ok (.putfield 192, 3) := by decide +kernel
theorem dX6_keep_33 : decode cX6_keep 33 = .ok (.iconst 0, 1) := by decide +kernel
theorem dX6_keep_34 : decode cX6_keep 34 = .ok (.istore_n 2, 1) := by decide +kernel
theorem dX6_keep_35 : decode cX6_keep 35 = .ok (.iload_n 2, 1) := by decide +kernel
theorem dX6_keep_36 : decode cX6_keep 36 = .ok (.bipush 103, 2) := by decide +kernel
theorem dX6_keep_38 : decode cX6_keep 38 = .ok (.if_icmp .ge 26, 3) := by decide +kernel
theorem dX6_keep_41 : decode cX6_keep 41 = .ok (.aload_n 0, 1) := by decide +kernel
theorem dX6_keep_42 : decode cX6_keep 42 = .ok (.getfield 22, 3) := by decide +kernel
theorem dX6_keep_45 : decode cX6_keep 45 = .ok (.bipush 103, 2) := by decide +kernel
theorem dX6_keep_47 : decode cX6_keep 47 = .ok (.iload_n 1, 1) := by decide +kernel
theorem dX6_keep_48 : decode cX6_keep 48 = .ok (.imul, 1) := by decide +kernel
theorem dX6_keep_49 : decode cX6_keep 49 = .ok (.iload_n 2, 1) := by decide +kernel
theorem dX6_keep_50 : decode cX6_keep 50 = .ok (.iadd, 1) := by decide +kernel
theorem dX6_keep_51 : decode cX6_keep 51 = .ok (.aload_n 0, 1) := by decide +kernel
theorem dX6_keep_52 : decode cX6_keep 52 = .ok (.getfield 7, 3) := by decide +kernel
theorem dX6_keep_55 : decode cX6_keep 55 = .ok (.iload_n 2, 1) := by decide +kernel
theorem dX6_keep_56 : decode cX6_keep 56 = .ok (.iaload, 1) := by decide +kernel
theorem dX6_keep_57 : decode cX6_keep 57 = .ok (.iastore, 1) := by decide +kernel
theorem dX6_keep_58 : decode cX6_keep 58 = .ok (.iinc 2 1, 3) := by decide +kernel
theorem dX6_keep_61 : decode cX6_keep 61 = .ok (.goto (-26), 3) := by decide +kernel
theorem dX6_keep_64 : decode cX6_keep 64 = .ok (.return_, 1) := by decide +kernel
def f_X6_keep (N : Nat) (v : MV) (p1 : Int32) : Option (MV) :=
  (f_X6_in N p1 (0 : Int32) (1 : Int32)).bind (fun o1 => jn (fun (s15 : Int32) => (f_X6_holds N v s15).bind (fun o4 => jn (fun (s64 : MV) => some s64) (fun (j64 : (MV) → Option (MV)) => (if o4.1 = 0 then j64 o4.2 else lpN (fun (s35 : Int32 × MV) (k35 : (Int32 × MV) → Option (MV)) => (if (103 : Int32) ≤ s35.1 then j64 s35.2 else gd (ixok s35.1 103) (gd (ixok (((103 : Int32) * p1) + s35.1) 206) (k35 ((s35.1 + (1 : Int32)), (M_set_slots s35.2 (upd (M_slots s35.2) (((103 : Int32) * p1) + s35.1).toNatClampNeg ((M_s s35.2) s35.1.toNatClampNeg)))))))) N ((0 : Int32), (M_set_kept o4.2 ((M_kept o4.2) ||| ((1 : Int32) <<< (p1 &&& 31))))))))) (fun (j15 : (Int32) → Option (MV)) => (if o1 = 0 then j15 (1 : Int32) else j15 (0 : Int32))))
set_option maxHeartbeats 4000000 in
set_option maxRecDepth 100000 in
theorem met_X6_keep (l : Launch) (dC : Nat → ClassId) (dI : Nat → Nat → Nat) (cyI cyO cyL : ClassId) (a : Nat → Nat) (sz : Nat) (N : Nat) (v : MV) (p1 : Int32) (out : MV) (hF : f_X6_keep N v p1 = some out) : Met l yX6_keep (Cond.code yX6_keep cX6_keep 3 none :: wT) ({ frames := 1, cells := 0, slots := 0, locals := 22 } : Room) (wWr dC dI cyI cyO cyL [.ref (a 0), .int p1] (cM cyI a v) sz) (va_Qv (fun (u : MV) => u = out) (fun u t => va_P (dC, dI) vwCl (cM cyI a u) t.heap ∧ va_D (va_A (cM cyI a v) sz) (cM cyI a u)) (va_A (cM cyI a v) sz)) 0 0 (va_A (cM cyI a v) sz) := by
  refine Met.ofW (cc := cX6_keep) (maxL := 3) (ret := none) (by decide) rfl ?_
  intro p e s m args below meth c s₁ B hml hv
  obtain ⟨rfl, hsz, hP, hK, hD0⟩ := hv
  have hx := B.exec
  have hb := B.bytes
  have hr := B.returns
  have hts0 := atoms_spec (ws := (Cond.code yX6_keep cX6_keep 3 none :: wT)) B.pre
  have hts := fun w h => hts0 w (List.mem_cons_of_mem _ h)
  clear hts0
  have hown : s.vm.findClass RX6 = some m.cls := findClass_of_methodNamed B.named
  have hlocks := B.notSynchronized
  subst hsz
  have hD := hD0.self (sz := s.heap.size)
  generalize hAe : va_A (cM cyI a v) s.heap.size = A at hD ⊢
  have hA : ∀ q : Nat, s.heap.size ≤ q → A q := fun q h => by rw [← hAe]; exact Or.inr h
  clear hD0
  have hS : va_S A s.heap s.heap [] := va_S.rf
  have hl := lv_entry [.ref (a 0), .int p1] (n := 3) (Nat.le_of_ble_eq_true rfl)
  rw [lg_entry_eq]
  generalize (lg_sl [.ref (a 0), .int p1] ++ List.replicate (3 - (lg_sl [.ref (a 0), .int p1]).length) Slot.unset).toArray = ls at hl ⊢
  have hl : lv_has ls 3 [(0, .ref (a 0)), (1, .int p1)] := hl
  unfold f_X6_keep at hF
  refine lv_aload_n hx hb dX6_keep_0 rfl (lv_at hl 0 rfl) ?_
  refine lv_iload_n hx hb dX6_keep_1 rfl (lv_at hl 1 rfl) ?_
  refine lv_iconst (v := 0) hx hb dX6_keep_2 (by decide) ?_
  refine lv_iconst (v := 1) hx hb dX6_keep_3 (by decide) ?_
  obtain ⟨o1, h2, hF⟩ := obd hF
  refine wcRSi (As := [.int p1, .int (0 : Int32), .int (1 : Int32)]) (rest := [.ref (a 0)]) ⟨hx, hb, hml, hown, hts⟩ (met_X6_in l dC dI cyI cyO cyL  N  p1 (0 : Int32) (1 : Int32) o1 h2) (va_cwS 3 hts (gS w_methodLink_X6_35 w_static_X6_in w_initialized_X6 w_code_X6_in) rfl rfl rfl (by decide +kernel) ⟨Nat.le_of_ble_eq_true rfl, Nat.le_of_ble_eq_true rfl⟩) hP hK [] rfl rfl hl.1 (Nat.le_of_ble_eq_true rfl) dX6_keep_4 ⟨Nat.le_of_ble_eq_true rfl, Nat.le_of_ble_eq_true rfl⟩ hS (fun r H locs hw hP hS => ?_)
  obtain ⟨hw, hz3⟩ := hw
  have hw := hw.symm
  subst hw
  obtain ⟨j15, hj15, hF⟩ := jn_use hF
  have hJ15 : ∀ (s15 : Int32) (H : Heap) (locs : List Loc) (ls : Array Slot) (hz_15_s1 : b01 s15), va_P (dC, dI) vwCl (cM cyI a v) H → va_D A (cM cyI a v) → va_S A s.heap H locs → lv_has ls 3 [(0, .ref (a 0)), (1, .int p1)] → j15 s15 = some out → W p l e (headSpec (Cond.code yX6_keep cX6_keep 3 none :: wT) ({ frames := 1, cells := 0, slots := 0, locals := 22 } : Room)).room s m ([.ref (a 0), .int p1] : List Value).toArray below meth c H locs 0 0 (MQ below (va_Qv (fun (u : MV) => u = out) (fun u t => va_P (dC, dI) vwCl (cM cyI a u) t.heap ∧ va_D A (cM cyI a u)) A) ([.ref (a 0), .int p1] : List Value).toArray s 0 0 A) (F0 m 15 ls [.int s15, .ref (a 0)]) := by
    intro s15 H locs ls hz_15_s1 hP hD hS hl hF
    have hF := (congrFun hj15 s15).symm.trans hF
    obtain ⟨o4, h5, hF⟩ := obd hF
    refine wcWVi (As := [.int s15]) (rest := []) (wr := []) (b := (a 0)) ⟨hx, hb, hml, hown, hts⟩ (met_X6_holds l dC dI cyI cyO cyL a _ N v s15 o4 h5) (cwV 1 hts (gV w_methodLink_X6_107 w_instanceMethod_X6_holds w_selects_X6_holds w_initialized_X6 w_code_X6_holds) rfl rfl rfl (by decide +kernel) ⟨Nat.le_of_ble_eq_true rfl, Nat.le_of_ble_eq_true rfl⟩) (va_recv hK.1 hP (ci := 6) (q0 := 0) rfl rfl) hP hD hK [0, 1, 2, 3, 4, 5, 6, 7] [] rfl rfl (by decide) (by decide) (by decide) rfl hl.1 (Nat.le_of_ble_eq_true rfl) dX6_keep_15 ⟨Nat.le_of_ble_eq_true rfl, Nat.le_of_ble_eq_true rfl⟩ hS hA (fun r u H locs hw hP hD hS => ?_)
    obtain ⟨hw, hz6⟩ := hw
    obtain rfl : r = o4.1 := congrArg Prod.fst hw
    obtain rfl : u = o4.2 := congrArg Prod.snd hw
    clear hw
    have hP : va_P (dC, dI) vwCl (cM cyI a o4.2) H := hP
    have hD : va_D A (cM cyI a o4.2) := hD
    obtain ⟨j64, hj64, hF⟩ := jn_use hF
    have hJ64 : ∀ (s64 : MV) (H : Heap) (locs : List Loc) (ls : Array Slot), va_P (dC, dI) vwCl (cM cyI a s64) H → va_D A (cM cyI a s64) → va_S A s.heap H locs → lv_has ls 3 [] → j64 s64 = some out → W p l e (headSpec (Cond.code yX6_keep cX6_keep 3 none :: wT) ({ frames := 1, cells := 0, slots := 0, locals := 22 } : Room)).room s m ([.ref (a 0), .int p1] : List Value).toArray below meth c H locs 0 0 (MQ below (va_Qv (fun (u : MV) => u = out) (fun u t => va_P (dC, dI) vwCl (cM cyI a u) t.heap ∧ va_D A (cM cyI a u)) A) ([.ref (a 0), .int p1] : List Value).toArray s 0 0 A) (F0 m 64 ls []) := by
      intro s64 H locs ls hP hD hS hl hF
      have hF := (congrFun hj64 s64).symm.trans hF
      exact W.vret hx hb hr (fun t ht hW => ⟨⟨_, rfl, Option.some.inj hF, by rw [ht]; exact hP, hD⟩, hS.F ht⟩) hS.2.2 dX6_keep_64
    refine lv_if_eq (tgt := 64) hx hb dX6_keep_18 (by decide) (fun c7 => ?_) (fun c7 => ?_)
    · have hF := itp c7 hF
      exact hJ64 o4.2 _ _ _ hP hD hS (lv_sub hl [] rfl) hF
    · have hF := itn c7 hF
      refine lv_aload_n hx hb dX6_keep_21 rfl (lv_at hl 0 rfl) ?_
      refine lv_dup hx hb dX6_keep_22 rfl ?_
      refine va_get (D := (dC, dI)) (ci := 6) (v := .int (M_kept o4.2)) (C := RX6) (T := TX6) (N := 23) hx hb hts inX6 hown hK.1 hP 0 rfl rfl 7 (by decide) (hts _ w_fieldLink_X6_192) (fun _ h9 => h9) rfl dX6_keep_23 ?_
      refine lv_iconst (v := 1) hx hb dX6_keep_26 (by decide) ?_
      refine lv_iload_n hx hb dX6_keep_27 rfl (lv_at hl 1 rfl) ?_
      refine lv_ishl hx hb dX6_keep_28 ?_
      refine lv_ior hx hb dX6_keep_29 ?_
      refine va_put (D := (dC, dI)) (ci := 6) (v := .int ((M_kept o4.2) ||| ((1 : Int32) <<< (p1 &&& 31)))) (ty := .int) (C := RX6) (T := TX6) (N := 23) hx hb hts inX6 tyX6 tyX6_ok nmX6 hown hK.1 hP hD hS 0 rfl rfl 7 (by decide) (hts _ w_fieldLink_X6_192) (fun _ h9 => h9) rfl (by decide +kernel) rfl rfl (Nat.le_of_ble_eq_true rfl) dX6_keep_30 (fun H locs hP hD hS => ?_)
      have hP : va_P (dC, dI) vwCl (cM cyI a (M_set_kept o4.2 ((M_kept o4.2) ||| ((1 : Int32) <<< (p1 &&& 31))))) H := hP
      have hD : va_D A (cM cyI a (M_set_kept o4.2 ((M_kept o4.2) ||| ((1 : Int32) <<< (p1 &&& 31))))) := hD
      refine lv_iconst (v := 0) hx hb dX6_keep_33 (by decide) ?_
      refine lv_istore_n (lv' := [(2, .int (0 : Int32)), (0, .ref (a 0)), (1, .int p1)]) hx hb dX6_keep_34 rfl hl (by decide) rfl (fun ls hl => ?_)
      obtain ⟨st35, hst35, hF⟩ := lpN_use hF
      have hL35 : ∀ (n : Nat) (s35 : Int32 × MV) (H : Heap) (locs : List Loc) (ls : Array Slot), va_P (dC, dI) vwCl (cM cyI a s35.2) H → va_D A (cM cyI a s35.2) → va_S A s.heap H locs → lv_has ls 3 [(0, .ref (a 0)), (1, .int p1), (2, .int s35.1)] → lpN st35 n s35 = some out → W p l e (headSpec (Cond.code yX6_keep cX6_keep 3 none :: wT) ({ frames := 1, cells := 0, slots := 0, locals := 22 } : Room)).room s m ([.ref (a 0), .int p1] : List Value).toArray below meth c H locs 0 0 (MQ below (va_Qv (fun (u : MV) => u = out) (fun u t => va_P (dC, dI) vwCl (cM cyI a u) t.heap ∧ va_D A (cM cyI a u)) A) ([.ref (a 0), .int p1] : List Value).toArray s 0 0 A) (F0 m 35 ls []) := by
        intro n
        induction n with
        | zero => intro s35 H locs ls hP hD hS hl hF; exact lpN_0 hF
        | succ n ih35 =>
          intro s35 H locs ls hP hD hS hl hF
          have hF := (congrFun (congrFun hst35 s35) (lpN st35 n)).symm.trans (lpN_s hF)
          refine lv_iload_n hx hb dX6_keep_35 rfl (lv_at hl 2 rfl) ?_
          refine lv_bipush (v := 103) hx hb dX6_keep_36 (by decide) ?_
          refine lv_icmp_ge (tgt := 64) hx hb dX6_keep_38 (by decide) (fun c8 => ?_) (fun c8 => ?_)
          · have hF := itp c8 hF
            exact hJ64 s35.2 _ _ _ hP hD hS (lv_sub hl [] rfl) hF
          · have hF := itn c8 hF
            refine lv_aload_n hx hb dX6_keep_41 rfl (lv_at hl 0 rfl) ?_
            refine va_get (D := (dC, dI)) (ci := 6) (v := .ref (a 5)) (C := RX6) (T := TX6) (N := 23) hx hb hts inX6 hown hK.1 hP 0 rfl rfl 6 (by decide) (hts _ w_fieldLink_X6_22) (fun _ h9 => h9) rfl dX6_keep_42 ?_
            refine lv_bipush (v := 103) hx hb dX6_keep_45 (by decide) ?_
            refine lv_iload_n hx hb dX6_keep_47 rfl (lv_at hl 1 rfl) ?_
            refine lv_imul hx hb dX6_keep_48 ?_
            refine lv_iload_n hx hb dX6_keep_49 rfl (lv_at hl 2 rfl) ?_
            refine lv_iadd hx hb dX6_keep_50 ?_
            refine lv_aload_n hx hb dX6_keep_51 rfl (lv_at hl 0 rfl) ?_
            refine va_get (D := (dC, dI)) (ci := 6) (v := .ref (a 1)) (C := RX6) (T := TX6) (N := 23) hx hb hts inX6 hown hK.1 hP 0 rfl rfl 1 (by decide) (hts _ w_fieldLink_X6_7) (fun _ h9 => h9) rfl dX6_keep_52 ?_
            refine lv_iload_n hx hb dX6_keep_55 rfl (lv_at hl 2 rfl) ?_
            obtain ⟨hg9, hF⟩ := gd_use hF
            refine va_iald hx hb hK.1 hP 1 0 rfl rfl (i := s35.1) hg9 dX6_keep_56 ?_
            obtain ⟨hg10, hF⟩ := gd_use hF
            refine va_iast hx hb hK.1 hP hD hS 5 0 rfl rfl (i := (((103 : Int32) * p1) + s35.1)) (x := ((M_s s35.2) s35.1.toNatClampNeg)) hg10 dX6_keep_57 (fun H locs hP hD hS => ?_)
            have hP : va_P (dC, dI) vwCl (cM cyI a (M_set_slots s35.2 (upd (M_slots s35.2) (((103 : Int32) * p1) + s35.1).toNatClampNeg ((M_s s35.2) s35.1.toNatClampNeg)))) H := hP
            have hD : va_D A (cM cyI a (M_set_slots s35.2 (upd (M_slots s35.2) (((103 : Int32) * p1) + s35.1).toNatClampNeg ((M_s s35.2) s35.1.toNatClampNeg)))) := hD
            refine lv_iinc (v := (s35.1 + (1 : Int32))) (lv' := [(2, .int (s35.1 + (1 : Int32))), (0, .ref (a 0)), (1, .int p1)]) hx hb dX6_keep_58 hl (k := 2) rfl rfl (by decide) rfl (fun ls hl => ?_)
            refine lv_goto (tgt := 35) hx hb dX6_keep_61 (by decide) ?_
            exact ih35 ((s35.1 + (1 : Int32)), (M_set_slots s35.2 (upd (M_slots s35.2) (((103 : Int32) * p1) + s35.1).toNatClampNeg ((M_s s35.2) s35.1.toNatClampNeg)))) _ _ _ hP hD hS (lv_sub hl [1, 2, 0] rfl) hF
      exact hL35 N ((0 : Int32), (M_set_kept o4.2 ((M_kept o4.2) ||| ((1 : Int32) <<< (p1 &&& 31))))) _ _ _ hP hD hS (lv_sub hl [1, 2, 0] rfl) hF
  refine lv_if_eq (tgt := 14) hx hb dX6_keep_7 (by decide) (fun c11 => ?_) (fun c11 => ?_)
  · have hF := itp c11 hF
    refine lv_iconst (v := 1) hx hb dX6_keep_14 (by decide) ?_
    exact hJ15 (1 : Int32) _ _ _ b01_1 hP hD hS (lv_sub hl [0, 1] rfl) hF
  · have hF := itn c11 hF
    refine lv_iconst (v := 0) hx hb dX6_keep_10 (by decide) ?_
    refine lv_goto (tgt := 15) hx hb dX6_keep_11 (by decide) ?_
    exact hJ15 (0 : Int32) _ _ _ b01_0 hP hD hS (lv_sub hl [0, 1] rfl) hF
theorem dX6_goBack_0 : decode cX6_goBack 0 = .ok (.aload_n 0, 1) := by decide +kernel
theorem dX6_goBack_1 : decode cX6_goBack 1 = .ok (.iload_n 1, 1) := by decide +kernel
theorem dX6_goBack_2 : decode cX6_goBack 2 = .ok (.iconst 0, 1) := by decide +kernel
theorem dX6_goBack_3 : decode cX6_goBack 3 = .ok (.iconst 1, 1) := by decide +kernel
theorem dX6_goBack_4 : decode cX6_goBack 4 = .ok (.invokestatic 35, 3) := by decide +kernel
theorem dX6_goBack_7 : decode cX6_goBack 7 = .ok (.ifCond .ne 7, 3) := by decide +kernel
theorem dX6_goBack_10 : decode cX6_goBack 10 = .ok (.iconst 1, 1) := by decide +kernel
theorem dX6_goBack_11 : decode cX6_goBack 11 = .ok (.goto 19, 3) := by decide +kernel
theorem dX6_goBack_14 : decode cX6_goBack 14 = .ok (.aload_n 0, 1) := by decide +kernel
theorem dX6_goBack_15 : decode cX6_goBack 15 = .ok (.getfield 192, 3) := by decide +kernel
theorem dX6_goBack_18 : decode cX6_goBack 18 = .ok (.iload_n 1, 1) := by decide +kernel
theorem dX6_goBack_19 : decode cX6_goBack 19 = .ok (.ishr, 1) := by decide +kernel
theorem dX6_goBack_20 : decode cX6_goBack 20 = .ok (.iconst 1, 1) := by decide +kernel
theorem dX6_goBack_21 : decode cX6_goBack 21 = .ok (.iand, 1) := by decide +kernel
theorem dX6_goBack_22 : decode cX6_goBack 22 = .ok (.ifCond .ne 7, 3) := by decide +kernel
theorem dX6_goBack_25 : decode cX6_goBack 25 = .ok (.iconst 2, 1) := by decide +kernel
theorem dX6_goBack_26 : decode cX6_goBack 26 = .ok (.goto 4, 3) := by decide +kernel
theorem dX6_goBack_29 : decode cX6_goBack 29 = .ok (.iconst 0, 1) := by decide +kernel
theorem dX6_goBack_30 : decode cX6_goBack 30 = .ok (.invokevirtual 107, 3) := by decide +kernel
theorem dX6_goBack_33 : decode cX6_goBack 33 = .ok (.ifCond .eq 38, 3) := by decide +kernel
theorem dX6_goBack_36 : decode cX6_goBack 36 = .ok (.aload_n 0, 1) := by decide +kernel
theorem dX6_goBack_37 : decode cX6_goBack 37 = .ok (.invokevirtual 111, 3) := by decide +kernel
theorem dX6_goBack_40 : decode cX6_goBack 40 = .ok (.iconst 0, 1) := by decide +kernel
theorem dX6_goBack_41 : decode cX6_goBack 41 = .ok (.istore_n 2, 1) := by decide +kernel
theorem dX6_goBack_42 : decode cX6_goBack 42 = .ok (.iload_n 2, 1) := by decide +kernel
theorem dX6_goBack_43 : decode cX6_goBack 43 = .ok (.bipush 103, 2) := by decide +kernel
theorem dX6_goBack_45 : decode cX6_goBack 45 = .ok (.if_icmp .ge 26, 3) := by decide +kernel
theorem dX6_goBack_48 : decode cX6_goBack 48 = .ok (.aload_n 0, 1) := by decide +kernel
theorem dX6_goBack_49 : decode cX6_goBack 49 = .ok (.getfield 7, 3) := by decide +kernel
theorem dX6_goBack_52 : decode cX6_goBack 52 = .ok (.iload_n 2, 1) := by decide +kernel
theorem dX6_goBack_53 : decode cX6_goBack 53 = .ok (.aload_n 0, 1) := by decide +kernel
theorem dX6_goBack_54 : decode cX6_goBack 54 = .ok (.getfield 22, 3) := by decide +kernel
theorem dX6_goBack_57 : decode cX6_goBack 57 = .ok (.bipush 103, 2) := by decide +kernel
theorem dX6_goBack_59 : decode cX6_goBack 59 = .ok (.iload_n 1, 1) := by decide +kernel
theorem dX6_goBack_60 : decode cX6_goBack 60 = .ok (.imul, 1) := by decide +kernel
theorem dX6_goBack_61 : decode cX6_goBack 61 = .ok (.iload_n 2, 1) := by decide +kernel
theorem dX6_goBack_62 : decode cX6_goBack 62 = .ok (.iadd, 1) := by decide +kernel
theorem dX6_goBack_63 : decode cX6_goBack 63 = .ok (.iaload, 1) := by decide +kernel
theorem dX6_goBack_64 : decode cX6_goBack 64 = .ok (.iastore, 1) := by decide +kernel
theorem dX6_goBack_65 : decode cX6_goBack 65 = .ok (.iinc 2 1, 3) := by decide +kernel
theorem dX6_goBack_68 : decode cX6_goBack 68 = .ok (.goto (-26), 3) := by decide +kernel
theorem dX6_goBack_71 : decode cX6_goBack 71 = .ok (.return_, 1) := by decide +kernel
def f_X6_goBack (N : Nat) (v : MV) (p1 : Int32) : Option (MV) :=
  (f_X6_in N p1 (0 : Int32) (1 : Int32)).bind (fun o1 => jn (fun (s30 : Int32) => (f_X6_holds N v s30).bind (fun o4 => jn (fun (s71 : MV) => some s71) (fun (j71 : (MV) → Option (MV)) => (if o4.1 = 0 then j71 o4.2 else (f_X6_save N o4.2).bind (fun o8 => lpN (fun (s42 : Int32 × MV) (k42 : (Int32 × MV) → Option (MV)) => (if (103 : Int32) ≤ s42.1 then j71 s42.2 else gd (ixok (((103 : Int32) * p1) + s42.1) 206) (gd (ixok s42.1 103) (k42 ((s42.1 + (1 : Int32)), (M_set_s s42.2 (upd (M_s s42.2) s42.1.toNatClampNeg ((M_slots s42.2) (((103 : Int32) * p1) + s42.1).toNatClampNeg)))))))) N ((0 : Int32), o8)))))) (fun (j30 : (Int32) → Option (MV)) => (if o1 = 0 then j30 (1 : Int32) else (if (((M_kept v) >>> (p1 &&& 31)) &&& (1 : Int32)) = 0 then j30 (2 : Int32) else j30 (0 : Int32)))))
set_option maxHeartbeats 4000000 in
set_option maxRecDepth 100000 in
theorem met_X6_goBack (l : Launch) (dC : Nat → ClassId) (dI : Nat → Nat → Nat) (cyI cyO cyL : ClassId) (a : Nat → Nat) (sz : Nat) (N : Nat) (v : MV) (p1 : Int32) (out : MV) (hF : f_X6_goBack N v p1 = some out) : Met l yX6_goBack (Cond.code yX6_goBack cX6_goBack 3 none :: wT) ({ frames := 1, cells := 0, slots := 0, locals := 22 } : Room) (wWr dC dI cyI cyO cyL [.ref (a 0), .int p1] (cM cyI a v) sz) (va_Qv (fun (u : MV) => u = out) (fun u t => va_P (dC, dI) vwCl (cM cyI a u) t.heap ∧ va_D (va_A (cM cyI a v) sz) (cM cyI a u)) (va_A (cM cyI a v) sz)) 0 0 (va_A (cM cyI a v) sz) := by
  refine Met.ofW (cc := cX6_goBack) (maxL := 3) (ret := none) (by decide) rfl ?_
  intro p e s m args below meth c s₁ B hml hv
  obtain ⟨rfl, hsz, hP, hK, hD0⟩ := hv
  have hx := B.exec
  have hb := B.bytes
  have hr := B.returns
  have hts0 := atoms_spec (ws := (Cond.code yX6_goBack cX6_goBack 3 none :: wT)) B.pre
  have hts := fun w h => hts0 w (List.mem_cons_of_mem _ h)
  clear hts0
  have hown : s.vm.findClass RX6 = some m.cls := findClass_of_methodNamed B.named
  have hlocks := B.notSynchronized
  subst hsz
  have hD := hD0.self (sz := s.heap.size)
  generalize hAe : va_A (cM cyI a v) s.heap.size = A at hD ⊢
  have hA : ∀ q : Nat, s.heap.size ≤ q → A q := fun q h => by rw [← hAe]; exact Or.inr h
  clear hD0
  have hS : va_S A s.heap s.heap [] := va_S.rf
  have hl := lv_entry [.ref (a 0), .int p1] (n := 3) (Nat.le_of_ble_eq_true rfl)
  rw [lg_entry_eq]
  generalize (lg_sl [.ref (a 0), .int p1] ++ List.replicate (3 - (lg_sl [.ref (a 0), .int p1]).length) Slot.unset).toArray = ls at hl ⊢
  have hl : lv_has ls 3 [(0, .ref (a 0)), (1, .int p1)] := hl
  unfold f_X6_goBack at hF
  refine lv_aload_n hx hb dX6_goBack_0 rfl (lv_at hl 0 rfl) ?_
  refine lv_iload_n hx hb dX6_goBack_1 rfl (lv_at hl 1 rfl) ?_
  refine lv_iconst (v := 0) hx hb dX6_goBack_2 (by decide) ?_
  refine lv_iconst (v := 1) hx hb dX6_goBack_3 (by decide) ?_
  obtain ⟨o1, h2, hF⟩ := obd hF
  refine wcRSi (As := [.int p1, .int (0 : Int32), .int (1 : Int32)]) (rest := [.ref (a 0)]) ⟨hx, hb, hml, hown, hts⟩ (met_X6_in l dC dI cyI cyO cyL  N  p1 (0 : Int32) (1 : Int32) o1 h2) (va_cwS 3 hts (gS w_methodLink_X6_35 w_static_X6_in w_initialized_X6 w_code_X6_in) rfl rfl rfl (by decide +kernel) ⟨Nat.le_of_ble_eq_true rfl, Nat.le_of_ble_eq_true rfl⟩) hP hK [] rfl rfl hl.1 (Nat.le_of_ble_eq_true rfl) dX6_goBack_4 ⟨Nat.le_of_ble_eq_true rfl, Nat.le_of_ble_eq_true rfl⟩ hS (fun r H locs hw hP hS => ?_)
  obtain ⟨hw, hz3⟩ := hw
  have hw := hw.symm
  subst hw
  obtain ⟨j30, hj30, hF⟩ := jn_use hF
  have hJ30 : ∀ (s30 : Int32) (H : Heap) (locs : List Loc) (ls : Array Slot), va_P (dC, dI) vwCl (cM cyI a v) H → va_D A (cM cyI a v) → va_S A s.heap H locs → lv_has ls 3 [(0, .ref (a 0)), (1, .int p1)] → j30 s30 = some out → W p l e (headSpec (Cond.code yX6_goBack cX6_goBack 3 none :: wT) ({ frames := 1, cells := 0, slots := 0, locals := 22 } : Room)).room s m ([.ref (a 0), .int p1] : List Value).toArray below meth c H locs 0 0 (MQ below (va_Qv (fun (u : MV) => u = out) (fun u t => va_P (dC, dI) vwCl (cM cyI a u) t.heap ∧ va_D A (cM cyI a u)) A) ([.ref (a 0), .int p1] : List Value).toArray s 0 0 A) (F0 m 30 ls [.int s30, .ref (a 0)]) := by
    intro s30 H locs ls hP hD hS hl hF
    have hF := (congrFun hj30 s30).symm.trans hF
    obtain ⟨o4, h5, hF⟩ := obd hF
    refine wcWVi (As := [.int s30]) (rest := []) (wr := []) (b := (a 0)) ⟨hx, hb, hml, hown, hts⟩ (met_X6_holds l dC dI cyI cyO cyL a _ N v s30 o4 h5) (cwV 1 hts (gV w_methodLink_X6_107 w_instanceMethod_X6_holds w_selects_X6_holds w_initialized_X6 w_code_X6_holds) rfl rfl rfl (by decide +kernel) ⟨Nat.le_of_ble_eq_true rfl, Nat.le_of_ble_eq_true rfl⟩) (va_recv hK.1 hP (ci := 6) (q0 := 0) rfl rfl) hP hD hK [0, 1, 2, 3, 4, 5, 6, 7] [] rfl rfl (by decide) (by decide) (by decide) rfl hl.1 (Nat.le_of_ble_eq_true rfl) dX6_goBack_30 ⟨Nat.le_of_ble_eq_true rfl, Nat.le_of_ble_eq_true rfl⟩ hS hA (fun r u H locs hw hP hD hS => ?_)
    obtain ⟨hw, hz6⟩ := hw
    obtain rfl : r = o4.1 := congrArg Prod.fst hw
    obtain rfl : u = o4.2 := congrArg Prod.snd hw
    clear hw
    have hP : va_P (dC, dI) vwCl (cM cyI a o4.2) H := hP
    have hD : va_D A (cM cyI a o4.2) := hD
    obtain ⟨j71, hj71, hF⟩ := jn_use hF
    have hJ71 : ∀ (s71 : MV) (H : Heap) (locs : List Loc) (ls : Array Slot), va_P (dC, dI) vwCl (cM cyI a s71) H → va_D A (cM cyI a s71) → va_S A s.heap H locs → lv_has ls 3 [] → j71 s71 = some out → W p l e (headSpec (Cond.code yX6_goBack cX6_goBack 3 none :: wT) ({ frames := 1, cells := 0, slots := 0, locals := 22 } : Room)).room s m ([.ref (a 0), .int p1] : List Value).toArray below meth c H locs 0 0 (MQ below (va_Qv (fun (u : MV) => u = out) (fun u t => va_P (dC, dI) vwCl (cM cyI a u) t.heap ∧ va_D A (cM cyI a u)) A) ([.ref (a 0), .int p1] : List Value).toArray s 0 0 A) (F0 m 71 ls []) := by
      intro s71 H locs ls hP hD hS hl hF
      have hF := (congrFun hj71 s71).symm.trans hF
      exact W.vret hx hb hr (fun t ht hW => ⟨⟨_, rfl, Option.some.inj hF, by rw [ht]; exact hP, hD⟩, hS.F ht⟩) hS.2.2 dX6_goBack_71
    refine lv_if_eq (tgt := 71) hx hb dX6_goBack_33 (by decide) (fun c7 => ?_) (fun c7 => ?_)
    · have hF := itp c7 hF
      exact hJ71 o4.2 _ _ _ hP hD hS (lv_sub hl [] rfl) hF
    · have hF := itn c7 hF
      refine lv_aload_n hx hb dX6_goBack_36 rfl (lv_at hl 0 rfl) ?_
      obtain ⟨o8, h9, hF⟩ := obd hF
      refine wcWVv (As := []) (rest := []) (wr := []) (b := (a 0)) ⟨hx, hb, hml, hown, hts⟩ (met_X6_save l dC dI cyI cyO cyL a _ N o4.2  o8 h9) (cwV 0 hts (gV w_methodLink_X6_111 w_instanceMethod_X6_save w_selects_X6_save w_initialized_X6 w_code_X6_save) rfl rfl rfl (by decide +kernel) ⟨Nat.le_of_ble_eq_true rfl, Nat.le_of_ble_eq_true rfl⟩) (va_recv hK.1 hP (ci := 6) (q0 := 0) rfl rfl) hP hD hK [0, 1, 2, 3, 4, 5, 6, 7] [] rfl rfl (by decide) (by decide) (by decide) rfl hl.1 (Nat.le_of_ble_eq_true rfl) dX6_goBack_37 ⟨Nat.le_of_ble_eq_true rfl, Nat.le_of_ble_eq_true rfl⟩ hS hA (fun u H locs hw hP hD hS => ?_)
      have hw := hw.symm
      subst hw
      have hP : va_P (dC, dI) vwCl (cM cyI a o8) H := hP
      have hD : va_D A (cM cyI a o8) := hD
      refine lv_iconst (v := 0) hx hb dX6_goBack_40 (by decide) ?_
      refine lv_istore_n (lv' := [(2, .int (0 : Int32)), (0, .ref (a 0)), (1, .int p1)]) hx hb dX6_goBack_41 rfl hl (by decide) rfl (fun ls hl => ?_)
      obtain ⟨st42, hst42, hF⟩ := lpN_use hF
      have hL42 : ∀ (n : Nat) (s42 : Int32 × MV) (H : Heap) (locs : List Loc) (ls : Array Slot), va_P (dC, dI) vwCl (cM cyI a s42.2) H → va_D A (cM cyI a s42.2) → va_S A s.heap H locs → lv_has ls 3 [(0, .ref (a 0)), (1, .int p1), (2, .int s42.1)] → lpN st42 n s42 = some out → W p l e (headSpec (Cond.code yX6_goBack cX6_goBack 3 none :: wT) ({ frames := 1, cells := 0, slots := 0, locals := 22 } : Room)).room s m ([.ref (a 0), .int p1] : List Value).toArray below meth c H locs 0 0 (MQ below (va_Qv (fun (u : MV) => u = out) (fun u t => va_P (dC, dI) vwCl (cM cyI a u) t.heap ∧ va_D A (cM cyI a u)) A) ([.ref (a 0), .int p1] : List Value).toArray s 0 0 A) (F0 m 42 ls []) := by
        intro n
        induction n with
        | zero => intro s42 H locs ls hP hD hS hl hF; exact lpN_0 hF
        | succ n ih42 =>
          intro s42 H locs ls hP hD hS hl hF
          have hF := (congrFun (congrFun hst42 s42) (lpN st42 n)).symm.trans (lpN_s hF)
          refine lv_iload_n hx hb dX6_goBack_42 rfl (lv_at hl 2 rfl) ?_
          refine lv_bipush (v := 103) hx hb dX6_goBack_43 (by decide) ?_
          refine lv_icmp_ge (tgt := 71) hx hb dX6_goBack_45 (by decide) (fun c10 => ?_) (fun c10 => ?_)
          · have hF := itp c10 hF
            exact hJ71 s42.2 _ _ _ hP hD hS (lv_sub hl [] rfl) hF
          · have hF := itn c10 hF
            refine lv_aload_n hx hb dX6_goBack_48 rfl (lv_at hl 0 rfl) ?_
            refine va_get (D := (dC, dI)) (ci := 6) (v := .ref (a 1)) (C := RX6) (T := TX6) (N := 23) hx hb hts inX6 hown hK.1 hP 0 rfl rfl 1 (by decide) (hts _ w_fieldLink_X6_7) (fun _ h9 => h9) rfl dX6_goBack_49 ?_
            refine lv_iload_n hx hb dX6_goBack_52 rfl (lv_at hl 2 rfl) ?_
            refine lv_aload_n hx hb dX6_goBack_53 rfl (lv_at hl 0 rfl) ?_
            refine va_get (D := (dC, dI)) (ci := 6) (v := .ref (a 5)) (C := RX6) (T := TX6) (N := 23) hx hb hts inX6 hown hK.1 hP 0 rfl rfl 6 (by decide) (hts _ w_fieldLink_X6_22) (fun _ h9 => h9) rfl dX6_goBack_54 ?_
            refine lv_bipush (v := 103) hx hb dX6_goBack_57 (by decide) ?_
            refine lv_iload_n hx hb dX6_goBack_59 rfl (lv_at hl 1 rfl) ?_
            refine lv_imul hx hb dX6_goBack_60 ?_
            refine lv_iload_n hx hb dX6_goBack_61 rfl (lv_at hl 2 rfl) ?_
            refine lv_iadd hx hb dX6_goBack_62 ?_
            obtain ⟨hg11, hF⟩ := gd_use hF
            refine va_iald hx hb hK.1 hP 5 0 rfl rfl (i := (((103 : Int32) * p1) + s42.1)) hg11 dX6_goBack_63 ?_
            obtain ⟨hg12, hF⟩ := gd_use hF
            refine va_iast hx hb hK.1 hP hD hS 1 0 rfl rfl (i := s42.1) (x := ((M_slots s42.2) (((103 : Int32) * p1) + s42.1).toNatClampNeg)) hg12 dX6_goBack_64 (fun H locs hP hD hS => ?_)
            have hP : va_P (dC, dI) vwCl (cM cyI a (M_set_s s42.2 (upd (M_s s42.2) s42.1.toNatClampNeg ((M_slots s42.2) (((103 : Int32) * p1) + s42.1).toNatClampNeg)))) H := hP
            have hD : va_D A (cM cyI a (M_set_s s42.2 (upd (M_s s42.2) s42.1.toNatClampNeg ((M_slots s42.2) (((103 : Int32) * p1) + s42.1).toNatClampNeg)))) := hD
            refine lv_iinc (v := (s42.1 + (1 : Int32))) (lv' := [(2, .int (s42.1 + (1 : Int32))), (0, .ref (a 0)), (1, .int p1)]) hx hb dX6_goBack_65 hl (k := 2) rfl rfl (by decide) rfl (fun ls hl => ?_)
            refine lv_goto (tgt := 42) hx hb dX6_goBack_68 (by decide) ?_
            exact ih42 ((s42.1 + (1 : Int32)), (M_set_s s42.2 (upd (M_s s42.2) s42.1.toNatClampNeg ((M_slots s42.2) (((103 : Int32) * p1) + s42.1).toNatClampNeg)))) _ _ _ hP hD hS (lv_sub hl [1, 2, 0] rfl) hF
      exact hL42 N ((0 : Int32), o8) _ _ _ hP hD hS (lv_sub hl [1, 2, 0] rfl) hF
  refine lv_if_ne (tgt := 14) hx hb dX6_goBack_7 (by decide) (fun c13 => ?_) (fun c13 => ?_)
  · have hF := itn c13 hF
    refine lv_aload_n hx hb dX6_goBack_14 rfl (lv_at hl 0 rfl) ?_
    refine va_get (D := (dC, dI)) (ci := 6) (v := .int (M_kept v)) (C := RX6) (T := TX6) (N := 23) hx hb hts inX6 hown hK.1 hP 0 rfl rfl 7 (by decide) (hts _ w_fieldLink_X6_192) (fun _ h9 => h9) rfl dX6_goBack_15 ?_
    refine lv_iload_n hx hb dX6_goBack_18 rfl (lv_at hl 1 rfl) ?_
    refine lv_ishr hx hb dX6_goBack_19 ?_
    refine lv_iconst (v := 1) hx hb dX6_goBack_20 (by decide) ?_
    refine lv_iand hx hb dX6_goBack_21 ?_
    refine lv_if_ne (tgt := 29) hx hb dX6_goBack_22 (by decide) (fun c14 => ?_) (fun c14 => ?_)
    · have hF := itn c14 hF
      refine lv_iconst (v := 0) hx hb dX6_goBack_29 (by decide) ?_
      exact hJ30 (0 : Int32) _ _ _ hP hD hS (lv_sub hl [0, 1] rfl) hF
    · have hF := itp c14 hF
      refine lv_iconst (v := 2) hx hb dX6_goBack_25 (by decide) ?_
      refine lv_goto (tgt := 30) hx hb dX6_goBack_26 (by decide) ?_
      exact hJ30 (2 : Int32) _ _ _ hP hD hS (lv_sub hl [0, 1] rfl) hF
  · have hF := itp c13 hF
    refine lv_iconst (v := 1) hx hb dX6_goBack_10 (by decide) ?_
    refine lv_goto (tgt := 30) hx hb dX6_goBack_11 (by decide) ?_
    exact hJ30 (1 : Int32) _ _ _ hP hD hS (lv_sub hl [0, 1] rfl) hF
