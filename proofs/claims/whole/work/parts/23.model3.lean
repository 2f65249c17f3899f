/-! written by program from the bytecode: what each method computes, and its contract -/

theorem dX6_nearest_0 : decode cX6_nearest 0 = .ok (.aload_n 0, 1) := by decide +kernel
theorem dX6_nearest_1 : decode cX6_nearest 1 = .ok (.invokevirtual 85, 3) := by decide +kernel
theorem dX6_nearest_4 : decode cX6_nearest 4 = .ok (.aload_n 0, 1) := by decide +kernel
theorem dX6_nearest_5 : decode cX6_nearest 5 = .ok (.iload_n 1, 1) := by decide +kernel
theorem dX6_nearest_6 : decode cX6_nearest 6 = .ok (.iconst 0, 1) := by decide +kernel
theorem dX6_nearest_7 : decode cX6_nearest 7 = .ok (.aload_n 0, 1) := by decide +kernel
theorem dX6_nearest_8 : decode cX6_nearest 8 = .ok (.getfield 78, 3) := by decide +kernel
theorem dX6_nearest_11 : decode cX6_nearest 11 = .ok (.iconst 1, 1) := by decide +kernel
theorem dX6_nearest_12 : decode cX6_nearest 12 = .ok (.isub, 1) := by decide +kernel
theorem dX6_nearest_13 : decode cX6_nearest 13 = .ok (.invokestatic 35, 3) := by decide +kernel
theorem dX6_nearest_16 : decode cX6_nearest 16 = .ok (.ifCond .eq 17, 3) := by decide +kernel
theorem dX6_nearest_19 : decode cX6_nearest 19 = .ok (.aload_n 0, 1) := by decide +kernel
theorem dX6_nearest_20 : decode cX6_nearest 20 = .ok (.getfield 7, 3) := by decide +kernel
theorem dX6_nearest_23 : decode cX6_nearest 23 = .ok (.iconst 0, 1) := by decide +kernel
theorem dX6_nearest_24 : decode cX6_nearest 24 = .ok (.iaload, 1) := by decide +kernel
theorem dX6_nearest_25 : decode cX6_nearest 25 = .ok (.iconst 1, 1) := by decide +kernel
theorem dX6_nearest_26 : decode cX6_nearest 26 = .ok (.if_icmp .ne 7, 3) := by decide +kernel
theorem dX6_nearest_29 : decode cX6_nearest 29 = .ok (.iconst 0, 1) := by decide +kernel
theorem dX6_nearest_30 : decode cX6_nearest 30 = .ok (.goto 4, 3) := by decide +kernel
theorem dX6_nearest_33 : decode cX6_nearest 33 = .ok (.iconst 1, 1) := by decide +kernel
theorem dX6_nearest_34 : decode cX6_nearest 34 = .ok (.invokevirtual 107, 3) := by decide +kernel
theorem dX6_nearest_37 : decode cX6_nearest 37 = .ok (.ifCond .eq 12, 3) := by decide +kernel
theorem dX6_nearest_40 : decode cX6_nearest 40 = .ok (.aload_n 0, 1) := by decide +kernel
theorem dX6_nearest_41 : decode cX6_nearest 41 = .ok (.getfield 28, 3) := by decide +kernel
theorem dX6_nearest_44 : decode cX6_nearest 44 = .ok (.iload_n 1, 1) := by decide +kernel
theorem dX6_nearest_45 : decode cX6_nearest 45 = .ok (.iaload, 1) := by decide +kernel
theorem dX6_nearest_46 : decode cX6_nearest 46 = .ok (.goto 4, 3) := by decide +kernel
theorem dX6_nearest_49 : decode cX6_nearest 49 = .ok (.iconst 0, 1) := by decide +kernel
theorem dX6_nearest_50 : decode cX6_nearest 50 = .ok (.ireturn, 1) := by decide +kernel
def f_X6_nearest (N : Nat) (v : MV) (p1 : Int32) : Option (Int32 × MV) :=
  (f_X6_laysOrder N v).bind (fun o1 => (f_X6_in N p1 (0 : Int32) ((M_orderMany o1) - (1 : Int32))).bind (fun o3 => jn (fun (s34 : Int32) => (f_X6_holds N o1 s34).bind (fun o6 => jn (fun (s50 : Int32) => some (s50, o6.2)) (fun (j50 : (Int32) → Option (Int32 × MV)) => (if o6.1 = 0 then j50 (0 : Int32) else gd (ixok p1 8) (j50 ((M_order o6.2) p1.toNatClampNeg)))))) (fun (j34 : (Int32) → Option (Int32 × MV)) => jn (fun (s33 : Unit) => j34 (1 : Int32)) (fun (j33 : (Unit) → Option (Int32 × MV)) => (if o3 = 0 then j33 () else (if ((M_s o1) (0 : Int32).toNatClampNeg) = (1 : Int32) then j34 (0 : Int32) else j33 ()))))))
set_option maxHeartbeats 4000000 in
set_option maxRecDepth 100000 in
theorem met_X6_nearest (l : Launch) (dC : Nat → ClassId) (dI : Nat → Nat → Nat) (cyI cyO cyL : ClassId) (a : Nat → Nat) (sz : Nat) (N : Nat) (v : MV) (p1 : Int32) (out : Int32 × MV) (hF : f_X6_nearest N v p1 = some out) : Met l yX6_nearest (Cond.code yX6_nearest cX6_nearest 2 (some .int) :: wT) ({ frames := 3, cells := 0, slots := 0, locals := 67 } : Room) (wWr dC dI cyI cyO cyL [.ref (a 0), .int p1] (cM cyI a v) sz) (va_Qi (fun (r : Int32) (u : MV) => (r, u) = out) (fun u t => va_P (dC, dI) vwCl (cM cyI a u) t.heap ∧ va_D (va_A (cM cyI a v) sz) (cM cyI a u)) (va_A (cM cyI a v) sz)) 0 0 (va_A (cM cyI a v) sz) := by
  refine Met.ofW (cc := cX6_nearest) (maxL := 2) (ret := (some .int)) (by decide) rfl ?_
  intro p e s m args below meth c s₁ B hml hv
  obtain ⟨rfl, hsz, hP, hK, hD0⟩ := hv
  have hx := B.exec
  have hb := B.bytes
  have hr := B.returns
  have hts0 := atoms_spec (ws := (Cond.code yX6_nearest cX6_nearest 2 (some .int) :: wT)) B.pre
  have hts := fun w h => hts0 w (List.mem_cons_of_mem _ h)
  clear hts0
  have hown : s.vm.findClass RX6 = some m.cls := findClass_of_methodNamed B.named
  have hlocks := B.notSynchronized
  subst hsz
  have hD := hD0.self (sz := s.heap.size)
  generalize hAe : va_A (cM cyI a v) s.heap.size = A at hD ⊢
  have hA : ∀ q : Nat, s.heap.size ≤ q → A q := fun q h => by rw [← hAe]; exact Or.inr h
  clear hD0
  have hS : va_S A s.heap s.heap [] := va_S.rf
  have hl := lv_entry [.ref (a 0), .int p1] (n := 2) (Nat.le_of_ble_eq_true rfl)
  rw [lg_entry_eq]
  generalize (lg_sl [.ref (a 0), .int p1] ++ List.replicate (2 - (lg_sl [.ref (a 0), .int p1]).length) Slot.unset).toArray = ls at hl ⊢
  have hl : lv_has ls 2 [(0, .ref (a 0)), (1, .int p1)] := hl
  unfold f_X6_nearest at hF
  refine lv_aload_n hx hb dX6_nearest_0 rfl (lv_at hl 0 rfl) ?_
  obtain ⟨o1, h2, hF⟩ := obd hF
  refine wcWVv (As := []) (rest := []) (wr := []) (b := (a 0)) ⟨hx, hb, hml, hown, hts⟩ (met_X6_laysOrder l dC dI cyI cyO cyL a _ N v  o1 h2) (cwV 0 hts (gV w_methodLink_X6_85 w_instanceMethod_X6_laysOrder w_selects_X6_laysOrder w_initialized_X6 w_code_X6_laysOrder) rfl rfl rfl (by decide +kernel) ⟨Nat.le_of_ble_eq_true rfl, Nat.le_of_ble_eq_true rfl⟩) (va_recv hK.1 hP (ci := 6) (q0 := 0) rfl rfl) hP hD hK [0, 1, 2, 3, 4, 5, 6, 7] [] rfl rfl (by decide) (by decide) (by decide) rfl hl.1 (Nat.le_of_ble_eq_true rfl) dX6_nearest_1 ⟨Nat.le_of_ble_eq_true rfl, Nat.le_of_ble_eq_true rfl⟩ hS hA (fun u H locs hw hP hD hS => ?_)
  have hw := hw.symm
  subst hw
  have hP : va_P (dC, dI) vwCl (cM cyI a o1) H := hP
  have hD : va_D A (cM cyI a o1) := hD
  refine lv_aload_n hx hb dX6_nearest_4 rfl (lv_at hl 0 rfl) ?_
  refine lv_iload_n hx hb dX6_nearest_5 rfl (lv_at hl 1 rfl) ?_
  refine lv_iconst (v := 0) hx hb dX6_nearest_6 (by decide) ?_
  refine lv_aload_n hx hb dX6_nearest_7 rfl (lv_at hl 0 rfl) ?_
  refine va_get (D := (dC, dI)) (ci := 6) (v := .int (M_orderMany o1)) (C := RX6) (T := TX6) (N := 23) hx hb hts inX6 hown hK.1 hP 0 rfl rfl 12 (by decide) (hts _ w_fieldLink_X6_78) (fun _ h9 => h9) rfl dX6_nearest_8 ?_
  refine lv_iconst (v := 1) hx hb dX6_nearest_11 (by decide) ?_
  refine lv_isub hx hb dX6_nearest_12 ?_
  obtain ⟨o3, h4, hF⟩ := obd hF
  refine wcRSi (As := [.int p1, .int (0 : Int32), .int ((M_orderMany o1) - (1 : Int32))]) (rest := [.ref (a 0)]) ⟨hx, hb, hml, hown, hts⟩ (met_X6_in l dC dI cyI cyO cyL  N  p1 (0 : Int32) ((M_orderMany o1) - (1 : Int32)) o3 h4) (va_cwS 3 hts (gS w_methodLink_X6_35 w_static_X6_in w_initialized_X6 w_code_X6_in) rfl rfl rfl (by decide +kernel) ⟨Nat.le_of_ble_eq_true rfl, Nat.le_of_ble_eq_true rfl⟩) hP hK [] rfl rfl hl.1 (Nat.le_of_ble_eq_true rfl) dX6_nearest_13 ⟨Nat.le_of_ble_eq_true rfl, Nat.le_of_ble_eq_true rfl⟩ hS (fun r H locs hw hP hS => ?_)
  obtain ⟨hw, hz5⟩ := hw
  have hw := hw.symm
  subst hw
  obtain ⟨j34, hj34, hF⟩ := jn_use hF
  have hJ34 : ∀ (s34 : Int32) (H : Heap) (locs : List Loc) (ls : Array Slot) (hz_34_s1 : b01 s34), va_P (dC, dI) vwCl (cM cyI a o1) H → va_D A (cM cyI a o1) → va_S A s.heap H locs → lv_has ls 2 [(0, .ref (a 0)), (1, .int p1)] → j34 s34 = some out → W p l e (headSpec (Cond.code yX6_nearest cX6_nearest 2 (some .int) :: wT) ({ frames := 3, cells := 0, slots := 0, locals := 67 } : Room)).room s m ([.ref (a 0), .int p1] : List Value).toArray below meth c H locs 0 0 (MQ below (va_Qi (fun (r : Int32) (u : MV) => (r, u) = out) (fun u t => va_P (dC, dI) vwCl (cM cyI a u) t.heap ∧ va_D A (cM cyI a u)) A) ([.ref (a 0), .int p1] : List Value).toArray s 0 0 A) (F0 m 34 ls [.int s34, .ref (a 0)]) := by
    intro s34 H locs ls hz_34_s1 hP hD hS hl hF
    have hF := (congrFun hj34 s34).symm.trans hF
    obtain ⟨o6, h7, hF⟩ := obd hF
    refine wcWVi (As := [.int s34]) (rest := []) (wr := []) (b := (a 0)) ⟨hx, hb, hml, hown, hts⟩ (met_X6_holds l dC dI cyI cyO cyL a _ N o1 s34 o6 h7) (cwV 1 hts (gV w_methodLink_X6_107 w_instanceMethod_X6_holds w_selects_X6_holds w_initialized_X6 w_code_X6_holds) rfl rfl rfl (by decide +kernel) ⟨Nat.le_of_ble_eq_true rfl, Nat.le_of_ble_eq_true rfl⟩) (va_recv hK.1 hP (ci := 6) (q0 := 0) rfl rfl) hP hD hK [0, 1, 2, 3, 4, 5, 6, 7] [] rfl rfl (by decide) (by decide) (by decide) rfl hl.1 (Nat.le_of_ble_eq_true rfl) dX6_nearest_34 ⟨Nat.le_of_ble_eq_true rfl, Nat.le_of_ble_eq_true rfl⟩ hS hA (fun r u H locs hw hP hD hS => ?_)
    obtain ⟨hw, hz8⟩ := hw
    obtain rfl : r = o6.1 := congrArg Prod.fst hw
    obtain rfl : u = o6.2 := congrArg Prod.snd hw
    clear hw
    have hP : va_P (dC, dI) vwCl (cM cyI a o6.2) H := hP
    have hD : va_D A (cM cyI a o6.2) := hD
    obtain ⟨j50, hj50, hF⟩ := jn_use hF
    have hJ50 : ∀ (s50 : Int32) (H : Heap) (locs : List Loc) (ls : Array Slot), va_P (dC, dI) vwCl (cM cyI a o6.2) H → va_D A (cM cyI a o6.2) → va_S A s.heap H locs → lv_has ls 2 [] → j50 s50 = some out → W p l e (headSpec (Cond.code yX6_nearest cX6_nearest 2 (some .int) :: wT) ({ frames := 3, cells := 0, slots := 0, locals := 67 } : Room)).room s m ([.ref (a 0), .int p1] : List Value).toArray below meth c H locs 0 0 (MQ below (va_Qi (fun (r : Int32) (u : MV) => (r, u) = out) (fun u t => va_P (dC, dI) vwCl (cM cyI a u) t.heap ∧ va_D A (cM cyI a u)) A) ([.ref (a 0), .int p1] : List Value).toArray s 0 0 A) (F0 m 50 ls [.int s50]) := by
      intro s50 H locs ls hP hD hS hl hF
      have hF := (congrFun hj50 s50).symm.trans hF
      exact W.iret (v := s50) hx hb hr (fun t ht hW => ⟨⟨_, o6.2, rfl, Option.some.inj hF, by rw [ht]; exact hP, hD⟩, hS.F ht⟩) hS.2.2 dX6_nearest_50
    refine lv_if_eq (tgt := 49) hx hb dX6_nearest_37 (by decide) (fun c9 => ?_) (fun c9 => ?_)
    · have hF := itp c9 hF
      refine lv_iconst (v := 0) hx hb dX6_nearest_49 (by decide) ?_
      exact hJ50 (0 : Int32) _ _ _ hP hD hS (lv_sub hl [] rfl) hF
    · have hF := itn c9 hF
      refine lv_aload_n hx hb dX6_nearest_40 rfl (lv_at hl 0 rfl) ?_
      refine va_get (D := (dC, dI)) (ci := 6) (v := .ref (a 7)) (C := RX6) (T := TX6) (N := 23) hx hb hts inX6 hown hK.1 hP 0 rfl rfl 11 (by decide) (hts _ w_fieldLink_X6_28) (fun _ h9 => h9) rfl dX6_nearest_41 ?_
      refine lv_iload_n hx hb dX6_nearest_44 rfl (lv_at hl 1 rfl) ?_
      obtain ⟨hg10, hF⟩ := gd_use hF
      refine va_iald hx hb hK.1 hP 7 0 rfl rfl (i := p1) hg10 dX6_nearest_45 ?_
      refine lv_goto (tgt := 50) hx hb dX6_nearest_46 (by decide) ?_
      exact hJ50 ((M_order o6.2) p1.toNatClampNeg) _ _ _ hP hD hS (lv_sub hl [] rfl) hF
  obtain ⟨j33, hj33, hF⟩ := jn_use hF
  have hJ33 : ∀ (s33 : Unit) (H : Heap) (locs : List Loc) (ls : Array Slot), va_P (dC, dI) vwCl (cM cyI a o1) H → va_D A (cM cyI a o1) → va_S A s.heap H locs → lv_has ls 2 [(0, .ref (a 0)), (1, .int p1)] → j33 s33 = some out → W p l e (headSpec (Cond.code yX6_nearest cX6_nearest 2 (some .int) :: wT) ({ frames := 3, cells := 0, slots := 0, locals := 67 } : Room)).room s m ([.ref (a 0), .int p1] : List Value).toArray below meth c H locs 0 0 (MQ below (va_Qi (fun (r : Int32) (u : MV) => (r, u) = out) (fun u t => va_P (dC, dI) vwCl (cM cyI a u) t.heap ∧ va_D A (cM cyI a u)) A) ([.ref (a 0), .int p1] : List Value).toArray s 0 0 A) (F0 m 33 ls [.ref (a 0)]) := by
    intro s33 H locs ls hP hD hS hl hF
    have hF := (congrFun hj33 s33).symm.trans hF
    refine lv_iconst (v := 1) hx hb dX6_nearest_33 (by decide) ?_
    exact hJ34 (1 : Int32) _ _ _ b01_1 hP hD hS (lv_sub hl [0, 1] rfl) hF
  refine lv_if_eq (tgt := 33) hx hb dX6_nearest_16 (by decide) (fun c11 => ?_) (fun c11 => ?_)
  · have hF := itp c11 hF
    exact hJ33 () _ _ _ hP hD hS (lv_sub hl [0, 1] rfl) hF
  · have hF := itn c11 hF
    refine lv_aload_n hx hb dX6_nearest_19 rfl (lv_at hl 0 rfl) ?_
    refine va_get (D := (dC, dI)) (ci := 6) (v := .ref (a 1)) (C := RX6) (T := TX6) (N := 23) hx hb hts inX6 hown hK.1 hP 0 rfl rfl 1 (by decide) (hts _ w_fieldLink_X6_7) (fun _ h9 => h9) rfl dX6_nearest_20 ?_
    refine lv_iconst (v := 0) hx hb dX6_nearest_23 (by decide) ?_
    refine va_iald hx hb hK.1 hP 1 0 rfl rfl (i := (0 : Int32)) (show ixok (0 : Int32) 103 by decide) dX6_nearest_24 ?_
    refine lv_iconst (v := 1) hx hb dX6_nearest_25 (by decide) ?_
    refine lv_icmp_ne (tgt := 33) hx hb dX6_nearest_26 (by decide) (fun c13 => ?_) (fun c13 => ?_)
    · have hF := itn c13 hF
      exact hJ33 () _ _ _ hP hD hS (lv_sub hl [0, 1] rfl) hF
    · have hF := itp c13 hF
      refine lv_iconst (v := 0) hx hb dX6_nearest_29 (by decide) ?_
      refine lv_goto (tgt := 34) hx hb dX6_nearest_30 (by decide) ?_
      exact hJ34 (0 : Int32) _ _ _ b01_0 hP hD hS (lv_sub hl [0, 1] rfl) hF
theorem dX6_alive_0 : decode cX6_alive 0 = .ok (.iconst 0, 1) := by decide +kernel
theorem dX6_alive_1 : decode cX6_alive 1 = .ok (.istore_n 2, 1) := by decide +kernel
theorem dX6_alive_2 : decode cX6_alive 2 = .ok (.iconst 0, 1) := by decide +kernel
theorem dX6_alive_3 : decode cX6_alive 3 = .ok (.istore_n 3, 1) := by decide +kernel
theorem dX6_alive_4 : decode cX6_alive 4 = .ok (.iload_n 3, 1) := by decide +kernel
theorem dX6_alive_5 : decode cX6_alive 5 = .ok (.aload_n 0, 1) := by decide +kernel
theorem dX6_alive_6 : decode cX6_alive 6 = .ok (.getfield 7, 3) := by decide +kernel
theorem dX6_alive_9 : decode cX6_alive 9 = .ok (.iconst 3, 1) := by decide +kernel
theorem dX6_alive_10 : decode cX6_alive 10 = .ok (.iaload, 1) := by decide +kernel
theorem dX6_alive_11 : decode cX6_alive 11 = .ok (.if_icmp .ge 36, 3) := by decide +kernel
theorem dX6_alive_14 : decode cX6_alive 14 = .ok (.iload_n 2, 1) := by decide +kernel
theorem dX6_alive_15 : decode cX6_alive 15 = .ok (.aload_n 0, 1) := by decide +kernel
theorem dX6_alive_16 : decode cX6_alive 16 = .ok (.iload_n 3, 1) := by decide +kernel
theorem dX6_alive_17 : decode cX6_alive 17 = .ok (.invokevirtual 88, 3) := by decide +kernel
theorem dX6_alive_20 : decode cX6_alive 20 = .ok (.iload_n 1, 1) := by decide +kernel
theorem dX6_alive_21 : decode cX6_alive 21 = .ok (.if_icmp .ne 17, 3) := by decide +kernel
theorem dX6_alive_24 : decode cX6_alive 24 = .ok (.aload_n 0, 1) := by decide +kernel
theorem dX6_alive_25 : decode cX6_alive 25 = .ok (.iload_n 3, 1) := by decide +kernel
theorem dX6_alive_26 : decode cX6_alive 26 = .ok (.iconst 0, 1) := by decide +kernel
theorem dX6_alive_27 : decode cX6_alive 27 = .ok (.invokevirtual 42, 3) := by decide +kernel
theorem dX6_alive_30 : decode cX6_alive 30 = .ok (.iconst 2, 1) := by decide +kernel
theorem dX6_alive_31 : decode cX6_alive 31 = .ok (.if_icmp .eq 7, 3) := by decide +kernel
theorem dX6_alive_34 : decode cX6_alive 34 = .ok (.iconst 1, 1) := by decide +kernel
theorem dX6_alive_35 : decode cX6_alive 35 = .ok (.goto 4, 3) := by decide +kernel
theorem dX6_alive_38 : decode cX6_alive 38 = .ok (.iconst 0, 1) := by decide +kernel
theorem dX6_alive_39 : decode cX6_alive 39 = .ok (.iadd, 1) := by decide +kernel
theorem dX6_alive_40 : decode cX6_alive 40 = .ok (.istore_n 2, 1) := by decide +kernel
theorem dX6_alive_41 : decode cX6_alive 41 = .ok (.iinc 3 1, 3) := by decide +kernel
theorem dX6_alive_44 : decode cX6_alive 44 = .ok (.goto (-40), 3) := by decide +kernel
theorem dX6_alive_47 : decode cX6_alive 47 = .ok (.iload_n 2, 1) := by decide +kernel
theorem dX6_alive_48 : decode cX6_alive 48 = .ok (.ireturn, 1) := by decide +kernel
def f_X6_alive (N : Nat) (v : MV) (p1 : Int32) : Option (Int32) :=
  lpN (fun (s4 : Int32 × Int32) (k4 : (Int32 × Int32) → Option (Int32)) => (if ((M_s v) (3 : Int32).toNatClampNeg) ≤ s4.2 then some s4.1 else (f_X6_sideNow N v s4.2).bind (fun o3 => jn (fun (s39 : Int32) => k4 ((s4.1 + s39), (s4.2 + (1 : Int32)))) (fun (j39 : (Int32) → Option (Int32)) => jn (fun (s38 : Unit) => j39 (0 : Int32)) (fun (j38 : (Unit) → Option (Int32)) => (if o3 = p1 then (f_X6_of N v s4.2 (0 : Int32)).bind (fun o6 => (if o6 = (2 : Int32) then j38 () else j39 (1 : Int32))) else j38 ())))))) N ((0 : Int32), (0 : Int32))
set_option maxHeartbeats 4000000 in
set_option maxRecDepth 100000 in
theorem met_X6_alive (l : Launch) (dC : Nat → ClassId) (dI : Nat → Nat → Nat) (cyI cyO cyL : ClassId) (a : Nat → Nat) (N : Nat) (v : MV) (p1 : Int32) (out : Int32) (hF : f_X6_alive N v p1 = some out) : Met l yX6_alive (Cond.code yX6_alive cX6_alive 4 (some .int) :: wT) ({ frames := 1, cells := 0, slots := 0, locals := 22 } : Room) (wRd dC dI cyI cyO cyL [.ref (a 0), .int p1] (cM cyI a v)) (va_Qi (fun (r : Int32) (_ : Unit) => r = out) (fun _ _ => True) wN0) 0 0 wN0 := by
  refine Met.ofW (cc := cX6_alive) (maxL := 4) (ret := (some .int)) (by decide) rfl ?_
  intro p e s m args below meth c s₁ B hml hv
  obtain ⟨rfl, hP, hK⟩ := hv
  have hx := B.exec
  have hb := B.bytes
  have hr := B.returns
  have hts0 := atoms_spec (ws := (Cond.code yX6_alive cX6_alive 4 (some .int) :: wT)) B.pre
  have hts := fun w h => hts0 w (List.mem_cons_of_mem _ h)
  clear hts0
  have hown : s.vm.findClass RX6 = some m.cls := findClass_of_methodNamed B.named
  have hlocks := B.notSynchronized
  have hS : va_S wN0 s.heap s.heap [] := va_S.rf
  have hl := lv_entry [.ref (a 0), .int p1] (n := 4) (Nat.le_of_ble_eq_true rfl)
  rw [lg_entry_eq]
  generalize (lg_sl [.ref (a 0), .int p1] ++ List.replicate (4 - (lg_sl [.ref (a 0), .int p1]).length) Slot.unset).toArray = ls at hl ⊢
  have hl : lv_has ls 4 [(0, .ref (a 0)), (1, .int p1)] := hl
  unfold f_X6_alive at hF
  refine lv_iconst (v := 0) hx hb dX6_alive_0 (by decide) ?_
  refine lv_istore_n (lv' := [(2, .int (0 : Int32)), (0, .ref (a 0)), (1, .int p1)]) hx hb dX6_alive_1 rfl hl (by decide) rfl (fun ls hl => ?_)
  refine lv_iconst (v := 0) hx hb dX6_alive_2 (by decide) ?_
  refine lv_istore_n (lv' := [(3, .int (0 : Int32)), (2, .int (0 : Int32)), (0, .ref (a 0)), (1, .int p1)]) hx hb dX6_alive_3 rfl hl (by decide) rfl (fun ls hl => ?_)
  obtain ⟨st4, hst4, hF⟩ := lpN_use hF
  have hL4 : ∀ (n : Nat) (s4 : Int32 × Int32) (H : Heap) (locs : List Loc) (ls : Array Slot), va_P (dC, dI) vwCl (cM cyI a v) H → va_S wN0 s.heap H locs → lv_has ls 4 [(0, .ref (a 0)), (1, .int p1), (2, .int s4.1), (3, .int s4.2)] → lpN st4 n s4 = some out → W p l e (headSpec (Cond.code yX6_alive cX6_alive 4 (some .int) :: wT) ({ frames := 1, cells := 0, slots := 0, locals := 22 } : Room)).room s m ([.ref (a 0), .int p1] : List Value).toArray below meth c H locs 0 0 (MQ below (va_Qi (fun (r : Int32) (_ : Unit) => r = out) (fun _ _ => True) wN0) ([.ref (a 0), .int p1] : List Value).toArray s 0 0 wN0) (F0 m 4 ls []) := by
    intro n
    induction n with
    | zero => intro s4 H locs ls hP hS hl hF; exact lpN_0 hF
    | succ n ih4 =>
      intro s4 H locs ls hP hS hl hF
      have hF := (congrFun (congrFun hst4 s4) (lpN st4 n)).symm.trans (lpN_s hF)
      refine lv_iload_n hx hb dX6_alive_4 rfl (lv_at hl 3 rfl) ?_
      refine lv_aload_n hx hb dX6_alive_5 rfl (lv_at hl 0 rfl) ?_
      refine va_get (D := (dC, dI)) (ci := 6) (v := .ref (a 1)) (C := RX6) (T := TX6) (N := 23) hx hb hts inX6 hown hK.1 hP 0 rfl rfl 1 (by decide) (hts _ w_fieldLink_X6_7) (fun _ h9 => h9) rfl dX6_alive_6 ?_
      refine lv_iconst (v := 3) hx hb dX6_alive_9 (by decide) ?_
      refine va_iald hx hb hK.1 hP 1 0 rfl rfl (i := (3 : Int32)) (show ixok (3 : Int32) 103 by decide) dX6_alive_10 ?_
      refine lv_icmp_ge (tgt := 47) hx hb dX6_alive_11 (by decide) (fun c2 => ?_) (fun c2 => ?_)
      · have hF := itp c2 hF
        refine lv_iload_n hx hb dX6_alive_47 rfl (lv_at hl 2 rfl) ?_
        exact W.iret (v := s4.1) hx hb hr (fun t ht hW => ⟨⟨_, (), rfl, Option.some.inj hF, trivial⟩, hS.F ht⟩) hS.2.2 dX6_alive_48
      · have hF := itn c2 hF
        refine lv_iload_n hx hb dX6_alive_14 rfl (lv_at hl 2 rfl) ?_
        refine lv_aload_n hx hb dX6_alive_15 rfl (lv_at hl 0 rfl) ?_
        refine lv_iload_n hx hb dX6_alive_16 rfl (lv_at hl 3 rfl) ?_
        obtain ⟨o3, h4, hF⟩ := obd hF
        refine wcRVi (As := [.int s4.2]) (rest := [.int s4.1]) (b := (a 0)) ⟨hx, hb, hml, hown, hts⟩ (met_X6_sideNow l dC dI cyI cyO cyL a N v s4.2 o3 h4) (cwV 1 hts (gV w_methodLink_X6_88 w_instanceMethod_X6_sideNow w_selects_X6_sideNow w_initialized_X6 w_code_X6_sideNow) rfl rfl rfl (by decide +kernel) ⟨Nat.le_of_ble_eq_true rfl, Nat.le_of_ble_eq_true rfl⟩) (va_recv hK.1 hP (ci := 6) (q0 := 0) rfl rfl) hP hK [0, 1, 2, 3, 4, 5, 6, 7] rfl rfl hl.1 (Nat.le_of_ble_eq_true rfl) dX6_alive_17 ⟨Nat.le_of_ble_eq_true rfl, Nat.le_of_ble_eq_true rfl⟩ hS (fun r H locs hw hP hS => ?_)
        have hw := hw.symm
        subst hw
        refine lv_iload_n hx hb dX6_alive_20 rfl (lv_at hl 1 rfl) ?_
        obtain ⟨j39, hj39, hF⟩ := jn_use hF
        have hJ39 : ∀ (s39 : Int32) (H : Heap) (locs : List Loc) (ls : Array Slot) (hz_39_s1 : b01 s39), va_P (dC, dI) vwCl (cM cyI a v) H → va_S wN0 s.heap H locs → lv_has ls 4 [(0, .ref (a 0)), (1, .int p1), (3, .int s4.2)] → j39 s39 = some out → W p l e (headSpec (Cond.code yX6_alive cX6_alive 4 (some .int) :: wT) ({ frames := 1, cells := 0, slots := 0, locals := 22 } : Room)).room s m ([.ref (a 0), .int p1] : List Value).toArray below meth c H locs 0 0 (MQ below (va_Qi (fun (r : Int32) (_ : Unit) => r = out) (fun _ _ => True) wN0) ([.ref (a 0), .int p1] : List Value).toArray s 0 0 wN0) (F0 m 39 ls [.int s39, .int s4.1]) := by
          intro s39 H locs ls hz_39_s1 hP hS hl hF
          have hF := (congrFun hj39 s39).symm.trans hF
          refine lv_iadd hx hb dX6_alive_39 ?_
          refine lv_istore_n (lv' := [(2, .int (s4.1 + s39)), (0, .ref (a 0)), (1, .int p1), (3, .int s4.2)]) hx hb dX6_alive_40 rfl hl (by decide) rfl (fun ls hl => ?_)
          refine lv_iinc (v := (s4.2 + (1 : Int32))) (lv' := [(3, .int (s4.2 + (1 : Int32))), (2, .int (s4.1 + s39)), (0, .ref (a 0)), (1, .int p1)]) hx hb dX6_alive_41 hl (k := 3) rfl rfl (by decide) rfl (fun ls hl => ?_)
          refine lv_goto (tgt := 4) hx hb dX6_alive_44 (by decide) ?_
          exact ih4 ((s4.1 + s39), (s4.2 + (1 : Int32))) _ _ _ hP hS (lv_sub hl [2, 3, 1, 0] rfl) hF
        obtain ⟨j38, hj38, hF⟩ := jn_use hF
        have hJ38 : ∀ (s38 : Unit) (H : Heap) (locs : List Loc) (ls : Array Slot), va_P (dC, dI) vwCl (cM cyI a v) H → va_S wN0 s.heap H locs → lv_has ls 4 [(0, .ref (a 0)), (1, .int p1), (3, .int s4.2)] → j38 s38 = some out → W p l e (headSpec (Cond.code yX6_alive cX6_alive 4 (some .int) :: wT) ({ frames := 1, cells := 0, slots := 0, locals := 22 } : Room)).room s m ([.ref (a 0), .int p1] : List Value).toArray below meth c H locs 0 0 (MQ below (va_Qi (fun (r : Int32) (_ : Unit) => r = out) (fun _ _ => True) wN0) ([.ref (a 0), .int p1] : List Value).toArray s 0 0 wN0) (F0 m 38 ls [.int s4.1]) := by
          intro s38 H locs ls hP hS hl hF
          have hF := (congrFun hj38 s38).symm.trans hF
          refine lv_iconst (v := 0) hx hb dX6_alive_38 (by decide) ?_
          exact hJ39 (0 : Int32) _ _ _ b01_0 hP hS (lv_sub hl [0, 1, 2] rfl) hF
        refine lv_icmp_ne (tgt := 38) hx hb dX6_alive_21 (by decide) (fun c5 => ?_) (fun c5 => ?_)
        · have hF := itn c5 hF
          exact hJ38 () _ _ _ hP hS (lv_sub hl [0, 1, 3] rfl) hF
        · have hF := itp c5 hF
          refine lv_aload_n hx hb dX6_alive_24 rfl (lv_at hl 0 rfl) ?_
          refine lv_iload_n hx hb dX6_alive_25 rfl (lv_at hl 3 rfl) ?_
          refine lv_iconst (v := 0) hx hb dX6_alive_26 (by decide) ?_
          obtain ⟨o6, h7, hF⟩ := obd hF
          refine wcRVi (As := [.int s4.2, .int (0 : Int32)]) (rest := [.int s4.1]) (b := (a 0)) ⟨hx, hb, hml, hown, hts⟩ (met_X6_of l dC dI cyI cyO cyL a N v s4.2 (0 : Int32) o6 h7) (cwV 2 hts (gV w_methodLink_X6_42 w_instanceMethod_X6_of w_selects_X6_of w_initialized_X6 w_code_X6_of) rfl rfl rfl (by decide +kernel) ⟨Nat.le_of_ble_eq_true rfl, Nat.le_of_ble_eq_true rfl⟩) (va_recv hK.1 hP (ci := 6) (q0 := 0) rfl rfl) hP hK [0, 1, 2, 3, 4, 5, 6, 7] rfl rfl hl.1 (Nat.le_of_ble_eq_true rfl) dX6_alive_27 ⟨Nat.le_of_ble_eq_true rfl, Nat.le_of_ble_eq_true rfl⟩ hS (fun r H locs hw hP hS => ?_)
          have hw := hw.symm
          subst hw
          refine lv_iconst (v := 2) hx hb dX6_alive_30 (by decide) ?_
          refine lv_icmp_eq (tgt := 38) hx hb dX6_alive_31 (by decide) (fun c8 => ?_) (fun c8 => ?_)
          · have hF := itp c8 hF
            exact hJ38 () _ _ _ hP hS (lv_sub hl [0, 1, 3] rfl) hF
          · have hF := itn c8 hF
            refine lv_iconst (v := 1) hx hb dX6_alive_34 (by decide) ?_
            refine lv_goto (tgt := 39) hx hb dX6_alive_35 (by decide) ?_
            exact hJ39 (1 : Int32) _ _ _ b01_1 hP hS (lv_sub hl [0, 1, 3] rfl) hF
  exact hL4 N ((0 : Int32), (0 : Int32)) _ _ _ hP hS (lv_sub hl [2, 3, 1, 0] rfl) hF
theorem dX6_aliveOf_0 : decode cX6_aliveOf 0 = .ok (.aload_n 0, 1) := by decide +kernel
theorem dX6_aliveOf_1 : decode cX6_aliveOf 1 = .ok (.iload_n 1, 1) := by decide +kernel
theorem dX6_aliveOf_2 : decode cX6_aliveOf 2 = .ok (.invokestatic 201, 3) := by decide +kernel
theorem dX6_aliveOf_5 : decode cX6_aliveOf 5 = .ok (.ifCond .eq 7, 3) := by decide +kernel
theorem dX6_aliveOf_8 : decode cX6_aliveOf 8 = .ok (.iconst 0, 1) := by decide +kernel
theorem dX6_aliveOf_9 : decode cX6_aliveOf 9 = .ok (.goto 4, 3) := by decide +kernel
theorem dX6_aliveOf_12 : decode cX6_aliveOf 12 = .ok (.iconst 1, 1) := by decide +kernel
theorem dX6_aliveOf_13 : decode cX6_aliveOf 13 = .ok (.invokevirtual 107, 3) := by decide +kernel
theorem dX6_aliveOf_16 : decode cX6_aliveOf 16 = .ok (.ifCond .eq 11, 3) := by decide +kernel
theorem dX6_aliveOf_19 : decode cX6_aliveOf 19 = .ok (.aload_n 0, 1) := by decide +kernel
theorem dX6_aliveOf_20 : decode cX6_aliveOf 20 = .ok (.iload_n 1, 1) := by decide +kernel
theorem dX6_aliveOf_21 : decode cX6_aliveOf 21 = .ok (.invokevirtual 204, 3) := by decide +kernel
theorem dX6_aliveOf_24 : decode cX6_aliveOf 24 = .ok (.goto 4, 3) := by decide +kernel
theorem dX6_aliveOf_27 : decode cX6_aliveOf 27 = .ok (.iconst 0, 1) := by decide +kernel
theorem dX6_aliveOf_28 : decode cX6_aliveOf 28 = .ok (.ireturn, 1) := by decide +kernel
def f_X6_aliveOf (N : Nat) (v : MV) (p1 : Int32) : Option (Int32 × MV) :=
  (f_X6_isSide N p1).bind (fun o1 => jn (fun (s13 : Int32) => (f_X6_holds N v s13).bind (fun o4 => jn (fun (s28 : Int32) => some (s28, o4.2)) (fun (j28 : (Int32) → Option (Int32 × MV)) => (if o4.1 = 0 then j28 (0 : Int32) else (f_X6_alive N o4.2 p1).bind (fun o8 => j28 o8))))) (fun (j13 : (Int32) → Option (Int32 × MV)) => (if o1 = 0 then j13 (1 : Int32) else j13 (0 : Int32))))
set_option maxHeartbeats 4000000 in
set_option maxRecDepth 100000 in
theorem met_X6_aliveOf (l : Launch) (dC : Nat → ClassId) (dI : Nat → Nat → Nat) (cyI cyO cyL : ClassId) (a : Nat → Nat) (sz : Nat) (N : Nat) (v : MV) (p1 : Int32) (out : Int32 × MV) (hF : f_X6_aliveOf N v p1 = some out) : Met l yX6_aliveOf (Cond.code yX6_aliveOf cX6_aliveOf 2 (some .int) :: wT) ({ frames := 2, cells := 0, slots := 0, locals := 45 } : Room) (wWr dC dI cyI cyO cyL [.ref (a 0), .int p1] (cM cyI a v) sz) (va_Qi (fun (r : Int32) (u : MV) => (r, u) = out) (fun u t => va_P (dC, dI) vwCl (cM cyI a u) t.heap ∧ va_D (va_A (cM cyI a v) sz) (cM cyI a u)) (va_A (cM cyI a v) sz)) 0 0 (va_A (cM cyI a v) sz) := by
  refine Met.ofW (cc := cX6_aliveOf) (maxL := 2) (ret := (some .int)) (by decide) rfl ?_
  intro p e s m args below meth c s₁ B hml hv
  obtain ⟨rfl, hsz, hP, hK, hD0⟩ := hv
  have hx := B.exec
  have hb := B.bytes
  have hr := B.returns
  have hts0 := atoms_spec (ws := (Cond.code yX6_aliveOf cX6_aliveOf 2 (some .int) :: wT)) B.pre
  have hts := fun w h => hts0 w (List.mem_cons_of_mem _ h)
  clear hts0
  have hown : s.vm.findClass RX6 = some m.cls := findClass_of_methodNamed B.named
  have hlocks := B.notSynchronized
  subst hsz
  have hD := hD0.self (sz := s.heap.size)
  generalize hAe : va_A (cM cyI a v) s.heap.size = A at hD ⊢
  have hA : ∀ q : Nat, s.heap.size ≤ q → A q := fun q h => by rw [← hAe]; exact Or.inr h
  clear hD0
  have hS : va_S A s.heap s.heap [] := va_S.rf
  have hl := lv_entry [.ref (a 0), .int p1] (n := 2) (Nat.le_of_ble_eq_true rfl)
  rw [lg_entry_eq]
  generalize (lg_sl [.ref (a 0), .int p1] ++ List.replicate (2 - (lg_sl [.ref (a 0), .int p1]).length) Slot.unset).toArray = ls at hl ⊢
  have hl : lv_has ls 2 [(0, .ref (a 0)), (1, .int p1)] := hl
  unfold f_X6_aliveOf at hF
  refine lv_aload_n hx hb dX6_aliveOf_0 rfl (lv_at hl 0 rfl) ?_
  refine lv_iload_n hx hb dX6_aliveOf_1 rfl (lv_at hl 1 rfl) ?_
  obtain ⟨o1, h2, hF⟩ := obd hF
  refine wcRSi (As := [.int p1]) (rest := [.ref (a 0)]) ⟨hx, hb, hml, hown, hts⟩ (met_X6_isSide l dC dI cyI cyO cyL  N  p1 o1 h2) (va_cwS 1 hts (gS w_methodLink_X6_201 w_static_X6_isSide w_initialized_X6 w_code_X6_isSide) rfl rfl rfl (by decide +kernel) ⟨Nat.le_of_ble_eq_true rfl, Nat.le_of_ble_eq_true rfl⟩) hP hK [] rfl rfl hl.1 (Nat.le_of_ble_eq_true rfl) dX6_aliveOf_2 ⟨Nat.le_of_ble_eq_true rfl, Nat.le_of_ble_eq_true rfl⟩ hS (fun r H locs hw hP hS => ?_)
  obtain ⟨hw, hz3⟩ := hw
  have hw := hw.symm
  subst hw
  obtain ⟨j13, hj13, hF⟩ := jn_use hF
  have hJ13 : ∀ (s13 : Int32) (H : Heap) (locs : List Loc) (ls : Array Slot) (hz_13_s1 : b01 s13), va_P (dC, dI) vwCl (cM cyI a v) H → va_D A (cM cyI a v) → va_S A s.heap H locs → lv_has ls 2 [(0, .ref (a 0)), (1, .int p1)] → j13 s13 = some out → W p l e (headSpec (Cond.code yX6_aliveOf cX6_aliveOf 2 (some .int) :: wT) ({ frames := 2, cells := 0, slots := 0, locals := 45 } : Room)).room s m ([.ref (a 0), .int p1] : List Value).toArray below meth c H locs 0 0 (MQ below (va_Qi (fun (r : Int32) (u : MV) => (r, u) = out) (fun u t => va_P (dC, dI) vwCl (cM cyI a u) t.heap ∧ va_D A (cM cyI a u)) A) ([.ref (a 0), .int p1] : List Value).toArray s 0 0 A) (F0 m 13 ls [.int s13, .ref (a 0)]) := by
    intro s13 H locs ls hz_13_s1 hP hD hS hl hF
    have hF := (congrFun hj13 s13).symm.trans hF
    obtain ⟨o4, h5, hF⟩ := obd hF
    refine wcWVi (As := [.int s13]) (rest := []) (wr := []) (b := (a 0)) ⟨hx, hb, hml, hown, hts⟩ (met_X6_holds l dC dI cyI cyO cyL a _ N v s13 o4 h5) (cwV 1 hts (gV w_methodLink_X6_107 w_instanceMethod_X6_holds w_selects_X6_holds w_initialized_X6 w_code_X6_holds) rfl rfl rfl (by decide +kernel) ⟨Nat.le_of_ble_eq_true rfl, Nat.le_of_ble_eq_true rfl⟩) (va_recv hK.1 hP (ci := 6) (q0 := 0) rfl rfl) hP hD hK [0, 1, 2, 3, 4, 5, 6, 7] [] rfl rfl (by decide) (by decide) (by decide) rfl hl.1 (Nat.le_of_ble_eq_true rfl) dX6_aliveOf_13 ⟨Nat.le_of_ble_eq_true rfl, Nat.le_of_ble_eq_true rfl⟩ hS hA (fun r u H locs hw hP hD hS => ?_)
    obtain ⟨hw, hz6⟩ := hw
    obtain rfl : r = o4.1 := congrArg Prod.fst hw
    obtain rfl : u = o4.2 := congrArg Prod.snd hw
    clear hw
    have hP : va_P (dC, dI) vwCl (cM cyI a o4.2) H := hP
    have hD : va_D A (cM cyI a o4.2) := hD
    obtain ⟨j28, hj28, hF⟩ := jn_use hF
    have hJ28 : ∀ (s28 : Int32) (H : Heap) (locs : List Loc) (ls : Array Slot), va_P (dC, dI) vwCl (cM cyI a o4.2) H → va_D A (cM cyI a o4.2) → va_S A s.heap H locs → lv_has ls 2 [] → j28 s28 = some out → W p l e (headSpec (Cond.code yX6_aliveOf cX6_aliveOf 2 (some .int) :: wT) ({ frames := 2, cells := 0, slots := 0, locals := 45 } : Room)).room s m ([.ref (a 0), .int p1] : List Value).toArray below meth c H locs 0 0 (MQ below (va_Qi (fun (r : Int32) (u : MV) => (r, u) = out) (fun u t => va_P (dC, dI) vwCl (cM cyI a u) t.heap ∧ va_D A (cM cyI a u)) A) ([.ref (a 0), .int p1] : List Value).toArray s 0 0 A) (F0 m 28 ls [.int s28]) := by
      intro s28 H locs ls hP hD hS hl hF
      have hF := (congrFun hj28 s28).symm.trans hF
      exact W.iret (v := s28) hx hb hr (fun t ht hW => ⟨⟨_, o4.2, rfl, Option.some.inj hF, by rw [ht]; exact hP, hD⟩, hS.F ht⟩) hS.2.2 dX6_aliveOf_28
    refine lv_if_eq (tgt := 27) hx hb dX6_aliveOf_16 (by decide) (fun c7 => ?_) (fun c7 => ?_)
    · have hF := itp c7 hF
      refine lv_iconst (v := 0) hx hb dX6_aliveOf_27 (by decide) ?_
      exact hJ28 (0 : Int32) _ _ _ hP hD hS (lv_sub hl [] rfl) hF
    · have hF := itn c7 hF
      refine lv_aload_n hx hb dX6_aliveOf_19 rfl (lv_at hl 0 rfl) ?_
      refine lv_iload_n hx hb dX6_aliveOf_20 rfl (lv_at hl 1 rfl) ?_
      obtain ⟨o8, h9, hF⟩ := obd hF
      refine wcRVi (As := [.int p1]) (rest := []) (b := (a 0)) ⟨hx, hb, hml, hown, hts⟩ (met_X6_alive l dC dI cyI cyO cyL a N o4.2 p1 o8 h9) (cwV 1 hts (gV w_methodLink_X6_204 w_instanceMethod_X6_alive w_selects_X6_alive w_initialized_X6 w_code_X6_alive) rfl rfl rfl (by decide +kernel) ⟨Nat.le_of_ble_eq_true rfl, Nat.le_of_ble_eq_true rfl⟩) (va_recv hK.1 hP (ci := 6) (q0 := 0) rfl rfl) hP hK [0, 1, 2, 3, 4, 5, 6, 7] rfl rfl hl.1 (Nat.le_of_ble_eq_true rfl) dX6_aliveOf_21 ⟨Nat.le_of_ble_eq_true rfl, Nat.le_of_ble_eq_true rfl⟩ hS (fun r H locs hw hP hS => ?_)
      have hw := hw.symm
      subst hw
      refine lv_goto (tgt := 28) hx hb dX6_aliveOf_24 (by decide) ?_
      exact hJ28 o8 _ _ _ hP hD hS (lv_sub hl [] rfl) hF
  refine lv_if_eq (tgt := 12) hx hb dX6_aliveOf_5 (by decide) (fun c10 => ?_) (fun c10 => ?_)
  · have hF := itp c10 hF
    refine lv_iconst (v := 1) hx hb dX6_aliveOf_12 (by decide) ?_
    exact hJ13 (1 : Int32) _ _ _ b01_1 hP hD hS (lv_sub hl [0, 1] rfl) hF
  · have hF := itn c10 hF
    refine lv_iconst (v := 0) hx hb dX6_aliveOf_8 (by decide) ?_
    refine lv_goto (tgt := 13) hx hb dX6_aliveOf_9 (by decide) ?_
    exact hJ13 (0 : Int32) _ _ _ b01_0 hP hD hS (lv_sub hl [0, 1] rfl) hF
theorem dX6_least_0 : decode cX6_least 0 = .ok (.iconst (-1), 1) := by decide +kernel
theorem dX6_least_1 : decode cX6_least 1 = .ok (.istore_n 2, 1) := by decide +kernel
theorem dX6_least_2 : decode cX6_least 2 = .ok (.iconst 0, 1) := by decide +kernel
theorem dX6_least_3 : decode cX6_least 3 = .ok (.istore_n 3, 1) := by decide +kernel
theorem dX6_least_4 : decode cX6_least 4 = .ok (.iload_n 3, 1) := by decide +kernel
theorem dX6_least_5 : decode cX6_least 5 = .ok (.aload_n 0, 1) := by decide +kernel
theorem dX6_least_6 : decode cX6_least 6 = .ok (.getfield 7, 3) := by decide +kernel
theorem dX6_least_9 : decode cX6_least 9 = .ok (.iconst 3, 1) := by decide +kernel
theorem dX6_least_10 : decode cX6_least 10 = .ok (.iaload, 1) := by decide +kernel
theorem dX6_least_11 : decode cX6_least 11 = .ok (.if_icmp .ge 63, 3) := by decide +kernel
theorem dX6_least_14 : decode cX6_least 14 = .ok (.aload_n 0, 1) := by decide +kernel
theorem dX6_least_15 : decode cX6_least 15 = .ok (.iload_n 3, 1) := by decide +kernel
theorem dX6_least_16 : decode cX6_least 16 = .ok (.invokevirtual 88, 3) := by decide +kernel
theorem dX6_least_19 : decode cX6_least 19 = .ok (.iload_n 1, 1) := by decide +kernel
theorem dX6_least_20 : decode cX6_least 20 = .ok (.if_icmp .ne 17, 3) := by decide +kernel
theorem dX6_least_23 : decode cX6_least 23 = .ok (.aload_n 0, 1) := by decide +kernel
theorem dX6_least_24 : decode cX6_least 24 = .ok (.iload_n 3, 1) := by decide +kernel
theorem dX6_least_25 : decode cX6_least 25 = .ok (.iconst 0, 1) := by decide +kernel
theorem dX6_least_26 : decode cX6_least 26 = .ok (.invokevirtual 42, 3) := by decide +kernel
theorem dX6_least_29 : decode cX6_least 29 = .ok (.iconst 2, 1) := by decide +kernel
theorem dX6_least_30 : decode cX6_least 30 = .ok (.if_icmp .eq 7, 3) := by decide +kernel
theorem dX6_least_33 : decode cX6_least 33 = .ok (.iconst 1, 1) := by decide +kernel
theorem dX6_least_34 : decode cX6_least 34 = .ok (.goto 4, 3) := by decide +kernel
theorem dX6_least_37 : decode cX6_least 37 = .ok (.iconst 0, 1) := by decide +kernel
theorem dX6_least_38 : decode cX6_least 38 = .ok (.istore 4, 2) := by decide +kernel
theorem dX6_least_40 : decode cX6_least 40 = .ok (.iload 4, 2) := by decide +kernel
theorem dX6_least_42 : decode cX6_least 42 = .ok (.ifCond .eq 24, 3) := by decide +kernel
theorem dX6_least_45 : decode cX6_least 45 = .ok (.iload_n 2, 1) := by decide +kernel
theorem dX6_least_46 : decode cX6_least 46 = .ok (.ifCond .lt 12, 3) := by decide +kernel
theorem dX6_least_49 : decode cX6_least 49 = .ok (.aload_n 0, 1) := by decide +kernel
theorem dX6_least_50 : decode cX6_least 50 = .ok (.iload_n 3, 1) := by decide +kernel
theorem dX6_least_51 : decode cX6_least 51 = .ok (.invokevirtual 81, 3) := by decide +kernel
theorem dX6_least_54 : decode cX6_least 54 = .ok (.iload_n 2, 1) := by decide +kernel
theorem dX6_least_55 : decode cX6_least 55 = .ok (.if_icmp .ge 11, 3) := by decide +kernel
theorem dX6_least_58 : decode cX6_least 58 = .ok (.aload_n 0, 1) := by decide +kernel
theorem dX6_least_59 : decode cX6_least 59 = .ok (.iload_n 3, 1) := by decide +kernel
theorem dX6_least_60 : decode cX6_least 60 = .ok (.invokevirtual 81, 3) := by decide +kernel
theorem dX6_least_63 : decode cX6_least 63 = .ok (.goto 4, 3) := by decide +kernel
theorem dX6_least_66 : decode cX6_least 66 = .ok (.iload_n 2, 1) := by decide +kernel
theorem dX6_least_67 : decode cX6_least 67 = .ok (.istore_n 2, 1) := by decide +kernel
theorem dX6_least_68 : decode cX6_least 68 = .ok (.iinc 3 1, 3) := by decide +kernel
theorem dX6_least_71 : decode cX6_least 71 = .ok (.goto (-67), 3) := by decide +kernel
theorem dX6_least_74 : decode cX6_least 74 = .ok (.iload_n 2, 1) := by decide +kernel
theorem dX6_least_75 : decode cX6_least 75 = .ok (.ireturn, 1) := by decide +kernel
def f_X6_least (N : Nat) (v : MV) (p1 : Int32) : Option (Int32) :=
  lpN (fun (s4 : Int32 × Int32) (k4 : (Int32 × Int32) → Option (Int32)) => (if ((M_s v) (3 : Int32).toNatClampNeg) ≤ s4.2 then some s4.1 else (f_X6_sideNow N v s4.2).bind (fun o3 => jn (fun (s38 : Int32) => jn (fun (s67 : Int32) => k4 (s67, (s4.2 + (1 : Int32)))) (fun (j67 : (Int32) → Option (Int32)) => jn (fun (s66 : Unit) => j67 s4.1) (fun (j66 : (Unit) → Option (Int32)) => (if s38 = 0 then j66 () else jn (fun (s58 : Unit) => (f_X6_distance N v s4.2).bind (fun o6 => j67 o6)) (fun (j58 : (Unit) → Option (Int32)) => (if s4.1 < 0 then j58 () else (f_X6_distance N v s4.2).bind (fun o9 => (if s4.1 ≤ o9 then j66 () else j58 ())))))))) (fun (j38 : (Int32) → Option (Int32)) => jn (fun (s37 : Unit) => j38 (0 : Int32)) (fun (j37 : (Unit) → Option (Int32)) => (if o3 = p1 then (f_X6_of N v s4.2 (0 : Int32)).bind (fun o13 => (if o13 = (2 : Int32) then j37 () else j38 (1 : Int32))) else j37 ())))))) N ((-1 : Int32), (0 : Int32))
set_option maxHeartbeats 4000000 in
set_option maxRecDepth 100000 in
theorem met_X6_least (l : Launch) (dC : Nat → ClassId) (dI : Nat → Nat → Nat) (cyI cyO cyL : ClassId) (a : Nat → Nat) (N : Nat) (v : MV) (p1 : Int32) (out : Int32) (hF : f_X6_least N v p1 = some out) : Met l yX6_least (Cond.code yX6_least cX6_least 5 (some .int) :: wT) ({ frames := 2, cells := 0, slots := 0, locals := 45 } : Room) (wRd dC dI cyI cyO cyL [.ref (a 0), .int p1] (cM cyI a v)) (va_Qi (fun (r : Int32) (_ : Unit) => r = out) (fun _ _ => True) wN0) 0 0 wN0 := by
  refine Met.ofW (cc := cX6_least) (maxL := 5) (ret := (some .int)) (by decide) rfl ?_
  intro p e s m args below meth c s₁ B hml hv
  obtain ⟨rfl, hP, hK⟩ := hv
  have hx := B.exec
  have hb := B.bytes
  have hr := B.returns
  have hts0 := atoms_spec (ws := (Cond.code yX6_least cX6_least 5 (some .int) :: wT)) B.pre
  have hts := fun w h => hts0 w (List.mem_cons_of_mem _ h)
  clear hts0
  have hown : s.vm.findClass RX6 = some m.cls := findClass_of_methodNamed B.named
  have hlocks := B.notSynchronized
  have hS : va_S wN0 s.heap s.heap [] := va_S.rf
  have hl := lv_entry [.ref (a 0), .int p1] (n := 5) (Nat.le_of_ble_eq_true rfl)
  rw [lg_entry_eq]
  generalize (lg_sl [.ref (a 0), .int p1] ++ List.replicate (5 - (lg_sl [.ref (a 0), .int p1]).length) Slot.unset).toArray = ls at hl ⊢
  have hl : lv_has ls 5 [(0, .ref (a 0)), (1, .int p1)] := hl
  unfold f_X6_least at hF
  refine lv_iconst (v := -1) hx hb dX6_least_0 (by decide) ?_
  refine lv_istore_n (lv' := [(2, .int (-1 : Int32)), (0, .ref (a 0)), (1, .int p1)]) hx hb dX6_least_1 rfl hl (by decide) rfl (fun ls hl => ?_)
  refine lv_iconst (v := 0) hx hb dX6_least_2 (by decide) ?_
  refine lv_istore_n (lv' := [(3, .int (0 : Int32)), (2, .int (-1 : Int32)), (0, .ref (a 0)), (1, .int p1)]) hx hb dX6_least_3 rfl hl (by decide) rfl (fun ls hl => ?_)
  obtain ⟨st4, hst4, hF⟩ := lpN_use hF
  have hL4 : ∀ (n : Nat) (s4 : Int32 × Int32) (H : Heap) (locs : List Loc) (ls : Array Slot), va_P (dC, dI) vwCl (cM cyI a v) H → va_S wN0 s.heap H locs → lv_has ls 5 [(0, .ref (a 0)), (1, .int p1), (2, .int s4.1), (3, .int s4.2)] → lpN st4 n s4 = some out → W p l e (headSpec (Cond.code yX6_least cX6_least 5 (some .int) :: wT) ({ frames := 2, cells := 0, slots := 0, locals := 45 } : Room)).room s m ([.ref (a 0), .int p1] : List Value).toArray below meth c H locs 0 0 (MQ below (va_Qi (fun (r : Int32) (_ : Unit) => r = out) (fun _ _ => True) wN0) ([.ref (a 0), .int p1] : List Value).toArray s 0 0 wN0) (F0 m 4 ls []) := by
    intro n
    induction n with
    | zero => intro s4 H locs ls hP hS hl hF; exact lpN_0 hF
    | succ n ih4 =>
      intro s4 H locs ls hP hS hl hF
      have hF := (congrFun (congrFun hst4 s4) (lpN st4 n)).symm.trans (lpN_s hF)
      refine lv_iload_n hx hb dX6_least_4 rfl (lv_at hl 3 rfl) ?_
      refine lv_aload_n hx hb dX6_least_5 rfl (lv_at hl 0 rfl) ?_
      refine va_get (D := (dC, dI)) (ci := 6) (v := .ref (a 1)) (C := RX6) (T := TX6) (N := 23) hx hb hts inX6 hown hK.1 hP 0 rfl rfl 1 (by decide) (hts _ w_fieldLink_X6_7) (fun _ h9 => h9) rfl dX6_least_6 ?_
      refine lv_iconst (v := 3) hx hb dX6_least_9 (by decide) ?_
      refine va_iald hx hb hK.1 hP 1 0 rfl rfl (i := (3 : Int32)) (show ixok (3 : Int32) 103 by decide) dX6_least_10 ?_
      refine lv_icmp_ge (tgt := 74) hx hb dX6_least_11 (by decide) (fun c2 => ?_) (fun c2 => ?_)
      · have hF := itp c2 hF
        refine lv_iload_n hx hb dX6_least_74 rfl (lv_at hl 2 rfl) ?_
        exact W.iret (v := s4.1) hx hb hr (fun t ht hW => ⟨⟨_, (), rfl, Option.some.inj hF, trivial⟩, hS.F ht⟩) hS.2.2 dX6_least_75
      · have hF := itn c2 hF
        refine lv_aload_n hx hb dX6_least_14 rfl (lv_at hl 0 rfl) ?_
        refine lv_iload_n hx hb dX6_least_15 rfl (lv_at hl 3 rfl) ?_
        obtain ⟨o3, h4, hF⟩ := obd hF
        refine wcRVi (As := [.int s4.2]) (rest := []) (b := (a 0)) ⟨hx, hb, hml, hown, hts⟩ (met_X6_sideNow l dC dI cyI cyO cyL a N v s4.2 o3 h4) (cwV 1 hts (gV w_methodLink_X6_88 w_instanceMethod_X6_sideNow w_selects_X6_sideNow w_initialized_X6 w_code_X6_sideNow) rfl rfl rfl (by decide +kernel) ⟨Nat.le_of_ble_eq_true rfl, Nat.le_of_ble_eq_true rfl⟩) (va_recv hK.1 hP (ci := 6) (q0 := 0) rfl rfl) hP hK [0, 1, 2, 3, 4, 5, 6, 7] rfl rfl hl.1 (Nat.le_of_ble_eq_true rfl) dX6_least_16 ⟨Nat.le_of_ble_eq_true rfl, Nat.le_of_ble_eq_true rfl⟩ hS (fun r H locs hw hP hS => ?_)
        have hw := hw.symm
        subst hw
        refine lv_iload_n hx hb dX6_least_19 rfl (lv_at hl 1 rfl) ?_
        obtain ⟨j38, hj38, hF⟩ := jn_use hF
        have hJ38 : ∀ (s38 : Int32) (H : Heap) (locs : List Loc) (ls : Array Slot) (hz_38_s0 : b01 s38), va_P (dC, dI) vwCl (cM cyI a v) H → va_S wN0 s.heap H locs → lv_has ls 5 [(0, .ref (a 0)), (1, .int p1), (2, .int s4.1), (3, .int s4.2)] → j38 s38 = some out → W p l e (headSpec (Cond.code yX6_least cX6_least 5 (some .int) :: wT) ({ frames := 2, cells := 0, slots := 0, locals := 45 } : Room)).room s m ([.ref (a 0), .int p1] : List Value).toArray below meth c H locs 0 0 (MQ below (va_Qi (fun (r : Int32) (_ : Unit) => r = out) (fun _ _ => True) wN0) ([.ref (a 0), .int p1] : List Value).toArray s 0 0 wN0) (F0 m 38 ls [.int s38]) := by
          intro s38 H locs ls hz_38_s0 hP hS hl hF
          have hF := (congrFun hj38 s38).symm.trans hF
          refine lv_istore (lv' := [(4, .int s38), (0, .ref (a 0)), (1, .int p1), (2, .int s4.1), (3, .int s4.2)]) hx hb dX6_least_38 hl (by decide) rfl (fun ls hl => ?_)
          refine lv_iload hx hb dX6_least_40 (lv_at hl 0 rfl) ?_
          obtain ⟨j67, hj67, hF⟩ := jn_use hF
          have hJ67 : ∀ (s67 : Int32) (H : Heap) (locs : List Loc) (ls : Array Slot), va_P (dC, dI) vwCl (cM cyI a v) H → va_S wN0 s.heap H locs → lv_has ls 5 [(0, .ref (a 0)), (1, .int p1), (3, .int s4.2)] → j67 s67 = some out → W p l e (headSpec (Cond.code yX6_least cX6_least 5 (some .int) :: wT) ({ frames := 2, cells := 0, slots := 0, locals := 45 } : Room)).room s m ([.ref (a 0), .int p1] : List Value).toArray below meth c H locs 0 0 (MQ below (va_Qi (fun (r : Int32) (_ : Unit) => r = out) (fun _ _ => True) wN0) ([.ref (a 0), .int p1] : List Value).toArray s 0 0 wN0) (F0 m 67 ls [.int s67]) := by
            intro s67 H locs ls hP hS hl hF
            have hF := (congrFun hj67 s67).symm.trans hF
            refine lv_istore_n (lv' := [(2, .int s67), (0, .ref (a 0)), (1, .int p1), (3, .int s4.2)]) hx hb dX6_least_67 rfl hl (by decide) rfl (fun ls hl => ?_)
            refine lv_iinc (v := (s4.2 + (1 : Int32))) (lv' := [(3, .int (s4.2 + (1 : Int32))), (2, .int s67), (0, .ref (a 0)), (1, .int p1)]) hx hb dX6_least_68 hl (k := 3) rfl rfl (by decide) rfl (fun ls hl => ?_)
            refine lv_goto (tgt := 4) hx hb dX6_least_71 (by decide) ?_
            exact ih4 (s67, (s4.2 + (1 : Int32))) _ _ _ hP hS (lv_sub hl [2, 3, 1, 0] rfl) hF
          obtain ⟨j66, hj66, hF⟩ := jn_use hF
          have hJ66 : ∀ (s66 : Unit) (H : Heap) (locs : List Loc) (ls : Array Slot), va_P (dC, dI) vwCl (cM cyI a v) H → va_S wN0 s.heap H locs → lv_has ls 5 [(0, .ref (a 0)), (1, .int p1), (2, .int s4.1), (3, .int s4.2)] → j66 s66 = some out → W p l e (headSpec (Cond.code yX6_least cX6_least 5 (some .int) :: wT) ({ frames := 2, cells := 0, slots := 0, locals := 45 } : Room)).room s m ([.ref (a 0), .int p1] : List Value).toArray below meth c H locs 0 0 (MQ below (va_Qi (fun (r : Int32) (_ : Unit) => r = out) (fun _ _ => True) wN0) ([.ref (a 0), .int p1] : List Value).toArray s 0 0 wN0) (F0 m 66 ls []) := by
            intro s66 H locs ls hP hS hl hF
            have hF := (congrFun hj66 s66).symm.trans hF
            refine lv_iload_n hx hb dX6_least_66 rfl (lv_at hl 2 rfl) ?_
            exact hJ67 s4.1 _ _ _ hP hS (lv_sub hl [0, 1, 3] rfl) hF
          refine lv_if_eq (tgt := 66) hx hb dX6_least_42 (by decide) (fun c5 => ?_) (fun c5 => ?_)
          · have hF := itp c5 hF
            exact hJ66 () _ _ _ hP hS (lv_sub hl [1, 2, 3, 4] rfl) hF
          · have hF := itn c5 hF
            refine lv_iload_n hx hb dX6_least_45 rfl (lv_at hl 3 rfl) ?_
            obtain ⟨j58, hj58, hF⟩ := jn_use hF
            have hJ58 : ∀ (s58 : Unit) (H : Heap) (locs : List Loc) (ls : Array Slot), va_P (dC, dI) vwCl (cM cyI a v) H → va_S wN0 s.heap H locs → lv_has ls 5 [(0, .ref (a 0)), (1, .int p1), (3, .int s4.2)] → j58 s58 = some out → W p l e (headSpec (Cond.code yX6_least cX6_least 5 (some .int) :: wT) ({ frames := 2, cells := 0, slots := 0, locals := 45 } : Room)).room s m ([.ref (a 0), .int p1] : List Value).toArray below meth c H locs 0 0 (MQ below (va_Qi (fun (r : Int32) (_ : Unit) => r = out) (fun _ _ => True) wN0) ([.ref (a 0), .int p1] : List Value).toArray s 0 0 wN0) (F0 m 58 ls []) := by
              intro s58 H locs ls hP hS hl hF
              have hF := (congrFun hj58 s58).symm.trans hF
              refine lv_aload_n hx hb dX6_least_58 rfl (lv_at hl 0 rfl) ?_
              refine lv_iload_n hx hb dX6_least_59 rfl (lv_at hl 2 rfl) ?_
              obtain ⟨o6, h7, hF⟩ := obd hF
              refine wcRVi (As := [.int s4.2]) (rest := []) (b := (a 0)) ⟨hx, hb, hml, hown, hts⟩ (met_X6_distance l dC dI cyI cyO cyL a N v s4.2 o6 h7) (cwV 1 hts (gV w_methodLink_X6_81 w_instanceMethod_X6_distance w_selects_X6_distance w_initialized_X6 w_code_X6_distance) rfl rfl rfl (by decide +kernel) ⟨Nat.le_of_ble_eq_true rfl, Nat.le_of_ble_eq_true rfl⟩) (va_recv hK.1 hP (ci := 6) (q0 := 0) rfl rfl) hP hK [0, 1, 2, 3, 4, 5, 6, 7] rfl rfl hl.1 (Nat.le_of_ble_eq_true rfl) dX6_least_60 ⟨Nat.le_of_ble_eq_true rfl, Nat.le_of_ble_eq_true rfl⟩ hS (fun r H locs hw hP hS => ?_)
              have hw := hw.symm
              subst hw
              refine lv_goto (tgt := 67) hx hb dX6_least_63 (by decide) ?_
              exact hJ67 o6 _ _ _ hP hS (lv_sub hl [0, 1, 2] rfl) hF
            refine lv_if_lt (tgt := 58) hx hb dX6_least_46 (by decide) (fun c8 => ?_) (fun c8 => ?_)
            · have hF := itp c8 hF
              exact hJ58 () _ _ _ hP hS (lv_sub hl [1, 2, 4] rfl) hF
            · have hF := itn c8 hF
              refine lv_aload_n hx hb dX6_least_49 rfl (lv_at hl 1 rfl) ?_
              refine lv_iload_n hx hb dX6_least_50 rfl (lv_at hl 4 rfl) ?_
              obtain ⟨o9, h10, hF⟩ := obd hF
              refine wcRVi (As := [.int s4.2]) (rest := []) (b := (a 0)) ⟨hx, hb, hml, hown, hts⟩ (met_X6_distance l dC dI cyI cyO cyL a N v s4.2 o9 h10) (cwV 1 hts (gV w_methodLink_X6_81 w_instanceMethod_X6_distance w_selects_X6_distance w_initialized_X6 w_code_X6_distance) rfl rfl rfl (by decide +kernel) ⟨Nat.le_of_ble_eq_true rfl, Nat.le_of_ble_eq_true rfl⟩) (va_recv hK.1 hP (ci := 6) (q0 := 0) rfl rfl) hP hK [0, 1, 2, 3, 4, 5, 6, 7] rfl rfl hl.1 (Nat.le_of_ble_eq_true rfl) dX6_least_51 ⟨Nat.le_of_ble_eq_true rfl, Nat.le_of_ble_eq_true rfl⟩ hS (fun r H locs hw hP hS => ?_)
              have hw := hw.symm
              subst hw
              refine lv_iload_n hx hb dX6_least_54 rfl (lv_at hl 3 rfl) ?_
              refine lv_icmp_ge (tgt := 66) hx hb dX6_least_55 (by decide) (fun c11 => ?_) (fun c11 => ?_)
              · have hF := itp c11 hF
                exact hJ66 () _ _ _ hP hS (lv_sub hl [1, 2, 3, 4] rfl) hF
              · have hF := itn c11 hF
                exact hJ58 () _ _ _ hP hS (lv_sub hl [1, 2, 4] rfl) hF
        obtain ⟨j37, hj37, hF⟩ := jn_use hF
        have hJ37 : ∀ (s37 : Unit) (H : Heap) (locs : List Loc) (ls : Array Slot), va_P (dC, dI) vwCl (cM cyI a v) H → va_S wN0 s.heap H locs → lv_has ls 5 [(0, .ref (a 0)), (1, .int p1), (2, .int s4.1), (3, .int s4.2)] → j37 s37 = some out → W p l e (headSpec (Cond.code yX6_least cX6_least 5 (some .int) :: wT) ({ frames := 2, cells := 0, slots := 0, locals := 45 } : Room)).room s m ([.ref (a 0), .int p1] : List Value).toArray below meth c H locs 0 0 (MQ below (va_Qi (fun (r : Int32) (_ : Unit) => r = out) (fun _ _ => True) wN0) ([.ref (a 0), .int p1] : List Value).toArray s 0 0 wN0) (F0 m 37 ls []) := by
          intro s37 H locs ls hP hS hl hF
          have hF := (congrFun hj37 s37).symm.trans hF
          refine lv_iconst (v := 0) hx hb dX6_least_37 (by decide) ?_
          exact hJ38 (0 : Int32) _ _ _ b01_0 hP hS (lv_sub hl [0, 1, 2, 3] rfl) hF
        refine lv_icmp_ne (tgt := 37) hx hb dX6_least_20 (by decide) (fun c12 => ?_) (fun c12 => ?_)
        · have hF := itn c12 hF
          exact hJ37 () _ _ _ hP hS (lv_sub hl [0, 1, 2, 3] rfl) hF
        · have hF := itp c12 hF
          refine lv_aload_n hx hb dX6_least_23 rfl (lv_at hl 0 rfl) ?_
          refine lv_iload_n hx hb dX6_least_24 rfl (lv_at hl 3 rfl) ?_
          refine lv_iconst (v := 0) hx hb dX6_least_25 (by decide) ?_
          obtain ⟨o13, h14, hF⟩ := obd hF
          refine wcRVi (As := [.int s4.2, .int (0 : Int32)]) (rest := []) (b := (a 0)) ⟨hx, hb, hml, hown, hts⟩ (met_X6_of l dC dI cyI cyO cyL a N v s4.2 (0 : Int32) o13 h14) (cwV 2 hts (gV w_methodLink_X6_42 w_instanceMethod_X6_of w_selects_X6_of w_initialized_X6 w_code_X6_of) rfl rfl rfl (by decide +kernel) ⟨Nat.le_of_ble_eq_true rfl, Nat.le_of_ble_eq_true rfl⟩) (va_recv hK.1 hP (ci := 6) (q0 := 0) rfl rfl) hP hK [0, 1, 2, 3, 4, 5, 6, 7] rfl rfl hl.1 (Nat.le_of_ble_eq_true rfl) dX6_least_26 ⟨Nat.le_of_ble_eq_true rfl, Nat.le_of_ble_eq_true rfl⟩ hS (fun r H locs hw hP hS => ?_)
          have hw := hw.symm
          subst hw
          refine lv_iconst (v := 2) hx hb dX6_least_29 (by decide) ?_
          refine lv_icmp_eq (tgt := 37) hx hb dX6_least_30 (by decide) (fun c15 => ?_) (fun c15 => ?_)
          · have hF := itp c15 hF
            exact hJ37 () _ _ _ hP hS (lv_sub hl [0, 1, 2, 3] rfl) hF
          · have hF := itn c15 hF
            refine lv_iconst (v := 1) hx hb dX6_least_33 (by decide) ?_
            refine lv_goto (tgt := 38) hx hb dX6_least_34 (by decide) ?_
            exact hJ38 (1 : Int32) _ _ _ b01_1 hP hS (lv_sub hl [0, 1, 2, 3] rfl) hF
  exact hL4 N ((-1 : Int32), (0 : Int32)) _ _ _ hP hS (lv_sub hl [2, 3, 1, 0] rfl) hF
theorem dX6_hasGap_0 : decode cX6_hasGap 0 = .ok (.aload_n 0, 1) := by decide +kernel
theorem dX6_hasGap_1 : decode cX6_hasGap 1 = .ok (.getfield 7, 3) := by decide +kernel
theorem dX6_hasGap_4 : decode cX6_hasGap 4 = .ok (.iconst 0, 1) := by decide +kernel
theorem dX6_hasGap_5 : decode cX6_hasGap 5 = .ok (.iaload, 1) := by decide +kernel
theorem dX6_hasGap_6 : decode cX6_hasGap 6 = .ok (.iconst 1, 1) := by decide +kernel
theorem dX6_hasGap_7 : decode cX6_hasGap 7 = .ok (.if_icmp .ne 23, 3) := by decide +kernel
theorem dX6_hasGap_10 : decode cX6_hasGap 10 = .ok (.aload_n 0, 1) := by decide +kernel
theorem dX6_hasGap_11 : decode cX6_hasGap 11 = .ok (.iconst 0, 1) := by decide +kernel
theorem dX6_hasGap_12 : decode cX6_hasGap 12 = .ok (.invokevirtual 204, 3) := by decide +kernel
theorem dX6_hasGap_15 : decode cX6_hasGap 15 = .ok (.ifCond .le 15, 3) := by decide +kernel
theorem dX6_hasGap_18 : decode cX6_hasGap 18 = .ok (.aload_n 0, 1) := by decide +kernel
theorem dX6_hasGap_19 : decode cX6_hasGap 19 = .ok (.iconst 1, 1) := by decide +kernel
theorem dX6_hasGap_20 : decode cX6_hasGap 20 = .ok (.invokevirtual 204, 3) := by decide +kernel
theorem dX6_hasGap_23 : decode cX6_hasGap 23 = .ok (.ifCond .le 7, 3) := by decide +kernel
theorem dX6_hasGap_26 : decode cX6_hasGap 26 = .ok (.iconst 1, 1) := by decide +kernel
theorem dX6_hasGap_27 : decode cX6_hasGap 27 = .ok (.goto 4, 3) := by decide +kernel
theorem dX6_hasGap_30 : decode cX6_hasGap 30 = .ok (.iconst 0, 1) := by decide +kernel
theorem dX6_hasGap_31 : decode cX6_hasGap 31 = .ok (.ireturn, 1) := by decide +kernel
def f_X6_hasGap (N : Nat) (v : MV) : Option (Int32) :=
  jn (fun (s31 : Int32) => some s31) (fun (j31 : (Int32) → Option (Int32)) => jn (fun (s30 : Unit) => j31 (0 : Int32)) (fun (j30 : (Unit) → Option (Int32)) => (if ((M_s v) (0 : Int32).toNatClampNeg) = (1 : Int32) then (f_X6_alive N v (0 : Int32)).bind (fun o3 => (if o3 ≤ 0 then j30 () else (f_X6_alive N v (1 : Int32)).bind (fun o6 => (if o6 ≤ 0 then j30 () else j31 (1 : Int32))))) else j30 ())))
set_option maxHeartbeats 4000000 in
set_option maxRecDepth 100000 in
theorem met_X6_hasGap (l : Launch) (dC : Nat → ClassId) (dI : Nat → Nat → Nat) (cyI cyO cyL : ClassId) (a : Nat → Nat) (N : Nat) (v : MV) (out : Int32) (hF : f_X6_hasGap N v = some out) : Met l yX6_hasGap (Cond.code yX6_hasGap cX6_hasGap 1 (some .boolean) :: wT) ({ frames := 2, cells := 0, slots := 0, locals := 45 } : Room) (wRd dC dI cyI cyO cyL [.ref (a 0)] (cM cyI a v)) (va_Qi (fun (r : Int32) (_ : Unit) => r = out ∧ b01 r) (fun _ _ => True) wN0) 0 0 wN0 := by
  refine Met.ofW (cc := cX6_hasGap) (maxL := 1) (ret := (some .boolean)) (by decide) rfl ?_
  intro p e s m args below meth c s₁ B hml hv
  obtain ⟨rfl, hP, hK⟩ := hv
  have hx := B.exec
  have hb := B.bytes
  have hr := B.returns
  have hts0 := atoms_spec (ws := (Cond.code yX6_hasGap cX6_hasGap 1 (some .boolean) :: wT)) B.pre
  have hts := fun w h => hts0 w (List.mem_cons_of_mem _ h)
  clear hts0
  have hown : s.vm.findClass RX6 = some m.cls := findClass_of_methodNamed B.named
  have hlocks := B.notSynchronized
  have hS : va_S wN0 s.heap s.heap [] := va_S.rf
  have hl := lv_entry [.ref (a 0)] (n := 1) (Nat.le_of_ble_eq_true rfl)
  rw [lg_entry_eq]
  generalize (lg_sl [.ref (a 0)] ++ List.replicate (1 - (lg_sl [.ref (a 0)]).length) Slot.unset).toArray = ls at hl ⊢
  have hl : lv_has ls 1 [(0, .ref (a 0))] := hl
  unfold f_X6_hasGap at hF
  refine lv_aload_n hx hb dX6_hasGap_0 rfl (lv_at hl 0 rfl) ?_
  refine va_get (D := (dC, dI)) (ci := 6) (v := .ref (a 1)) (C := RX6) (T := TX6) (N := 23) hx hb hts inX6 hown hK.1 hP 0 rfl rfl 1 (by decide) (hts _ w_fieldLink_X6_7) (fun _ h9 => h9) rfl dX6_hasGap_1 ?_
  refine lv_iconst (v := 0) hx hb dX6_hasGap_4 (by decide) ?_
  refine va_iald hx hb hK.1 hP 1 0 rfl rfl (i := (0 : Int32)) (show ixok (0 : Int32) 103 by decide) dX6_hasGap_5 ?_
  refine lv_iconst (v := 1) hx hb dX6_hasGap_6 (by decide) ?_
  obtain ⟨j31, hj31, hF⟩ := jn_use hF
  have hJ31 : ∀ (s31 : Int32) (H : Heap) (locs : List Loc) (ls : Array Slot) (hz_31_s0 : b01 s31), va_P (dC, dI) vwCl (cM cyI a v) H → va_S wN0 s.heap H locs → lv_has ls 1 [] → j31 s31 = some out → W p l e (headSpec (Cond.code yX6_hasGap cX6_hasGap 1 (some .boolean) :: wT) ({ frames := 2, cells := 0, slots := 0, locals := 45 } : Room)).room s m ([.ref (a 0)] : List Value).toArray below meth c H locs 0 0 (MQ below (va_Qi (fun (r : Int32) (_ : Unit) => r = out ∧ b01 r) (fun _ _ => True) wN0) ([.ref (a 0)] : List Value).toArray s 0 0 wN0) (F0 m 31 ls [.int s31]) := by
    intro s31 H locs ls hz_31_s0 hP hS hl hF
    have hF := (congrFun hj31 s31).symm.trans hF
    exact W.zret (ty := .boolean) (v := s31) hx hb hr (b01_n hz_31_s0) (fun t ht hW => ⟨⟨_, (), rfl, ⟨Option.some.inj hF, hz_31_s0⟩, trivial⟩, hS.F ht⟩) hS.2.2 dX6_hasGap_31
  obtain ⟨j30, hj30, hF⟩ := jn_use hF
  have hJ30 : ∀ (s30 : Unit) (H : Heap) (locs : List Loc) (ls : Array Slot), va_P (dC, dI) vwCl (cM cyI a v) H → va_S wN0 s.heap H locs → lv_has ls 1 [] → j30 s30 = some out → W p l e (headSpec (Cond.code yX6_hasGap cX6_hasGap 1 (some .boolean) :: wT) ({ frames := 2, cells := 0, slots := 0, locals := 45 } : Room)).room s m ([.ref (a 0)] : List Value).toArray below meth c H locs 0 0 (MQ below (va_Qi (fun (r : Int32) (_ : Unit) => r = out ∧ b01 r) (fun _ _ => True) wN0) ([.ref (a 0)] : List Value).toArray s 0 0 wN0) (F0 m 30 ls []) := by
    intro s30 H locs ls hP hS hl hF
    have hF := (congrFun hj30 s30).symm.trans hF
    refine lv_iconst (v := 0) hx hb dX6_hasGap_30 (by decide) ?_
    exact hJ31 (0 : Int32) _ _ _ b01_0 hP hS (lv_sub hl [] rfl) hF
  refine lv_icmp_ne (tgt := 30) hx hb dX6_hasGap_7 (by decide) (fun c2 => ?_) (fun c2 => ?_)
  · have hF := itn c2 hF
    exact hJ30 () _ _ _ hP hS (lv_sub hl [] rfl) hF
  · have hF := itp c2 hF
    refine lv_aload_n hx hb dX6_hasGap_10 rfl (lv_at hl 0 rfl) ?_
    refine lv_iconst (v := 0) hx hb dX6_hasGap_11 (by decide) ?_
    obtain ⟨o3, h4, hF⟩ := obd hF
    refine wcRVi (As := [.int (0 : Int32)]) (rest := []) (b := (a 0)) ⟨hx, hb, hml, hown, hts⟩ (met_X6_alive l dC dI cyI cyO cyL a N v (0 : Int32) o3 h4) (cwV 1 hts (gV w_methodLink_X6_204 w_instanceMethod_X6_alive w_selects_X6_alive w_initialized_X6 w_code_X6_alive) rfl rfl rfl (by decide +kernel) ⟨Nat.le_of_ble_eq_true rfl, Nat.le_of_ble_eq_true rfl⟩) (va_recv hK.1 hP (ci := 6) (q0 := 0) rfl rfl) hP hK [0, 1, 2, 3, 4, 5, 6, 7] rfl rfl hl.1 (Nat.le_of_ble_eq_true rfl) dX6_hasGap_12 ⟨Nat.le_of_ble_eq_true rfl, Nat.le_of_ble_eq_true rfl⟩ hS (fun r H locs hw hP hS => ?_)
    have hw := hw.symm
    subst hw
    refine lv_if_le (tgt := 30) hx hb dX6_hasGap_15 (by decide) (fun c5 => ?_) (fun c5 => ?_)
    · have hF := itp c5 hF
      exact hJ30 () _ _ _ hP hS (lv_sub hl [] rfl) hF
    · have hF := itn c5 hF
      refine lv_aload_n hx hb dX6_hasGap_18 rfl (lv_at hl 0 rfl) ?_
      refine lv_iconst (v := 1) hx hb dX6_hasGap_19 (by decide) ?_
      obtain ⟨o6, h7, hF⟩ := obd hF
      refine wcRVi (As := [.int (1 : Int32)]) (rest := []) (b := (a 0)) ⟨hx, hb, hml, hown, hts⟩ (met_X6_alive l dC dI cyI cyO cyL a N v (1 : Int32) o6 h7) (cwV 1 hts (gV w_methodLink_X6_204 w_instanceMethod_X6_alive w_selects_X6_alive w_initialized_X6 w_code_X6_alive) rfl rfl rfl (by decide +kernel) ⟨Nat.le_of_ble_eq_true rfl, Nat.le_of_ble_eq_true rfl⟩) (va_recv hK.1 hP (ci := 6) (q0 := 0) rfl rfl) hP hK [0, 1, 2, 3, 4, 5, 6, 7] rfl rfl hl.1 (Nat.le_of_ble_eq_true rfl) dX6_hasGap_20 ⟨Nat.le_of_ble_eq_true rfl, Nat.le_of_ble_eq_true rfl⟩ hS (fun r H locs hw hP hS => ?_)
      have hw := hw.symm
      subst hw
      refine lv_if_le (tgt := 30) hx hb dX6_hasGap_23 (by decide) (fun c8 => ?_) (fun c8 => ?_)
      · have hF := itp c8 hF
        exact hJ30 () _ _ _ hP hS (lv_sub hl [] rfl) hF
      · have hF := itn c8 hF
        refine lv_iconst (v := 1) hx hb dX6_hasGap_26 (by decide) ?_
        refine lv_goto (tgt := 31) hx hb dX6_hasGap_27 (by decide) ?_
        exact hJ31 (1 : Int32) _ _ _ b01_1 hP hS (lv_sub hl [] rfl) hF
theorem dX6_gap_0 : decode cX6_gap 0 = .ok (.aload_n 0, 1) := by decide +kernel
theorem dX6_gap_1 : decode cX6_gap 1 = .ok (.aload_n 0, 1) := by decide +kernel
theorem dX6_gap_2 : decode cX6_gap 2 = .ok (.invokevirtual 207, 3) := by decide +kernel
theorem dX6_gap_5 : decode cX6_gap 5 = .ok (.ifCond .eq 7, 3) := by decide +kernel
theorem dX6_gap_8 : decode cX6_gap 8 = .ok (.iconst 0, 1) := by decide +kernel
theorem dX6_gap_9 : decode cX6_gap 9 = .ok (.goto 4, 3) := by decide +kernel
theorem dX6_gap_12 : decode cX6_gap 12 = .ok (.iconst 1, 1) := by decide +kernel
theorem dX6_gap_13 : decode cX6_gap 13 = .ok (.invokevirtual 107, 3) := by decide +kernel
theorem dX6_gap_16 : decode cX6_gap 16 = .ok (.ifCond .eq 20, 3) := by decide +kernel
theorem dX6_gap_19 : decode cX6_gap 19 = .ok (.aload_n 0, 1) := by decide +kernel
theorem dX6_gap_20 : decode cX6_gap 20 = .ok (.iconst 0, 1) := by decide +kernel
theorem dX6_gap_21 : decode cX6_gap 21 = .ok (.invokevirtual 210, 3) := by decide +kernel
theorem dX6_gap_24 : decode cX6_gap 24 = .ok (.aload_n 0, 1) := by decide +kernel
theorem dX6_gap_25 : decode cX6_gap 25 = .ok (.iconst 1, 1) := by decide +kernel
theorem dX6_gap_26 : decode cX6_gap 26 = .ok (.invokevirtual 210, 3) := by decide +kernel
theorem dX6_gap_29 : decode cX6_gap 29 = .ok (.isub, 1) := by decide +kernel
theorem dX6_gap_30 : decode cX6_gap 30 = .ok (.invokestatic 101, 3) := by decide +kernel
theorem dX6_gap_33 : decode cX6_gap 33 = .ok (.goto 4, 3) := by decide +kernel
theorem dX6_gap_36 : decode cX6_gap 36 = .ok (.iconst 0, 1) := by decide +kernel
theorem dX6_gap_37 : decode cX6_gap 37 = .ok (.ireturn, 1) := by decide +kernel
def f_X6_gap (N : Nat) (v : MV) : Option (Int32 × MV) :=
  (f_X6_hasGap N v).bind (fun o1 => jn (fun (s13 : Int32) => (f_X6_holds N v s13).bind (fun o4 => jn (fun (s37 : Int32) => some (s37, o4.2)) (fun (j37 : (Int32) → Option (Int32 × MV)) => (if o4.1 = 0 then j37 (0 : Int32) else (f_X6_least N o4.2 (0 : Int32)).bind (fun o8 => (f_X6_least N o4.2 (1 : Int32)).bind (fun o10 => (f_X6_abs N (o8 - o10)).bind (fun o12 => j37 o12))))))) (fun (j13 : (Int32) → Option (Int32 × MV)) => (if o1 = 0 then j13 (1 : Int32) else j13 (0 : Int32))))
set_option maxHeartbeats 4000000 in
set_option maxRecDepth 100000 in
theorem met_X6_gap (l : Launch) (dC : Nat → ClassId) (dI : Nat → Nat → Nat) (cyI cyO cyL : ClassId) (a : Nat → Nat) (sz : Nat) (N : Nat) (v : MV) (out : Int32 × MV) (hF : f_X6_gap N v = some out) : Met l yX6_gap (Cond.code yX6_gap cX6_gap 1 (some .int) :: wT) ({ frames := 3, cells := 0, slots := 0, locals := 69 } : Room) (wWr dC dI cyI cyO cyL [.ref (a 0)] (cM cyI a v) sz) (va_Qi (fun (r : Int32) (u : MV) => (r, u) = out) (fun u t => va_P (dC, dI) vwCl (cM cyI a u) t.heap ∧ va_D (va_A (cM cyI a v) sz) (cM cyI a u)) (va_A (cM cyI a v) sz)) 0 0 (va_A (cM cyI a v) sz) := by
  refine Met.ofW (cc := cX6_gap) (maxL := 1) (ret := (some .int)) (by decide) rfl ?_
  intro p e s m args below meth c s₁ B hml hv
  obtain ⟨rfl, hsz, hP, hK, hD0⟩ := hv
  have hx := B.exec
  have hb := B.bytes
  have hr := B.returns
  have hts0 := atoms_spec (ws := (Cond.code yX6_gap cX6_gap 1 (some .int) :: wT)) B.pre
  have hts := fun w h => hts0 w (List.mem_cons_of_mem _ h)
  clear hts0
  have hown : s.vm.findClass RX6 = some m.cls := findClass_of_methodNamed B.named
  have hlocks := B.notSynchronized
  subst hsz
  have hD := hD0.self (sz := s.heap.size)
  generalize hAe : va_A (cM cyI a v) s.heap.size = A at hD ⊢
  have hA : ∀ q : Nat, s.heap.size ≤ q → A q := fun q h => by rw [← hAe]; exact Or.inr h
  clear hD0
  have hS : va_S A s.heap s.heap [] := va_S.rf
  have hl := lv_entry [.ref (a 0)] (n := 1) (Nat.le_of_ble_eq_true rfl)
  rw [lg_entry_eq]
  generalize (lg_sl [.ref (a 0)] ++ List.replicate (1 - (lg_sl [.ref (a 0)]).length) Slot.unset).toArray = ls at hl ⊢
  have hl : lv_has ls 1 [(0, .ref (a 0))] := hl
  unfold f_X6_gap at hF
  refine lv_aload_n hx hb dX6_gap_0 rfl (lv_at hl 0 rfl) ?_
  refine lv_aload_n hx hb dX6_gap_1 rfl (lv_at hl 0 rfl) ?_
  obtain ⟨o1, h2, hF⟩ := obd hF
  refine wcRVi (As := []) (rest := [.ref (a 0)]) (b := (a 0)) ⟨hx, hb, hml, hown, hts⟩ (met_X6_hasGap l dC dI cyI cyO cyL a N v  o1 h2) (cwV 0 hts (gV w_methodLink_X6_207 w_instanceMethod_X6_hasGap w_selects_X6_hasGap w_initialized_X6 w_code_X6_hasGap) rfl rfl rfl (by decide +kernel) ⟨Nat.le_of_ble_eq_true rfl, Nat.le_of_ble_eq_true rfl⟩) (va_recv hK.1 hP (ci := 6) (q0 := 0) rfl rfl) hP hK [0, 1, 2, 3, 4, 5, 6, 7] rfl rfl hl.1 (Nat.le_of_ble_eq_true rfl) dX6_gap_2 ⟨Nat.le_of_ble_eq_true rfl, Nat.le_of_ble_eq_true rfl⟩ hS (fun r H locs hw hP hS => ?_)
  obtain ⟨hw, hz3⟩ := hw
  have hw := hw.symm
  subst hw
  obtain ⟨j13, hj13, hF⟩ := jn_use hF
  have hJ13 : ∀ (s13 : Int32) (H : Heap) (locs : List Loc) (ls : Array Slot) (hz_13_s1 : b01 s13), va_P (dC, dI) vwCl (cM cyI a v) H → va_D A (cM cyI a v) → va_S A s.heap H locs → lv_has ls 1 [(0, .ref (a 0))] → j13 s13 = some out → W p l e (headSpec (Cond.code yX6_gap cX6_gap 1 (some .int) :: wT) ({ frames := 3, cells := 0, slots := 0, locals := 69 } : Room)).room s m ([.ref (a 0)] : List Value).toArray below meth c H locs 0 0 (MQ below (va_Qi (fun (r : Int32) (u : MV) => (r, u) = out) (fun u t => va_P (dC, dI) vwCl (cM cyI a u) t.heap ∧ va_D A (cM cyI a u)) A) ([.ref (a 0)] : List Value).toArray s 0 0 A) (F0 m 13 ls [.int s13, .ref (a 0)]) := by
    intro s13 H locs ls hz_13_s1 hP hD hS hl hF
    have hF := (congrFun hj13 s13).symm.trans hF
    obtain ⟨o4, h5, hF⟩ := obd hF
    refine wcWVi (As := [.int s13]) (rest := []) (wr := []) (b := (a 0)) ⟨hx, hb, hml, hown, hts⟩ (met_X6_holds l dC dI cyI cyO cyL a _ N v s13 o4 h5) (cwV 1 hts (gV w_methodLink_X6_107 w_instanceMethod_X6_holds w_selects_X6_holds w_initialized_X6 w_code_X6_holds) rfl rfl rfl (by decide +kernel) ⟨Nat.le_of_ble_eq_true rfl, Nat.le_of_ble_eq_true rfl⟩) (va_recv hK.1 hP (ci := 6) (q0 := 0) rfl rfl) hP hD hK [0, 1, 2, 3, 4, 5, 6, 7] [] rfl rfl (by decide) (by decide) (by decide) rfl hl.1 (Nat.le_of_ble_eq_true rfl) dX6_gap_13 ⟨Nat.le_of_ble_eq_true rfl, Nat.le_of_ble_eq_true rfl⟩ hS hA (fun r u H locs hw hP hD hS => ?_)
    obtain ⟨hw, hz6⟩ := hw
    obtain rfl : r = o4.1 := congrArg Prod.fst hw
    obtain rfl : u = o4.2 := congrArg Prod.snd hw
    clear hw
    have hP : va_P (dC, dI) vwCl (cM cyI a o4.2) H := hP
    have hD : va_D A (cM cyI a o4.2) := hD
    obtain ⟨j37, hj37, hF⟩ := jn_use hF
    have hJ37 : ∀ (s37 : Int32) (H : Heap) (locs : List Loc) (ls : Array Slot), va_P (dC, dI) vwCl (cM cyI a o4.2) H → va_D A (cM cyI a o4.2) → va_S A s.heap H locs → lv_has ls 1 [] → j37 s37 = some out → W p l e (headSpec (Cond.code yX6_gap cX6_gap 1 (some .int) :: wT) ({ frames := 3, cells := 0, slots := 0, locals := 69 } : Room)).room s m ([.ref (a 0)] : List Value).toArray below meth c H locs 0 0 (MQ below (va_Qi (fun (r : Int32) (u : MV) => (r, u) = out) (fun u t => va_P (dC, dI) vwCl (cM cyI a u) t.heap ∧ va_D A (cM cyI a u)) A) ([.ref (a 0)] : List Value).toArray s 0 0 A) (F0 m 37 ls [.int s37]) := by
      intro s37 H locs ls hP hD hS hl hF
      have hF := (congrFun hj37 s37).symm.trans hF
      exact W.iret (v := s37) hx hb hr (fun t ht hW => ⟨⟨_, o4.2, rfl, Option.some.inj hF, by rw [ht]; exact hP, hD⟩, hS.F ht⟩) hS.2.2 dX6_gap_37
    refine lv_if_eq (tgt := 36) hx hb dX6_gap_16 (by decide) (fun c7 => ?_) (fun c7 => ?_)
    · have hF := itp c7 hF
      refine lv_iconst (v := 0) hx hb dX6_gap_36 (by decide) ?_
      exact hJ37 (0 : Int32) _ _ _ hP hD hS (lv_sub hl [] rfl) hF
    · have hF := itn c7 hF
      refine lv_aload_n hx hb dX6_gap_19 rfl (lv_at hl 0 rfl) ?_
      refine lv_iconst (v := 0) hx hb dX6_gap_20 (by decide) ?_
      obtain ⟨o8, h9, hF⟩ := obd hF
      refine wcRVi (As := [.int (0 : Int32)]) (rest := []) (b := (a 0)) ⟨hx, hb, hml, hown, hts⟩ (met_X6_least l dC dI cyI cyO cyL a N o4.2 (0 : Int32) o8 h9) (cwV 1 hts (gV w_methodLink_X6_210 w_instanceMethod_X6_least w_selects_X6_least w_initialized_X6 w_code_X6_least) rfl rfl rfl (by decide +kernel) ⟨Nat.le_of_ble_eq_true rfl, Nat.le_of_ble_eq_true rfl⟩) (va_recv hK.1 hP (ci := 6) (q0 := 0) rfl rfl) hP hK [0, 1, 2, 3, 4, 5, 6, 7] rfl rfl hl.1 (Nat.le_of_ble_eq_true rfl) dX6_gap_21 ⟨Nat.le_of_ble_eq_true rfl, Nat.le_of_ble_eq_true rfl⟩ hS (fun r H locs hw hP hS => ?_)
      have hw := hw.symm
      subst hw
      refine lv_aload_n hx hb dX6_gap_24 rfl (lv_at hl 0 rfl) ?_
      refine lv_iconst (v := 1) hx hb dX6_gap_25 (by decide) ?_
      obtain ⟨o10, h11, hF⟩ := obd hF
      refine wcRVi (As := [.int (1 : Int32)]) (rest := [.int o8]) (b := (a 0)) ⟨hx, hb, hml, hown, hts⟩ (met_X6_least l dC dI cyI cyO cyL a N o4.2 (1 : Int32) o10 h11) (cwV 1 hts (gV w_methodLink_X6_210 w_instanceMethod_X6_least w_selects_X6_least w_initialized_X6 w_code_X6_least) rfl rfl rfl (by decide +kernel) ⟨Nat.le_of_ble_eq_true rfl, Nat.le_of_ble_eq_true rfl⟩) (va_recv hK.1 hP (ci := 6) (q0 := 0) rfl rfl) hP hK [0, 1, 2, 3, 4, 5, 6, 7] rfl rfl hl.1 (Nat.le_of_ble_eq_true rfl) dX6_gap_26 ⟨Nat.le_of_ble_eq_true rfl, Nat.le_of_ble_eq_true rfl⟩ hS (fun r H locs hw hP hS => ?_)
      have hw := hw.symm
      subst hw
      refine lv_isub hx hb dX6_gap_29 ?_
      obtain ⟨o12, h13, hF⟩ := obd hF
      refine wcRSi (As := [.int (o8 - o10)]) (rest := []) ⟨hx, hb, hml, hown, hts⟩ (met_X6_abs l dC dI cyI cyO cyL  N  (o8 - o10) o12 h13) (va_cwS 1 hts (gS w_methodLink_X6_101 w_static_X6_abs w_initialized_X6 w_code_X6_abs) rfl rfl rfl (by decide +kernel) ⟨Nat.le_of_ble_eq_true rfl, Nat.le_of_ble_eq_true rfl⟩) hP hK [] rfl rfl hl.1 (Nat.le_of_ble_eq_true rfl) dX6_gap_30 ⟨Nat.le_of_ble_eq_true rfl, Nat.le_of_ble_eq_true rfl⟩ hS (fun r H locs hw hP hS => ?_)
      have hw := hw.symm
      subst hw
      refine lv_goto (tgt := 37) hx hb dX6_gap_33 (by decide) ?_
      exact hJ37 o12 _ _ _ hP hD hS (lv_sub hl [] rfl) hF
  refine lv_if_eq (tgt := 12) hx hb dX6_gap_5 (by decide) (fun c14 => ?_) (fun c14 => ?_)
  · have hF := itp c14 hF
    refine lv_iconst (v := 1) hx hb dX6_gap_12 (by decide) ?_
    exact hJ13 (1 : Int32) _ _ _ b01_1 hP hD hS (lv_sub hl [0] rfl) hF
  · have hF := itn c14 hF
    refine lv_iconst (v := 0) hx hb dX6_gap_8 (by decide) ?_
    refine lv_goto (tgt := 13) hx hb dX6_gap_9 (by decide) ?_
    exact hJ13 (0 : Int32) _ _ _ b01_0 hP hD hS (lv_sub hl [0] rfl) hF
theorem dX6_widest_0 : decode cX6_widest 0 = .ok (.iconst 0, 1) := by decide +kernel
theorem dX6_widest_1 : decode cX6_widest 1 = .ok (.istore_n 1, 1) := by decide +kernel
theorem dX6_widest_2 : decode cX6_widest 2 = .ok (.iconst 0, 1) := by decide +kernel
theorem dX6_widest_3 : decode cX6_widest 3 = .ok (.istore_n 2, 1) := by decide +kernel
theorem dX6_widest_4 : decode cX6_widest 4 = .ok (.iload_n 2, 1) := by decide +kernel
theorem dX6_widest_5 : decode cX6_widest 5 = .ok (.aload_n 0, 1) := by decide +kernel
theorem dX6_widest_6 : decode cX6_widest 6 = .ok (.getfield 7, 3) := by decide +kernel
theorem dX6_widest_9 : decode cX6_widest 9 = .ok (.iconst 3, 1) := by decide +kernel
theorem dX6_widest_10 : decode cX6_widest 10 = .ok (.iaload, 1) := by decide +kernel
theorem dX6_widest_11 : decode cX6_widest 11 = .ok (.if_icmp .ge 115, 3) := by decide +kernel
theorem dX6_widest_14 : decode cX6_widest 14 = .ok (.iconst 0, 1) := by decide +kernel
theorem dX6_widest_15 : decode cX6_widest 15 = .ok (.istore_n 3, 1) := by decide +kernel
theorem dX6_widest_16 : decode cX6_widest 16 = .ok (.iload_n 3, 1) := by decide +kernel
theorem dX6_widest_17 : decode cX6_widest 17 = .ok (.iload_n 2, 1) := by decide +kernel
theorem dX6_widest_18 : decode cX6_widest 18 = .ok (.if_icmp .ge 102, 3) := by decide +kernel
theorem dX6_widest_21 : decode cX6_widest 21 = .ok (.aload_n 0, 1) := by decide +kernel
theorem dX6_widest_22 : decode cX6_widest 22 = .ok (.iload_n 2, 1) := by decide +kernel
theorem dX6_widest_23 : decode cX6_widest 23 = .ok (.iconst 1, 1) := by decide +kernel
theorem dX6_widest_24 : decode cX6_widest 24 = .ok (.invokevirtual 42, 3) := by decide +kernel
theorem dX6_widest_27 : decode cX6_widest 27 = .ok (.aload_n 0, 1) := by decide +kernel
theorem dX6_widest_28 : decode cX6_widest 28 = .ok (.iload_n 3, 1) := by decide +kernel
theorem dX6_widest_29 : decode cX6_widest 29 = .ok (.iconst 1, 1) := by decide +kernel
theorem dX6_widest_30 : decode cX6_widest 30 = .ok (.invokevirtual 42, 3) := by decide +kernel
theorem dX6_widest_33 : decode cX6_widest 33 = .ok (.isub, 1) := by decide +kernel
theorem dX6_widest_34 : decode cX6_widest 34 = .ok (.istore 4, 2) := by decide +kernel
theorem dX6_widest_36 : decode cX6_widest 36 = .ok (.aload_n 0, 1) := by decide +kernel
theorem dX6_widest_37 : decode cX6_widest 37 = .ok (.iload_n 2, 1) := by decide +kernel
theorem dX6_widest_38 : decode cX6_widest 38 = .ok (.iconst 2, 1) := by decide +kernel
theorem dX6_widest_39 : decode cX6_widest 39 = .ok (.invokevirtual 42, 3) := by decide +kernel
theorem dX6_widest_42 : decode cX6_widest 42 = .ok (.aload_n 0, 1) := by decide +kernel
theorem dX6_widest_43 : decode cX6_widest 43 = .ok (.iload_n 3, 1) := by decide +kernel
theorem dX6_widest_44 : decode cX6_widest 44 = .ok (.iconst 2, 1) := by decide +kernel
theorem dX6_widest_45 : decode cX6_widest 45 = .ok (.invokevirtual 42, 3) := by decide +kernel
theorem dX6_widest_48 : decode cX6_widest 48 = .ok (.isub, 1) := by decide +kernel
theorem dX6_widest_49 : decode cX6_widest 49 = .ok (.istore 5, 2) := by decide +kernel
theorem dX6_widest_51 : decode cX6_widest 51 = .ok (.aload_n 0, 1) := by decide +kernel
theorem dX6_widest_52 : decode cX6_widest 52 = .ok (.iload_n 2, 1) := by decide +kernel
theorem dX6_widest_53 : decode cX6_widest 53 = .ok (.iconst 0, 1) := by decide +kernel
theorem dX6_widest_54 : decode cX6_widest 54 = .ok (.invokevirtual 42, 3) := by decide +kernel
theorem dX6_widest_57 : decode cX6_widest 57 = .ok (.iconst 2, 1) := by decide +kernel
theorem dX6_widest_58 : decode cX6_widest 58 = .ok (.if_icmp .eq 17, 3) := by decide +kernel
theorem dX6_widest_61 : decode cX6_widest 61 = .ok (.aload_n 0, 1) := by decide +kernel
theorem dX6_widest_62 : decode cX6_widest 62 = .ok (.iload_n 3, 1) := by decide +kernel
theorem dX6_widest_63 : decode cX6_widest 63 = .ok (.iconst 0, 1) := by decide +kernel
theorem dX6_widest_64 : decode cX6_widest 64 = .ok (.invokevirtual 42, 3) := by decide +kernel
theorem dX6_widest_67 : decode cX6_widest 67 = .ok (.iconst 2, 1) := by decide +kernel
theorem dX6_widest_68 : decode cX6_widest 68 = .ok (.if_icmp .eq 7, 3) := by decide +kernel
theorem dX6_widest_71 : decode cX6_widest 71 = .ok (.iconst 1, 1) := by decide +kernel
theorem dX6_widest_72 : decode cX6_widest 72 = .ok (.goto 4, 3) := by decide +kernel
theorem dX6_widest_75 : decode cX6_widest 75 = .ok (.iconst 0, 1) := by decide +kernel
theorem dX6_widest_76 : decode cX6_widest 76 = .ok (.istore 6, 2) := by decide +kernel
theorem dX6_widest_78 : decode cX6_widest 78 = .ok (.iload 6, 2) := by decide +kernel
theorem dX6_widest_80 : decode cX6_widest 80 = .ok (.ifCond .eq 32, 3) := by decide +kernel
theorem dX6_widest_83 : decode cX6_widest 83 = .ok (.iload 4, 2) := by decide +kernel
theorem dX6_widest_85 : decode cX6_widest 85 = .ok (.iload 4, 2) := by decide +kernel
theorem dX6_widest_87 : decode cX6_widest 87 = .ok (.imul, 1) := by decide +kernel
theorem dX6_widest_88 : decode cX6_widest 88 = .ok (.iload 5, 2) := by decide +kernel
theorem dX6_widest_90 : decode cX6_widest 90 = .ok (.iload 5, 2) := by decide +kernel
theorem dX6_widest_92 : decode cX6_widest 92 = .ok (.imul, 1) := by decide +kernel
theorem dX6_widest_93 : decode cX6_widest 93 = .ok (.iadd, 1) := by decide +kernel
theorem dX6_widest_94 : decode cX6_widest 94 = .ok (.iload_n 1, 1) := by decide +kernel
theorem dX6_widest_95 : decode cX6_widest 95 = .ok (.if_icmp .le 17, 3) := by decide +kernel
theorem dX6_widest_98 : decode cX6_widest 98 = .ok (.iload 4, 2) := by decide +kernel
theorem dX6_widest_100 : decode cX6_widest 100 = .ok (.iload 4, 2) := by decide +kernel
theorem dX6_widest_102 : decode cX6_widest 102 = .ok (.imul, 1) := by decide +kernel
theorem dX6_widest_103 : decode cX6_widest 103 = .ok (.iload 5, 2) := by decide +kernel
theorem dX6_widest_105 : decode cX6_widest 105 = .ok (.iload 5, 2) := by decide +kernel
theorem dX6_widest_107 : decode cX6_widest 107 = .ok (.imul, 1) := by decide +kernel
theorem dX6_widest_108 : decode cX6_widest 108 = .ok (.iadd, 1) := by decide +kernel
theorem dX6_widest_109 : decode cX6_widest 109 = .ok (.goto 4, 3) := by decide +kernel
theorem dX6_widest_112 : decode cX6_widest 112 = .ok (.iload_n 1, 1) := by decide +kernel
theorem dX6_widest_113 : decode cX6_widest 113 = .ok (.istore_n 1, 1) := by decide +kernel
theorem dX6_widest_114 : decode cX6_widest 114 = .ok (.iinc 3 1, 3) := by decide +kernel
theorem dX6_widest_117 : decode cX6_widest 117 = .ok (.goto (-101), 3) := by decide +kernel
theorem dX6_widest_120 : decode cX6_widest 120 = .ok (.iinc 2 1, 3) := by decide +kernel
theorem dX6_widest_123 : decode cX6_widest 123 = .ok (.goto (-119), 3) := by decide +kernel
theorem dX6_widest_126 : decode cX6_widest 126 = .ok (.iload_n 1, 1) := by decide +kernel
theorem dX6_widest_127 : decode cX6_widest 127 = .ok (.ireturn, 1) := by decide +kernel
def f_X6_widest (N : Nat) (v : MV) : Option (Int32) :=
  lpN (fun (s4 : Int32 × Int32) (k4 : (Int32 × Int32) → Option (Int32)) => (if ((M_s v) (3 : Int32).toNatClampNeg) ≤ s4.2 then some s4.1 else lpN (fun (s16 : Int32 × Int32) (k16 : (Int32 × Int32) → Option (Int32)) => (if s4.2 ≤ s16.2 then k4 (s16.1, (s4.2 + (1 : Int32))) else (f_X6_of N v s4.2 (1 : Int32)).bind (fun o4 => (f_X6_of N v s16.2 (1 : Int32)).bind (fun o6 => (f_X6_of N v s4.2 (2 : Int32)).bind (fun o8 => (f_X6_of N v s16.2 (2 : Int32)).bind (fun o10 => (f_X6_of N v s4.2 (0 : Int32)).bind (fun o12 => jn (fun (s76 : Int32) => jn (fun (s113 : Int32) => k16 (s113, (s16.2 + (1 : Int32)))) (fun (j113 : (Int32) → Option (Int32)) => jn (fun (s112 : Unit) => j113 s16.1) (fun (j112 : (Unit) → Option (Int32)) => (if s76 = 0 then j112 () else (if (((o4 - o6) * (o4 - o6)) + ((o8 - o10) * (o8 - o10))) ≤ s16.1 then j112 () else j113 (((o4 - o6) * (o4 - o6)) + ((o8 - o10) * (o8 - o10)))))))) (fun (j76 : (Int32) → Option (Int32)) => jn (fun (s75 : Unit) => j76 (0 : Int32)) (fun (j75 : (Unit) → Option (Int32)) => (if o12 = (2 : Int32) then j75 () else (f_X6_of N v s16.2 (0 : Int32)).bind (fun o17 => (if o17 = (2 : Int32) then j75 () else j76 (1 : Int32))))))))))))) N (s4.1, (0 : Int32)))) N ((0 : Int32), (0 : Int32))
set_option maxHeartbeats 4000000 in
set_option maxRecDepth 100000 in
theorem met_X6_widest (l : Launch) (dC : Nat → ClassId) (dI : Nat → Nat → Nat) (cyI cyO cyL : ClassId) (a : Nat → Nat) (N : Nat) (v : MV) (out : Int32) (hF : f_X6_widest N v = some out) : Met l yX6_widest (Cond.code yX6_widest cX6_widest 7 (some .int) :: wT) ({ frames := 1, cells := 0, slots := 0, locals := 22 } : Room) (wRd dC dI cyI cyO cyL [.ref (a 0)] (cM cyI a v)) (va_Qi (fun (r : Int32) (_ : Unit) => r = out) (fun _ _ => True) wN0) 0 0 wN0 := by
  refine Met.ofW (cc := cX6_widest) (maxL := 7) (ret := (some .int)) (by decide) rfl ?_
  intro p e s m args below meth c s₁ B hml hv
  obtain ⟨rfl, hP, hK⟩ := hv
  have hx := B.exec
  have hb := B.bytes
  have hr := B.returns
  have hts0 := atoms_spec (ws := (Cond.code yX6_widest cX6_widest 7 (some .int) :: wT)) B.pre
  have hts := fun w h => hts0 w (List.mem_cons_of_mem _ h)
  clear hts0
  have hown : s.vm.findClass RX6 = some m.cls := findClass_of_methodNamed B.named
  have hlocks := B.notSynchronized
  have hS : va_S wN0 s.heap s.heap [] := va_S.rf
  have hl := lv_entry [.ref (a 0)] (n := 7) (Nat.le_of_ble_eq_true rfl)
  rw [lg_entry_eq]
  generalize (lg_sl [.ref (a 0)] ++ List.replicate (7 - (lg_sl [.ref (a 0)]).length) Slot.unset).toArray = ls at hl ⊢
  have hl : lv_has ls 7 [(0, .ref (a 0))] := hl
  unfold f_X6_widest at hF
  refine lv_iconst (v := 0) hx hb dX6_widest_0 (by decide) ?_
  refine lv_istore_n (lv' := [(1, .int (0 : Int32)), (0, .ref (a 0))]) hx hb dX6_widest_1 rfl hl (by decide) rfl (fun ls hl => ?_)
  refine lv_iconst (v := 0) hx hb dX6_widest_2 (by decide) ?_
  refine lv_istore_n (lv' := [(2, .int (0 : Int32)), (1, .int (0 : Int32)), (0, .ref (a 0))]) hx hb dX6_widest_3 rfl hl (by decide) rfl (fun ls hl => ?_)
  obtain ⟨st4, hst4, hF⟩ := lpN_use hF
  have hL4 : ∀ (n : Nat) (s4 : Int32 × Int32) (H : Heap) (locs : List Loc) (ls : Array Slot), va_P (dC, dI) vwCl (cM cyI a v) H → va_S wN0 s.heap H locs → lv_has ls 7 [(0, .ref (a 0)), (1, .int s4.1), (2, .int s4.2)] → lpN st4 n s4 = some out → W p l e (headSpec (Cond.code yX6_widest cX6_widest 7 (some .int) :: wT) ({ frames := 1, cells := 0, slots := 0, locals := 22 } : Room)).room s m ([.ref (a 0)] : List Value).toArray below meth c H locs 0 0 (MQ below (va_Qi (fun (r : Int32) (_ : Unit) => r = out) (fun _ _ => True) wN0) ([.ref (a 0)] : List Value).toArray s 0 0 wN0) (F0 m 4 ls []) := by
    intro n
    induction n with
    | zero => intro s4 H locs ls hP hS hl hF; exact lpN_0 hF
    | succ n ih4 =>
      intro s4 H locs ls hP hS hl hF
      have hF := (congrFun (congrFun hst4 s4) (lpN st4 n)).symm.trans (lpN_s hF)
      refine lv_iload_n hx hb dX6_widest_4 rfl (lv_at hl 2 rfl) ?_
      refine lv_aload_n hx hb dX6_widest_5 rfl (lv_at hl 0 rfl) ?_
      refine va_get (D := (dC, dI)) (ci := 6) (v := .ref (a 1)) (C := RX6) (T := TX6) (N := 23) hx hb hts inX6 hown hK.1 hP 0 rfl rfl 1 (by decide) (hts _ w_fieldLink_X6_7) (fun _ h9 => h9) rfl dX6_widest_6 ?_
      refine lv_iconst (v := 3) hx hb dX6_widest_9 (by decide) ?_
      refine va_iald hx hb hK.1 hP 1 0 rfl rfl (i := (3 : Int32)) (show ixok (3 : Int32) 103 by decide) dX6_widest_10 ?_
      refine lv_icmp_ge (tgt := 126) hx hb dX6_widest_11 (by decide) (fun c2 => ?_) (fun c2 => ?_)
      · have hF := itp c2 hF
        refine lv_iload_n hx hb dX6_widest_126 rfl (lv_at hl 1 rfl) ?_
        exact W.iret (v := s4.1) hx hb hr (fun t ht hW => ⟨⟨_, (), rfl, Option.some.inj hF, trivial⟩, hS.F ht⟩) hS.2.2 dX6_widest_127
      · have hF := itn c2 hF
        refine lv_iconst (v := 0) hx hb dX6_widest_14 (by decide) ?_
        refine lv_istore_n (lv' := [(3, .int (0 : Int32)), (0, .ref (a 0)), (1, .int s4.1), (2, .int s4.2)]) hx hb dX6_widest_15 rfl hl (by decide) rfl (fun ls hl => ?_)
        obtain ⟨st16, hst16, hF⟩ := lpN_use hF
        have hL16 : ∀ (n : Nat) (s16 : Int32 × Int32) (H : Heap) (locs : List Loc) (ls : Array Slot), va_P (dC, dI) vwCl (cM cyI a v) H → va_S wN0 s.heap H locs → lv_has ls 7 [(0, .ref (a 0)), (1, .int s16.1), (2, .int s4.2), (3, .int s16.2)] → lpN st16 n s16 = some out → W p l e (headSpec (Cond.code yX6_widest cX6_widest 7 (some .int) :: wT) ({ frames := 1, cells := 0, slots := 0, locals := 22 } : Room)).room s m ([.ref (a 0)] : List Value).toArray below meth c H locs 0 0 (MQ below (va_Qi (fun (r : Int32) (_ : Unit) => r = out) (fun _ _ => True) wN0) ([.ref (a 0)] : List Value).toArray s 0 0 wN0) (F0 m 16 ls []) := by
          intro n
          induction n with
          | zero => intro s16 H locs ls hP hS hl hF; exact lpN_0 hF
          | succ n ih16 =>
            intro s16 H locs ls hP hS hl hF
            have hF := (congrFun (congrFun hst16 s16) (lpN st16 n)).symm.trans (lpN_s hF)
            refine lv_iload_n hx hb dX6_widest_16 rfl (lv_at hl 3 rfl) ?_
            refine lv_iload_n hx hb dX6_widest_17 rfl (lv_at hl 2 rfl) ?_
            refine lv_icmp_ge (tgt := 120) hx hb dX6_widest_18 (by decide) (fun c3 => ?_) (fun c3 => ?_)
            · have hF := itp c3 hF
              refine lv_iinc (v := (s4.2 + (1 : Int32))) (lv' := [(2, .int (s4.2 + (1 : Int32))), (0, .ref (a 0)), (1, .int s16.1), (3, .int s16.2)]) hx hb dX6_widest_120 hl (k := 2) rfl rfl (by decide) rfl (fun ls hl => ?_)
              refine lv_goto (tgt := 4) hx hb dX6_widest_123 (by decide) ?_
              exact ih4 (s16.1, (s4.2 + (1 : Int32))) _ _ _ hP hS (lv_sub hl [1, 2, 0] rfl) hF
            · have hF := itn c3 hF
              refine lv_aload_n hx hb dX6_widest_21 rfl (lv_at hl 0 rfl) ?_
              refine lv_iload_n hx hb dX6_widest_22 rfl (lv_at hl 2 rfl) ?_
              refine lv_iconst (v := 1) hx hb dX6_widest_23 (by decide) ?_
              obtain ⟨o4, h5, hF⟩ := obd hF
              refine wcRVi (As := [.int s4.2, .int (1 : Int32)]) (rest := []) (b := (a 0)) ⟨hx, hb, hml, hown, hts⟩ (met_X6_of l dC dI cyI cyO cyL a N v s4.2 (1 : Int32) o4 h5) (cwV 2 hts (gV w_methodLink_X6_42 w_instanceMethod_X6_of w_selects_X6_of w_initialized_X6 w_code_X6_of) rfl rfl rfl (by decide +kernel) ⟨Nat.le_of_ble_eq_true rfl, Nat.le_of_ble_eq_true rfl⟩) (va_recv hK.1 hP (ci := 6) (q0 := 0) rfl rfl) hP hK [0, 1, 2, 3, 4, 5, 6, 7] rfl rfl hl.1 (Nat.le_of_ble_eq_true rfl) dX6_widest_24 ⟨Nat.le_of_ble_eq_true rfl, Nat.le_of_ble_eq_true rfl⟩ hS (fun r H locs hw hP hS => ?_)
              have hw := hw.symm
              subst hw
              refine lv_aload_n hx hb dX6_widest_27 rfl (lv_at hl 0 rfl) ?_
              refine lv_iload_n hx hb dX6_widest_28 rfl (lv_at hl 3 rfl) ?_
              refine lv_iconst (v := 1) hx hb dX6_widest_29 (by decide) ?_
              obtain ⟨o6, h7, hF⟩ := obd hF
              refine wcRVi (As := [.int s16.2, .int (1 : Int32)]) (rest := [.int o4]) (b := (a 0)) ⟨hx, hb, hml, hown, hts⟩ (met_X6_of l dC dI cyI cyO cyL a N v s16.2 (1 : Int32) o6 h7) (cwV 2 hts (gV w_methodLink_X6_42 w_instanceMethod_X6_of w_selects_X6_of w_initialized_X6 w_code_X6_of) rfl rfl rfl (by decide +kernel) ⟨Nat.le_of_ble_eq_true rfl, Nat.le_of_ble_eq_true rfl⟩) (va_recv hK.1 hP (ci := 6) (q0 := 0) rfl rfl) hP hK [0, 1, 2, 3, 4, 5, 6, 7] rfl rfl hl.1 (Nat.le_of_ble_eq_true rfl) dX6_widest_30 ⟨Nat.le_of_ble_eq_true rfl, Nat.le_of_ble_eq_true rfl⟩ hS (fun r H locs hw hP hS => ?_)
              have hw := hw.symm
              subst hw
              refine lv_isub hx hb dX6_widest_33 ?_
              refine lv_istore (lv' := [(4, .int (o4 - o6)), (0, .ref (a 0)), (1, .int s16.1), (2, .int s4.2), (3, .int s16.2)]) hx hb dX6_widest_34 hl (by decide) rfl (fun ls hl => ?_)
              refine lv_aload_n hx hb dX6_widest_36 rfl (lv_at hl 1 rfl) ?_
              refine lv_iload_n hx hb dX6_widest_37 rfl (lv_at hl 3 rfl) ?_
              refine lv_iconst (v := 2) hx hb dX6_widest_38 (by decide) ?_
              obtain ⟨o8, h9, hF⟩ := obd hF
              refine wcRVi (As := [.int s4.2, .int (2 : Int32)]) (rest := []) (b := (a 0)) ⟨hx, hb, hml, hown, hts⟩ (met_X6_of l dC dI cyI cyO cyL a N v s4.2 (2 : Int32) o8 h9) (cwV 2 hts (gV w_methodLink_X6_42 w_instanceMethod_X6_of w_selects_X6_of w_initialized_X6 w_code_X6_of) rfl rfl rfl (by decide +kernel) ⟨Nat.le_of_ble_eq_true rfl, Nat.le_of_ble_eq_true rfl⟩) (va_recv hK.1 hP (ci := 6) (q0 := 0) rfl rfl) hP hK [0, 1, 2, 3, 4, 5, 6, 7] rfl rfl hl.1 (Nat.le_of_ble_eq_true rfl) dX6_widest_39 ⟨Nat.le_of_ble_eq_true rfl, Nat.le_of_ble_eq_true rfl⟩ hS (fun r H locs hw hP hS => ?_)
              have hw := hw.symm
              subst hw
              refine lv_aload_n hx hb dX6_widest_42 rfl (lv_at hl 1 rfl) ?_
              refine lv_iload_n hx hb dX6_widest_43 rfl (lv_at hl 4 rfl) ?_
              refine lv_iconst (v := 2) hx hb dX6_widest_44 (by decide) ?_
              obtain ⟨o10, h11, hF⟩ := obd hF
              refine wcRVi (As := [.int s16.2, .int (2 : Int32)]) (rest := [.int o8]) (b := (a 0)) ⟨hx, hb, hml, hown, hts⟩ (met_X6_of l dC dI cyI cyO cyL a N v s16.2 (2 : Int32) o10 h11) (cwV 2 hts (gV w_methodLink_X6_42 w_instanceMethod_X6_of w_selects_X6_of w_initialized_X6 w_code_X6_of) rfl rfl rfl (by decide +kernel) ⟨Nat.le_of_ble_eq_true rfl, Nat.le_of_ble_eq_true rfl⟩) (va_recv hK.1 hP (ci := 6) (q0 := 0) rfl rfl) hP hK [0, 1, 2, 3, 4, 5, 6, 7] rfl rfl hl.1 (Nat.le_of_ble_eq_true rfl) dX6_widest_45 ⟨Nat.le_of_ble_eq_true rfl, Nat.le_of_ble_eq_true rfl⟩ hS (fun r H locs hw hP hS => ?_)
              have hw := hw.symm
              subst hw
              refine lv_isub hx hb dX6_widest_48 ?_
              refine lv_istore (lv' := [(5, .int (o8 - o10)), (4, .int (o4 - o6)), (0, .ref (a 0)), (1, .int s16.1), (2, .int s4.2), (3, .int s16.2)]) hx hb dX6_widest_49 hl (by decide) rfl (fun ls hl => ?_)
              refine lv_aload_n hx hb dX6_widest_51 rfl (lv_at hl 2 rfl) ?_
              refine lv_iload_n hx hb dX6_widest_52 rfl (lv_at hl 4 rfl) ?_
              refine lv_iconst (v := 0) hx hb dX6_widest_53 (by decide) ?_
              obtain ⟨o12, h13, hF⟩ := obd hF
              refine wcRVi (As := [.int s4.2, .int (0 : Int32)]) (rest := []) (b := (a 0)) ⟨hx, hb, hml, hown, hts⟩ (met_X6_of l dC dI cyI cyO cyL a N v s4.2 (0 : Int32) o12 h13) (cwV 2 hts (gV w_methodLink_X6_42 w_instanceMethod_X6_of w_selects_X6_of w_initialized_X6 w_code_X6_of) rfl rfl rfl (by decide +kernel) ⟨Nat.le_of_ble_eq_true rfl, Nat.le_of_ble_eq_true rfl⟩) (va_recv hK.1 hP (ci := 6) (q0 := 0) rfl rfl) hP hK [0, 1, 2, 3, 4, 5, 6, 7] rfl rfl hl.1 (Nat.le_of_ble_eq_true rfl) dX6_widest_54 ⟨Nat.le_of_ble_eq_true rfl, Nat.le_of_ble_eq_true rfl⟩ hS (fun r H locs hw hP hS => ?_)
              have hw := hw.symm
              subst hw
              refine lv_iconst (v := 2) hx hb dX6_widest_57 (by decide) ?_
              obtain ⟨j76, hj76, hF⟩ := jn_use hF
              have hJ76 : ∀ (s76 : Int32) (H : Heap) (locs : List Loc) (ls : Array Slot) (hz_76_s0 : b01 s76), va_P (dC, dI) vwCl (cM cyI a v) H → va_S wN0 s.heap H locs → lv_has ls 7 [(0, .ref (a 0)), (1, .int s16.1), (2, .int s4.2), (3, .int s16.2), (4, .int (o4 - o6)), (5, .int (o8 - o10))] → j76 s76 = some out → W p l e (headSpec (Cond.code yX6_widest cX6_widest 7 (some .int) :: wT) ({ frames := 1, cells := 0, slots := 0, locals := 22 } : Room)).room s m ([.ref (a 0)] : List Value).toArray below meth c H locs 0 0 (MQ below (va_Qi (fun (r : Int32) (_ : Unit) => r = out) (fun _ _ => True) wN0) ([.ref (a 0)] : List Value).toArray s 0 0 wN0) (F0 m 76 ls [.int s76]) := by
                intro s76 H locs ls hz_76_s0 hP hS hl hF
                have hF := (congrFun hj76 s76).symm.trans hF
                refine lv_istore (lv' := [(6, .int s76), (0, .ref (a 0)), (1, .int s16.1), (2, .int s4.2), (3, .int s16.2), (4, .int (o4 - o6)), (5, .int (o8 - o10))]) hx hb dX6_widest_76 hl (by decide) rfl (fun ls hl => ?_)
                refine lv_iload hx hb dX6_widest_78 (lv_at hl 0 rfl) ?_
                obtain ⟨j113, hj113, hF⟩ := jn_use hF
                have hJ113 : ∀ (s113 : Int32) (H : Heap) (locs : List Loc) (ls : Array Slot), va_P (dC, dI) vwCl (cM cyI a v) H → va_S wN0 s.heap H locs → lv_has ls 7 [(0, .ref (a 0)), (2, .int s4.2), (3, .int s16.2)] → j113 s113 = some out → W p l e (headSpec (Cond.code yX6_widest cX6_widest 7 (some .int) :: wT) ({ frames := 1, cells := 0, slots := 0, locals := 22 } : Room)).room s m ([.ref (a 0)] : List Value).toArray below meth c H locs 0 0 (MQ below (va_Qi (fun (r : Int32) (_ : Unit) => r = out) (fun _ _ => True) wN0) ([.ref (a 0)] : List Value).toArray s 0 0 wN0) (F0 m 113 ls [.int s113]) := by
                  intro s113 H locs ls hP hS hl hF
                  have hF := (congrFun hj113 s113).symm.trans hF
                  refine lv_istore_n (lv' := [(1, .int s113), (0, .ref (a 0)), (2, .int s4.2), (3, .int s16.2)]) hx hb dX6_widest_113 rfl hl (by decide) rfl (fun ls hl => ?_)
                  refine lv_iinc (v := (s16.2 + (1 : Int32))) (lv' := [(3, .int (s16.2 + (1 : Int32))), (1, .int s113), (0, .ref (a 0)), (2, .int s4.2)]) hx hb dX6_widest_114 hl (k := 3) rfl rfl (by decide) rfl (fun ls hl => ?_)
                  refine lv_goto (tgt := 16) hx hb dX6_widest_117 (by decide) ?_
                  exact ih16 (s113, (s16.2 + (1 : Int32))) _ _ _ hP hS (lv_sub hl [2, 1, 3, 0] rfl) hF
                obtain ⟨j112, hj112, hF⟩ := jn_use hF
                have hJ112 : ∀ (s112 : Unit) (H : Heap) (locs : List Loc) (ls : Array Slot), va_P (dC, dI) vwCl (cM cyI a v) H → va_S wN0 s.heap H locs → lv_has ls 7 [(0, .ref (a 0)), (1, .int s16.1), (2, .int s4.2), (3, .int s16.2)] → j112 s112 = some out → W p l e (headSpec (Cond.code yX6_widest cX6_widest 7 (some .int) :: wT) ({ frames := 1, cells := 0, slots := 0, locals := 22 } : Room)).room s m ([.ref (a 0)] : List Value).toArray below meth c H locs 0 0 (MQ below (va_Qi (fun (r : Int32) (_ : Unit) => r = out) (fun _ _ => True) wN0) ([.ref (a 0)] : List Value).toArray s 0 0 wN0) (F0 m 112 ls []) := by
                  intro s112 H locs ls hP hS hl hF
                  have hF := (congrFun hj112 s112).symm.trans hF
                  refine lv_iload_n hx hb dX6_widest_112 rfl (lv_at hl 1 rfl) ?_
                  exact hJ113 s16.1 _ _ _ hP hS (lv_sub hl [0, 2, 3] rfl) hF
                refine lv_if_eq (tgt := 112) hx hb dX6_widest_80 (by decide) (fun c14 => ?_) (fun c14 => ?_)
                · have hF := itp c14 hF
                  exact hJ112 () _ _ _ hP hS (lv_sub hl [1, 2, 3, 4] rfl) hF
                · have hF := itn c14 hF
                  refine lv_iload hx hb dX6_widest_83 (lv_at hl 5 rfl) ?_
                  refine lv_iload hx hb dX6_widest_85 (lv_at hl 5 rfl) ?_
                  refine lv_imul hx hb dX6_widest_87 ?_
                  refine lv_iload hx hb dX6_widest_88 (lv_at hl 6 rfl) ?_
                  refine lv_iload hx hb dX6_widest_90 (lv_at hl 6 rfl) ?_
                  refine lv_imul hx hb dX6_widest_92 ?_
                  refine lv_iadd hx hb dX6_widest_93 ?_
                  refine lv_iload_n hx hb dX6_widest_94 rfl (lv_at hl 2 rfl) ?_
                  refine lv_icmp_le (tgt := 112) hx hb dX6_widest_95 (by decide) (fun c15 => ?_) (fun c15 => ?_)
                  · have hF := itp c15 hF
                    exact hJ112 () _ _ _ hP hS (lv_sub hl [1, 2, 3, 4] rfl) hF
                  · have hF := itn c15 hF
                    refine lv_iload hx hb dX6_widest_98 (lv_at hl 5 rfl) ?_
                    refine lv_iload hx hb dX6_widest_100 (lv_at hl 5 rfl) ?_
                    refine lv_imul hx hb dX6_widest_102 ?_
                    refine lv_iload hx hb dX6_widest_103 (lv_at hl 6 rfl) ?_
                    refine lv_iload hx hb dX6_widest_105 (lv_at hl 6 rfl) ?_
                    refine lv_imul hx hb dX6_widest_107 ?_
                    refine lv_iadd hx hb dX6_widest_108 ?_
                    refine lv_goto (tgt := 113) hx hb dX6_widest_109 (by decide) ?_
                    exact hJ113 (((o4 - o6) * (o4 - o6)) + ((o8 - o10) * (o8 - o10))) _ _ _ hP hS (lv_sub hl [1, 3, 4] rfl) hF
              obtain ⟨j75, hj75, hF⟩ := jn_use hF
              have hJ75 : ∀ (s75 : Unit) (H : Heap) (locs : List Loc) (ls : Array Slot), va_P (dC, dI) vwCl (cM cyI a v) H → va_S wN0 s.heap H locs → lv_has ls 7 [(0, .ref (a 0)), (1, .int s16.1), (2, .int s4.2), (3, .int s16.2), (4, .int (o4 - o6)), (5, .int (o8 - o10))] → j75 s75 = some out → W p l e (headSpec (Cond.code yX6_widest cX6_widest 7 (some .int) :: wT) ({ frames := 1, cells := 0, slots := 0, locals := 22 } : Room)).room s m ([.ref (a 0)] : List Value).toArray below meth c H locs 0 0 (MQ below (va_Qi (fun (r : Int32) (_ : Unit) => r = out) (fun _ _ => True) wN0) ([.ref (a 0)] : List Value).toArray s 0 0 wN0) (F0 m 75 ls []) := by
                intro s75 H locs ls hP hS hl hF
                have hF := (congrFun hj75 s75).symm.trans hF
                refine lv_iconst (v := 0) hx hb dX6_widest_75 (by decide) ?_
                exact hJ76 (0 : Int32) _ _ _ b01_0 hP hS (lv_sub hl [0, 1, 2, 3, 4, 5] rfl) hF
              refine lv_icmp_eq (tgt := 75) hx hb dX6_widest_58 (by decide) (fun c16 => ?_) (fun c16 => ?_)
              · have hF := itp c16 hF
                exact hJ75 () _ _ _ hP hS (lv_sub hl [2, 3, 4, 5, 1, 0] rfl) hF
              · have hF := itn c16 hF
                refine lv_aload_n hx hb dX6_widest_61 rfl (lv_at hl 2 rfl) ?_
                refine lv_iload_n hx hb dX6_widest_62 rfl (lv_at hl 5 rfl) ?_
                refine lv_iconst (v := 0) hx hb dX6_widest_63 (by decide) ?_
                obtain ⟨o17, h18, hF⟩ := obd hF
                refine wcRVi (As := [.int s16.2, .int (0 : Int32)]) (rest := []) (b := (a 0)) ⟨hx, hb, hml, hown, hts⟩ (met_X6_of l dC dI cyI cyO cyL a N v s16.2 (0 : Int32) o17 h18) (cwV 2 hts (gV w_methodLink_X6_42 w_instanceMethod_X6_of w_selects_X6_of w_initialized_X6 w_code_X6_of) rfl rfl rfl (by decide +kernel) ⟨Nat.le_of_ble_eq_true rfl, Nat.le_of_ble_eq_true rfl⟩) (va_recv hK.1 hP (ci := 6) (q0 := 0) rfl rfl) hP hK [0, 1, 2, 3, 4, 5, 6, 7] rfl rfl hl.1 (Nat.le_of_ble_eq_true rfl) dX6_widest_64 ⟨Nat.le_of_ble_eq_true rfl, Nat.le_of_ble_eq_true rfl⟩ hS (fun r H locs hw hP hS => ?_)
                have hw := hw.symm
                subst hw
                refine lv_iconst (v := 2) hx hb dX6_widest_67 (by decide) ?_
                refine lv_icmp_eq (tgt := 75) hx hb dX6_widest_68 (by decide) (fun c19 => ?_) (fun c19 => ?_)
                · have hF := itp c19 hF
                  exact hJ75 () _ _ _ hP hS (lv_sub hl [2, 3, 4, 5, 1, 0] rfl) hF
                · have hF := itn c19 hF
                  refine lv_iconst (v := 1) hx hb dX6_widest_71 (by decide) ?_
                  refine lv_goto (tgt := 76) hx hb dX6_widest_72 (by decide) ?_
                  exact hJ76 (1 : Int32) _ _ _ b01_1 hP hS (lv_sub hl [2, 3, 4, 5, 1, 0] rfl) hF
        exact hL16 N (s4.1, (0 : Int32)) _ _ _ hP hS (lv_sub hl [1, 2, 3, 0] rfl) hF
  exact hL4 N ((0 : Int32), (0 : Int32)) _ _ _ hP hS (lv_sub hl [2, 1, 0] rfl) hF
theorem dX6_spread_0 : decode cX6_spread 0 = .ok (.aload_n 0, 1) := by decide +kernel
theorem dX6_spread_1 : decode cX6_spread 1 = .ok (.iconst 0, 1) := by decide +kernel
theorem dX6_spread_2 : decode cX6_spread 2 = .ok (.putfield 31, 3) := by decide +kernel
theorem dX6_spread_5 : decode cX6_spread 5 = .ok (.aload_n 0, 1) := by decide +kernel
theorem dX6_spread_6 : decode cX6_spread 6 = .ok (.invokevirtual 213, 3) := by decide +kernel
theorem dX6_spread_9 : decode cX6_spread 9 = .ok (.ireturn, 1) := by decide +kernel
def f_X6_spread (N : Nat) (v : MV) : Option (Int32 × MV) :=
  (f_X6_widest N (M_set_thrown v (0 : Int32))).bind (fun o1 => some (o1, (M_set_thrown v (0 : Int32))))
set_option maxHeartbeats 4000000 in
set_option maxRecDepth 100000 in
theorem met_X6_spread (l : Launch) (dC : Nat → ClassId) (dI : Nat → Nat → Nat) (cyI cyO cyL : ClassId) (a : Nat → Nat) (sz : Nat) (N : Nat) (v : MV) (out : Int32 × MV) (hF : f_X6_spread N v = some out) : Met l yX6_spread (Cond.code yX6_spread cX6_spread 1 (some .int) :: wT) ({ frames := 2, cells := 0, slots := 0, locals := 48 } : Room) (wWr dC dI cyI cyO cyL [.ref (a 0)] (cM cyI a v) sz) (va_Qi (fun (r : Int32) (u : MV) => (r, u) = out) (fun u t => va_P (dC, dI) vwCl (cM cyI a u) t.heap ∧ va_D (va_A (cM cyI a v) sz) (cM cyI a u)) (va_A (cM cyI a v) sz)) 0 0 (va_A (cM cyI a v) sz) := by
  refine Met.ofW (cc := cX6_spread) (maxL := 1) (ret := (some .int)) (by decide) rfl ?_
  intro p e s m args below meth c s₁ B hml hv
  obtain ⟨rfl, hsz, hP, hK, hD0⟩ := hv
  have hx := B.exec
  have hb := B.bytes
  have hr := B.returns
  have hts0 := atoms_spec (ws := (Cond.code yX6_spread cX6_spread 1 (some .int) :: wT)) B.pre
  have hts := fun w h => hts0 w (List.mem_cons_of_mem _ h)
  clear hts0
  have hown : s.vm.findClass RX6 = some m.cls := findClass_of_methodNamed B.named
  have hlocks := B.notSynchronized
  subst hsz
  have hD := hD0.self (sz := s.heap.size)
  generalize hAe : va_A (cM cyI a v) s.heap.size = A at hD ⊢
  have hA : ∀ q : Nat, s.heap.size ≤ q → A q := fun q h => by rw [← hAe]; exact Or.inr h
  clear hD0
  have hS : va_S A s.heap s.heap [] := va_S.rf
  have hl := lv_entry [.ref (a 0)] (n := 1) (Nat.le_of_ble_eq_true rfl)
  rw [lg_entry_eq]
  generalize (lg_sl [.ref (a 0)] ++ List.replicate (1 - (lg_sl [.ref (a 0)]).length) Slot.unset).toArray = ls at hl ⊢
  have hl : lv_has ls 1 [(0, .ref (a 0))] := hl
  unfold f_X6_spread at hF
  refine lv_aload_n hx hb dX6_spread_0 rfl (lv_at hl 0 rfl) ?_
  refine lv_iconst (v := 0) hx hb dX6_spread_1 (by decide) ?_
  refine va_put (D := (dC, dI)) (ci := 6) (v := .int (0 : Int32)) (ty := .int) (C := RX6) (T := TX6) (N := 23) hx hb hts inX6 tyX6 tyX6_ok nmX6 hown hK.1 hP hD hS 0 rfl rfl 0 (by decide) (hts _ w_fieldLink_X6_31) (fun _ h9 => h9) rfl (by decide +kernel) rfl rfl (Nat.le_of_ble_eq_true rfl) dX6_spread_2 (fun H locs hP hD hS => ?_)
  have hP : va_P (dC, dI) vwCl (cM cyI a (M_set_thrown v (0 : Int32))) H := hP
  have hD : va_D A (cM cyI a (M_set_thrown v (0 : Int32))) := hD
  refine lv_aload_n hx hb dX6_spread_5 rfl (lv_at hl 0 rfl) ?_
  obtain ⟨o1, h2, hF⟩ := obd hF
  refine wcRVi (As := []) (rest := []) (b := (a 0)) ⟨hx, hb, hml, hown, hts⟩ (met_X6_widest l dC dI cyI cyO cyL a N (M_set_thrown v (0 : Int32))  o1 h2) (cwV 0 hts (gV w_methodLink_X6_213 w_instanceMethod_X6_widest w_selects_X6_widest w_initialized_X6 w_code_X6_widest) rfl rfl rfl (by decide +kernel) ⟨Nat.le_of_ble_eq_true rfl, Nat.le_of_ble_eq_true rfl⟩) (va_recv hK.1 hP (ci := 6) (q0 := 0) rfl rfl) hP hK [0, 1, 2, 3, 4, 5, 6, 7] rfl rfl hl.1 (Nat.le_of_ble_eq_true rfl) dX6_spread_6 ⟨Nat.le_of_ble_eq_true rfl, Nat.le_of_ble_eq_true rfl⟩ hS (fun r H locs hw hP hS => ?_)
  have hw := hw.symm
  subst hw
  exact W.iret (v := o1) hx hb hr (fun t ht hW => ⟨⟨_, (M_set_thrown v (0 : Int32)), rfl, Option.some.inj hF, by rw [ht]; exact hP, hD⟩, hS.F ht⟩) hS.2.2 dX6_spread_9
theorem dX6_curve_0 : decode cX6_curve 0 = .ok (.bipush 10, 2) := by decide +kernel
theorem dX6_curve_2 : decode cX6_curve 2 = .ok (.istore 4, 2) := by decide +kernel
theorem dX6_curve_4 : decode cX6_curve 4 = .ok (.iconst 1, 1) := by decide +kernel
theorem dX6_curve_5 : decode cX6_curve 5 = .ok (.istore 5, 2) := by decide +kernel
theorem dX6_curve_7 : decode cX6_curve 7 = .ok (.iload 5, 2) := by decide +kernel
theorem dX6_curve_9 : decode cX6_curve 9 = .ok (.iload_n 3, 1) := by decide +kernel
theorem dX6_curve_10 : decode cX6_curve 10 = .ok (.if_icmp .gt 46, 3) := by decide +kernel
theorem dX6_curve_13 : decode cX6_curve 13 = .ok (.iload 5, 2) := by decide +kernel
theorem dX6_curve_15 : decode cX6_curve 15 = .ok (.iload_n 1, 1) := by decide +kernel
theorem dX6_curve_16 : decode cX6_curve 16 = .ok (.aload_n 0, 1) := by decide +kernel
theorem dX6_curve_17 : decode cX6_curve 17 = .ok (.getfield 7, 3) := by decide +kernel
theorem dX6_curve_20 : decode cX6_curve 20 = .ok (.bipush 62, 2) := by decide +kernel
theorem dX6_curve_22 : decode cX6_curve 22 = .ok (.iaload, 1) := by decide +kernel
theorem dX6_curve_23 : decode cX6_curve 23 = .ok (.iadd, 1) := by decide +kernel
theorem dX6_curve_24 : decode cX6_curve 24 = .ok (.iload_n 2, 1) := by decide +kernel
theorem dX6_curve_25 : decode cX6_curve 25 = .ok (.invokestatic 60, 3) := by decide +kernel
theorem dX6_curve_28 : decode cX6_curve 28 = .ok (.istore 4, 2) := by decide +kernel
theorem dX6_curve_30 : decode cX6_curve 30 = .ok (.iload 4, 2) := by decide +kernel
theorem dX6_curve_32 : decode cX6_curve 32 = .ok (.iconst 0, 1) := by decide +kernel
theorem dX6_curve_33 : decode cX6_curve 33 = .ok (.bipush 20, 2) := by decide +kernel
theorem dX6_curve_35 : decode cX6_curve 35 = .ok (.invokestatic 35, 3) := by decide +kernel
theorem dX6_curve_38 : decode cX6_curve 38 = .ok (.ifCond .eq 10, 3) := by decide +kernel
theorem dX6_curve_41 : decode cX6_curve 41 = .ok (.iload 5, 2) := by decide +kernel
theorem dX6_curve_43 : decode cX6_curve 43 = .ok (.bipush 60, 2) := by decide +kernel
theorem dX6_curve_45 : decode cX6_curve 45 = .ok (.if_icmp .ne 5, 3) := by decide +kernel
theorem dX6_curve_48 : decode cX6_curve 48 = .ok (.iconst (-1), 1) := by decide +kernel
theorem dX6_curve_49 : decode cX6_curve 49 = .ok (.ireturn, 1) := by decide +kernel
theorem dX6_curve_50 : decode cX6_curve 50 = .ok (.iinc 5 1, 3) := by decide +kernel
theorem dX6_curve_53 : decode cX6_curve 53 = .ok (.goto (-46), 3) := by decide +kernel
theorem dX6_curve_56 : decode cX6_curve 56 = .ok (.bipush 21, 2) := by decide +kernel
theorem dX6_curve_58 : decode cX6_curve 58 = .ok (.iload_n 3, 1) := by decide +kernel
theorem dX6_curve_59 : decode cX6_curve 59 = .ok (.imul, 1) := by decide +kernel
theorem dX6_curve_60 : decode cX6_curve 60 = .ok (.iload 4, 2) := by decide +kernel
theorem dX6_curve_62 : decode cX6_curve 62 = .ok (.iadd, 1) := by decide +kernel
theorem dX6_curve_63 : decode cX6_curve 63 = .ok (.ireturn, 1) := by decide +kernel
def f_X6_curve (N : Nat) (v : MV) (p1 : Int32) (p2 : Int32) (p3 : Int32) : Option (Int32) :=
  lpN (fun (s7 : Int32 × Int32) (k7 : (Int32 × Int32) → Option (Int32)) => (if p3 < s7.2 then some (((21 : Int32) * p3) + s7.1) else (f_X6_column N s7.2 (p1 + ((M_s v) (62 : Int32).toNatClampNeg)) p2).bind (fun o3 => (f_X6_in N o3 (0 : Int32) (20 : Int32)).bind (fun o5 => jn (fun (s48 : Unit) => some (-1 : Int32)) (fun (j48 : (Unit) → Option (Int32)) => (if o5 = 0 then j48 () else (if s7.2 = (60 : Int32) then j48 () else k7 (o3, (s7.2 + (1 : Int32)))))))))) N ((10 : Int32), (1 : Int32))
set_option maxHeartbeats 4000000 in
set_option maxRecDepth 100000 in
theorem met_X6_curve (l : Launch) (dC : Nat → ClassId) (dI : Nat → Nat → Nat) (cyI cyO cyL : ClassId) (a : Nat → Nat) (N : Nat) (v : MV) (p1 : Int32) (p2 : Int32) (p3 : Int32) (out : Int32) (hF : f_X6_curve N v p1 p2 p3 = some out) : Met l yX6_curve (Cond.code yX6_curve cX6_curve 6 (some .int) :: wT) ({ frames := 1, cells := 0, slots := 0, locals := 23 } : Room) (wRd dC dI cyI cyO cyL [.ref (a 0), .int p1, .int p2, .int p3] (cM cyI a v)) (va_Qi (fun (r : Int32) (_ : Unit) => r = out) (fun _ _ => True) wN0) 0 0 wN0 := by
  refine Met.ofW (cc := cX6_curve) (maxL := 6) (ret := (some .int)) (by decide) rfl ?_
  intro p e s m args below meth c s₁ B hml hv
  obtain ⟨rfl, hP, hK⟩ := hv
  have hx := B.exec
  have hb := B.bytes
  have hr := B.returns
  have hts0 := atoms_spec (ws := (Cond.code yX6_curve cX6_curve 6 (some .int) :: wT)) B.pre
  have hts := fun w h => hts0 w (List.mem_cons_of_mem _ h)
  clear hts0
  have hown : s.vm.findClass RX6 = some m.cls := findClass_of_methodNamed B.named
  have hlocks := B.notSynchronized
  have hS : va_S wN0 s.heap s.heap [] := va_S.rf
  have hl := lv_entry [.ref (a 0), .int p1, .int p2, .int p3] (n := 6) (Nat.le_of_ble_eq_true rfl)
  rw [lg_entry_eq]
  generalize (lg_sl [.ref (a 0), .int p1, .int p2, .int p3] ++ List.replicate (6 - (lg_sl [.ref (a 0), .int p1, .int p2, .int p3]).length) Slot.unset).toArray = ls at hl ⊢
  have hl : lv_has ls 6 [(0, .ref (a 0)), (1, .int p1), (2, .int p2), (3, .int p3)] := hl
  unfold f_X6_curve at hF
  refine lv_bipush (v := 10) hx hb dX6_curve_0 (by decide) ?_
  refine lv_istore (lv' := [(4, .int (10 : Int32)), (0, .ref (a 0)), (1, .int p1), (2, .int p2), (3, .int p3)]) hx hb dX6_curve_2 hl (by decide) rfl (fun ls hl => ?_)
  refine lv_iconst (v := 1) hx hb dX6_curve_4 (by decide) ?_
  refine lv_istore (lv' := [(5, .int (1 : Int32)), (4, .int (10 : Int32)), (0, .ref (a 0)), (1, .int p1), (2, .int p2), (3, .int p3)]) hx hb dX6_curve_5 hl (by decide) rfl (fun ls hl => ?_)
  obtain ⟨st7, hst7, hF⟩ := lpN_use hF
  have hL7 : ∀ (n : Nat) (s7 : Int32 × Int32) (H : Heap) (locs : List Loc) (ls : Array Slot), va_P (dC, dI) vwCl (cM cyI a v) H → va_S wN0 s.heap H locs → lv_has ls 6 [(0, .ref (a 0)), (1, .int p1), (2, .int p2), (3, .int p3), (4, .int s7.1), (5, .int s7.2)] → lpN st7 n s7 = some out → W p l e (headSpec (Cond.code yX6_curve cX6_curve 6 (some .int) :: wT) ({ frames := 1, cells := 0, slots := 0, locals := 23 } : Room)).room s m ([.ref (a 0), .int p1, .int p2, .int p3] : List Value).toArray below meth c H locs 0 0 (MQ below (va_Qi (fun (r : Int32) (_ : Unit) => r = out) (fun _ _ => True) wN0) ([.ref (a 0), .int p1, .int p2, .int p3] : List Value).toArray s 0 0 wN0) (F0 m 7 ls []) := by
    intro n
    induction n with
    | zero => intro s7 H locs ls hP hS hl hF; exact lpN_0 hF
    | succ n ih7 =>
      intro s7 H locs ls hP hS hl hF
      have hF := (congrFun (congrFun hst7 s7) (lpN st7 n)).symm.trans (lpN_s hF)
      refine lv_iload hx hb dX6_curve_7 (lv_at hl 5 rfl) ?_
      refine lv_iload_n hx hb dX6_curve_9 rfl (lv_at hl 3 rfl) ?_
      refine lv_icmp_gt (tgt := 56) hx hb dX6_curve_10 (by decide) (fun c1 => ?_) (fun c1 => ?_)
      · have hF := itp c1 hF
        refine lv_bipush (v := 21) hx hb dX6_curve_56 (by decide) ?_
        refine lv_iload_n hx hb dX6_curve_58 rfl (lv_at hl 3 rfl) ?_
        refine lv_imul hx hb dX6_curve_59 ?_
        refine lv_iload hx hb dX6_curve_60 (lv_at hl 4 rfl) ?_
        refine lv_iadd hx hb dX6_curve_62 ?_
        exact W.iret (v := (((21 : Int32) * p3) + s7.1)) hx hb hr (fun t ht hW => ⟨⟨_, (), rfl, Option.some.inj hF, trivial⟩, hS.F ht⟩) hS.2.2 dX6_curve_63
      · have hF := itn c1 hF
        refine lv_iload hx hb dX6_curve_13 (lv_at hl 5 rfl) ?_
        refine lv_iload_n hx hb dX6_curve_15 rfl (lv_at hl 1 rfl) ?_
        refine lv_aload_n hx hb dX6_curve_16 rfl (lv_at hl 0 rfl) ?_
        refine va_get (D := (dC, dI)) (ci := 6) (v := .ref (a 1)) (C := RX6) (T := TX6) (N := 23) hx hb hts inX6 hown hK.1 hP 0 rfl rfl 1 (by decide) (hts _ w_fieldLink_X6_7) (fun _ h9 => h9) rfl dX6_curve_17 ?_
        refine lv_bipush (v := 62) hx hb dX6_curve_20 (by decide) ?_
        refine va_iald hx hb hK.1 hP 1 0 rfl rfl (i := (62 : Int32)) (show ixok (62 : Int32) 103 by decide) dX6_curve_22 ?_
        refine lv_iadd hx hb dX6_curve_23 ?_
        refine lv_iload_n hx hb dX6_curve_24 rfl (lv_at hl 2 rfl) ?_
        obtain ⟨o3, h4, hF⟩ := obd hF
        refine wcRSi (As := [.int s7.2, .int (p1 + ((M_s v) (62 : Int32).toNatClampNeg)), .int p2]) (rest := []) ⟨hx, hb, hml, hown, hts⟩ (met_X6_column l dC dI cyI cyO cyL  N  s7.2 (p1 + ((M_s v) (62 : Int32).toNatClampNeg)) p2 o3 h4) (va_cwS 3 hts (gS w_methodLink_X6_60 w_static_X6_column w_initialized_X6 w_code_X6_column) rfl rfl rfl (by decide +kernel) ⟨Nat.le_of_ble_eq_true rfl, Nat.le_of_ble_eq_true rfl⟩) hP hK [] rfl rfl hl.1 (Nat.le_of_ble_eq_true rfl) dX6_curve_25 ⟨Nat.le_of_ble_eq_true rfl, Nat.le_of_ble_eq_true rfl⟩ hS (fun r H locs hw hP hS => ?_)
        have hw := hw.symm
        subst hw
        refine lv_istore (lv' := [(4, .int o3), (0, .ref (a 0)), (1, .int p1), (2, .int p2), (3, .int p3), (5, .int s7.2)]) hx hb dX6_curve_28 hl (by decide) rfl (fun ls hl => ?_)
        refine lv_iload hx hb dX6_curve_30 (lv_at hl 0 rfl) ?_
        refine lv_iconst (v := 0) hx hb dX6_curve_32 (by decide) ?_
        refine lv_bipush (v := 20) hx hb dX6_curve_33 (by decide) ?_
        obtain ⟨o5, h6, hF⟩ := obd hF
        refine wcRSi (As := [.int o3, .int (0 : Int32), .int (20 : Int32)]) (rest := []) ⟨hx, hb, hml, hown, hts⟩ (met_X6_in l dC dI cyI cyO cyL  N  o3 (0 : Int32) (20 : Int32) o5 h6) (va_cwS 3 hts (gS w_methodLink_X6_35 w_static_X6_in w_initialized_X6 w_code_X6_in) rfl rfl rfl (by decide +kernel) ⟨Nat.le_of_ble_eq_true rfl, Nat.le_of_ble_eq_true rfl⟩) hP hK [] rfl rfl hl.1 (Nat.le_of_ble_eq_true rfl) dX6_curve_35 ⟨Nat.le_of_ble_eq_true rfl, Nat.le_of_ble_eq_true rfl⟩ hS (fun r H locs hw hP hS => ?_)
        obtain ⟨hw, hz7⟩ := hw
        have hw := hw.symm
        subst hw
        obtain ⟨j48, hj48, hF⟩ := jn_use hF
        have hJ48 : ∀ (s48 : Unit) (H : Heap) (locs : List Loc) (ls : Array Slot), va_P (dC, dI) vwCl (cM cyI a v) H → va_S wN0 s.heap H locs → lv_has ls 6 [] → j48 s48 = some out → W p l e (headSpec (Cond.code yX6_curve cX6_curve 6 (some .int) :: wT) ({ frames := 1, cells := 0, slots := 0, locals := 23 } : Room)).room s m ([.ref (a 0), .int p1, .int p2, .int p3] : List Value).toArray below meth c H locs 0 0 (MQ below (va_Qi (fun (r : Int32) (_ : Unit) => r = out) (fun _ _ => True) wN0) ([.ref (a 0), .int p1, .int p2, .int p3] : List Value).toArray s 0 0 wN0) (F0 m 48 ls []) := by
          intro s48 H locs ls hP hS hl hF
          have hF := (congrFun hj48 s48).symm.trans hF
          refine lv_iconst (v := -1) hx hb dX6_curve_48 (by decide) ?_
          exact W.iret (v := (-1 : Int32)) hx hb hr (fun t ht hW => ⟨⟨_, (), rfl, Option.some.inj hF, trivial⟩, hS.F ht⟩) hS.2.2 dX6_curve_49
        refine lv_if_eq (tgt := 48) hx hb dX6_curve_38 (by decide) (fun c8 => ?_) (fun c8 => ?_)
        · have hF := itp c8 hF
          exact hJ48 () _ _ _ hP hS (lv_sub hl [] rfl) hF
        · have hF := itn c8 hF
          refine lv_iload hx hb dX6_curve_41 (lv_at hl 5 rfl) ?_
          refine lv_bipush (v := 60) hx hb dX6_curve_43 (by decide) ?_
          refine lv_icmp_ne (tgt := 50) hx hb dX6_curve_45 (by decide) (fun c9 => ?_) (fun c9 => ?_)
          · have hF := itn c9 hF
            refine lv_iinc (v := (s7.2 + (1 : Int32))) (lv' := [(5, .int (s7.2 + (1 : Int32))), (4, .int o3), (0, .ref (a 0)), (1, .int p1), (2, .int p2), (3, .int p3)]) hx hb dX6_curve_50 hl (k := 5) rfl rfl (by decide) rfl (fun ls hl => ?_)
            refine lv_goto (tgt := 7) hx hb dX6_curve_53 (by decide) ?_
            exact ih7 (o3, (s7.2 + (1 : Int32))) _ _ _ hP hS (lv_sub hl [2, 3, 4, 5, 1, 0] rfl) hF
          · have hF := itp c9 hF
            exact hJ48 () _ _ _ hP hS (lv_sub hl [] rfl) hF
  exact hL7 N ((10 : Int32), (1 : Int32)) _ _ _ hP hS (lv_sub hl [2, 3, 4, 5, 1, 0] rfl) hF
theorem dX6_curveBySteps_0 : decode cX6_curveBySteps 0 = .ok (.aload_n 0, 1) := by decide +kernel
theorem dX6_curveBySteps_1 : decode cX6_curveBySteps 1 = .ok (.iload_n 1, 1) := by decide +kernel
theorem dX6_curveBySteps_2 : decode cX6_curveBySteps 2 = .ok (.iload_n 2, 1) := by decide +kernel
theorem dX6_curveBySteps_3 : decode cX6_curveBySteps 3 = .ok (.iload_n 3, 1) := by decide +kernel
theorem dX6_curveBySteps_4 : decode cX6_curveBySteps 4 = .ok (.invokestatic 117, 3) := by decide +kernel
theorem dX6_curveBySteps_7 : decode cX6_curveBySteps 7 = .ok (.ifCond .eq 17, 3) := by decide +kernel
theorem dX6_curveBySteps_10 : decode cX6_curveBySteps 10 = .ok (.iload 4, 2) := by decide +kernel
theorem dX6_curveBySteps_12 : decode cX6_curveBySteps 12 = .ok (.iconst 0, 1) := by decide +kernel
theorem dX6_curveBySteps_13 : decode cX6_curveBySteps 13 = .ok (.iload_n 2, 1) := by decide +kernel
theorem dX6_curveBySteps_14 : decode cX6_curveBySteps 14 = .ok (.invokestatic 35, 3) := by decide +kernel
theorem dX6_curveBySteps_17 : decode cX6_curveBySteps 17 = .ok (.ifCond .eq 7, 3) := by decide +kernel
theorem dX6_curveBySteps_20 : decode cX6_curveBySteps 20 = .ok (.iconst 0, 1) := by decide +kernel
theorem dX6_curveBySteps_21 : decode cX6_curveBySteps 21 = .ok (.goto 4, 3) := by decide +kernel
theorem dX6_curveBySteps_24 : decode cX6_curveBySteps 24 = .ok (.iconst 1, 1) := by decide +kernel
theorem dX6_curveBySteps_25 : decode cX6_curveBySteps 25 = .ok (.invokevirtual 107, 3) := by decide +kernel
theorem dX6_curveBySteps_28 : decode cX6_curveBySteps 28 = .ok (.ifCond .eq 14, 3) := by decide +kernel
theorem dX6_curveBySteps_31 : decode cX6_curveBySteps 31 = .ok (.aload_n 0, 1) := by decide +kernel
theorem dX6_curveBySteps_32 : decode cX6_curveBySteps 32 = .ok (.iload_n 1, 1) := by decide +kernel
theorem dX6_curveBySteps_33 : decode cX6_curveBySteps 33 = .ok (.iload_n 3, 1) := by decide +kernel
theorem dX6_curveBySteps_34 : decode cX6_curveBySteps 34 = .ok (.iload 4, 2) := by decide +kernel
theorem dX6_curveBySteps_36 : decode cX6_curveBySteps 36 = .ok (.invokevirtual 216, 3) := by decide +kernel
theorem dX6_curveBySteps_39 : decode cX6_curveBySteps 39 = .ok (.goto 4, 3) := by decide +kernel
theorem dX6_curveBySteps_42 : decode cX6_curveBySteps 42 = .ok (.iconst 0, 1) := by decide +kernel
theorem dX6_curveBySteps_43 : decode cX6_curveBySteps 43 = .ok (.ireturn, 1) := by decide +kernel
def f_X6_curveBySteps (N : Nat) (v : MV) (p1 : Int32) (p2 : Int32) (p3 : Int32) (p4 : Int32) : Option (Int32 × MV) :=
  (f_X6_isPlay N p1 p2 p3).bind (fun o1 => jn (fun (s25 : Int32) => (f_X6_holds N v s25).bind (fun o4 => jn (fun (s43 : Int32) => some (s43, o4.2)) (fun (j43 : (Int32) → Option (Int32 × MV)) => (if o4.1 = 0 then j43 (0 : Int32) else (f_X6_curve N o4.2 p1 p3 p4).bind (fun o8 => j43 o8))))) (fun (j25 : (Int32) → Option (Int32 × MV)) => jn (fun (s24 : Unit) => j25 (1 : Int32)) (fun (j24 : (Unit) → Option (Int32 × MV)) => (if o1 = 0 then j24 () else (f_X6_in N p4 (0 : Int32) p2).bind (fun o11 => (if o11 = 0 then j24 () else j25 (0 : Int32)))))))
set_option maxHeartbeats 4000000 in
set_option maxRecDepth 100000 in
theorem met_X6_curveBySteps (l : Launch) (dC : Nat → ClassId) (dI : Nat → Nat → Nat) (cyI cyO cyL : ClassId) (a : Nat → Nat) (sz : Nat) (N : Nat) (v : MV) (p1 : Int32) (p2 : Int32) (p3 : Int32) (p4 : Int32) (out : Int32 × MV) (hF : f_X6_curveBySteps N v p1 p2 p3 p4 = some out) : Met l yX6_curveBySteps (Cond.code yX6_curveBySteps cX6_curveBySteps 5 (some .int) :: wT) ({ frames := 2, cells := 0, slots := 0, locals := 48 } : Room) (wWr dC dI cyI cyO cyL [.ref (a 0), .int p1, .int p2, .int p3, .int p4] (cM cyI a v) sz) (va_Qi (fun (r : Int32) (u : MV) => (r, u) = out) (fun u t => va_P (dC, dI) vwCl (cM cyI a u) t.heap ∧ va_D (va_A (cM cyI a v) sz) (cM cyI a u)) (va_A (cM cyI a v) sz)) 0 0 (va_A (cM cyI a v) sz) := by
  refine Met.ofW (cc := cX6_curveBySteps) (maxL := 5) (ret := (some .int)) (by decide) rfl ?_
  intro p e s m args below meth c s₁ B hml hv
  obtain ⟨rfl, hsz, hP, hK, hD0⟩ := hv
  have hx := B.exec
  have hb := B.bytes
  have hr := B.returns
  have hts0 := atoms_spec (ws := (Cond.code yX6_curveBySteps cX6_curveBySteps 5 (some .int) :: wT)) B.pre
  have hts := fun w h => hts0 w (List.mem_cons_of_mem _ h)
  clear hts0
  have hown : s.vm.findClass RX6 = some m.cls := findClass_of_methodNamed B.named
  have hlocks := B.notSynchronized
  subst hsz
  have hD := hD0.self (sz := s.heap.size)
  generalize hAe : va_A (cM cyI a v) s.heap.size = A at hD ⊢
  have hA : ∀ q : Nat, s.heap.size ≤ q → A q := fun q h => by rw [← hAe]; exact Or.inr h
  clear hD0
  have hS : va_S A s.heap s.heap [] := va_S.rf
  have hl := lv_entry [.ref (a 0), .int p1, .int p2, .int p3, .int p4] (n := 5) (Nat.le_of_ble_eq_true rfl)
  rw [lg_entry_eq]
  generalize (lg_sl [.ref (a 0), .int p1, .int p2, .int p3, .int p4] ++ List.replicate (5 - (lg_sl [.ref (a 0), .int p1, .int p2, .int p3, .int p4]).length) Slot.unset).toArray = ls at hl ⊢
  have hl : lv_has ls 5 [(0, .ref (a 0)), (1, .int p1), (2, .int p2), (3, .int p3), (4, .int p4)] := hl
  unfold f_X6_curveBySteps at hF
  refine lv_aload_n hx hb dX6_curveBySteps_0 rfl (lv_at hl 0 rfl) ?_
  refine lv_iload_n hx hb dX6_curveBySteps_1 rfl (lv_at hl 1 rfl) ?_
  refine lv_iload_n hx hb dX6_curveBySteps_2 rfl (lv_at hl 2 rfl) ?_
  refine lv_iload_n hx hb dX6_curveBySteps_3 rfl (lv_at hl 3 rfl) ?_
  obtain ⟨o1, h2, hF⟩ := obd hF
  refine wcRSi (As := [.int p1, .int p2, .int p3]) (rest := [.ref (a 0)]) ⟨hx, hb, hml, hown, hts⟩ (met_X6_isPlay l dC dI cyI cyO cyL  N  p1 p2 p3 o1 h2) (va_cwS 3 hts (gS w_methodLink_X6_117 w_static_X6_isPlay w_initialized_X6 w_code_X6_isPlay) rfl rfl rfl (by decide +kernel) ⟨Nat.le_of_ble_eq_true rfl, Nat.le_of_ble_eq_true rfl⟩) hP hK [] rfl rfl hl.1 (Nat.le_of_ble_eq_true rfl) dX6_curveBySteps_4 ⟨Nat.le_of_ble_eq_true rfl, Nat.le_of_ble_eq_true rfl⟩ hS (fun r H locs hw hP hS => ?_)
  obtain ⟨hw, hz3⟩ := hw
  have hw := hw.symm
  subst hw
  obtain ⟨j25, hj25, hF⟩ := jn_use hF
  have hJ25 : ∀ (s25 : Int32) (H : Heap) (locs : List Loc) (ls : Array Slot) (hz_25_s1 : b01 s25), va_P (dC, dI) vwCl (cM cyI a v) H → va_D A (cM cyI a v) → va_S A s.heap H locs → lv_has ls 5 [(0, .ref (a 0)), (1, .int p1), (3, .int p3), (4, .int p4)] → j25 s25 = some out → W p l e (headSpec (Cond.code yX6_curveBySteps cX6_curveBySteps 5 (some .int) :: wT) ({ frames := 2, cells := 0, slots := 0, locals := 48 } : Room)).room s m ([.ref (a 0), .int p1, .int p2, .int p3, .int p4] : List Value).toArray below meth c H locs 0 0 (MQ below (va_Qi (fun (r : Int32) (u : MV) => (r, u) = out) (fun u t => va_P (dC, dI) vwCl (cM cyI a u) t.heap ∧ va_D A (cM cyI a u)) A) ([.ref (a 0), .int p1, .int p2, .int p3, .int p4] : List Value).toArray s 0 0 A) (F0 m 25 ls [.int s25, .ref (a 0)]) := by
    intro s25 H locs ls hz_25_s1 hP hD hS hl hF
    have hF := (congrFun hj25 s25).symm.trans hF
    obtain ⟨o4, h5, hF⟩ := obd hF
    refine wcWVi (As := [.int s25]) (rest := []) (wr := []) (b := (a 0)) ⟨hx, hb, hml, hown, hts⟩ (met_X6_holds l dC dI cyI cyO cyL a _ N v s25 o4 h5) (cwV 1 hts (gV w_methodLink_X6_107 w_instanceMethod_X6_holds w_selects_X6_holds w_initialized_X6 w_code_X6_holds) rfl rfl rfl (by decide +kernel) ⟨Nat.le_of_ble_eq_true rfl, Nat.le_of_ble_eq_true rfl⟩) (va_recv hK.1 hP (ci := 6) (q0 := 0) rfl rfl) hP hD hK [0, 1, 2, 3, 4, 5, 6, 7] [] rfl rfl (by decide) (by decide) (by decide) rfl hl.1 (Nat.le_of_ble_eq_true rfl) dX6_curveBySteps_25 ⟨Nat.le_of_ble_eq_true rfl, Nat.le_of_ble_eq_true rfl⟩ hS hA (fun r u H locs hw hP hD hS => ?_)
    obtain ⟨hw, hz6⟩ := hw
    obtain rfl : r = o4.1 := congrArg Prod.fst hw
    obtain rfl : u = o4.2 := congrArg Prod.snd hw
    clear hw
    have hP : va_P (dC, dI) vwCl (cM cyI a o4.2) H := hP
    have hD : va_D A (cM cyI a o4.2) := hD
    obtain ⟨j43, hj43, hF⟩ := jn_use hF
    have hJ43 : ∀ (s43 : Int32) (H : Heap) (locs : List Loc) (ls : Array Slot), va_P (dC, dI) vwCl (cM cyI a o4.2) H → va_D A (cM cyI a o4.2) → va_S A s.heap H locs → lv_has ls 5 [] → j43 s43 = some out → W p l e (headSpec (Cond.code yX6_curveBySteps cX6_curveBySteps 5 (some .int) :: wT) ({ frames := 2, cells := 0, slots := 0, locals := 48 } : Room)).room s m ([.ref (a 0), .int p1, .int p2, .int p3, .int p4] : List Value).toArray below meth c H locs 0 0 (MQ below (va_Qi (fun (r : Int32) (u : MV) => (r, u) = out) (fun u t => va_P (dC, dI) vwCl (cM cyI a u) t.heap ∧ va_D A (cM cyI a u)) A) ([.ref (a 0), .int p1, .int p2, .int p3, .int p4] : List Value).toArray s 0 0 A) (F0 m 43 ls [.int s43]) := by
      intro s43 H locs ls hP hD hS hl hF
      have hF := (congrFun hj43 s43).symm.trans hF
      exact W.iret (v := s43) hx hb hr (fun t ht hW => ⟨⟨_, o4.2, rfl, Option.some.inj hF, by rw [ht]; exact hP, hD⟩, hS.F ht⟩) hS.2.2 dX6_curveBySteps_43
    refine lv_if_eq (tgt := 42) hx hb dX6_curveBySteps_28 (by decide) (fun c7 => ?_) (fun c7 => ?_)
    · have hF := itp c7 hF
      refine lv_iconst (v := 0) hx hb dX6_curveBySteps_42 (by decide) ?_
      exact hJ43 (0 : Int32) _ _ _ hP hD hS (lv_sub hl [] rfl) hF
    · have hF := itn c7 hF
      refine lv_aload_n hx hb dX6_curveBySteps_31 rfl (lv_at hl 0 rfl) ?_
      refine lv_iload_n hx hb dX6_curveBySteps_32 rfl (lv_at hl 1 rfl) ?_
      refine lv_iload_n hx hb dX6_curveBySteps_33 rfl (lv_at hl 2 rfl) ?_
      refine lv_iload hx hb dX6_curveBySteps_34 (lv_at hl 3 rfl) ?_
      obtain ⟨o8, h9, hF⟩ := obd hF
      refine wcRVi (As := [.int p1, .int p3, .int p4]) (rest := []) (b := (a 0)) ⟨hx, hb, hml, hown, hts⟩ (met_X6_curve l dC dI cyI cyO cyL a N o4.2 p1 p3 p4 o8 h9) (cwV 3 hts (gV w_methodLink_X6_216 w_instanceMethod_X6_curve w_selects_X6_curve w_initialized_X6 w_code_X6_curve) rfl rfl rfl (by decide +kernel) ⟨Nat.le_of_ble_eq_true rfl, Nat.le_of_ble_eq_true rfl⟩) (va_recv hK.1 hP (ci := 6) (q0 := 0) rfl rfl) hP hK [0, 1, 2, 3, 4, 5, 6, 7] rfl rfl hl.1 (Nat.le_of_ble_eq_true rfl) dX6_curveBySteps_36 ⟨Nat.le_of_ble_eq_true rfl, Nat.le_of_ble_eq_true rfl⟩ hS (fun r H locs hw hP hS => ?_)
      have hw := hw.symm
      subst hw
      refine lv_goto (tgt := 43) hx hb dX6_curveBySteps_39 (by decide) ?_
      exact hJ43 o8 _ _ _ hP hD hS (lv_sub hl [] rfl) hF
  obtain ⟨j24, hj24, hF⟩ := jn_use hF
  have hJ24 : ∀ (s24 : Unit) (H : Heap) (locs : List Loc) (ls : Array Slot), va_P (dC, dI) vwCl (cM cyI a v) H → va_D A (cM cyI a v) → va_S A s.heap H locs → lv_has ls 5 [(0, .ref (a 0)), (1, .int p1), (3, .int p3), (4, .int p4)] → j24 s24 = some out → W p l e (headSpec (Cond.code yX6_curveBySteps cX6_curveBySteps 5 (some .int) :: wT) ({ frames := 2, cells := 0, slots := 0, locals := 48 } : Room)).room s m ([.ref (a 0), .int p1, .int p2, .int p3, .int p4] : List Value).toArray below meth c H locs 0 0 (MQ below (va_Qi (fun (r : Int32) (u : MV) => (r, u) = out) (fun u t => va_P (dC, dI) vwCl (cM cyI a u) t.heap ∧ va_D A (cM cyI a u)) A) ([.ref (a 0), .int p1, .int p2, .int p3, .int p4] : List Value).toArray s 0 0 A) (F0 m 24 ls [.ref (a 0)]) := by
    intro s24 H locs ls hP hD hS hl hF
    have hF := (congrFun hj24 s24).symm.trans hF
    refine lv_iconst (v := 1) hx hb dX6_curveBySteps_24 (by decide) ?_
    exact hJ25 (1 : Int32) _ _ _ b01_1 hP hD hS (lv_sub hl [0, 1, 2, 3] rfl) hF
  refine lv_if_eq (tgt := 24) hx hb dX6_curveBySteps_7 (by decide) (fun c10 => ?_) (fun c10 => ?_)
  · have hF := itp c10 hF
    exact hJ24 () _ _ _ hP hD hS (lv_sub hl [0, 1, 3, 4] rfl) hF
  · have hF := itn c10 hF
    refine lv_iload hx hb dX6_curveBySteps_10 (lv_at hl 4 rfl) ?_
    refine lv_iconst (v := 0) hx hb dX6_curveBySteps_12 (by decide) ?_
    refine lv_iload_n hx hb dX6_curveBySteps_13 rfl (lv_at hl 2 rfl) ?_
    obtain ⟨o11, h12, hF⟩ := obd hF
    refine wcRSi (As := [.int p4, .int (0 : Int32), .int p2]) (rest := [.ref (a 0)]) ⟨hx, hb, hml, hown, hts⟩ (met_X6_in l dC dI cyI cyO cyL  N  p4 (0 : Int32) p2 o11 h12) (va_cwS 3 hts (gS w_methodLink_X6_35 w_static_X6_in w_initialized_X6 w_code_X6_in) rfl rfl rfl (by decide +kernel) ⟨Nat.le_of_ble_eq_true rfl, Nat.le_of_ble_eq_true rfl⟩) hP hK [] rfl rfl hl.1 (Nat.le_of_ble_eq_true rfl) dX6_curveBySteps_14 ⟨Nat.le_of_ble_eq_true rfl, Nat.le_of_ble_eq_true rfl⟩ hS (fun r H locs hw hP hS => ?_)
    obtain ⟨hw, hz13⟩ := hw
    have hw := hw.symm
    subst hw
    refine lv_if_eq (tgt := 24) hx hb dX6_curveBySteps_17 (by decide) (fun c14 => ?_) (fun c14 => ?_)
    · have hF := itp c14 hF
      exact hJ24 () _ _ _ hP hD hS (lv_sub hl [0, 1, 3, 4] rfl) hF
    · have hF := itn c14 hF
      refine lv_iconst (v := 0) hx hb dX6_curveBySteps_20 (by decide) ?_
      refine lv_goto (tgt := 25) hx hb dX6_curveBySteps_21 (by decide) ?_
      exact hJ25 (0 : Int32) _ _ _ b01_0 hP hD hS (lv_sub hl [0, 1, 3, 4] rfl) hF
theorem dX6_curveByFormula_0 : decode cX6_curveByFormula 0 = .ok (.aload_n 0, 1) := by decide +kernel
theorem dX6_curveByFormula_1 : decode cX6_curveByFormula 1 = .ok (.iload_n 1, 1) := by decide +kernel
theorem dX6_curveByFormula_2 : decode cX6_curveByFormula 2 = .ok (.iload_n 2, 1) := by decide +kernel
theorem dX6_curveByFormula_3 : decode cX6_curveByFormula 3 = .ok (.iload_n 3, 1) := by decide +kernel
theorem dX6_curveByFormula_4 : decode cX6_curveByFormula 4 = .ok (.iload 4, 2) := by decide +kernel
theorem dX6_curveByFormula_6 : decode cX6_curveByFormula 6 = .ok (.invokevirtual 219, 3) := by decide +kernel
theorem dX6_curveByFormula_9 : decode cX6_curveByFormula 9 = .ok (.ireturn, 1) := by decide +kernel
def f_X6_curveByFormula (N : Nat) (v : MV) (p1 : Int32) (p2 : Int32) (p3 : Int32) (p4 : Int32) : Option (Int32 × MV) :=
  (f_X6_curveBySteps N v p1 p2 p3 p4).bind (fun o1 => some (o1.1, o1.2))
set_option maxHeartbeats 4000000 in
set_option maxRecDepth 100000 in
theorem met_X6_curveByFormula (l : Launch) (dC : Nat → ClassId) (dI : Nat → Nat → Nat) (cyI cyO cyL : ClassId) (a : Nat → Nat) (sz : Nat) (N : Nat) (v : MV) (p1 : Int32) (p2 : Int32) (p3 : Int32) (p4 : Int32) (out : Int32 × MV) (hF : f_X6_curveByFormula N v p1 p2 p3 p4 = some out) : Met l yX6_curveByFormula (Cond.code yX6_curveByFormula cX6_curveByFormula 5 (some .int) :: wT) ({ frames := 3, cells := 0, slots := 0, locals := 72 } : Room) (wWr dC dI cyI cyO cyL [.ref (a 0), .int p1, .int p2, .int p3, .int p4] (cM cyI a v) sz) (va_Qi (fun (r : Int32) (u : MV) => (r, u) = out) (fun u t => va_P (dC, dI) vwCl (cM cyI a u) t.heap ∧ va_D (va_A (cM cyI a v) sz) (cM cyI a u)) (va_A (cM cyI a v) sz)) 0 0 (va_A (cM cyI a v) sz) := by
  refine Met.ofW (cc := cX6_curveByFormula) (maxL := 5) (ret := (some .int)) (by decide) rfl ?_
  intro p e s m args below meth c s₁ B hml hv
  obtain ⟨rfl, hsz, hP, hK, hD0⟩ := hv
  have hx := B.exec
  have hb := B.bytes
  have hr := B.returns
  have hts0 := atoms_spec (ws := (Cond.code yX6_curveByFormula cX6_curveByFormula 5 (some .int) :: wT)) B.pre
  have hts := fun w h => hts0 w (List.mem_cons_of_mem _ h)
  clear hts0
  have hown : s.vm.findClass RX6 = some m.cls := findClass_of_methodNamed B.named
  have hlocks := B.notSynchronized
  subst hsz
  have hD := hD0.self (sz := s.heap.size)
  generalize hAe : va_A (cM cyI a v) s.heap.size = A at hD ⊢
  have hA : ∀ q : Nat, s.heap.size ≤ q → A q := fun q h => by rw [← hAe]; exact Or.inr h
  clear hD0
  have hS : va_S A s.heap s.heap [] := va_S.rf
  have hl := lv_entry [.ref (a 0), .int p1, .int p2, .int p3, .int p4] (n := 5) (Nat.le_of_ble_eq_true rfl)
  rw [lg_entry_eq]
  generalize (lg_sl [.ref (a 0), .int p1, .int p2, .int p3, .int p4] ++ List.replicate (5 - (lg_sl [.ref (a 0), .int p1, .int p2, .int p3, .int p4]).length) Slot.unset).toArray = ls at hl ⊢
  have hl : lv_has ls 5 [(0, .ref (a 0)), (1, .int p1), (2, .int p2), (3, .int p3), (4, .int p4)] := hl
  unfold f_X6_curveByFormula at hF
  refine lv_aload_n hx hb dX6_curveByFormula_0 rfl (lv_at hl 0 rfl) ?_
  refine lv_iload_n hx hb dX6_curveByFormula_1 rfl (lv_at hl 1 rfl) ?_
  refine lv_iload_n hx hb dX6_curveByFormula_2 rfl (lv_at hl 2 rfl) ?_
  refine lv_iload_n hx hb dX6_curveByFormula_3 rfl (lv_at hl 3 rfl) ?_
  refine lv_iload hx hb dX6_curveByFormula_4 (lv_at hl 4 rfl) ?_
  obtain ⟨o1, h2, hF⟩ := obd hF
  refine wcWVi (As := [.int p1, .int p2, .int p3, .int p4]) (rest := []) (wr := []) (b := (a 0)) ⟨hx, hb, hml, hown, hts⟩ (met_X6_curveBySteps l dC dI cyI cyO cyL a _ N v p1 p2 p3 p4 o1 h2) (cwV 4 hts (gV w_methodLink_X6_219 w_instanceMethod_X6_curveBySteps w_selects_X6_curveBySteps w_initialized_X6 w_code_X6_curveBySteps) rfl rfl rfl (by decide +kernel) ⟨Nat.le_of_ble_eq_true rfl, Nat.le_of_ble_eq_true rfl⟩) (va_recv hK.1 hP (ci := 6) (q0 := 0) rfl rfl) hP hD hK [0, 1, 2, 3, 4, 5, 6, 7] [] rfl rfl (by decide) (by decide) (by decide) rfl hl.1 (Nat.le_of_ble_eq_true rfl) dX6_curveByFormula_6 ⟨Nat.le_of_ble_eq_true rfl, Nat.le_of_ble_eq_true rfl⟩ hS hA (fun r u H locs hw hP hD hS => ?_)
  obtain rfl : r = o1.1 := congrArg Prod.fst hw
  obtain rfl : u = o1.2 := congrArg Prod.snd hw
  clear hw
  have hP : va_P (dC, dI) vwCl (cM cyI a o1.2) H := hP
  have hD : va_D A (cM cyI a o1.2) := hD
  exact W.iret (v := o1.1) hx hb hr (fun t ht hW => ⟨⟨_, o1.2, rfl, Option.some.inj hF, by rw [ht]; exact hP, hD⟩, hS.F ht⟩) hS.2.2 dX6_curveByFormula_9
theorem dX6_tries_0 : decode cX6_tries 0 = .ok (.aload_n 0, 1) := by decide +kernel
theorem dX6_tries_1 : decode cX6_tries 1 = .ok (.invokevirtual 186, 3) := by decide +kernel
theorem dX6_tries_4 : decode cX6_tries 4 = .ok (.aload_n 0, 1) := by decide +kernel
theorem dX6_tries_5 : decode cX6_tries 5 = .ok (.aload_n 0, 1) := by decide +kernel
theorem dX6_tries_6 : decode cX6_tries 6 = .ok (.getfield 7, 3) := by decide +kernel
theorem dX6_tries_9 : decode cX6_tries 9 = .ok (.iconst 3, 1) := by decide +kernel
theorem dX6_tries_10 : decode cX6_tries 10 = .ok (.iaload, 1) := by decide +kernel
theorem dX6_tries_11 : decode cX6_tries 11 = .ok (.invokevirtual 88, 3) := by decide +kernel
theorem dX6_tries_14 : decode cX6_tries 14 = .ok (.istore 4, 2) := by decide +kernel
theorem dX6_tries_16 : decode cX6_tries 16 = .ok (.aload_n 0, 1) := by decide +kernel
theorem dX6_tries_17 : decode cX6_tries 17 = .ok (.iload_n 1, 1) := by decide +kernel
theorem dX6_tries_18 : decode cX6_tries 18 = .ok (.iload_n 2, 1) := by decide +kernel
theorem dX6_tries_19 : decode cX6_tries 19 = .ok (.iload_n 3, 1) := by decide +kernel
theorem dX6_tries_20 : decode cX6_tries 20 = .ok (.invokevirtual 123, 3) := by decide +kernel
theorem dX6_tries_23 : decode cX6_tries 23 = .ok (.istore 5, 2) := by decide +kernel
theorem dX6_tries_25 : decode cX6_tries 25 = .ok (.aload_n 0, 1) := by decide +kernel
theorem dX6_tries_26 : decode cX6_tries 26 = .ok (.invokevirtual 94, 3) := by decide +kernel
theorem dX6_tries_29 : decode cX6_tries 29 = .ok (.istore 6, 2) := by decide +kernel
theorem dX6_tries_31 : decode cX6_tries 31 = .ok (.aload_n 0, 1) := by decide +kernel
theorem dX6_tries_32 : decode cX6_tries 32 = .ok (.invokevirtual 189, 3) := by decide +kernel
theorem dX6_tries_35 : decode cX6_tries 35 = .ok (.iload 4, 2) := by decide +kernel
theorem dX6_tries_37 : decode cX6_tries 37 = .ok (.ifCond .ne 8, 3) := by decide +kernel
theorem dX6_tries_40 : decode cX6_tries 40 = .ok (.iload 6, 2) := by decide +kernel
theorem dX6_tries_42 : decode cX6_tries 42 = .ok (.goto 6, 3) := by decide +kernel
theorem dX6_tries_45 : decode cX6_tries 45 = .ok (.iload 6, 2) := by decide +kernel
theorem dX6_tries_47 : decode cX6_tries 47 = .ok (.ineg, 1) := by decide +kernel
theorem dX6_tries_48 : decode cX6_tries 48 = .ok (.ireturn, 1) := by decide +kernel
def f_X6_tries (N : Nat) (v : MV) (p1 : Int32) (p2 : Int32) (p3 : Int32) : Option (Int32 × MV) :=
  (f_X6_putAside N v).bind (fun o1 => (f_X6_sideNow N o1 ((M_s o1) (3 : Int32).toNatClampNeg)).bind (fun o4 => (f_X6_plays N o1 p1 p2 p3).bind (fun o6 => (f_X6_score N o6.2).bind (fun o8 => (f_X6_putsBack N o8.2).bind (fun o10 => jn (fun (s48 : Int32) => some (s48, o10)) (fun (j48 : (Int32) → Option (Int32 × MV)) => (if o4 = 0 then j48 o8.1 else j48 (-o8.1))))))))
set_option maxHeartbeats 4000000 in
set_option maxRecDepth 100000 in
theorem met_X6_tries (l : Launch) (dC : Nat → ClassId) (dI : Nat → Nat → Nat) (cyI cyO cyL : ClassId) (a : Nat → Nat) (sz : Nat) (N : Nat) (v : MV) (p1 : Int32) (p2 : Int32) (p3 : Int32) (out : Int32 × MV) (hF : f_X6_tries N v p1 p2 p3 = some out) : Met l yX6_tries (Cond.code yX6_tries cX6_tries 7 (some .int) :: wT) ({ frames := 5, cells := 0, slots := 0, locals := 123 } : Room) (wWr dC dI cyI cyO cyL [.ref (a 0), .int p1, .int p2, .int p3] (cM cyI a v) sz) (va_Qi (fun (r : Int32) (u : MV) => (r, u) = out) (fun u t => va_P (dC, dI) vwCl (cM cyI a u) t.heap ∧ va_D (va_A (cM cyI a v) sz) (cM cyI a u)) (va_A (cM cyI a v) sz)) 0 0 (va_A (cM cyI a v) sz) := by
  refine Met.ofW (cc := cX6_tries) (maxL := 7) (ret := (some .int)) (by decide) rfl ?_
  intro p e s m args below meth c s₁ B hml hv
  obtain ⟨rfl, hsz, hP, hK, hD0⟩ := hv
  have hx := B.exec
  have hb := B.bytes
  have hr := B.returns
  have hts0 := atoms_spec (ws := (Cond.code yX6_tries cX6_tries 7 (some .int) :: wT)) B.pre
  have hts := fun w h => hts0 w (List.mem_cons_of_mem _ h)
  clear hts0
  have hown : s.vm.findClass RX6 = some m.cls := findClass_of_methodNamed B.named
  have hlocks := B.notSynchronized
  subst hsz
  have hD := hD0.self (sz := s.heap.size)
  generalize hAe : va_A (cM cyI a v) s.heap.size = A at hD ⊢
  have hA : ∀ q : Nat, s.heap.size ≤ q → A q := fun q h => by rw [← hAe]; exact Or.inr h
  clear hD0
  have hS : va_S A s.heap s.heap [] := va_S.rf
  have hl := lv_entry [.ref (a 0), .int p1, .int p2, .int p3] (n := 7) (Nat.le_of_ble_eq_true rfl)
  rw [lg_entry_eq]
  generalize (lg_sl [.ref (a 0), .int p1, .int p2, .int p3] ++ List.replicate (7 - (lg_sl [.ref (a 0), .int p1, .int p2, .int p3]).length) Slot.unset).toArray = ls at hl ⊢
  have hl : lv_has ls 7 [(0, .ref (a 0)), (1, .int p1), (2, .int p2), (3, .int p3)] := hl
  unfold f_X6_tries at hF
  refine lv_aload_n hx hb dX6_tries_0 rfl (lv_at hl 0 rfl) ?_
  obtain ⟨o1, h2, hF⟩ := obd hF
  refine wcWVv (As := []) (rest := []) (wr := []) (b := (a 0)) ⟨hx, hb, hml, hown, hts⟩ (met_X6_putAside l dC dI cyI cyO cyL a _ N v  o1 h2) (cwV 0 hts (gV w_methodLink_X6_186 w_instanceMethod_X6_putAside w_selects_X6_putAside w_initialized_X6 w_code_X6_putAside) rfl rfl rfl (by decide +kernel) ⟨Nat.le_of_ble_eq_true rfl, Nat.le_of_ble_eq_true rfl⟩) (va_recv hK.1 hP (ci := 6) (q0 := 0) rfl rfl) hP hD hK [0, 1, 2, 3, 4, 5, 6, 7] [] rfl rfl (by decide) (by decide) (by decide) rfl hl.1 (Nat.le_of_ble_eq_true rfl) dX6_tries_1 ⟨Nat.le_of_ble_eq_true rfl, Nat.le_of_ble_eq_true rfl⟩ hS hA (fun u H locs hw hP hD hS => ?_)
  have hw := hw.symm
  subst hw
  have hP : va_P (dC, dI) vwCl (cM cyI a o1) H := hP
  have hD : va_D A (cM cyI a o1) := hD
  refine lv_aload_n hx hb dX6_tries_4 rfl (lv_at hl 0 rfl) ?_
  refine lv_aload_n hx hb dX6_tries_5 rfl (lv_at hl 0 rfl) ?_
  refine va_get (D := (dC, dI)) (ci := 6) (v := .ref (a 1)) (C := RX6) (T := TX6) (N := 23) hx hb hts inX6 hown hK.1 hP 0 rfl rfl 1 (by decide) (hts _ w_fieldLink_X6_7) (fun _ h9 => h9) rfl dX6_tries_6 ?_
  refine lv_iconst (v := 3) hx hb dX6_tries_9 (by decide) ?_
  refine va_iald hx hb hK.1 hP 1 0 rfl rfl (i := (3 : Int32)) (show ixok (3 : Int32) 103 by decide) dX6_tries_10 ?_
  obtain ⟨o4, h5, hF⟩ := obd hF
  refine wcRVi (As := [.int ((M_s o1) (3 : Int32).toNatClampNeg)]) (rest := []) (b := (a 0)) ⟨hx, hb, hml, hown, hts⟩ (met_X6_sideNow l dC dI cyI cyO cyL a N o1 ((M_s o1) (3 : Int32).toNatClampNeg) o4 h5) (cwV 1 hts (gV w_methodLink_X6_88 w_instanceMethod_X6_sideNow w_selects_X6_sideNow w_initialized_X6 w_code_X6_sideNow) rfl rfl rfl (by decide +kernel) ⟨Nat.le_of_ble_eq_true rfl, Nat.le_of_ble_eq_true rfl⟩) (va_recv hK.1 hP (ci := 6) (q0 := 0) rfl rfl) hP hK [0, 1, 2, 3, 4, 5, 6, 7] rfl rfl hl.1 (Nat.le_of_ble_eq_true rfl) dX6_tries_11 ⟨Nat.le_of_ble_eq_true rfl, Nat.le_of_ble_eq_true rfl⟩ hS (fun r H locs hw hP hS => ?_)
  have hw := hw.symm
  subst hw
  refine lv_istore (lv' := [(4, .int o4), (0, .ref (a 0)), (1, .int p1), (2, .int p2), (3, .int p3)]) hx hb dX6_tries_14 hl (by decide) rfl (fun ls hl => ?_)
  refine lv_aload_n hx hb dX6_tries_16 rfl (lv_at hl 1 rfl) ?_
  refine lv_iload_n hx hb dX6_tries_17 rfl (lv_at hl 2 rfl) ?_
  refine lv_iload_n hx hb dX6_tries_18 rfl (lv_at hl 3 rfl) ?_
  refine lv_iload_n hx hb dX6_tries_19 rfl (lv_at hl 4 rfl) ?_
  obtain ⟨o6, h7, hF⟩ := obd hF
  refine wcWVi (As := [.int p1, .int p2, .int p3]) (rest := []) (wr := []) (b := (a 0)) ⟨hx, hb, hml, hown, hts⟩ (met_X6_plays l dC dI cyI cyO cyL a _ N o1 p1 p2 p3 o6 h7) (cwV 3 hts (gV w_methodLink_X6_123 w_instanceMethod_X6_plays w_selects_X6_plays w_initialized_X6 w_code_X6_plays) rfl rfl rfl (by decide +kernel) ⟨Nat.le_of_ble_eq_true rfl, Nat.le_of_ble_eq_true rfl⟩) (va_recv hK.1 hP (ci := 6) (q0 := 0) rfl rfl) hP hD hK [0, 1, 2, 3, 4, 5, 6, 7] [] rfl rfl (by decide) (by decide) (by decide) rfl hl.1 (Nat.le_of_ble_eq_true rfl) dX6_tries_20 ⟨Nat.le_of_ble_eq_true rfl, Nat.le_of_ble_eq_true rfl⟩ hS hA (fun r u H locs hw hP hD hS => ?_)
  obtain rfl : r = o6.1 := congrArg Prod.fst hw
  obtain rfl : u = o6.2 := congrArg Prod.snd hw
  clear hw
  have hP : va_P (dC, dI) vwCl (cM cyI a o6.2) H := hP
  have hD : va_D A (cM cyI a o6.2) := hD
  refine lv_istore (lv' := [(5, .int o6.1), (4, .int o4), (0, .ref (a 0)), (1, .int p1), (2, .int p2), (3, .int p3)]) hx hb dX6_tries_23 hl (by decide) rfl (fun ls hl => ?_)
  refine lv_aload_n hx hb dX6_tries_25 rfl (lv_at hl 2 rfl) ?_
  obtain ⟨o8, h9, hF⟩ := obd hF
  refine wcWVi (As := []) (rest := []) (wr := []) (b := (a 0)) ⟨hx, hb, hml, hown, hts⟩ (met_X6_score l dC dI cyI cyO cyL a _ N o6.2  o8 h9) (cwV 0 hts (gV w_methodLink_X6_94 w_instanceMethod_X6_score w_selects_X6_score w_initialized_X6 w_code_X6_score) rfl rfl rfl (by decide +kernel) ⟨Nat.le_of_ble_eq_true rfl, Nat.le_of_ble_eq_true rfl⟩) (va_recv hK.1 hP (ci := 6) (q0 := 0) rfl rfl) hP hD hK [0, 1, 2, 3, 4, 5, 6, 7] [] rfl rfl (by decide) (by decide) (by decide) rfl hl.1 (Nat.le_of_ble_eq_true rfl) dX6_tries_26 ⟨Nat.le_of_ble_eq_true rfl, Nat.le_of_ble_eq_true rfl⟩ hS hA (fun r u H locs hw hP hD hS => ?_)
  obtain rfl : r = o8.1 := congrArg Prod.fst hw
  obtain rfl : u = o8.2 := congrArg Prod.snd hw
  clear hw
  have hP : va_P (dC, dI) vwCl (cM cyI a o8.2) H := hP
  have hD : va_D A (cM cyI a o8.2) := hD
  refine lv_istore (lv' := [(6, .int o8.1), (5, .int o6.1), (4, .int o4), (0, .ref (a 0)), (1, .int p1), (2, .int p2), (3, .int p3)]) hx hb dX6_tries_29 hl (by decide) rfl (fun ls hl => ?_)
  refine lv_aload_n hx hb dX6_tries_31 rfl (lv_at hl 3 rfl) ?_
  obtain ⟨o10, h11, hF⟩ := obd hF
  refine wcWVv (As := []) (rest := []) (wr := []) (b := (a 0)) ⟨hx, hb, hml, hown, hts⟩ (met_X6_putsBack l dC dI cyI cyO cyL a _ N o8.2  o10 h11) (cwV 0 hts (gV w_methodLink_X6_189 w_instanceMethod_X6_putsBack w_selects_X6_putsBack w_initialized_X6 w_code_X6_putsBack) rfl rfl rfl (by decide +kernel) ⟨Nat.le_of_ble_eq_true rfl, Nat.le_of_ble_eq_true rfl⟩) (va_recv hK.1 hP (ci := 6) (q0 := 0) rfl rfl) hP hD hK [0, 1, 2, 3, 4, 5, 6, 7] [] rfl rfl (by decide) (by decide) (by decide) rfl hl.1 (Nat.le_of_ble_eq_true rfl) dX6_tries_32 ⟨Nat.le_of_ble_eq_true rfl, Nat.le_of_ble_eq_true rfl⟩ hS hA (fun u H locs hw hP hD hS => ?_)
  have hw := hw.symm
  subst hw
  have hP : va_P (dC, dI) vwCl (cM cyI a o10) H := hP
  have hD : va_D A (cM cyI a o10) := hD
  refine lv_iload hx hb dX6_tries_35 (lv_at hl 2 rfl) ?_
  obtain ⟨j48, hj48, hF⟩ := jn_use hF
  have hJ48 : ∀ (s48 : Int32) (H : Heap) (locs : List Loc) (ls : Array Slot), va_P (dC, dI) vwCl (cM cyI a o10) H → va_D A (cM cyI a o10) → va_S A s.heap H locs → lv_has ls 7 [] → j48 s48 = some out → W p l e (headSpec (Cond.code yX6_tries cX6_tries 7 (some .int) :: wT) ({ frames := 5, cells := 0, slots := 0, locals := 123 } : Room)).room s m ([.ref (a 0), .int p1, .int p2, .int p3] : List Value).toArray below meth c H locs 0 0 (MQ below (va_Qi (fun (r : Int32) (u : MV) => (r, u) = out) (fun u t => va_P (dC, dI) vwCl (cM cyI a u) t.heap ∧ va_D A (cM cyI a u)) A) ([.ref (a 0), .int p1, .int p2, .int p3] : List Value).toArray s 0 0 A) (F0 m 48 ls [.int s48]) := by
    intro s48 H locs ls hP hD hS hl hF
    have hF := (congrFun hj48 s48).symm.trans hF
    exact W.iret (v := s48) hx hb hr (fun t ht hW => ⟨⟨_, o10, rfl, Option.some.inj hF, by rw [ht]; exact hP, hD⟩, hS.F ht⟩) hS.2.2 dX6_tries_48
  refine lv_if_ne (tgt := 45) hx hb dX6_tries_37 (by decide) (fun c12 => ?_) (fun c12 => ?_)
  · have hF := itn c12 hF
    refine lv_iload hx hb dX6_tries_45 (lv_at hl 0 rfl) ?_
    refine lv_ineg hx hb dX6_tries_47 ?_
    exact hJ48 (-o8.1) _ _ _ hP hD hS (lv_sub hl [] rfl) hF
  · have hF := itp c12 hF
    refine lv_iload hx hb dX6_tries_40 (lv_at hl 0 rfl) ?_
    refine lv_goto (tgt := 48) hx hb dX6_tries_42 (by decide) ?_
    exact hJ48 o8.1 _ _ _ hP hD hS (lv_sub hl [] rfl) hF
theorem dX6_wouldCount_0 : decode cX6_wouldCount 0 = .ok (.aload_n 0, 1) := by decide +kernel
theorem dX6_wouldCount_1 : decode cX6_wouldCount 1 = .ok (.iload_n 1, 1) := by decide +kernel
theorem dX6_wouldCount_2 : decode cX6_wouldCount 2 = .ok (.iload_n 2, 1) := by decide +kernel
theorem dX6_wouldCount_3 : decode cX6_wouldCount 3 = .ok (.iload_n 3, 1) := by decide +kernel
theorem dX6_wouldCount_4 : decode cX6_wouldCount 4 = .ok (.invokestatic 117, 3) := by decide +kernel
theorem dX6_wouldCount_7 : decode cX6_wouldCount 7 = .ok (.ifCond .ne 7, 3) := by decide +kernel
theorem dX6_wouldCount_10 : decode cX6_wouldCount 10 = .ok (.iconst 1, 1) := by decide +kernel
theorem dX6_wouldCount_11 : decode cX6_wouldCount 11 = .ok (.goto 15, 3) := by decide +kernel
theorem dX6_wouldCount_14 : decode cX6_wouldCount 14 = .ok (.aload_n 0, 1) := by decide +kernel
theorem dX6_wouldCount_15 : decode cX6_wouldCount 15 = .ok (.invokevirtual 120, 3) := by decide +kernel
theorem dX6_wouldCount_18 : decode cX6_wouldCount 18 = .ok (.ifCond .eq 7, 3) := by decide +kernel
theorem dX6_wouldCount_21 : decode cX6_wouldCount 21 = .ok (.iconst 0, 1) := by decide +kernel
theorem dX6_wouldCount_22 : decode cX6_wouldCount 22 = .ok (.goto 4, 3) := by decide +kernel
theorem dX6_wouldCount_25 : decode cX6_wouldCount 25 = .ok (.iconst 2, 1) := by decide +kernel
theorem dX6_wouldCount_26 : decode cX6_wouldCount 26 = .ok (.invokevirtual 107, 3) := by decide +kernel
theorem dX6_wouldCount_29 : decode cX6_wouldCount 29 = .ok (.ifCond .eq 13, 3) := by decide +kernel
theorem dX6_wouldCount_32 : decode cX6_wouldCount 32 = .ok (.aload_n 0, 1) := by decide +kernel
theorem dX6_wouldCount_33 : decode cX6_wouldCount 33 = .ok (.iload_n 1, 1) := by decide +kernel
theorem dX6_wouldCount_34 : decode cX6_wouldCount 34 = .ok (.iload_n 2, 1) := by decide +kernel
theorem dX6_wouldCount_35 : decode cX6_wouldCount 35 = .ok (.iload_n 3, 1) := by decide +kernel
theorem dX6_wouldCount_36 : decode cX6_wouldCount 36 = .ok (.invokevirtual 223, 3) := by decide +kernel
theorem dX6_wouldCount_39 : decode cX6_wouldCount 39 = .ok (.goto 4, 3) := by decide +kernel
theorem dX6_wouldCount_42 : decode cX6_wouldCount 42 = .ok (.iconst 0, 1) := by decide +kernel
theorem dX6_wouldCount_43 : decode cX6_wouldCount 43 = .ok (.ireturn, 1) := by decide +kernel
def f_X6_wouldCount (N : Nat) (v : MV) (p1 : Int32) (p2 : Int32) (p3 : Int32) : Option (Int32 × MV) :=
  (f_X6_isPlay N p1 p2 p3).bind (fun o1 => jn (fun (s26 : Int32) => (f_X6_holds N v s26).bind (fun o4 => jn (fun (s43 : Int32 × MV) => some (s43.1, s43.2)) (fun (j43 : (Int32 × MV) → Option (Int32 × MV)) => (if o4.1 = 0 then j43 ((0 : Int32), o4.2) else (f_X6_tries N o4.2 p1 p2 p3).bind (fun o8 => j43 (o8.1, o8.2)))))) (fun (j26 : (Int32) → Option (Int32 × MV)) => (if o1 = 0 then j26 (1 : Int32) else (f_X6_canPlay N v).bind (fun o11 => (if o11 = 0 then j26 (2 : Int32) else j26 (0 : Int32))))))
set_option maxHeartbeats 4000000 in
set_option maxRecDepth 100000 in
theorem met_X6_wouldCount (l : Launch) (dC : Nat → ClassId) (dI : Nat → Nat → Nat) (cyI cyO cyL : ClassId) (a : Nat → Nat) (sz : Nat) (N : Nat) (v : MV) (p1 : Int32) (p2 : Int32) (p3 : Int32) (out : Int32 × MV) (hF : f_X6_wouldCount N v p1 p2 p3 = some out) : Met l yX6_wouldCount (Cond.code yX6_wouldCount cX6_wouldCount 4 (some .int) :: wT) ({ frames := 6, cells := 0, slots := 0, locals := 149 } : Room) (wWr dC dI cyI cyO cyL [.ref (a 0), .int p1, .int p2, .int p3] (cM cyI a v) sz) (va_Qi (fun (r : Int32) (u : MV) => (r, u) = out) (fun u t => va_P (dC, dI) vwCl (cM cyI a u) t.heap ∧ va_D (va_A (cM cyI a v) sz) (cM cyI a u)) (va_A (cM cyI a v) sz)) 0 0 (va_A (cM cyI a v) sz) := by
  refine Met.ofW (cc := cX6_wouldCount) (maxL := 4) (ret := (some .int)) (by decide) rfl ?_
  intro p e s m args below meth c s₁ B hml hv
  obtain ⟨rfl, hsz, hP, hK, hD0⟩ := hv
  have hx := B.exec
  have hb := B.bytes
  have hr := B.returns
  have hts0 := atoms_spec (ws := (Cond.code yX6_wouldCount cX6_wouldCount 4 (some .int) :: wT)) B.pre
  have hts := fun w h => hts0 w (List.mem_cons_of_mem _ h)
  clear hts0
  have hown : s.vm.findClass RX6 = some m.cls := findClass_of_methodNamed B.named
  have hlocks := B.notSynchronized
  subst hsz
  have hD := hD0.self (sz := s.heap.size)
  generalize hAe : va_A (cM cyI a v) s.heap.size = A at hD ⊢
  have hA : ∀ q : Nat, s.heap.size ≤ q → A q := fun q h => by rw [← hAe]; exact Or.inr h
  clear hD0
  have hS : va_S A s.heap s.heap [] := va_S.rf
  have hl := lv_entry [.ref (a 0), .int p1, .int p2, .int p3] (n := 4) (Nat.le_of_ble_eq_true rfl)
  rw [lg_entry_eq]
  generalize (lg_sl [.ref (a 0), .int p1, .int p2, .int p3] ++ List.replicate (4 - (lg_sl [.ref (a 0), .int p1, .int p2, .int p3]).length) Slot.unset).toArray = ls at hl ⊢
  have hl : lv_has ls 4 [(0, .ref (a 0)), (1, .int p1), (2, .int p2), (3, .int p3)] := hl
  unfold f_X6_wouldCount at hF
  refine lv_aload_n hx hb dX6_wouldCount_0 rfl (lv_at hl 0 rfl) ?_
  refine lv_iload_n hx hb dX6_wouldCount_1 rfl (lv_at hl 1 rfl) ?_
  refine lv_iload_n hx hb dX6_wouldCount_2 rfl (lv_at hl 2 rfl) ?_
  refine lv_iload_n hx hb dX6_wouldCount_3 rfl (lv_at hl 3 rfl) ?_
  obtain ⟨o1, h2, hF⟩ := obd hF
  refine wcRSi (As := [.int p1, .int p2, .int p3]) (rest := [.ref (a 0)]) ⟨hx, hb, hml, hown, hts⟩ (met_X6_isPlay l dC dI cyI cyO cyL  N  p1 p2 p3 o1 h2) (va_cwS 3 hts (gS w_methodLink_X6_117 w_static_X6_isPlay w_initialized_X6 w_code_X6_isPlay) rfl rfl rfl (by decide +kernel) ⟨Nat.le_of_ble_eq_true rfl, Nat.le_of_ble_eq_true rfl⟩) hP hK [] rfl rfl hl.1 (Nat.le_of_ble_eq_true rfl) dX6_wouldCount_4 ⟨Nat.le_of_ble_eq_true rfl, Nat.le_of_ble_eq_true rfl⟩ hS (fun r H locs hw hP hS => ?_)
  obtain ⟨hw, hz3⟩ := hw
  have hw := hw.symm
  subst hw
  obtain ⟨j26, hj26, hF⟩ := jn_use hF
  have hJ26 : ∀ (s26 : Int32) (H : Heap) (locs : List Loc) (ls : Array Slot), va_P (dC, dI) vwCl (cM cyI a v) H → va_D A (cM cyI a v) → va_S A s.heap H locs → lv_has ls 4 [(0, .ref (a 0)), (1, .int p1), (2, .int p2), (3, .int p3)] → j26 s26 = some out → W p l e (headSpec (Cond.code yX6_wouldCount cX6_wouldCount 4 (some .int) :: wT) ({ frames := 6, cells := 0, slots := 0, locals := 149 } : Room)).room s m ([.ref (a 0), .int p1, .int p2, .int p3] : List Value).toArray below meth c H locs 0 0 (MQ below (va_Qi (fun (r : Int32) (u : MV) => (r, u) = out) (fun u t => va_P (dC, dI) vwCl (cM cyI a u) t.heap ∧ va_D A (cM cyI a u)) A) ([.ref (a 0), .int p1, .int p2, .int p3] : List Value).toArray s 0 0 A) (F0 m 26 ls [.int s26, .ref (a 0)]) := by
    intro s26 H locs ls hP hD hS hl hF
    have hF := (congrFun hj26 s26).symm.trans hF
    obtain ⟨o4, h5, hF⟩ := obd hF
    refine wcWVi (As := [.int s26]) (rest := []) (wr := []) (b := (a 0)) ⟨hx, hb, hml, hown, hts⟩ (met_X6_holds l dC dI cyI cyO cyL a _ N v s26 o4 h5) (cwV 1 hts (gV w_methodLink_X6_107 w_instanceMethod_X6_holds w_selects_X6_holds w_initialized_X6 w_code_X6_holds) rfl rfl rfl (by decide +kernel) ⟨Nat.le_of_ble_eq_true rfl, Nat.le_of_ble_eq_true rfl⟩) (va_recv hK.1 hP (ci := 6) (q0 := 0) rfl rfl) hP hD hK [0, 1, 2, 3, 4, 5, 6, 7] [] rfl rfl (by decide) (by decide) (by decide) rfl hl.1 (Nat.le_of_ble_eq_true rfl) dX6_wouldCount_26 ⟨Nat.le_of_ble_eq_true rfl, Nat.le_of_ble_eq_true rfl⟩ hS hA (fun r u H locs hw hP hD hS => ?_)
    obtain ⟨hw, hz6⟩ := hw
    obtain rfl : r = o4.1 := congrArg Prod.fst hw
    obtain rfl : u = o4.2 := congrArg Prod.snd hw
    clear hw
    have hP : va_P (dC, dI) vwCl (cM cyI a o4.2) H := hP
    have hD : va_D A (cM cyI a o4.2) := hD
    obtain ⟨j43, hj43, hF⟩ := jn_use hF
    have hJ43 : ∀ (s43 : Int32 × MV) (H : Heap) (locs : List Loc) (ls : Array Slot), va_P (dC, dI) vwCl (cM cyI a s43.2) H → va_D A (cM cyI a s43.2) → va_S A s.heap H locs → lv_has ls 4 [] → j43 s43 = some out → W p l e (headSpec (Cond.code yX6_wouldCount cX6_wouldCount 4 (some .int) :: wT) ({ frames := 6, cells := 0, slots := 0, locals := 149 } : Room)).room s m ([.ref (a 0), .int p1, .int p2, .int p3] : List Value).toArray below meth c H locs 0 0 (MQ below (va_Qi (fun (r : Int32) (u : MV) => (r, u) = out) (fun u t => va_P (dC, dI) vwCl (cM cyI a u) t.heap ∧ va_D A (cM cyI a u)) A) ([.ref (a 0), .int p1, .int p2, .int p3] : List Value).toArray s 0 0 A) (F0 m 43 ls [.int s43.1]) := by
      intro s43 H locs ls hP hD hS hl hF
      have hF := (congrFun hj43 s43).symm.trans hF
      exact W.iret (v := s43.1) hx hb hr (fun t ht hW => ⟨⟨_, s43.2, rfl, Option.some.inj hF, by rw [ht]; exact hP, hD⟩, hS.F ht⟩) hS.2.2 dX6_wouldCount_43
    refine lv_if_eq (tgt := 42) hx hb dX6_wouldCount_29 (by decide) (fun c7 => ?_) (fun c7 => ?_)
    · have hF := itp c7 hF
      refine lv_iconst (v := 0) hx hb dX6_wouldCount_42 (by decide) ?_
      exact hJ43 ((0 : Int32), o4.2) _ _ _ hP hD hS (lv_sub hl [] rfl) hF
    · have hF := itn c7 hF
      refine lv_aload_n hx hb dX6_wouldCount_32 rfl (lv_at hl 0 rfl) ?_
      refine lv_iload_n hx hb dX6_wouldCount_33 rfl (lv_at hl 1 rfl) ?_
      refine lv_iload_n hx hb dX6_wouldCount_34 rfl (lv_at hl 2 rfl) ?_
      refine lv_iload_n hx hb dX6_wouldCount_35 rfl (lv_at hl 3 rfl) ?_
      obtain ⟨o8, h9, hF⟩ := obd hF
      refine wcWVi (As := [.int p1, .int p2, .int p3]) (rest := []) (wr := []) (b := (a 0)) ⟨hx, hb, hml, hown, hts⟩ (met_X6_tries l dC dI cyI cyO cyL a _ N o4.2 p1 p2 p3 o8 h9) (cwV 3 hts (gV w_methodLink_X6_223 w_instanceMethod_X6_tries w_selects_X6_tries w_initialized_X6 w_code_X6_tries) rfl rfl rfl (by decide +kernel) ⟨Nat.le_of_ble_eq_true rfl, Nat.le_of_ble_eq_true rfl⟩) (va_recv hK.1 hP (ci := 6) (q0 := 0) rfl rfl) hP hD hK [0, 1, 2, 3, 4, 5, 6, 7] [] rfl rfl (by decide) (by decide) (by decide) rfl hl.1 (Nat.le_of_ble_eq_true rfl) dX6_wouldCount_36 ⟨Nat.le_of_ble_eq_true rfl, Nat.le_of_ble_eq_true rfl⟩ hS hA (fun r u H locs hw hP hD hS => ?_)
      obtain rfl : r = o8.1 := congrArg Prod.fst hw
      obtain rfl : u = o8.2 := congrArg Prod.snd hw
      clear hw
      have hP : va_P (dC, dI) vwCl (cM cyI a o8.2) H := hP
      have hD : va_D A (cM cyI a o8.2) := hD
      refine lv_goto (tgt := 43) hx hb dX6_wouldCount_39 (by decide) ?_
      exact hJ43 (o8.1, o8.2) _ _ _ hP hD hS (lv_sub hl [] rfl) hF
  refine lv_if_ne (tgt := 14) hx hb dX6_wouldCount_7 (by decide) (fun c10 => ?_) (fun c10 => ?_)
  · have hF := itn c10 hF
    refine lv_aload_n hx hb dX6_wouldCount_14 rfl (lv_at hl 0 rfl) ?_
    obtain ⟨o11, h12, hF⟩ := obd hF
    refine wcRVi (As := []) (rest := [.ref (a 0)]) (b := (a 0)) ⟨hx, hb, hml, hown, hts⟩ (met_X6_canPlay l dC dI cyI cyO cyL a N v  o11 h12) (cwV 0 hts (gV w_methodLink_X6_120 w_instanceMethod_X6_canPlay w_selects_X6_canPlay w_initialized_X6 w_code_X6_canPlay) rfl rfl rfl (by decide +kernel) ⟨Nat.le_of_ble_eq_true rfl, Nat.le_of_ble_eq_true rfl⟩) (va_recv hK.1 hP (ci := 6) (q0 := 0) rfl rfl) hP hK [0, 1, 2, 3, 4, 5, 6, 7] rfl rfl hl.1 (Nat.le_of_ble_eq_true rfl) dX6_wouldCount_15 ⟨Nat.le_of_ble_eq_true rfl, Nat.le_of_ble_eq_true rfl⟩ hS (fun r H locs hw hP hS => ?_)
    obtain ⟨hw, hz13⟩ := hw
    have hw := hw.symm
    subst hw
    refine lv_if_eq (tgt := 25) hx hb dX6_wouldCount_18 (by decide) (fun c14 => ?_) (fun c14 => ?_)
    · have hF := itp c14 hF
      refine lv_iconst (v := 2) hx hb dX6_wouldCount_25 (by decide) ?_
      exact hJ26 (2 : Int32) _ _ _ hP hD hS (lv_sub hl [0, 1, 2, 3] rfl) hF
    · have hF := itn c14 hF
      refine lv_iconst (v := 0) hx hb dX6_wouldCount_21 (by decide) ?_
      refine lv_goto (tgt := 26) hx hb dX6_wouldCount_22 (by decide) ?_
      exact hJ26 (0 : Int32) _ _ _ hP hD hS (lv_sub hl [0, 1, 2, 3] rfl) hF
  · have hF := itp c10 hF
    refine lv_iconst (v := 1) hx hb dX6_wouldCount_10 (by decide) ?_
    refine lv_goto (tgt := 26) hx hb dX6_wouldCount_11 (by decide) ?_
    exact hJ26 (1 : Int32) _ _ _ hP hD hS (lv_sub hl [0, 1, 2, 3] rfl) hF
theorem dX6_heaviest_0 : decode cX6_heaviest 0 = .ok (.iconst 0, 1) := by decide +kernel
theorem dX6_heaviest_1 : decode cX6_heaviest 1 = .ok (.istore_n 3, 1) := by decide +kernel
theorem dX6_heaviest_2 : decode cX6_heaviest 2 = .ok (.bipush 15, 2) := by decide +kernel
theorem dX6_heaviest_4 : decode cX6_heaviest 4 = .ok (.istore 4, 2) := by decide +kernel
theorem dX6_heaviest_6 : decode cX6_heaviest 6 = .ok (.iload 4, 2) := by decide +kernel
theorem dX6_heaviest_8 : decode cX6_heaviest 8 = .ok (.bipush 70, 2) := by decide +kernel
theorem dX6_heaviest_10 : decode cX6_heaviest 10 = .ok (.if_icmp .gt 58, 3) := by decide +kernel
theorem dX6_heaviest_13 : decode cX6_heaviest 13 = .ok (.aload_n 0, 1) := by decide +kernel
theorem dX6_heaviest_14 : decode cX6_heaviest 14 = .ok (.iload_n 1, 1) := by decide +kernel
theorem dX6_heaviest_15 : decode cX6_heaviest 15 = .ok (.iload 4, 2) := by decide +kernel
theorem dX6_heaviest_17 : decode cX6_heaviest 17 = .ok (.iload_n 2, 1) := by decide +kernel
theorem dX6_heaviest_18 : decode cX6_heaviest 18 = .ok (.invokevirtual 223, 3) := by decide +kernel
theorem dX6_heaviest_21 : decode cX6_heaviest 21 = .ok (.istore 5, 2) := by decide +kernel
theorem dX6_heaviest_23 : decode cX6_heaviest 23 = .ok (.iload_n 3, 1) := by decide +kernel
theorem dX6_heaviest_24 : decode cX6_heaviest 24 = .ok (.ifCond .eq 12, 3) := by decide +kernel
theorem dX6_heaviest_27 : decode cX6_heaviest 27 = .ok (.iload 5, 2) := by decide +kernel
theorem dX6_heaviest_29 : decode cX6_heaviest 29 = .ok (.aload_n 0, 1) := by decide +kernel
theorem dX6_heaviest_30 : decode cX6_heaviest 30 = .ok (.getfield 226, 3) := by decide +kernel
theorem dX6_heaviest_33 : decode cX6_heaviest 33 = .ok (.if_icmp .le 8, 3) := by decide +kernel
theorem dX6_heaviest_36 : decode cX6_heaviest 36 = .ok (.iload 4, 2) := by decide +kernel
theorem dX6_heaviest_38 : decode cX6_heaviest 38 = .ok (.goto 4, 3) := by decide +kernel
theorem dX6_heaviest_41 : decode cX6_heaviest 41 = .ok (.iload_n 3, 1) := by decide +kernel
theorem dX6_heaviest_42 : decode cX6_heaviest 42 = .ok (.istore_n 3, 1) := by decide +kernel
theorem dX6_heaviest_43 : decode cX6_heaviest 43 = .ok (.aload_n 0, 1) := by decide +kernel
theorem dX6_heaviest_44 : decode cX6_heaviest 44 = .ok (.iload_n 3, 1) := by decide +kernel
theorem dX6_heaviest_45 : decode cX6_heaviest 45 = .ok (.iload 4, 2) := by decide +kernel
theorem dX6_heaviest_47 : decode cX6_heaviest 47 = .ok (.if_icmp .ne 8, 3) := by decide +kernel
theorem dX6_heaviest_50 : decode cX6_heaviest 50 = .ok (.iload 5, 2) := by decide +kernel
theorem dX6_heaviest_52 : decode cX6_heaviest 52 = .ok (.goto 7, 3) := by decide +kernel
theorem dX6_heaviest_55 : decode cX6_heaviest 55 = .ok (.aload_n 0, 1) := by decide +kernel
theorem dX6_heaviest_56 : decode cX6_heaviest 56 = .ok (.getfield 226, 3) := by decide +kernel
theorem dX6_heaviest_59 : decode cX6_heaviest 59 = .ok (.putfield 226, 3) := by decide +kernel
theorem dX6_heaviest_62 : decode cX6_heaviest 62 = .ok (.iinc 4 1, 3) := by decide +kernel
theorem dX6_heaviest_65 : decode cX6_heaviest 65 = .ok (.goto (-59), 3) := by decide +kernel
theorem dX6_heaviest_68 : decode cX6_heaviest 68 = .ok (.iload_n 3, 1) := by decide +kernel
theorem dX6_heaviest_69 : decode cX6_heaviest 69 = .ok (.ireturn, 1) := by decide +kernel
def f_X6_heaviest (N : Nat) (v : MV) (p1 : Int32) (p2 : Int32) : Option (Int32 × MV) :=
  lpN (fun (s6 : Int32 × Int32 × MV) (k6 : (Int32 × Int32 × MV) → Option (Int32 × MV)) => (if (70 : Int32) < s6.2.1 then some (s6.1, s6.2.2) else (f_X6_tries N s6.2.2 p1 s6.2.1 p2).bind (fun o2 => jn (fun (s42 : Int32) => jn (fun (s59 : Int32) => k6 (s42, (s6.2.1 + (1 : Int32)), (M_set_bestPoints o2.2 s59))) (fun (j59 : (Int32) → Option (Int32 × MV)) => (if s42 = s6.2.1 then j59 o2.1 else j59 (M_bestPoints o2.2)))) (fun (j42 : (Int32) → Option (Int32 × MV)) => jn (fun (s36 : Unit) => j42 s6.2.1) (fun (j36 : (Unit) → Option (Int32 × MV)) => (if s6.1 = 0 then j36 () else (if o2.1 ≤ (M_bestPoints o2.2) then j42 s6.1 else j36 ()))))))) N ((0 : Int32), (15 : Int32), v)
set_option maxHeartbeats 4000000 in
set_option maxRecDepth 100000 in
theorem met_X6_heaviest (l : Launch) (dC : Nat → ClassId) (dI : Nat → Nat → Nat) (cyI cyO cyL : ClassId) (a : Nat → Nat) (sz : Nat) (N : Nat) (v : MV) (p1 : Int32) (p2 : Int32) (out : Int32 × MV) (hF : f_X6_heaviest N v p1 p2 = some out) : Met l yX6_heaviest (Cond.code yX6_heaviest cX6_heaviest 6 (some .int) :: wT) ({ frames := 6, cells := 0, slots := 0, locals := 149 } : Room) (wWr dC dI cyI cyO cyL [.ref (a 0), .int p1, .int p2] (cM cyI a v) sz) (va_Qi (fun (r : Int32) (u : MV) => (r, u) = out) (fun u t => va_P (dC, dI) vwCl (cM cyI a u) t.heap ∧ va_D (va_A (cM cyI a v) sz) (cM cyI a u)) (va_A (cM cyI a v) sz)) 0 0 (va_A (cM cyI a v) sz) := by
  refine Met.ofW (cc := cX6_heaviest) (maxL := 6) (ret := (some .int)) (by decide) rfl ?_
  intro p e s m args below meth c s₁ B hml hv
  obtain ⟨rfl, hsz, hP, hK, hD0⟩ := hv
  have hx := B.exec
  have hb := B.bytes
  have hr := B.returns
  have hts0 := atoms_spec (ws := (Cond.code yX6_heaviest cX6_heaviest 6 (some .int) :: wT)) B.pre
  have hts := fun w h => hts0 w (List.mem_cons_of_mem _ h)
  clear hts0
  have hown : s.vm.findClass RX6 = some m.cls := findClass_of_methodNamed B.named
  have hlocks := B.notSynchronized
  subst hsz
  have hD := hD0.self (sz := s.heap.size)
  generalize hAe : va_A (cM cyI a v) s.heap.size = A at hD ⊢
  have hA : ∀ q : Nat, s.heap.size ≤ q → A q := fun q h => by rw [← hAe]; exact Or.inr h
  clear hD0
  have hS : va_S A s.heap s.heap [] := va_S.rf
  have hl := lv_entry [.ref (a 0), .int p1, .int p2] (n := 6) (Nat.le_of_ble_eq_true rfl)
  rw [lg_entry_eq]
  generalize (lg_sl [.ref (a 0), .int p1, .int p2] ++ List.replicate (6 - (lg_sl [.ref (a 0), .int p1, .int p2]).length) Slot.unset).toArray = ls at hl ⊢
  have hl : lv_has ls 6 [(0, .ref (a 0)), (1, .int p1), (2, .int p2)] := hl
  unfold f_X6_heaviest at hF
  refine lv_iconst (v := 0) hx hb dX6_heaviest_0 (by decide) ?_
  refine lv_istore_n (lv' := [(3, .int (0 : Int32)), (0, .ref (a 0)), (1, .int p1), (2, .int p2)]) hx hb dX6_heaviest_1 rfl hl (by decide) rfl (fun ls hl => ?_)
  refine lv_bipush (v := 15) hx hb dX6_heaviest_2 (by decide) ?_
  refine lv_istore (lv' := [(4, .int (15 : Int32)), (3, .int (0 : Int32)), (0, .ref (a 0)), (1, .int p1), (2, .int p2)]) hx hb dX6_heaviest_4 hl (by decide) rfl (fun ls hl => ?_)
  obtain ⟨st6, hst6, hF⟩ := lpN_use hF
  have hL6 : ∀ (n : Nat) (s6 : Int32 × Int32 × MV) (H : Heap) (locs : List Loc) (ls : Array Slot), va_P (dC, dI) vwCl (cM cyI a s6.2.2) H → va_D A (cM cyI a s6.2.2) → va_S A s.heap H locs → lv_has ls 6 [(0, .ref (a 0)), (1, .int p1), (2, .int p2), (3, .int s6.1), (4, .int s6.2.1)] → lpN st6 n s6 = some out → W p l e (headSpec (Cond.code yX6_heaviest cX6_heaviest 6 (some .int) :: wT) ({ frames := 6, cells := 0, slots := 0, locals := 149 } : Room)).room s m ([.ref (a 0), .int p1, .int p2] : List Value).toArray below meth c H locs 0 0 (MQ below (va_Qi (fun (r : Int32) (u : MV) => (r, u) = out) (fun u t => va_P (dC, dI) vwCl (cM cyI a u) t.heap ∧ va_D A (cM cyI a u)) A) ([.ref (a 0), .int p1, .int p2] : List Value).toArray s 0 0 A) (F0 m 6 ls []) := by
    intro n
    induction n with
    | zero => intro s6 H locs ls hP hD hS hl hF; exact lpN_0 hF
    | succ n ih6 =>
      intro s6 H locs ls hP hD hS hl hF
      have hF := (congrFun (congrFun hst6 s6) (lpN st6 n)).symm.trans (lpN_s hF)
      refine lv_iload hx hb dX6_heaviest_6 (lv_at hl 4 rfl) ?_
      refine lv_bipush (v := 70) hx hb dX6_heaviest_8 (by decide) ?_
      refine lv_icmp_gt (tgt := 68) hx hb dX6_heaviest_10 (by decide) (fun c1 => ?_) (fun c1 => ?_)
      · have hF := itp c1 hF
        refine lv_iload_n hx hb dX6_heaviest_68 rfl (lv_at hl 3 rfl) ?_
        exact W.iret (v := s6.1) hx hb hr (fun t ht hW => ⟨⟨_, s6.2.2, rfl, Option.some.inj hF, by rw [ht]; exact hP, hD⟩, hS.F ht⟩) hS.2.2 dX6_heaviest_69
      · have hF := itn c1 hF
        refine lv_aload_n hx hb dX6_heaviest_13 rfl (lv_at hl 0 rfl) ?_
        refine lv_iload_n hx hb dX6_heaviest_14 rfl (lv_at hl 1 rfl) ?_
        refine lv_iload hx hb dX6_heaviest_15 (lv_at hl 4 rfl) ?_
        refine lv_iload_n hx hb dX6_heaviest_17 rfl (lv_at hl 2 rfl) ?_
        obtain ⟨o2, h3, hF⟩ := obd hF
        refine wcWVi (As := [.int p1, .int s6.2.1, .int p2]) (rest := []) (wr := []) (b := (a 0)) ⟨hx, hb, hml, hown, hts⟩ (met_X6_tries l dC dI cyI cyO cyL a _ N s6.2.2 p1 s6.2.1 p2 o2 h3) (cwV 3 hts (gV w_methodLink_X6_223 w_instanceMethod_X6_tries w_selects_X6_tries w_initialized_X6 w_code_X6_tries) rfl rfl rfl (by decide +kernel) ⟨Nat.le_of_ble_eq_true rfl, Nat.le_of_ble_eq_true rfl⟩) (va_recv hK.1 hP (ci := 6) (q0 := 0) rfl rfl) hP hD hK [0, 1, 2, 3, 4, 5, 6, 7] [] rfl rfl (by decide) (by decide) (by decide) rfl hl.1 (Nat.le_of_ble_eq_true rfl) dX6_heaviest_18 ⟨Nat.le_of_ble_eq_true rfl, Nat.le_of_ble_eq_true rfl⟩ hS hA (fun r u H locs hw hP hD hS => ?_)
        obtain rfl : r = o2.1 := congrArg Prod.fst hw
        obtain rfl : u = o2.2 := congrArg Prod.snd hw
        clear hw
        have hP : va_P (dC, dI) vwCl (cM cyI a o2.2) H := hP
        have hD : va_D A (cM cyI a o2.2) := hD
        refine lv_istore (lv' := [(5, .int o2.1), (0, .ref (a 0)), (1, .int p1), (2, .int p2), (3, .int s6.1), (4, .int s6.2.1)]) hx hb dX6_heaviest_21 hl (by decide) rfl (fun ls hl => ?_)
        refine lv_iload_n hx hb dX6_heaviest_23 rfl (lv_at hl 4 rfl) ?_
        obtain ⟨j42, hj42, hF⟩ := jn_use hF
        have hJ42 : ∀ (s42 : Int32) (H : Heap) (locs : List Loc) (ls : Array Slot), va_P (dC, dI) vwCl (cM cyI a o2.2) H → va_D A (cM cyI a o2.2) → va_S A s.heap H locs → lv_has ls 6 [(0, .ref (a 0)), (1, .int p1), (2, .int p2), (4, .int s6.2.1), (5, .int o2.1)] → j42 s42 = some out → W p l e (headSpec (Cond.code yX6_heaviest cX6_heaviest 6 (some .int) :: wT) ({ frames := 6, cells := 0, slots := 0, locals := 149 } : Room)).room s m ([.ref (a 0), .int p1, .int p2] : List Value).toArray below meth c H locs 0 0 (MQ below (va_Qi (fun (r : Int32) (u : MV) => (r, u) = out) (fun u t => va_P (dC, dI) vwCl (cM cyI a u) t.heap ∧ va_D A (cM cyI a u)) A) ([.ref (a 0), .int p1, .int p2] : List Value).toArray s 0 0 A) (F0 m 42 ls [.int s42]) := by
          intro s42 H locs ls hP hD hS hl hF
          have hF := (congrFun hj42 s42).symm.trans hF
          refine lv_istore_n (lv' := [(3, .int s42), (0, .ref (a 0)), (1, .int p1), (2, .int p2), (4, .int s6.2.1), (5, .int o2.1)]) hx hb dX6_heaviest_42 rfl hl (by decide) rfl (fun ls hl => ?_)
          refine lv_aload_n hx hb dX6_heaviest_43 rfl (lv_at hl 1 rfl) ?_
          refine lv_iload_n hx hb dX6_heaviest_44 rfl (lv_at hl 0 rfl) ?_
          refine lv_iload hx hb dX6_heaviest_45 (lv_at hl 4 rfl) ?_
          obtain ⟨j59, hj59, hF⟩ := jn_use hF
          have hJ59 : ∀ (s59 : Int32) (H : Heap) (locs : List Loc) (ls : Array Slot), va_P (dC, dI) vwCl (cM cyI a o2.2) H → va_D A (cM cyI a o2.2) → va_S A s.heap H locs → lv_has ls 6 [(0, .ref (a 0)), (1, .int p1), (2, .int p2), (3, .int s42), (4, .int s6.2.1)] → j59 s59 = some out → W p l e (headSpec (Cond.code yX6_heaviest cX6_heaviest 6 (some .int) :: wT) ({ frames := 6, cells := 0, slots := 0, locals := 149 } : Room)).room s m ([.ref (a 0), .int p1, .int p2] : List Value).toArray below meth c H locs 0 0 (MQ below (va_Qi (fun (r : Int32) (u : MV) => (r, u) = out) (fun u t => va_P (dC, dI) vwCl (cM cyI a u) t.heap ∧ va_D A (cM cyI a u)) A) ([.ref (a 0), .int p1, .int p2] : List Value).toArray s 0 0 A) (F0 m 59 ls [.int s59, .ref (a 0)]) := by
            intro s59 H locs ls hP hD hS hl hF
            have hF := (congrFun hj59 s59).symm.trans hF
            refine va_put (D := (dC, dI)) (ci := 6) (v := .int s59) (ty := .int) (C := RX6) (T := TX6) (N := 23) hx hb hts inX6 tyX6 tyX6_ok nmX6 hown hK.1 hP hD hS 0 rfl rfl 21 (by decide) (hts _ w_fieldLink_X6_226) (fun _ h9 => h9) rfl (by decide +kernel) rfl rfl (Nat.le_of_ble_eq_true rfl) dX6_heaviest_59 (fun H locs hP hD hS => ?_)
            have hP : va_P (dC, dI) vwCl (cM cyI a (M_set_bestPoints o2.2 s59)) H := hP
            have hD : va_D A (cM cyI a (M_set_bestPoints o2.2 s59)) := hD
            refine lv_iinc (v := (s6.2.1 + (1 : Int32))) (lv' := [(4, .int (s6.2.1 + (1 : Int32))), (0, .ref (a 0)), (1, .int p1), (2, .int p2), (3, .int s42)]) hx hb dX6_heaviest_62 hl (k := 4) rfl rfl (by decide) rfl (fun ls hl => ?_)
            refine lv_goto (tgt := 6) hx hb dX6_heaviest_65 (by decide) ?_
            exact ih6 (s42, (s6.2.1 + (1 : Int32)), (M_set_bestPoints o2.2 s59)) _ _ _ hP hD hS (lv_sub hl [1, 2, 3, 4, 0] rfl) hF
          refine lv_icmp_ne (tgt := 55) hx hb dX6_heaviest_47 (by decide) (fun c4 => ?_) (fun c4 => ?_)
          · have hF := itn c4 hF
            refine lv_aload_n hx hb dX6_heaviest_55 rfl (lv_at hl 1 rfl) ?_
            refine va_get (D := (dC, dI)) (ci := 6) (v := .int (M_bestPoints o2.2)) (C := RX6) (T := TX6) (N := 23) hx hb hts inX6 hown hK.1 hP 0 rfl rfl 21 (by decide) (hts _ w_fieldLink_X6_226) (fun _ h9 => h9) rfl dX6_heaviest_56 ?_
            exact hJ59 (M_bestPoints o2.2) _ _ _ hP hD hS (lv_sub hl [1, 2, 3, 0, 4] rfl) hF
          · have hF := itp c4 hF
            refine lv_iload hx hb dX6_heaviest_50 (lv_at hl 5 rfl) ?_
            refine lv_goto (tgt := 59) hx hb dX6_heaviest_52 (by decide) ?_
            exact hJ59 o2.1 _ _ _ hP hD hS (lv_sub hl [1, 2, 3, 0, 4] rfl) hF
        obtain ⟨j36, hj36, hF⟩ := jn_use hF
        have hJ36 : ∀ (s36 : Unit) (H : Heap) (locs : List Loc) (ls : Array Slot), va_P (dC, dI) vwCl (cM cyI a o2.2) H → va_D A (cM cyI a o2.2) → va_S A s.heap H locs → lv_has ls 6 [(0, .ref (a 0)), (1, .int p1), (2, .int p2), (4, .int s6.2.1), (5, .int o2.1)] → j36 s36 = some out → W p l e (headSpec (Cond.code yX6_heaviest cX6_heaviest 6 (some .int) :: wT) ({ frames := 6, cells := 0, slots := 0, locals := 149 } : Room)).room s m ([.ref (a 0), .int p1, .int p2] : List Value).toArray below meth c H locs 0 0 (MQ below (va_Qi (fun (r : Int32) (u : MV) => (r, u) = out) (fun u t => va_P (dC, dI) vwCl (cM cyI a u) t.heap ∧ va_D A (cM cyI a u)) A) ([.ref (a 0), .int p1, .int p2] : List Value).toArray s 0 0 A) (F0 m 36 ls []) := by
          intro s36 H locs ls hP hD hS hl hF
          have hF := (congrFun hj36 s36).symm.trans hF
          refine lv_iload hx hb dX6_heaviest_36 (lv_at hl 3 rfl) ?_
          refine lv_goto (tgt := 42) hx hb dX6_heaviest_38 (by decide) ?_
          exact hJ42 s6.2.1 _ _ _ hP hD hS (lv_sub hl [0, 1, 2, 3, 4] rfl) hF
        refine lv_if_eq (tgt := 36) hx hb dX6_heaviest_24 (by decide) (fun c5 => ?_) (fun c5 => ?_)
        · have hF := itp c5 hF
          exact hJ36 () _ _ _ hP hD hS (lv_sub hl [1, 2, 3, 5, 0] rfl) hF
        · have hF := itn c5 hF
          refine lv_iload hx hb dX6_heaviest_27 (lv_at hl 0 rfl) ?_
          refine lv_aload_n hx hb dX6_heaviest_29 rfl (lv_at hl 1 rfl) ?_
          refine va_get (D := (dC, dI)) (ci := 6) (v := .int (M_bestPoints o2.2)) (C := RX6) (T := TX6) (N := 23) hx hb hts inX6 hown hK.1 hP 0 rfl rfl 21 (by decide) (hts _ w_fieldLink_X6_226) (fun _ h9 => h9) rfl dX6_heaviest_30 ?_
          refine lv_icmp_le (tgt := 41) hx hb dX6_heaviest_33 (by decide) (fun c6 => ?_) (fun c6 => ?_)
          · have hF := itp c6 hF
            refine lv_iload_n hx hb dX6_heaviest_41 rfl (lv_at hl 4 rfl) ?_
            exact hJ42 s6.1 _ _ _ hP hD hS (lv_sub hl [1, 2, 3, 5, 0] rfl) hF
          · have hF := itn c6 hF
            exact hJ36 () _ _ _ hP hD hS (lv_sub hl [1, 2, 3, 5, 0] rfl) hF
  exact hL6 N ((0 : Int32), (15 : Int32), v) _ _ _ hP hD hS (lv_sub hl [2, 3, 4, 1, 0] rfl) hF
theorem dX6_bestWeight_0 : decode cX6_bestWeight 0 = .ok (.aload_n 0, 1) := by decide +kernel
theorem dX6_bestWeight_1 : decode cX6_bestWeight 1 = .ok (.iload_n 1, 1) := by decide +kernel
theorem dX6_bestWeight_2 : decode cX6_bestWeight 2 = .ok (.bipush 15, 2) := by decide +kernel
theorem dX6_bestWeight_4 : decode cX6_bestWeight 4 = .ok (.iload_n 2, 1) := by decide +kernel
theorem dX6_bestWeight_5 : decode cX6_bestWeight 5 = .ok (.invokestatic 117, 3) := by decide +kernel
theorem dX6_bestWeight_8 : decode cX6_bestWeight 8 = .ok (.ifCond .ne 7, 3) := by decide +kernel
theorem dX6_bestWeight_11 : decode cX6_bestWeight 11 = .ok (.iconst 1, 1) := by decide +kernel
theorem dX6_bestWeight_12 : decode cX6_bestWeight 12 = .ok (.goto 15, 3) := by decide +kernel
theorem dX6_bestWeight_15 : decode cX6_bestWeight 15 = .ok (.aload_n 0, 1) := by decide +kernel
theorem dX6_bestWeight_16 : decode cX6_bestWeight 16 = .ok (.invokevirtual 120, 3) := by decide +kernel
theorem dX6_bestWeight_19 : decode cX6_bestWeight 19 = .ok (.ifCond .eq 7, 3) := by decide +kernel
theorem dX6_bestWeight_22 : decode cX6_bestWeight 22 = .ok (.iconst 0, 1) := by decide +kernel
theorem dX6_bestWeight_23 : decode cX6_bestWeight 23 = .ok (.goto 4, 3) := by decide +kernel
theorem dX6_bestWeight_26 : decode cX6_bestWeight 26 = .ok (.iconst 2, 1) := by decide +kernel
theorem dX6_bestWeight_27 : decode cX6_bestWeight 27 = .ok (.invokevirtual 107, 3) := by decide +kernel
theorem dX6_bestWeight_30 : decode cX6_bestWeight 30 = .ok (.ifCond .eq 12, 3) := by decide +kernel
theorem dX6_bestWeight_33 : decode cX6_bestWeight 33 = .ok (.aload_n 0, 1) := by decide +kernel
theorem dX6_bestWeight_34 : decode cX6_bestWeight 34 = .ok (.iload_n 1, 1) := by decide +kernel
theorem dX6_bestWeight_35 : decode cX6_bestWeight 35 = .ok (.iload_n 2, 1) := by decide +kernel
theorem dX6_bestWeight_36 : decode cX6_bestWeight 36 = .ok (.invokevirtual 229, 3) := by decide +kernel
theorem dX6_bestWeight_39 : decode cX6_bestWeight 39 = .ok (.goto 4, 3) := by decide +kernel
theorem dX6_bestWeight_42 : decode cX6_bestWeight 42 = .ok (.iconst 0, 1) := by decide +kernel
theorem dX6_bestWeight_43 : decode cX6_bestWeight 43 = .ok (.ireturn, 1) := by decide +kernel
def f_X6_bestWeight (N : Nat) (v : MV) (p1 : Int32) (p2 : Int32) : Option (Int32 × MV) :=
  (f_X6_isPlay N p1 (15 : Int32) p2).bind (fun o1 => jn (fun (s27 : Int32) => (f_X6_holds N v s27).bind (fun o4 => jn (fun (s43 : Int32 × MV) => some (s43.1, s43.2)) (fun (j43 : (Int32 × MV) → Option (Int32 × MV)) => (if o4.1 = 0 then j43 ((0 : Int32), o4.2) else (f_X6_heaviest N o4.2 p1 p2).bind (fun o8 => j43 (o8.1, o8.2)))))) (fun (j27 : (Int32) → Option (Int32 × MV)) => (if o1 = 0 then j27 (1 : Int32) else (f_X6_canPlay N v).bind (fun o11 => (if o11 = 0 then j27 (2 : Int32) else j27 (0 : Int32))))))
set_option maxHeartbeats 4000000 in
set_option maxRecDepth 100000 in
theorem met_X6_bestWeight (l : Launch) (dC : Nat → ClassId) (dI : Nat → Nat → Nat) (cyI cyO cyL : ClassId) (a : Nat → Nat) (sz : Nat) (N : Nat) (v : MV) (p1 : Int32) (p2 : Int32) (out : Int32 × MV) (hF : f_X6_bestWeight N v p1 p2 = some out) : Met l yX6_bestWeight (Cond.code yX6_bestWeight cX6_bestWeight 3 (some .int) :: wT) ({ frames := 7, cells := 0, slots := 0, locals := 174 } : Room) (wWr dC dI cyI cyO cyL [.ref (a 0), .int p1, .int p2] (cM cyI a v) sz) (va_Qi (fun (r : Int32) (u : MV) => (r, u) = out) (fun u t => va_P (dC, dI) vwCl (cM cyI a u) t.heap ∧ va_D (va_A (cM cyI a v) sz) (cM cyI a u)) (va_A (cM cyI a v) sz)) 0 0 (va_A (cM cyI a v) sz) := by
  refine Met.ofW (cc := cX6_bestWeight) (maxL := 3) (ret := (some .int)) (by decide) rfl ?_
  intro p e s m args below meth c s₁ B hml hv
  obtain ⟨rfl, hsz, hP, hK, hD0⟩ := hv
  have hx := B.exec
  have hb := B.bytes
  have hr := B.returns
  have hts0 := atoms_spec (ws := (Cond.code yX6_bestWeight cX6_bestWeight 3 (some .int) :: wT)) B.pre
  have hts := fun w h => hts0 w (List.mem_cons_of_mem _ h)
  clear hts0
  have hown : s.vm.findClass RX6 = some m.cls := findClass_of_methodNamed B.named
  have hlocks := B.notSynchronized
  subst hsz
  have hD := hD0.self (sz := s.heap.size)
  generalize hAe : va_A (cM cyI a v) s.heap.size = A at hD ⊢
  have hA : ∀ q : Nat, s.heap.size ≤ q → A q := fun q h => by rw [← hAe]; exact Or.inr h
  clear hD0
  have hS : va_S A s.heap s.heap [] := va_S.rf
  have hl := lv_entry [.ref (a 0), .int p1, .int p2] (n := 3) (Nat.le_of_ble_eq_true rfl)
  rw [lg_entry_eq]
  generalize (lg_sl [.ref (a 0), .int p1, .int p2] ++ List.replicate (3 - (lg_sl [.ref (a 0), .int p1, .int p2]).length) Slot.unset).toArray = ls at hl ⊢
  have hl : lv_has ls 3 [(0, .ref (a 0)), (1, .int p1), (2, .int p2)] := hl
  unfold f_X6_bestWeight at hF
  refine lv_aload_n hx hb dX6_bestWeight_0 rfl (lv_at hl 0 rfl) ?_
  refine lv_iload_n hx hb dX6_bestWeight_1 rfl (lv_at hl 1 rfl) ?_
  refine lv_bipush (v := 15) hx hb dX6_bestWeight_2 (by decide) ?_
  refine lv_iload_n hx hb dX6_bestWeight_4 rfl (lv_at hl 2 rfl) ?_
  obtain ⟨o1, h2, hF⟩ := obd hF
  refine wcRSi (As := [.int p1, .int (15 : Int32), .int p2]) (rest := [.ref (a 0)]) ⟨hx, hb, hml, hown, hts⟩ (met_X6_isPlay l dC dI cyI cyO cyL  N  p1 (15 : Int32) p2 o1 h2) (va_cwS 3 hts (gS w_methodLink_X6_117 w_static_X6_isPlay w_initialized_X6 w_code_X6_isPlay) rfl rfl rfl (by decide +kernel) ⟨Nat.le_of_ble_eq_true rfl, Nat.le_of_ble_eq_true rfl⟩) hP hK [] rfl rfl hl.1 (Nat.le_of_ble_eq_true rfl) dX6_bestWeight_5 ⟨Nat.le_of_ble_eq_true rfl, Nat.le_of_ble_eq_true rfl⟩ hS (fun r H locs hw hP hS => ?_)
  obtain ⟨hw, hz3⟩ := hw
  have hw := hw.symm
  subst hw
  obtain ⟨j27, hj27, hF⟩ := jn_use hF
  have hJ27 : ∀ (s27 : Int32) (H : Heap) (locs : List Loc) (ls : Array Slot), va_P (dC, dI) vwCl (cM cyI a v) H → va_D A (cM cyI a v) → va_S A s.heap H locs → lv_has ls 3 [(0, .ref (a 0)), (1, .int p1), (2, .int p2)] → j27 s27 = some out → W p l e (headSpec (Cond.code yX6_bestWeight cX6_bestWeight 3 (some .int) :: wT) ({ frames := 7, cells := 0, slots := 0, locals := 174 } : Room)).room s m ([.ref (a 0), .int p1, .int p2] : List Value).toArray below meth c H locs 0 0 (MQ below (va_Qi (fun (r : Int32) (u : MV) => (r, u) = out) (fun u t => va_P (dC, dI) vwCl (cM cyI a u) t.heap ∧ va_D A (cM cyI a u)) A) ([.ref (a 0), .int p1, .int p2] : List Value).toArray s 0 0 A) (F0 m 27 ls [.int s27, .ref (a 0)]) := by
    intro s27 H locs ls hP hD hS hl hF
    have hF := (congrFun hj27 s27).symm.trans hF
    obtain ⟨o4, h5, hF⟩ := obd hF
    refine wcWVi (As := [.int s27]) (rest := []) (wr := []) (b := (a 0)) ⟨hx, hb, hml, hown, hts⟩ (met_X6_holds l dC dI cyI cyO cyL a _ N v s27 o4 h5) (cwV 1 hts (gV w_methodLink_X6_107 w_instanceMethod_X6_holds w_selects_X6_holds w_initialized_X6 w_code_X6_holds) rfl rfl rfl (by decide +kernel) ⟨Nat.le_of_ble_eq_true rfl, Nat.le_of_ble_eq_true rfl⟩) (va_recv hK.1 hP (ci := 6) (q0 := 0) rfl rfl) hP hD hK [0, 1, 2, 3, 4, 5, 6, 7] [] rfl rfl (by decide) (by decide) (by decide) rfl hl.1 (Nat.le_of_ble_eq_true rfl) dX6_bestWeight_27 ⟨Nat.le_of_ble_eq_true rfl, Nat.le_of_ble_eq_true rfl⟩ hS hA (fun r u H locs hw hP hD hS => ?_)
    obtain ⟨hw, hz6⟩ := hw
    obtain rfl : r = o4.1 := congrArg Prod.fst hw
    obtain rfl : u = o4.2 := congrArg Prod.snd hw
    clear hw
    have hP : va_P (dC, dI) vwCl (cM cyI a o4.2) H := hP
    have hD : va_D A (cM cyI a o4.2) := hD
    obtain ⟨j43, hj43, hF⟩ := jn_use hF
    have hJ43 : ∀ (s43 : Int32 × MV) (H : Heap) (locs : List Loc) (ls : Array Slot), va_P (dC, dI) vwCl (cM cyI a s43.2) H → va_D A (cM cyI a s43.2) → va_S A s.heap H locs → lv_has ls 3 [] → j43 s43 = some out → W p l e (headSpec (Cond.code yX6_bestWeight cX6_bestWeight 3 (some .int) :: wT) ({ frames := 7, cells := 0, slots := 0, locals := 174 } : Room)).room s m ([.ref (a 0), .int p1, .int p2] : List Value).toArray below meth c H locs 0 0 (MQ below (va_Qi (fun (r : Int32) (u : MV) => (r, u) = out) (fun u t => va_P (dC, dI) vwCl (cM cyI a u) t.heap ∧ va_D A (cM cyI a u)) A) ([.ref (a 0), .int p1, .int p2] : List Value).toArray s 0 0 A) (F0 m 43 ls [.int s43.1]) := by
      intro s43 H locs ls hP hD hS hl hF
      have hF := (congrFun hj43 s43).symm.trans hF
      exact W.iret (v := s43.1) hx hb hr (fun t ht hW => ⟨⟨_, s43.2, rfl, Option.some.inj hF, by rw [ht]; exact hP, hD⟩, hS.F ht⟩) hS.2.2 dX6_bestWeight_43
    refine lv_if_eq (tgt := 42) hx hb dX6_bestWeight_30 (by decide) (fun c7 => ?_) (fun c7 => ?_)
    · have hF := itp c7 hF
      refine lv_iconst (v := 0) hx hb dX6_bestWeight_42 (by decide) ?_
      exact hJ43 ((0 : Int32), o4.2) _ _ _ hP hD hS (lv_sub hl [] rfl) hF
    · have hF := itn c7 hF
      refine lv_aload_n hx hb dX6_bestWeight_33 rfl (lv_at hl 0 rfl) ?_
      refine lv_iload_n hx hb dX6_bestWeight_34 rfl (lv_at hl 1 rfl) ?_
      refine lv_iload_n hx hb dX6_bestWeight_35 rfl (lv_at hl 2 rfl) ?_
      obtain ⟨o8, h9, hF⟩ := obd hF
      refine wcWVi (As := [.int p1, .int p2]) (rest := []) (wr := []) (b := (a 0)) ⟨hx, hb, hml, hown, hts⟩ (met_X6_heaviest l dC dI cyI cyO cyL a _ N o4.2 p1 p2 o8 h9) (cwV 2 hts (gV w_methodLink_X6_229 w_instanceMethod_X6_heaviest w_selects_X6_heaviest w_initialized_X6 w_code_X6_heaviest) rfl rfl rfl (by decide +kernel) ⟨Nat.le_of_ble_eq_true rfl, Nat.le_of_ble_eq_true rfl⟩) (va_recv hK.1 hP (ci := 6) (q0 := 0) rfl rfl) hP hD hK [0, 1, 2, 3, 4, 5, 6, 7] [] rfl rfl (by decide) (by decide) (by decide) rfl hl.1 (Nat.le_of_ble_eq_true rfl) dX6_bestWeight_36 ⟨Nat.le_of_ble_eq_true rfl, Nat.le_of_ble_eq_true rfl⟩ hS hA (fun r u H locs hw hP hD hS => ?_)
      obtain rfl : r = o8.1 := congrArg Prod.fst hw
      obtain rfl : u = o8.2 := congrArg Prod.snd hw
      clear hw
      have hP : va_P (dC, dI) vwCl (cM cyI a o8.2) H := hP
      have hD : va_D A (cM cyI a o8.2) := hD
      refine lv_goto (tgt := 43) hx hb dX6_bestWeight_39 (by decide) ?_
      exact hJ43 (o8.1, o8.2) _ _ _ hP hD hS (lv_sub hl [] rfl) hF
  refine lv_if_ne (tgt := 15) hx hb dX6_bestWeight_8 (by decide) (fun c10 => ?_) (fun c10 => ?_)
  · have hF := itn c10 hF
    refine lv_aload_n hx hb dX6_bestWeight_15 rfl (lv_at hl 0 rfl) ?_
    obtain ⟨o11, h12, hF⟩ := obd hF
    refine wcRVi (As := []) (rest := [.ref (a 0)]) (b := (a 0)) ⟨hx, hb, hml, hown, hts⟩ (met_X6_canPlay l dC dI cyI cyO cyL a N v  o11 h12) (cwV 0 hts (gV w_methodLink_X6_120 w_instanceMethod_X6_canPlay w_selects_X6_canPlay w_initialized_X6 w_code_X6_canPlay) rfl rfl rfl (by decide +kernel) ⟨Nat.le_of_ble_eq_true rfl, Nat.le_of_ble_eq_true rfl⟩) (va_recv hK.1 hP (ci := 6) (q0 := 0) rfl rfl) hP hK [0, 1, 2, 3, 4, 5, 6, 7] rfl rfl hl.1 (Nat.le_of_ble_eq_true rfl) dX6_bestWeight_16 ⟨Nat.le_of_ble_eq_true rfl, Nat.le_of_ble_eq_true rfl⟩ hS (fun r H locs hw hP hS => ?_)
    obtain ⟨hw, hz13⟩ := hw
    have hw := hw.symm
    subst hw
    refine lv_if_eq (tgt := 26) hx hb dX6_bestWeight_19 (by decide) (fun c14 => ?_) (fun c14 => ?_)
    · have hF := itp c14 hF
      refine lv_iconst (v := 2) hx hb dX6_bestWeight_26 (by decide) ?_
      exact hJ27 (2 : Int32) _ _ _ hP hD hS (lv_sub hl [0, 1, 2] rfl) hF
    · have hF := itn c14 hF
      refine lv_iconst (v := 0) hx hb dX6_bestWeight_22 (by decide) ?_
      refine lv_goto (tgt := 27) hx hb dX6_bestWeight_23 (by decide) ?_
      exact hJ27 (0 : Int32) _ _ _ hP hD hS (lv_sub hl [0, 1, 2] rfl) hF
  · have hF := itp c10 hF
    refine lv_iconst (v := 1) hx hb dX6_bestWeight_11 (by decide) ?_
    refine lv_goto (tgt := 27) hx hb dX6_bestWeight_12 (by decide) ?_
    exact hJ27 (1 : Int32) _ _ _ hP hD hS (lv_sub hl [0, 1, 2] rfl) hF
theorem dX6_wouldStrike_0 : decode cX6_wouldStrike 0 = .ok (.aload_n 0, 1) := by decide +kernel
theorem dX6_wouldStrike_1 : decode cX6_wouldStrike 1 = .ok (.iload_n 1, 1) := by decide +kernel
theorem dX6_wouldStrike_2 : decode cX6_wouldStrike 2 = .ok (.iload_n 2, 1) := by decide +kernel
theorem dX6_wouldStrike_3 : decode cX6_wouldStrike 3 = .ok (.iload_n 3, 1) := by decide +kernel
theorem dX6_wouldStrike_4 : decode cX6_wouldStrike 4 = .ok (.invokestatic 117, 3) := by decide +kernel
theorem dX6_wouldStrike_7 : decode cX6_wouldStrike 7 = .ok (.ifCond .ne 7, 3) := by decide +kernel
theorem dX6_wouldStrike_10 : decode cX6_wouldStrike 10 = .ok (.iconst 1, 1) := by decide +kernel
theorem dX6_wouldStrike_11 : decode cX6_wouldStrike 11 = .ok (.goto 15, 3) := by decide +kernel
theorem dX6_wouldStrike_14 : decode cX6_wouldStrike 14 = .ok (.aload_n 0, 1) := by decide +kernel
theorem dX6_wouldStrike_15 : decode cX6_wouldStrike 15 = .ok (.invokevirtual 120, 3) := by decide +kernel
theorem dX6_wouldStrike_18 : decode cX6_wouldStrike 18 = .ok (.ifCond .eq 7, 3) := by decide +kernel
theorem dX6_wouldStrike_21 : decode cX6_wouldStrike 21 = .ok (.iconst 0, 1) := by decide +kernel
theorem dX6_wouldStrike_22 : decode cX6_wouldStrike 22 = .ok (.goto 4, 3) := by decide +kernel
theorem dX6_wouldStrike_25 : decode cX6_wouldStrike 25 = .ok (.iconst 2, 1) := by decide +kernel
theorem dX6_wouldStrike_26 : decode cX6_wouldStrike 26 = .ok (.invokevirtual 107, 3) := by decide +kernel
theorem dX6_wouldStrike_29 : decode cX6_wouldStrike 29 = .ok (.ifCond .ne 5, 3) := by decide +kernel
theorem dX6_wouldStrike_32 : decode cX6_wouldStrike 32 = .ok (.iconst 0, 1) := by decide +kernel
theorem dX6_wouldStrike_33 : decode cX6_wouldStrike 33 = .ok (.ireturn, 1) := by decide +kernel
theorem dX6_wouldStrike_34 : decode cX6_wouldStrike 34 = .ok (.aload_n 0, 1) := by decide +kernel
theorem dX6_wouldStrike_35 : decode cX6_wouldStrike 35 = .ok (.iload_n 1, 1) := by decide +kernel
theorem dX6_wouldStrike_36 : decode cX6_wouldStrike 36 = .ok (.iload_n 2, 1) := by decide +kernel
theorem dX6_wouldStrike_37 : decode cX6_wouldStrike 37 = .ok (.iload_n 3, 1) := by decide +kernel
theorem dX6_wouldStrike_38 : decode cX6_wouldStrike 38 = .ok (.invokevirtual 223, 3) := by decide +kernel
theorem dX6_wouldStrike_41 : decode cX6_wouldStrike 41 = .ok (.istore 4, 2) := by decide +kernel
theorem dX6_wouldStrike_43 : decode cX6_wouldStrike 43 = .ok (.aload_n 0, 1) := by decide +kernel
theorem dX6_wouldStrike_44 : decode cX6_wouldStrike 44 = .ok (.getfield 50, 3) := by decide +kernel
theorem dX6_wouldStrike_47 : decode cX6_wouldStrike 47 = .ok (.ireturn, 1) := by decide +kernel
def f_X6_wouldStrike (N : Nat) (v : MV) (p1 : Int32) (p2 : Int32) (p3 : Int32) : Option (Int32 × MV) :=
  (f_X6_isPlay N p1 p2 p3).bind (fun o1 => jn (fun (s26 : Int32) => (f_X6_holds N v s26).bind (fun o4 => (if o4.1 = 0 then some ((0 : Int32), o4.2) else (f_X6_tries N o4.2 p1 p2 p3).bind (fun o8 => some ((M_strikes o8.2), o8.2))))) (fun (j26 : (Int32) → Option (Int32 × MV)) => (if o1 = 0 then j26 (1 : Int32) else (f_X6_canPlay N v).bind (fun o11 => (if o11 = 0 then j26 (2 : Int32) else j26 (0 : Int32))))))
set_option maxHeartbeats 4000000 in
set_option maxRecDepth 100000 in
theorem met_X6_wouldStrike (l : Launch) (dC : Nat → ClassId) (dI : Nat → Nat → Nat) (cyI cyO cyL : ClassId) (a : Nat → Nat) (sz : Nat) (N : Nat) (v : MV) (p1 : Int32) (p2 : Int32) (p3 : Int32) (out : Int32 × MV) (hF : f_X6_wouldStrike N v p1 p2 p3 = some out) : Met l yX6_wouldStrike (Cond.code yX6_wouldStrike cX6_wouldStrike 5 (some .int) :: wT) ({ frames := 6, cells := 0, slots := 0, locals := 149 } : Room) (wWr dC dI cyI cyO cyL [.ref (a 0), .int p1, .int p2, .int p3] (cM cyI a v) sz) (va_Qi (fun (r : Int32) (u : MV) => (r, u) = out) (fun u t => va_P (dC, dI) vwCl (cM cyI a u) t.heap ∧ va_D (va_A (cM cyI a v) sz) (cM cyI a u)) (va_A (cM cyI a v) sz)) 0 0 (va_A (cM cyI a v) sz) := by
  refine Met.ofW (cc := cX6_wouldStrike) (maxL := 5) (ret := (some .int)) (by decide) rfl ?_
  intro p e s m args below meth c s₁ B hml hv
  obtain ⟨rfl, hsz, hP, hK, hD0⟩ := hv
  have hx := B.exec
  have hb := B.bytes
  have hr := B.returns
  have hts0 := atoms_spec (ws := (Cond.code yX6_wouldStrike cX6_wouldStrike 5 (some .int) :: wT)) B.pre
  have hts := fun w h => hts0 w (List.mem_cons_of_mem _ h)
  clear hts0
  have hown : s.vm.findClass RX6 = some m.cls := findClass_of_methodNamed B.named
  have hlocks := B.notSynchronized
  subst hsz
  have hD := hD0.self (sz := s.heap.size)
  generalize hAe : va_A (cM cyI a v) s.heap.size = A at hD ⊢
  have hA : ∀ q : Nat, s.heap.size ≤ q → A q := fun q h => by rw [← hAe]; exact Or.inr h
  clear hD0
  have hS : va_S A s.heap s.heap [] := va_S.rf
  have hl := lv_entry [.ref (a 0), .int p1, .int p2, .int p3] (n := 5) (Nat.le_of_ble_eq_true rfl)
  rw [lg_entry_eq]
  generalize (lg_sl [.ref (a 0), .int p1, .int p2, .int p3] ++ List.replicate (5 - (lg_sl [.ref (a 0), .int p1, .int p2, .int p3]).length) Slot.unset).toArray = ls at hl ⊢
  have hl : lv_has ls 5 [(0, .ref (a 0)), (1, .int p1), (2, .int p2), (3, .int p3)] := hl
  unfold f_X6_wouldStrike at hF
  refine lv_aload_n hx hb dX6_wouldStrike_0 rfl (lv_at hl 0 rfl) ?_
  refine lv_iload_n hx hb dX6_wouldStrike_1 rfl (lv_at hl 1 rfl) ?_
  refine lv_iload_n hx hb dX6_wouldStrike_2 rfl (lv_at hl 2 rfl) ?_
  refine lv_iload_n hx hb dX6_wouldStrike_3 rfl (lv_at hl 3 rfl) ?_
  obtain ⟨o1, h2, hF⟩ := obd hF
  refine wcRSi (As := [.int p1, .int p2, .int p3]) (rest := [.ref (a 0)]) ⟨hx, hb, hml, hown, hts⟩ (met_X6_isPlay l dC dI cyI cyO cyL  N  p1 p2 p3 o1 h2) (va_cwS 3 hts (gS w_methodLink_X6_117 w_static_X6_isPlay w_initialized_X6 w_code_X6_isPlay) rfl rfl rfl (by decide +kernel) ⟨Nat.le_of_ble_eq_true rfl, Nat.le_of_ble_eq_true rfl⟩) hP hK [] rfl rfl hl.1 (Nat.le_of_ble_eq_true rfl) dX6_wouldStrike_4 ⟨Nat.le_of_ble_eq_true rfl, Nat.le_of_ble_eq_true rfl⟩ hS (fun r H locs hw hP hS => ?_)
  obtain ⟨hw, hz3⟩ := hw
  have hw := hw.symm
  subst hw
  obtain ⟨j26, hj26, hF⟩ := jn_use hF
  have hJ26 : ∀ (s26 : Int32) (H : Heap) (locs : List Loc) (ls : Array Slot), va_P (dC, dI) vwCl (cM cyI a v) H → va_D A (cM cyI a v) → va_S A s.heap H locs → lv_has ls 5 [(0, .ref (a 0)), (1, .int p1), (2, .int p2), (3, .int p3)] → j26 s26 = some out → W p l e (headSpec (Cond.code yX6_wouldStrike cX6_wouldStrike 5 (some .int) :: wT) ({ frames := 6, cells := 0, slots := 0, locals := 149 } : Room)).room s m ([.ref (a 0), .int p1, .int p2, .int p3] : List Value).toArray below meth c H locs 0 0 (MQ below (va_Qi (fun (r : Int32) (u : MV) => (r, u) = out) (fun u t => va_P (dC, dI) vwCl (cM cyI a u) t.heap ∧ va_D A (cM cyI a u)) A) ([.ref (a 0), .int p1, .int p2, .int p3] : List Value).toArray s 0 0 A) (F0 m 26 ls [.int s26, .ref (a 0)]) := by
    intro s26 H locs ls hP hD hS hl hF
    have hF := (congrFun hj26 s26).symm.trans hF
    obtain ⟨o4, h5, hF⟩ := obd hF
    refine wcWVi (As := [.int s26]) (rest := []) (wr := []) (b := (a 0)) ⟨hx, hb, hml, hown, hts⟩ (met_X6_holds l dC dI cyI cyO cyL a _ N v s26 o4 h5) (cwV 1 hts (gV w_methodLink_X6_107 w_instanceMethod_X6_holds w_selects_X6_holds w_initialized_X6 w_code_X6_holds) rfl rfl rfl (by decide +kernel) ⟨Nat.le_of_ble_eq_true rfl, Nat.le_of_ble_eq_true rfl⟩) (va_recv hK.1 hP (ci := 6) (q0 := 0) rfl rfl) hP hD hK [0, 1, 2, 3, 4, 5, 6, 7] [] rfl rfl (by decide) (by decide) (by decide) rfl hl.1 (Nat.le_of_ble_eq_true rfl) dX6_wouldStrike_26 ⟨Nat.le_of_ble_eq_true rfl, Nat.le_of_ble_eq_true rfl⟩ hS hA (fun r u H locs hw hP hD hS => ?_)
    obtain ⟨hw, hz6⟩ := hw
    obtain rfl : r = o4.1 := congrArg Prod.fst hw
    obtain rfl : u = o4.2 := congrArg Prod.snd hw
    clear hw
    have hP : va_P (dC, dI) vwCl (cM cyI a o4.2) H := hP
    have hD : va_D A (cM cyI a o4.2) := hD
    refine lv_if_ne (tgt := 34) hx hb dX6_wouldStrike_29 (by decide) (fun c7 => ?_) (fun c7 => ?_)
    · have hF := itn c7 hF
      refine lv_aload_n hx hb dX6_wouldStrike_34 rfl (lv_at hl 0 rfl) ?_
      refine lv_iload_n hx hb dX6_wouldStrike_35 rfl (lv_at hl 1 rfl) ?_
      refine lv_iload_n hx hb dX6_wouldStrike_36 rfl (lv_at hl 2 rfl) ?_
      refine lv_iload_n hx hb dX6_wouldStrike_37 rfl (lv_at hl 3 rfl) ?_
      obtain ⟨o8, h9, hF⟩ := obd hF
      refine wcWVi (As := [.int p1, .int p2, .int p3]) (rest := []) (wr := []) (b := (a 0)) ⟨hx, hb, hml, hown, hts⟩ (met_X6_tries l dC dI cyI cyO cyL a _ N o4.2 p1 p2 p3 o8 h9) (cwV 3 hts (gV w_methodLink_X6_223 w_instanceMethod_X6_tries w_selects_X6_tries w_initialized_X6 w_code_X6_tries) rfl rfl rfl (by decide +kernel) ⟨Nat.le_of_ble_eq_true rfl, Nat.le_of_ble_eq_true rfl⟩) (va_recv hK.1 hP (ci := 6) (q0 := 0) rfl rfl) hP hD hK [0, 1, 2, 3, 4, 5, 6, 7] [] rfl rfl (by decide) (by decide) (by decide) rfl hl.1 (Nat.le_of_ble_eq_true rfl) dX6_wouldStrike_38 ⟨Nat.le_of_ble_eq_true rfl, Nat.le_of_ble_eq_true rfl⟩ hS hA (fun r u H locs hw hP hD hS => ?_)
      obtain rfl : r = o8.1 := congrArg Prod.fst hw
      obtain rfl : u = o8.2 := congrArg Prod.snd hw
      clear hw
      have hP : va_P (dC, dI) vwCl (cM cyI a o8.2) H := hP
      have hD : va_D A (cM cyI a o8.2) := hD
      refine lv_istore (lv' := [(4, .int o8.1), (0, .ref (a 0)), (1, .int p1), (2, .int p2), (3, .int p3)]) hx hb dX6_wouldStrike_41 hl (by decide) rfl (fun ls hl => ?_)
      refine lv_aload_n hx hb dX6_wouldStrike_43 rfl (lv_at hl 1 rfl) ?_
      refine va_get (D := (dC, dI)) (ci := 6) (v := .int (M_strikes o8.2)) (C := RX6) (T := TX6) (N := 23) hx hb hts inX6 hown hK.1 hP 0 rfl rfl 10 (by decide) (hts _ w_fieldLink_X6_50) (fun _ h9 => h9) rfl dX6_wouldStrike_44 ?_
      exact W.iret (v := (M_strikes o8.2)) hx hb hr (fun t ht hW => ⟨⟨_, o8.2, rfl, Option.some.inj hF, by rw [ht]; exact hP, hD⟩, hS.F ht⟩) hS.2.2 dX6_wouldStrike_47
    · have hF := itp c7 hF
      refine lv_iconst (v := 0) hx hb dX6_wouldStrike_32 (by decide) ?_
      exact W.iret (v := (0 : Int32)) hx hb hr (fun t ht hW => ⟨⟨_, o4.2, rfl, Option.some.inj hF, by rw [ht]; exact hP, hD⟩, hS.F ht⟩) hS.2.2 dX6_wouldStrike_33
  refine lv_if_ne (tgt := 14) hx hb dX6_wouldStrike_7 (by decide) (fun c10 => ?_) (fun c10 => ?_)
  · have hF := itn c10 hF
    refine lv_aload_n hx hb dX6_wouldStrike_14 rfl (lv_at hl 0 rfl) ?_
    obtain ⟨o11, h12, hF⟩ := obd hF
    refine wcRVi (As := []) (rest := [.ref (a 0)]) (b := (a 0)) ⟨hx, hb, hml, hown, hts⟩ (met_X6_canPlay l dC dI cyI cyO cyL a N v  o11 h12) (cwV 0 hts (gV w_methodLink_X6_120 w_instanceMethod_X6_canPlay w_selects_X6_canPlay w_initialized_X6 w_code_X6_canPlay) rfl rfl rfl (by decide +kernel) ⟨Nat.le_of_ble_eq_true rfl, Nat.le_of_ble_eq_true rfl⟩) (va_recv hK.1 hP (ci := 6) (q0 := 0) rfl rfl) hP hK [0, 1, 2, 3, 4, 5, 6, 7] rfl rfl hl.1 (Nat.le_of_ble_eq_true rfl) dX6_wouldStrike_15 ⟨Nat.le_of_ble_eq_true rfl, Nat.le_of_ble_eq_true rfl⟩ hS (fun r H locs hw hP hS => ?_)
    obtain ⟨hw, hz13⟩ := hw
    have hw := hw.symm
    subst hw
    refine lv_if_eq (tgt := 25) hx hb dX6_wouldStrike_18 (by decide) (fun c14 => ?_) (fun c14 => ?_)
    · have hF := itp c14 hF
      refine lv_iconst (v := 2) hx hb dX6_wouldStrike_25 (by decide) ?_
      exact hJ26 (2 : Int32) _ _ _ hP hD hS (lv_sub hl [0, 1, 2, 3] rfl) hF
    · have hF := itn c14 hF
      refine lv_iconst (v := 0) hx hb dX6_wouldStrike_21 (by decide) ?_
      refine lv_goto (tgt := 26) hx hb dX6_wouldStrike_22 (by decide) ?_
      exact hJ26 (0 : Int32) _ _ _ hP hD hS (lv_sub hl [0, 1, 2, 3] rfl) hF
  · have hF := itp c10 hF
    refine lv_iconst (v := 1) hx hb dX6_wouldStrike_10 (by decide) ?_
    refine lv_goto (tgt := 26) hx hb dX6_wouldStrike_11 (by decide) ?_
    exact hJ26 (1 : Int32) _ _ _ hP hD hS (lv_sub hl [0, 1, 2, 3] rfl) hF
theorem dX6_bestPlay_0 : decode cX6_bestPlay 0 = .ok (.aload_n 0, 1) := by decide +kernel
theorem dX6_bestPlay_1 : decode cX6_bestPlay 1 = .ok (.aload_n 0, 1) := by decide +kernel
theorem dX6_bestPlay_2 : decode cX6_bestPlay 2 = .ok (.invokevirtual 120, 3) := by decide +kernel
theorem dX6_bestPlay_5 : decode cX6_bestPlay 5 = .ok (.ifCond .eq 7, 3) := by decide +kernel
theorem dX6_bestPlay_8 : decode cX6_bestPlay 8 = .ok (.iconst 0, 1) := by decide +kernel
theorem dX6_bestPlay_9 : decode cX6_bestPlay 9 = .ok (.goto 4, 3) := by decide +kernel
theorem dX6_bestPlay_12 : decode cX6_bestPlay 12 = .ok (.iconst 1, 1) := by decide +kernel
theorem dX6_bestPlay_13 : decode cX6_bestPlay 13 = .ok (.invokevirtual 107, 3) := by decide +kernel
theorem dX6_bestPlay_16 : decode cX6_bestPlay 16 = .ok (.ifCond .ne 5, 3) := by decide +kernel
theorem dX6_bestPlay_19 : decode cX6_bestPlay 19 = .ok (.iconst 0, 1) := by decide +kernel
theorem dX6_bestPlay_20 : decode cX6_bestPlay 20 = .ok (.ireturn, 1) := by decide +kernel
theorem dX6_bestPlay_21 : decode cX6_bestPlay 21 = .ok (.iconst (-1), 1) := by decide +kernel
theorem dX6_bestPlay_22 : decode cX6_bestPlay 22 = .ok (.istore_n 1, 1) := by decide +kernel
theorem dX6_bestPlay_23 : decode cX6_bestPlay 23 = .ok (.iconst 0, 1) := by decide +kernel
theorem dX6_bestPlay_24 : decode cX6_bestPlay 24 = .ok (.istore_n 2, 1) := by decide +kernel
theorem dX6_bestPlay_25 : decode cX6_bestPlay 25 = .ok (.iconst 0, 1) := by decide +kernel
theorem dX6_bestPlay_26 : decode cX6_bestPlay 26 = .ok (.istore_n 3, 1) := by decide +kernel
theorem dX6_bestPlay_27 : decode cX6_bestPlay 27 = .ok (.iload_n 3, 1) := by decide +kernel
theorem dX6_bestPlay_28 : decode cX6_bestPlay 28 = .ok (.bipush 15, 2) := by decide +kernel
theorem dX6_bestPlay_30 : decode cX6_bestPlay 30 = .ok (.if_icmp .ge 85, 3) := by decide +kernel
theorem dX6_bestPlay_33 : decode cX6_bestPlay 33 = .ok (.aload_n 0, 1) := by decide +kernel
theorem dX6_bestPlay_34 : decode cX6_bestPlay 34 = .ok (.iload_n 3, 1) := by decide +kernel
theorem dX6_bestPlay_35 : decode cX6_bestPlay 35 = .ok (.iconst 3, 1) := by decide +kernel
theorem dX6_bestPlay_36 : decode cX6_bestPlay 36 = .ok (.idiv, 1) := by decide +kernel
theorem dX6_bestPlay_37 : decode cX6_bestPlay 37 = .ok (.iconst 2, 1) := by decide +kernel
theorem dX6_bestPlay_38 : decode cX6_bestPlay 38 = .ok (.isub, 1) := by decide +kernel
theorem dX6_bestPlay_39 : decode cX6_bestPlay 39 = .ok (.iload_n 3, 1) := by decide +kernel
theorem dX6_bestPlay_40 : decode cX6_bestPlay 40 = .ok (.iconst 3, 1) := by decide +kernel
theorem dX6_bestPlay_41 : decode cX6_bestPlay 41 = .ok (.irem, 1) := by decide +kernel
theorem dX6_bestPlay_42 : decode cX6_bestPlay 42 = .ok (.iconst 1, 1) := by decide +kernel
theorem dX6_bestPlay_43 : decode cX6_bestPlay 43 = .ok (.isub, 1) := by decide +kernel
theorem dX6_bestPlay_44 : decode cX6_bestPlay 44 = .ok (.invokevirtual 229, 3) := by decide +kernel
theorem dX6_bestPlay_47 : decode cX6_bestPlay 47 = .ok (.istore 4, 2) := by decide +kernel
theorem dX6_bestPlay_49 : decode cX6_bestPlay 49 = .ok (.iload_n 1, 1) := by decide +kernel
theorem dX6_bestPlay_50 : decode cX6_bestPlay 50 = .ok (.ifCond .lt 11, 3) := by decide +kernel
theorem dX6_bestPlay_53 : decode cX6_bestPlay 53 = .ok (.aload_n 0, 1) := by decide +kernel
theorem dX6_bestPlay_54 : decode cX6_bestPlay 54 = .ok (.getfield 226, 3) := by decide +kernel
theorem dX6_bestPlay_57 : decode cX6_bestPlay 57 = .ok (.iload_n 2, 1) := by decide +kernel
theorem dX6_bestPlay_58 : decode cX6_bestPlay 58 = .ok (.if_icmp .le 7, 3) := by decide +kernel
theorem dX6_bestPlay_61 : decode cX6_bestPlay 61 = .ok (.iconst 1, 1) := by decide +kernel
theorem dX6_bestPlay_62 : decode cX6_bestPlay 62 = .ok (.goto 4, 3) := by decide +kernel
theorem dX6_bestPlay_65 : decode cX6_bestPlay 65 = .ok (.iconst 0, 1) := by decide +kernel
theorem dX6_bestPlay_66 : decode cX6_bestPlay 66 = .ok (.istore 5, 2) := by decide +kernel
theorem dX6_bestPlay_68 : decode cX6_bestPlay 68 = .ok (.iload 5, 2) := by decide +kernel
theorem dX6_bestPlay_70 : decode cX6_bestPlay 70 = .ok (.ifCond .eq 10, 3) := by decide +kernel
theorem dX6_bestPlay_73 : decode cX6_bestPlay 73 = .ok (.aload_n 0, 1) := by decide +kernel
theorem dX6_bestPlay_74 : decode cX6_bestPlay 74 = .ok (.getfield 226, 3) := by decide +kernel
theorem dX6_bestPlay_77 : decode cX6_bestPlay 77 = .ok (.goto 4, 3) := by decide +kernel
theorem dX6_bestPlay_80 : decode cX6_bestPlay 80 = .ok (.iload_n 2, 1) := by decide +kernel
theorem dX6_bestPlay_81 : decode cX6_bestPlay 81 = .ok (.istore_n 2, 1) := by decide +kernel
theorem dX6_bestPlay_82 : decode cX6_bestPlay 82 = .ok (.iload 5, 2) := by decide +kernel
theorem dX6_bestPlay_84 : decode cX6_bestPlay 84 = .ok (.ifCond .eq 23, 3) := by decide +kernel
theorem dX6_bestPlay_87 : decode cX6_bestPlay 87 = .ok (.sipush 1000, 3) := by decide +kernel
theorem dX6_bestPlay_90 : decode cX6_bestPlay 90 = .ok (.iload_n 3, 1) := by decide +kernel
theorem dX6_bestPlay_91 : decode cX6_bestPlay 91 = .ok (.iconst 3, 1) := by decide +kernel
theorem dX6_bestPlay_92 : decode cX6_bestPlay 92 = .ok (.idiv, 1) := by decide +kernel
theorem dX6_bestPlay_93 : decode cX6_bestPlay 93 = .ok (.imul, 1) := by decide +kernel
theorem dX6_bestPlay_94 : decode cX6_bestPlay 94 = .ok (.bipush 100, 2) := by decide +kernel
theorem dX6_bestPlay_96 : decode cX6_bestPlay 96 = .ok (.iload_n 3, 1) := by decide +kernel
theorem dX6_bestPlay_97 : decode cX6_bestPlay 97 = .ok (.iconst 3, 1) := by decide +kernel
theorem dX6_bestPlay_98 : decode cX6_bestPlay 98 = .ok (.irem, 1) := by decide +kernel
theorem dX6_bestPlay_99 : decode cX6_bestPlay 99 = .ok (.imul, 1) := by decide +kernel
theorem dX6_bestPlay_100 : decode cX6_bestPlay 100 = .ok (.iadd, 1) := by decide +kernel
theorem dX6_bestPlay_101 : decode cX6_bestPlay 101 = .ok (.iload 4, 2) := by decide +kernel
theorem dX6_bestPlay_103 : decode cX6_bestPlay 103 = .ok (.iadd, 1) := by decide +kernel
theorem dX6_bestPlay_104 : decode cX6_bestPlay 104 = .ok (.goto 4, 3) := by decide +kernel
theorem dX6_bestPlay_107 : decode cX6_bestPlay 107 = .ok (.iload_n 1, 1) := by decide +kernel
theorem dX6_bestPlay_108 : decode cX6_bestPlay 108 = .ok (.istore_n 1, 1) := by decide +kernel
theorem dX6_bestPlay_109 : decode cX6_bestPlay 109 = .ok (.iinc 3 1, 3) := by decide +kernel
theorem dX6_bestPlay_112 : decode cX6_bestPlay 112 = .ok (.goto (-85), 3) := by decide +kernel
theorem dX6_bestPlay_115 : decode cX6_bestPlay 115 = .ok (.iload_n 1, 1) := by decide +kernel
theorem dX6_bestPlay_116 : decode cX6_bestPlay 116 = .ok (.ireturn, 1) := by decide +kernel
def f_X6_bestPlay (N : Nat) (v : MV) : Option (Int32 × MV) :=
  (f_X6_canPlay N v).bind (fun o1 => jn (fun (s13 : Int32) => (f_X6_holds N v s13).bind (fun o4 => (if o4.1 = 0 then some ((0 : Int32), o4.2) else lpN (fun (s27 : Int32 × Int32 × Int32 × MV) (k27 : (Int32 × Int32 × Int32 × MV) → Option (Int32 × MV)) => (if (15 : Int32) ≤ s27.2.2.1 then some (s27.1, s27.2.2.2) else (f_X6_heaviest N s27.2.2.2 ((s27.2.2.1 / (3 : Int32)) - (2 : Int32)) ((s27.2.2.1 - s27.2.2.1 / (3 : Int32) * (3 : Int32)) - (1 : Int32))).bind (fun o9 => jn (fun (s66 : Int32) => jn (fun (s81 : Int32) => jn (fun (s108 : Int32) => k27 (s108, s81, (s27.2.2.1 + (1 : Int32)), o9.2)) (fun (j108 : (Int32) → Option (Int32 × MV)) => (if s66 = 0 then j108 s27.1 else j108 ((((1000 : Int32) * (s27.2.2.1 / (3 : Int32))) + ((100 : Int32) * (s27.2.2.1 - s27.2.2.1 / (3 : Int32) * (3 : Int32)))) + o9.1)))) (fun (j81 : (Int32) → Option (Int32 × MV)) => (if s66 = 0 then j81 s27.2.1 else j81 (M_bestPoints o9.2)))) (fun (j66 : (Int32) → Option (Int32 × MV)) => jn (fun (s61 : Unit) => j66 (1 : Int32)) (fun (j61 : (Unit) → Option (Int32 × MV)) => (if s27.1 < 0 then j61 () else (if (M_bestPoints o9.2) ≤ s27.2.1 then j66 (0 : Int32) else j61 ()))))))) N ((-1 : Int32), (0 : Int32), (0 : Int32), o4.2)))) (fun (j13 : (Int32) → Option (Int32 × MV)) => (if o1 = 0 then j13 (1 : Int32) else j13 (0 : Int32))))
set_option maxHeartbeats 4000000 in
set_option maxRecDepth 100000 in
theorem met_X6_bestPlay (l : Launch) (dC : Nat → ClassId) (dI : Nat → Nat → Nat) (cyI cyO cyL : ClassId) (a : Nat → Nat) (sz : Nat) (N : Nat) (v : MV) (out : Int32 × MV) (hF : f_X6_bestPlay N v = some out) : Met l yX6_bestPlay (Cond.code yX6_bestPlay cX6_bestPlay 6 (some .int) :: wT) ({ frames := 7, cells := 0, slots := 0, locals := 174 } : Room) (wWr dC dI cyI cyO cyL [.ref (a 0)] (cM cyI a v) sz) (va_Qi (fun (r : Int32) (u : MV) => (r, u) = out) (fun u t => va_P (dC, dI) vwCl (cM cyI a u) t.heap ∧ va_D (va_A (cM cyI a v) sz) (cM cyI a u)) (va_A (cM cyI a v) sz)) 0 0 (va_A (cM cyI a v) sz) := by
  refine Met.ofW (cc := cX6_bestPlay) (maxL := 6) (ret := (some .int)) (by decide) rfl ?_
  intro p e s m args below meth c s₁ B hml hv
  obtain ⟨rfl, hsz, hP, hK, hD0⟩ := hv
  have hx := B.exec
  have hb := B.bytes
  have hr := B.returns
  have hts0 := atoms_spec (ws := (Cond.code yX6_bestPlay cX6_bestPlay 6 (some .int) :: wT)) B.pre
  have hts := fun w h => hts0 w (List.mem_cons_of_mem _ h)
  clear hts0
  have hown : s.vm.findClass RX6 = some m.cls := findClass_of_methodNamed B.named
  have hlocks := B.notSynchronized
  subst hsz
  have hD := hD0.self (sz := s.heap.size)
  generalize hAe : va_A (cM cyI a v) s.heap.size = A at hD ⊢
  have hA : ∀ q : Nat, s.heap.size ≤ q → A q := fun q h => by rw [← hAe]; exact Or.inr h
  clear hD0
  have hS : va_S A s.heap s.heap [] := va_S.rf
  have hl := lv_entry [.ref (a 0)] (n := 6) (Nat.le_of_ble_eq_true rfl)
  rw [lg_entry_eq]
  generalize (lg_sl [.ref (a 0)] ++ List.replicate (6 - (lg_sl [.ref (a 0)]).length) Slot.unset).toArray = ls at hl ⊢
  have hl : lv_has ls 6 [(0, .ref (a 0))] := hl
  unfold f_X6_bestPlay at hF
  refine lv_aload_n hx hb dX6_bestPlay_0 rfl (lv_at hl 0 rfl) ?_
  refine lv_aload_n hx hb dX6_bestPlay_1 rfl (lv_at hl 0 rfl) ?_
  obtain ⟨o1, h2, hF⟩ := obd hF
  refine wcRVi (As := []) (rest := [.ref (a 0)]) (b := (a 0)) ⟨hx, hb, hml, hown, hts⟩ (met_X6_canPlay l dC dI cyI cyO cyL a N v  o1 h2) (cwV 0 hts (gV w_methodLink_X6_120 w_instanceMethod_X6_canPlay w_selects_X6_canPlay w_initialized_X6 w_code_X6_canPlay) rfl rfl rfl (by decide +kernel) ⟨Nat.le_of_ble_eq_true rfl, Nat.le_of_ble_eq_true rfl⟩) (va_recv hK.1 hP (ci := 6) (q0 := 0) rfl rfl) hP hK [0, 1, 2, 3, 4, 5, 6, 7] rfl rfl hl.1 (Nat.le_of_ble_eq_true rfl) dX6_bestPlay_2 ⟨Nat.le_of_ble_eq_true rfl, Nat.le_of_ble_eq_true rfl⟩ hS (fun r H locs hw hP hS => ?_)
  obtain ⟨hw, hz3⟩ := hw
  have hw := hw.symm
  subst hw
  obtain ⟨j13, hj13, hF⟩ := jn_use hF
  have hJ13 : ∀ (s13 : Int32) (H : Heap) (locs : List Loc) (ls : Array Slot) (hz_13_s1 : b01 s13), va_P (dC, dI) vwCl (cM cyI a v) H → va_D A (cM cyI a v) → va_S A s.heap H locs → lv_has ls 6 [(0, .ref (a 0))] → j13 s13 = some out → W p l e (headSpec (Cond.code yX6_bestPlay cX6_bestPlay 6 (some .int) :: wT) ({ frames := 7, cells := 0, slots := 0, locals := 174 } : Room)).room s m ([.ref (a 0)] : List Value).toArray below meth c H locs 0 0 (MQ below (va_Qi (fun (r : Int32) (u : MV) => (r, u) = out) (fun u t => va_P (dC, dI) vwCl (cM cyI a u) t.heap ∧ va_D A (cM cyI a u)) A) ([.ref (a 0)] : List Value).toArray s 0 0 A) (F0 m 13 ls [.int s13, .ref (a 0)]) := by
    intro s13 H locs ls hz_13_s1 hP hD hS hl hF
    have hF := (congrFun hj13 s13).symm.trans hF
    obtain ⟨o4, h5, hF⟩ := obd hF
    refine wcWVi (As := [.int s13]) (rest := []) (wr := []) (b := (a 0)) ⟨hx, hb, hml, hown, hts⟩ (met_X6_holds l dC dI cyI cyO cyL a _ N v s13 o4 h5) (cwV 1 hts (gV w_methodLink_X6_107 w_instanceMethod_X6_holds w_selects_X6_holds w_initialized_X6 w_code_X6_holds) rfl rfl rfl (by decide +kernel) ⟨Nat.le_of_ble_eq_true rfl, Nat.le_of_ble_eq_true rfl⟩) (va_recv hK.1 hP (ci := 6) (q0 := 0) rfl rfl) hP hD hK [0, 1, 2, 3, 4, 5, 6, 7] [] rfl rfl (by decide) (by decide) (by decide) rfl hl.1 (Nat.le_of_ble_eq_true rfl) dX6_bestPlay_13 ⟨Nat.le_of_ble_eq_true rfl, Nat.le_of_ble_eq_true rfl⟩ hS hA (fun r u H locs hw hP hD hS => ?_)
    obtain ⟨hw, hz6⟩ := hw
    obtain rfl : r = o4.1 := congrArg Prod.fst hw
    obtain rfl : u = o4.2 := congrArg Prod.snd hw
    clear hw
    have hP : va_P (dC, dI) vwCl (cM cyI a o4.2) H := hP
    have hD : va_D A (cM cyI a o4.2) := hD
    refine lv_if_ne (tgt := 21) hx hb dX6_bestPlay_16 (by decide) (fun c7 => ?_) (fun c7 => ?_)
    · have hF := itn c7 hF
      refine lv_iconst (v := -1) hx hb dX6_bestPlay_21 (by decide) ?_
      refine lv_istore_n (lv' := [(1, .int (-1 : Int32)), (0, .ref (a 0))]) hx hb dX6_bestPlay_22 rfl hl (by decide) rfl (fun ls hl => ?_)
      refine lv_iconst (v := 0) hx hb dX6_bestPlay_23 (by decide) ?_
      refine lv_istore_n (lv' := [(2, .int (0 : Int32)), (1, .int (-1 : Int32)), (0, .ref (a 0))]) hx hb dX6_bestPlay_24 rfl hl (by decide) rfl (fun ls hl => ?_)
      refine lv_iconst (v := 0) hx hb dX6_bestPlay_25 (by decide) ?_
      refine lv_istore_n (lv' := [(3, .int (0 : Int32)), (2, .int (0 : Int32)), (1, .int (-1 : Int32)), (0, .ref (a 0))]) hx hb dX6_bestPlay_26 rfl hl (by decide) rfl (fun ls hl => ?_)
      obtain ⟨st27, hst27, hF⟩ := lpN_use hF
      have hL27 : ∀ (n : Nat) (s27 : Int32 × Int32 × Int32 × MV) (H : Heap) (locs : List Loc) (ls : Array Slot), va_P (dC, dI) vwCl (cM cyI a s27.2.2.2) H → va_D A (cM cyI a s27.2.2.2) → va_S A s.heap H locs → lv_has ls 6 [(0, .ref (a 0)), (1, .int s27.1), (2, .int s27.2.1), (3, .int s27.2.2.1)] → lpN st27 n s27 = some out → W p l e (headSpec (Cond.code yX6_bestPlay cX6_bestPlay 6 (some .int) :: wT) ({ frames := 7, cells := 0, slots := 0, locals := 174 } : Room)).room s m ([.ref (a 0)] : List Value).toArray below meth c H locs 0 0 (MQ below (va_Qi (fun (r : Int32) (u : MV) => (r, u) = out) (fun u t => va_P (dC, dI) vwCl (cM cyI a u) t.heap ∧ va_D A (cM cyI a u)) A) ([.ref (a 0)] : List Value).toArray s 0 0 A) (F0 m 27 ls []) := by
        intro n
        induction n with
        | zero => intro s27 H locs ls hP hD hS hl hF; exact lpN_0 hF
        | succ n ih27 =>
          intro s27 H locs ls hP hD hS hl hF
          have hF := (congrFun (congrFun hst27 s27) (lpN st27 n)).symm.trans (lpN_s hF)
          refine lv_iload_n hx hb dX6_bestPlay_27 rfl (lv_at hl 3 rfl) ?_
          refine lv_bipush (v := 15) hx hb dX6_bestPlay_28 (by decide) ?_
          refine lv_icmp_ge (tgt := 115) hx hb dX6_bestPlay_30 (by decide) (fun c8 => ?_) (fun c8 => ?_)
          · have hF := itp c8 hF
            refine lv_iload_n hx hb dX6_bestPlay_115 rfl (lv_at hl 1 rfl) ?_
            exact W.iret (v := s27.1) hx hb hr (fun t ht hW => ⟨⟨_, s27.2.2.2, rfl, Option.some.inj hF, by rw [ht]; exact hP, hD⟩, hS.F ht⟩) hS.2.2 dX6_bestPlay_116
          · have hF := itn c8 hF
            refine lv_aload_n hx hb dX6_bestPlay_33 rfl (lv_at hl 0 rfl) ?_
            refine lv_iload_n hx hb dX6_bestPlay_34 rfl (lv_at hl 3 rfl) ?_
            refine lv_iconst (v := 3) hx hb dX6_bestPlay_35 (by decide) ?_
            refine lv_idiv hx hb dX6_bestPlay_36 (by decide) ?_
            refine lv_iconst (v := 2) hx hb dX6_bestPlay_37 (by decide) ?_
            refine lv_isub hx hb dX6_bestPlay_38 ?_
            refine lv_iload_n hx hb dX6_bestPlay_39 rfl (lv_at hl 3 rfl) ?_
            refine lv_iconst (v := 3) hx hb dX6_bestPlay_40 (by decide) ?_
            refine lv_irem hx hb dX6_bestPlay_41 (by decide) ?_
            refine lv_iconst (v := 1) hx hb dX6_bestPlay_42 (by decide) ?_
            refine lv_isub hx hb dX6_bestPlay_43 ?_
            obtain ⟨o9, h10, hF⟩ := obd hF
            refine wcWVi (As := [.int ((s27.2.2.1 / (3 : Int32)) - (2 : Int32)), .int ((s27.2.2.1 - s27.2.2.1 / (3 : Int32) * (3 : Int32)) - (1 : Int32))]) (rest := []) (wr := []) (b := (a 0)) ⟨hx, hb, hml, hown, hts⟩ (met_X6_heaviest l dC dI cyI cyO cyL a _ N s27.2.2.2 ((s27.2.2.1 / (3 : Int32)) - (2 : Int32)) ((s27.2.2.1 - s27.2.2.1 / (3 : Int32) * (3 : Int32)) - (1 : Int32)) o9 h10) (cwV 2 hts (gV w_methodLink_X6_229 w_instanceMethod_X6_heaviest w_selects_X6_heaviest w_initialized_X6 w_code_X6_heaviest) rfl rfl rfl (by decide +kernel) ⟨Nat.le_of_ble_eq_true rfl, Nat.le_of_ble_eq_true rfl⟩) (va_recv hK.1 hP (ci := 6) (q0 := 0) rfl rfl) hP hD hK [0, 1, 2, 3, 4, 5, 6, 7] [] rfl rfl (by decide) (by decide) (by decide) rfl hl.1 (Nat.le_of_ble_eq_true rfl) dX6_bestPlay_44 ⟨Nat.le_of_ble_eq_true rfl, Nat.le_of_ble_eq_true rfl⟩ hS hA (fun r u H locs hw hP hD hS => ?_)
            obtain rfl : r = o9.1 := congrArg Prod.fst hw
            obtain rfl : u = o9.2 := congrArg Prod.snd hw
            clear hw
            have hP : va_P (dC, dI) vwCl (cM cyI a o9.2) H := hP
            have hD : va_D A (cM cyI a o9.2) := hD
            refine lv_istore (lv' := [(4, .int o9.1), (0, .ref (a 0)), (1, .int s27.1), (2, .int s27.2.1), (3, .int s27.2.2.1)]) hx hb dX6_bestPlay_47 hl (by decide) rfl (fun ls hl => ?_)
            refine lv_iload_n hx hb dX6_bestPlay_49 rfl (lv_at hl 2 rfl) ?_
            obtain ⟨j66, hj66, hF⟩ := jn_use hF
            have hJ66 : ∀ (s66 : Int32) (H : Heap) (locs : List Loc) (ls : Array Slot) (hz_66_s0 : b01 s66), va_P (dC, dI) vwCl (cM cyI a o9.2) H → va_D A (cM cyI a o9.2) → va_S A s.heap H locs → lv_has ls 6 [(0, .ref (a 0)), (1, .int s27.1), (2, .int s27.2.1), (3, .int s27.2.2.1), (4, .int o9.1)] → j66 s66 = some out → W p l e (headSpec (Cond.code yX6_bestPlay cX6_bestPlay 6 (some .int) :: wT) ({ frames := 7, cells := 0, slots := 0, locals := 174 } : Room)).room s m ([.ref (a 0)] : List Value).toArray below meth c H locs 0 0 (MQ below (va_Qi (fun (r : Int32) (u : MV) => (r, u) = out) (fun u t => va_P (dC, dI) vwCl (cM cyI a u) t.heap ∧ va_D A (cM cyI a u)) A) ([.ref (a 0)] : List Value).toArray s 0 0 A) (F0 m 66 ls [.int s66]) := by
              intro s66 H locs ls hz_66_s0 hP hD hS hl hF
              have hF := (congrFun hj66 s66).symm.trans hF
              refine lv_istore (lv' := [(5, .int s66), (0, .ref (a 0)), (1, .int s27.1), (2, .int s27.2.1), (3, .int s27.2.2.1), (4, .int o9.1)]) hx hb dX6_bestPlay_66 hl (by decide) rfl (fun ls hl => ?_)
              refine lv_iload hx hb dX6_bestPlay_68 (lv_at hl 0 rfl) ?_
              obtain ⟨j81, hj81, hF⟩ := jn_use hF
              have hJ81 : ∀ (s81 : Int32) (H : Heap) (locs : List Loc) (ls : Array Slot), va_P (dC, dI) vwCl (cM cyI a o9.2) H → va_D A (cM cyI a o9.2) → va_S A s.heap H locs → lv_has ls 6 [(0, .ref (a 0)), (1, .int s27.1), (3, .int s27.2.2.1), (4, .int o9.1), (5, .int s66)] → j81 s81 = some out → W p l e (headSpec (Cond.code yX6_bestPlay cX6_bestPlay 6 (some .int) :: wT) ({ frames := 7, cells := 0, slots := 0, locals := 174 } : Room)).room s m ([.ref (a 0)] : List Value).toArray below meth c H locs 0 0 (MQ below (va_Qi (fun (r : Int32) (u : MV) => (r, u) = out) (fun u t => va_P (dC, dI) vwCl (cM cyI a u) t.heap ∧ va_D A (cM cyI a u)) A) ([.ref (a 0)] : List Value).toArray s 0 0 A) (F0 m 81 ls [.int s81]) := by
                intro s81 H locs ls hP hD hS hl hF
                have hF := (congrFun hj81 s81).symm.trans hF
                refine lv_istore_n (lv' := [(2, .int s81), (0, .ref (a 0)), (1, .int s27.1), (3, .int s27.2.2.1), (4, .int o9.1), (5, .int s66)]) hx hb dX6_bestPlay_81 rfl hl (by decide) rfl (fun ls hl => ?_)
                refine lv_iload hx hb dX6_bestPlay_82 (lv_at hl 5 rfl) ?_
                obtain ⟨j108, hj108, hF⟩ := jn_use hF
                have hJ108 : ∀ (s108 : Int32) (H : Heap) (locs : List Loc) (ls : Array Slot), va_P (dC, dI) vwCl (cM cyI a o9.2) H → va_D A (cM cyI a o9.2) → va_S A s.heap H locs → lv_has ls 6 [(0, .ref (a 0)), (2, .int s81), (3, .int s27.2.2.1)] → j108 s108 = some out → W p l e (headSpec (Cond.code yX6_bestPlay cX6_bestPlay 6 (some .int) :: wT) ({ frames := 7, cells := 0, slots := 0, locals := 174 } : Room)).room s m ([.ref (a 0)] : List Value).toArray below meth c H locs 0 0 (MQ below (va_Qi (fun (r : Int32) (u : MV) => (r, u) = out) (fun u t => va_P (dC, dI) vwCl (cM cyI a u) t.heap ∧ va_D A (cM cyI a u)) A) ([.ref (a 0)] : List Value).toArray s 0 0 A) (F0 m 108 ls [.int s108]) := by
                  intro s108 H locs ls hP hD hS hl hF
                  have hF := (congrFun hj108 s108).symm.trans hF
                  refine lv_istore_n (lv' := [(1, .int s108), (0, .ref (a 0)), (2, .int s81), (3, .int s27.2.2.1)]) hx hb dX6_bestPlay_108 rfl hl (by decide) rfl (fun ls hl => ?_)
                  refine lv_iinc (v := (s27.2.2.1 + (1 : Int32))) (lv' := [(3, .int (s27.2.2.1 + (1 : Int32))), (1, .int s108), (0, .ref (a 0)), (2, .int s81)]) hx hb dX6_bestPlay_109 hl (k := 3) rfl rfl (by decide) rfl (fun ls hl => ?_)
                  refine lv_goto (tgt := 27) hx hb dX6_bestPlay_112 (by decide) ?_
                  exact ih27 (s108, s81, (s27.2.2.1 + (1 : Int32)), o9.2) _ _ _ hP hD hS (lv_sub hl [2, 1, 3, 0] rfl) hF
                refine lv_if_eq (tgt := 107) hx hb dX6_bestPlay_84 (by decide) (fun c11 => ?_) (fun c11 => ?_)
                · have hF := itp c11 hF
                  refine lv_iload_n hx hb dX6_bestPlay_107 rfl (lv_at hl 2 rfl) ?_
                  exact hJ108 s27.1 _ _ _ hP hD hS (lv_sub hl [1, 0, 3] rfl) hF
                · have hF := itn c11 hF
                  refine lv_sipush (v := 1000) hx hb dX6_bestPlay_87 (by decide) ?_
                  refine lv_iload_n hx hb dX6_bestPlay_90 rfl (lv_at hl 3 rfl) ?_
                  refine lv_iconst (v := 3) hx hb dX6_bestPlay_91 (by decide) ?_
                  refine lv_idiv hx hb dX6_bestPlay_92 (by decide) ?_
                  refine lv_imul hx hb dX6_bestPlay_93 ?_
                  refine lv_bipush (v := 100) hx hb dX6_bestPlay_94 (by decide) ?_
                  refine lv_iload_n hx hb dX6_bestPlay_96 rfl (lv_at hl 3 rfl) ?_
                  refine lv_iconst (v := 3) hx hb dX6_bestPlay_97 (by decide) ?_
                  refine lv_irem hx hb dX6_bestPlay_98 (by decide) ?_
                  refine lv_imul hx hb dX6_bestPlay_99 ?_
                  refine lv_iadd hx hb dX6_bestPlay_100 ?_
                  refine lv_iload hx hb dX6_bestPlay_101 (lv_at hl 4 rfl) ?_
                  refine lv_iadd hx hb dX6_bestPlay_103 ?_
                  refine lv_goto (tgt := 108) hx hb dX6_bestPlay_104 (by decide) ?_
                  exact hJ108 ((((1000 : Int32) * (s27.2.2.1 / (3 : Int32))) + ((100 : Int32) * (s27.2.2.1 - s27.2.2.1 / (3 : Int32) * (3 : Int32)))) + o9.1) _ _ _ hP hD hS (lv_sub hl [1, 0, 3] rfl) hF
              refine lv_if_eq (tgt := 80) hx hb dX6_bestPlay_70 (by decide) (fun c12 => ?_) (fun c12 => ?_)
              · have hF := itp c12 hF
                refine lv_iload_n hx hb dX6_bestPlay_80 rfl (lv_at hl 3 rfl) ?_
                exact hJ81 s27.2.1 _ _ _ hP hD hS (lv_sub hl [1, 2, 4, 5, 0] rfl) hF
              · have hF := itn c12 hF
                refine lv_aload_n hx hb dX6_bestPlay_73 rfl (lv_at hl 1 rfl) ?_
                refine va_get (D := (dC, dI)) (ci := 6) (v := .int (M_bestPoints o9.2)) (C := RX6) (T := TX6) (N := 23) hx hb hts inX6 hown hK.1 hP 0 rfl rfl 21 (by decide) (hts _ w_fieldLink_X6_226) (fun _ h9 => h9) rfl dX6_bestPlay_74 ?_
                refine lv_goto (tgt := 81) hx hb dX6_bestPlay_77 (by decide) ?_
                exact hJ81 (M_bestPoints o9.2) _ _ _ hP hD hS (lv_sub hl [1, 2, 4, 5, 0] rfl) hF
            obtain ⟨j61, hj61, hF⟩ := jn_use hF
            have hJ61 : ∀ (s61 : Unit) (H : Heap) (locs : List Loc) (ls : Array Slot), va_P (dC, dI) vwCl (cM cyI a o9.2) H → va_D A (cM cyI a o9.2) → va_S A s.heap H locs → lv_has ls 6 [(0, .ref (a 0)), (1, .int s27.1), (2, .int s27.2.1), (3, .int s27.2.2.1), (4, .int o9.1)] → j61 s61 = some out → W p l e (headSpec (Cond.code yX6_bestPlay cX6_bestPlay 6 (some .int) :: wT) ({ frames := 7, cells := 0, slots := 0, locals := 174 } : Room)).room s m ([.ref (a 0)] : List Value).toArray below meth c H locs 0 0 (MQ below (va_Qi (fun (r : Int32) (u : MV) => (r, u) = out) (fun u t => va_P (dC, dI) vwCl (cM cyI a u) t.heap ∧ va_D A (cM cyI a u)) A) ([.ref (a 0)] : List Value).toArray s 0 0 A) (F0 m 61 ls []) := by
              intro s61 H locs ls hP hD hS hl hF
              have hF := (congrFun hj61 s61).symm.trans hF
              refine lv_iconst (v := 1) hx hb dX6_bestPlay_61 (by decide) ?_
              refine lv_goto (tgt := 66) hx hb dX6_bestPlay_62 (by decide) ?_
              exact hJ66 (1 : Int32) _ _ _ b01_1 hP hD hS (lv_sub hl [0, 1, 2, 3, 4] rfl) hF
            refine lv_if_lt (tgt := 61) hx hb dX6_bestPlay_50 (by decide) (fun c13 => ?_) (fun c13 => ?_)
            · have hF := itp c13 hF
              exact hJ61 () _ _ _ hP hD hS (lv_sub hl [1, 2, 3, 4, 0] rfl) hF
            · have hF := itn c13 hF
              refine lv_aload_n hx hb dX6_bestPlay_53 rfl (lv_at hl 1 rfl) ?_
              refine va_get (D := (dC, dI)) (ci := 6) (v := .int (M_bestPoints o9.2)) (C := RX6) (T := TX6) (N := 23) hx hb hts inX6 hown hK.1 hP 0 rfl rfl 21 (by decide) (hts _ w_fieldLink_X6_226) (fun _ h9 => h9) rfl dX6_bestPlay_54 ?_
              refine lv_iload_n hx hb dX6_bestPlay_57 rfl (lv_at hl 3 rfl) ?_
              refine lv_icmp_le (tgt := 65) hx hb dX6_bestPlay_58 (by decide) (fun c14 => ?_) (fun c14 => ?_)
              · have hF := itp c14 hF
                refine lv_iconst (v := 0) hx hb dX6_bestPlay_65 (by decide) ?_
                exact hJ66 (0 : Int32) _ _ _ b01_0 hP hD hS (lv_sub hl [1, 2, 3, 4, 0] rfl) hF
              · have hF := itn c14 hF
                exact hJ61 () _ _ _ hP hD hS (lv_sub hl [1, 2, 3, 4, 0] rfl) hF
      exact hL27 N ((-1 : Int32), (0 : Int32), (0 : Int32), o4.2) _ _ _ hP hD hS (lv_sub hl [3, 2, 1, 0] rfl) hF
    · have hF := itp c7 hF
      refine lv_iconst (v := 0) hx hb dX6_bestPlay_19 (by decide) ?_
      exact W.iret (v := (0 : Int32)) hx hb hr (fun t ht hW => ⟨⟨_, o4.2, rfl, Option.some.inj hF, by rw [ht]; exact hP, hD⟩, hS.F ht⟩) hS.2.2 dX6_bestPlay_20
  refine lv_if_eq (tgt := 12) hx hb dX6_bestPlay_5 (by decide) (fun c15 => ?_) (fun c15 => ?_)
  · have hF := itp c15 hF
    refine lv_iconst (v := 1) hx hb dX6_bestPlay_12 (by decide) ?_
    exact hJ13 (1 : Int32) _ _ _ b01_1 hP hD hS (lv_sub hl [0] rfl) hF
  · have hF := itn c15 hF
    refine lv_iconst (v := 0) hx hb dX6_bestPlay_8 (by decide) ?_
    refine lv_goto (tgt := 13) hx hb dX6_bestPlay_9 (by decide) ?_
    exact hJ13 (0 : Int32) _ _ _ b01_0 hP hD hS (lv_sub hl [0] rfl) hF
theorem dX6_pointsOf_0 : decode cX6_pointsOf 0 = .ok (.aload_n 0, 1) := by decide +kernel
theorem dX6_pointsOf_1 : decode cX6_pointsOf 1 = .ok (.iload_n 1, 1) := by decide +kernel
theorem dX6_pointsOf_2 : decode cX6_pointsOf 2 = .ok (.invokestatic 201, 3) := by decide +kernel
theorem dX6_pointsOf_5 : decode cX6_pointsOf 5 = .ok (.ifCond .eq 7, 3) := by decide +kernel
theorem dX6_pointsOf_8 : decode cX6_pointsOf 8 = .ok (.iconst 0, 1) := by decide +kernel
theorem dX6_pointsOf_9 : decode cX6_pointsOf 9 = .ok (.goto 4, 3) := by decide +kernel
theorem dX6_pointsOf_12 : decode cX6_pointsOf 12 = .ok (.iconst 1, 1) := by decide +kernel
theorem dX6_pointsOf_13 : decode cX6_pointsOf 13 = .ok (.invokevirtual 107, 3) := by decide +kernel
theorem dX6_pointsOf_16 : decode cX6_pointsOf 16 = .ok (.ifCond .eq 15, 3) := by decide +kernel
theorem dX6_pointsOf_19 : decode cX6_pointsOf 19 = .ok (.aload_n 0, 1) := by decide +kernel
theorem dX6_pointsOf_20 : decode cX6_pointsOf 20 = .ok (.getfield 7, 3) := by decide +kernel
theorem dX6_pointsOf_23 : decode cX6_pointsOf 23 = .ok (.bipush 65, 2) := by decide +kernel
theorem dX6_pointsOf_25 : decode cX6_pointsOf 25 = .ok (.iload_n 1, 1) := by decide +kernel
theorem dX6_pointsOf_26 : decode cX6_pointsOf 26 = .ok (.iadd, 1) := by decide +kernel
theorem dX6_pointsOf_27 : decode cX6_pointsOf 27 = .ok (.iaload, 1) := by decide +kernel
theorem dX6_pointsOf_28 : decode cX6_pointsOf 28 = .ok (.goto 4, 3) := by decide +kernel
theorem dX6_pointsOf_31 : decode cX6_pointsOf 31 = .ok (.iconst 0, 1) := by decide +kernel
theorem dX6_pointsOf_32 : decode cX6_pointsOf 32 = .ok (.ireturn, 1) := by decide +kernel
def f_X6_pointsOf (N : Nat) (v : MV) (p1 : Int32) : Option (Int32 × MV) :=
  (f_X6_isSide N p1).bind (fun o1 => jn (fun (s13 : Int32) => (f_X6_holds N v s13).bind (fun o4 => jn (fun (s32 : Int32) => some (s32, o4.2)) (fun (j32 : (Int32) → Option (Int32 × MV)) => (if o4.1 = 0 then j32 (0 : Int32) else gd (ixok ((65 : Int32) + p1) 103) (j32 ((M_s o4.2) ((65 : Int32) + p1).toNatClampNeg)))))) (fun (j13 : (Int32) → Option (Int32 × MV)) => (if o1 = 0 then j13 (1 : Int32) else j13 (0 : Int32))))
set_option maxHeartbeats 4000000 in
set_option maxRecDepth 100000 in
theorem met_X6_pointsOf (l : Launch) (dC : Nat → ClassId) (dI : Nat → Nat → Nat) (cyI cyO cyL : ClassId) (a : Nat → Nat) (sz : Nat) (N : Nat) (v : MV) (p1 : Int32) (out : Int32 × MV) (hF : f_X6_pointsOf N v p1 = some out) : Met l yX6_pointsOf (Cond.code yX6_pointsOf cX6_pointsOf 2 (some .int) :: wT) ({ frames := 2, cells := 0, slots := 0, locals := 42 } : Room) (wWr dC dI cyI cyO cyL [.ref (a 0), .int p1] (cM cyI a v) sz) (va_Qi (fun (r : Int32) (u : MV) => (r, u) = out) (fun u t => va_P (dC, dI) vwCl (cM cyI a u) t.heap ∧ va_D (va_A (cM cyI a v) sz) (cM cyI a u)) (va_A (cM cyI a v) sz)) 0 0 (va_A (cM cyI a v) sz) := by
  refine Met.ofW (cc := cX6_pointsOf) (maxL := 2) (ret := (some .int)) (by decide) rfl ?_
  intro p e s m args below meth c s₁ B hml hv
  obtain ⟨rfl, hsz, hP, hK, hD0⟩ := hv
  have hx := B.exec
  have hb := B.bytes
  have hr := B.returns
  have hts0 := atoms_spec (ws := (Cond.code yX6_pointsOf cX6_pointsOf 2 (some .int) :: wT)) B.pre
  have hts := fun w h => hts0 w (List.mem_cons_of_mem _ h)
  clear hts0
  have hown : s.vm.findClass RX6 = some m.cls := findClass_of_methodNamed B.named
  have hlocks := B.notSynchronized
  subst hsz
  have hD := hD0.self (sz := s.heap.size)
  generalize hAe : va_A (cM cyI a v) s.heap.size = A at hD ⊢
  have hA : ∀ q : Nat, s.heap.size ≤ q → A q := fun q h => by rw [← hAe]; exact Or.inr h
  clear hD0
  have hS : va_S A s.heap s.heap [] := va_S.rf
  have hl := lv_entry [.ref (a 0), .int p1] (n := 2) (Nat.le_of_ble_eq_true rfl)
  rw [lg_entry_eq]
  generalize (lg_sl [.ref (a 0), .int p1] ++ List.replicate (2 - (lg_sl [.ref (a 0), .int p1]).length) Slot.unset).toArray = ls at hl ⊢
  have hl : lv_has ls 2 [(0, .ref (a 0)), (1, .int p1)] := hl
  unfold f_X6_pointsOf at hF
  refine lv_aload_n hx hb dX6_pointsOf_0 rfl (lv_at hl 0 rfl) ?_
  refine lv_iload_n hx hb dX6_pointsOf_1 rfl (lv_at hl 1 rfl) ?_
  obtain ⟨o1, h2, hF⟩ := obd hF
  refine wcRSi (As := [.int p1]) (rest := [.ref (a 0)]) ⟨hx, hb, hml, hown, hts⟩ (met_X6_isSide l dC dI cyI cyO cyL  N  p1 o1 h2) (va_cwS 1 hts (gS w_methodLink_X6_201 w_static_X6_isSide w_initialized_X6 w_code_X6_isSide) rfl rfl rfl (by decide +kernel) ⟨Nat.le_of_ble_eq_true rfl, Nat.le_of_ble_eq_true rfl⟩) hP hK [] rfl rfl hl.1 (Nat.le_of_ble_eq_true rfl) dX6_pointsOf_2 ⟨Nat.le_of_ble_eq_true rfl, Nat.le_of_ble_eq_true rfl⟩ hS (fun r H locs hw hP hS => ?_)
  obtain ⟨hw, hz3⟩ := hw
  have hw := hw.symm
  subst hw
  obtain ⟨j13, hj13, hF⟩ := jn_use hF
  have hJ13 : ∀ (s13 : Int32) (H : Heap) (locs : List Loc) (ls : Array Slot) (hz_13_s1 : b01 s13), va_P (dC, dI) vwCl (cM cyI a v) H → va_D A (cM cyI a v) → va_S A s.heap H locs → lv_has ls 2 [(0, .ref (a 0)), (1, .int p1)] → j13 s13 = some out → W p l e (headSpec (Cond.code yX6_pointsOf cX6_pointsOf 2 (some .int) :: wT) ({ frames := 2, cells := 0, slots := 0, locals := 42 } : Room)).room s m ([.ref (a 0), .int p1] : List Value).toArray below meth c H locs 0 0 (MQ below (va_Qi (fun (r : Int32) (u : MV) => (r, u) = out) (fun u t => va_P (dC, dI) vwCl (cM cyI a u) t.heap ∧ va_D A (cM cyI a u)) A) ([.ref (a 0), .int p1] : List Value).toArray s 0 0 A) (F0 m 13 ls [.int s13, .ref (a 0)]) := by
    intro s13 H locs ls hz_13_s1 hP hD hS hl hF
    have hF := (congrFun hj13 s13).symm.trans hF
    obtain ⟨o4, h5, hF⟩ := obd hF
    refine wcWVi (As := [.int s13]) (rest := []) (wr := []) (b := (a 0)) ⟨hx, hb, hml, hown, hts⟩ (met_X6_holds l dC dI cyI cyO cyL a _ N v s13 o4 h5) (cwV 1 hts (gV w_methodLink_X6_107 w_instanceMethod_X6_holds w_selects_X6_holds w_initialized_X6 w_code_X6_holds) rfl rfl rfl (by decide +kernel) ⟨Nat.le_of_ble_eq_true rfl, Nat.le_of_ble_eq_true rfl⟩) (va_recv hK.1 hP (ci := 6) (q0 := 0) rfl rfl) hP hD hK [0, 1, 2, 3, 4, 5, 6, 7] [] rfl rfl (by decide) (by decide) (by decide) rfl hl.1 (Nat.le_of_ble_eq_true rfl) dX6_pointsOf_13 ⟨Nat.le_of_ble_eq_true rfl, Nat.le_of_ble_eq_true rfl⟩ hS hA (fun r u H locs hw hP hD hS => ?_)
    obtain ⟨hw, hz6⟩ := hw
    obtain rfl : r = o4.1 := congrArg Prod.fst hw
    obtain rfl : u = o4.2 := congrArg Prod.snd hw
    clear hw
    have hP : va_P (dC, dI) vwCl (cM cyI a o4.2) H := hP
    have hD : va_D A (cM cyI a o4.2) := hD
    obtain ⟨j32, hj32, hF⟩ := jn_use hF
    have hJ32 : ∀ (s32 : Int32) (H : Heap) (locs : List Loc) (ls : Array Slot), va_P (dC, dI) vwCl (cM cyI a o4.2) H → va_D A (cM cyI a o4.2) → va_S A s.heap H locs → lv_has ls 2 [] → j32 s32 = some out → W p l e (headSpec (Cond.code yX6_pointsOf cX6_pointsOf 2 (some .int) :: wT) ({ frames := 2, cells := 0, slots := 0, locals := 42 } : Room)).room s m ([.ref (a 0), .int p1] : List Value).toArray below meth c H locs 0 0 (MQ below (va_Qi (fun (r : Int32) (u : MV) => (r, u) = out) (fun u t => va_P (dC, dI) vwCl (cM cyI a u) t.heap ∧ va_D A (cM cyI a u)) A) ([.ref (a 0), .int p1] : List Value).toArray s 0 0 A) (F0 m 32 ls [.int s32]) := by
      intro s32 H locs ls hP hD hS hl hF
      have hF := (congrFun hj32 s32).symm.trans hF
      exact W.iret (v := s32) hx hb hr (fun t ht hW => ⟨⟨_, o4.2, rfl, Option.some.inj hF, by rw [ht]; exact hP, hD⟩, hS.F ht⟩) hS.2.2 dX6_pointsOf_32
    refine lv_if_eq (tgt := 31) hx hb dX6_pointsOf_16 (by decide) (fun c7 => ?_) (fun c7 => ?_)
    · have hF := itp c7 hF
      refine lv_iconst (v := 0) hx hb dX6_pointsOf_31 (by decide) ?_
      exact hJ32 (0 : Int32) _ _ _ hP hD hS (lv_sub hl [] rfl) hF
    · have hF := itn c7 hF
      refine lv_aload_n hx hb dX6_pointsOf_19 rfl (lv_at hl 0 rfl) ?_
      refine va_get (D := (dC, dI)) (ci := 6) (v := .ref (a 1)) (C := RX6) (T := TX6) (N := 23) hx hb hts inX6 hown hK.1 hP 0 rfl rfl 1 (by decide) (hts _ w_fieldLink_X6_7) (fun _ h9 => h9) rfl dX6_pointsOf_20 ?_
      refine lv_bipush (v := 65) hx hb dX6_pointsOf_23 (by decide) ?_
      refine lv_iload_n hx hb dX6_pointsOf_25 rfl (lv_at hl 1 rfl) ?_
      refine lv_iadd hx hb dX6_pointsOf_26 ?_
      obtain ⟨hg8, hF⟩ := gd_use hF
      refine va_iald hx hb hK.1 hP 1 0 rfl rfl (i := ((65 : Int32) + p1)) hg8 dX6_pointsOf_27 ?_
      refine lv_goto (tgt := 32) hx hb dX6_pointsOf_28 (by decide) ?_
      exact hJ32 ((M_s o4.2) ((65 : Int32) + p1).toNatClampNeg) _ _ _ hP hD hS (lv_sub hl [] rfl) hF
  refine lv_if_eq (tgt := 12) hx hb dX6_pointsOf_5 (by decide) (fun c9 => ?_) (fun c9 => ?_)
  · have hF := itp c9 hF
    refine lv_iconst (v := 1) hx hb dX6_pointsOf_12 (by decide) ?_
    exact hJ13 (1 : Int32) _ _ _ b01_1 hP hD hS (lv_sub hl [0, 1] rfl) hF
  · have hF := itn c9 hF
    refine lv_iconst (v := 0) hx hb dX6_pointsOf_8 (by decide) ?_
    refine lv_goto (tgt := 13) hx hb dX6_pointsOf_9 (by decide) ?_
    exact hJ13 (0 : Int32) _ _ _ b01_0 hP hD hS (lv_sub hl [0, 1] rfl) hF
theorem dX6_needed_0 : decode cX6_needed 0 = .ok (.aload_n 0, 1) := by decide +kernel
theorem dX6_needed_1 : decode cX6_needed 1 = .ok (.iconst 0, 1) := by decide +kernel
theorem dX6_needed_2 : decode cX6_needed 2 = .ok (.putfield 31, 3) := by decide +kernel
theorem dX6_needed_5 : decode cX6_needed 5 = .ok (.aload_n 0, 1) := by decide +kernel
theorem dX6_needed_6 : decode cX6_needed 6 = .ok (.getfield 7, 3) := by decide +kernel
theorem dX6_needed_9 : decode cX6_needed 9 = .ok (.bipush 67, 2) := by decide +kernel
theorem dX6_needed_11 : decode cX6_needed 11 = .ok (.iaload, 1) := by decide +kernel
theorem dX6_needed_12 : decode cX6_needed 12 = .ok (.ireturn, 1) := by decide +kernel
def f_X6_needed (N : Nat) (v : MV) : Option (Int32 × MV) :=
  some (((M_s v) (67 : Int32).toNatClampNeg), (M_set_thrown v (0 : Int32)))
set_option maxHeartbeats 4000000 in
set_option maxRecDepth 100000 in
theorem met_X6_needed (l : Launch) (dC : Nat → ClassId) (dI : Nat → Nat → Nat) (cyI cyO cyL : ClassId) (a : Nat → Nat) (sz : Nat) (N : Nat) (v : MV) (out : Int32 × MV) (hF : f_X6_needed N v = some out) : Met l yX6_needed (Cond.code yX6_needed cX6_needed 1 (some .int) :: wT) ({ frames := 0, cells := 0, slots := 0, locals := 0 } : Room) (wWr dC dI cyI cyO cyL [.ref (a 0)] (cM cyI a v) sz) (va_Qi (fun (r : Int32) (u : MV) => (r, u) = out) (fun u t => va_P (dC, dI) vwCl (cM cyI a u) t.heap ∧ va_D (va_A (cM cyI a v) sz) (cM cyI a u)) (va_A (cM cyI a v) sz)) 0 0 (va_A (cM cyI a v) sz) := by
  refine Met.ofW (cc := cX6_needed) (maxL := 1) (ret := (some .int)) (by decide) rfl ?_
  intro p e s m args below meth c s₁ B hml hv
  obtain ⟨rfl, hsz, hP, hK, hD0⟩ := hv
  have hx := B.exec
  have hb := B.bytes
  have hr := B.returns
  have hts0 := atoms_spec (ws := (Cond.code yX6_needed cX6_needed 1 (some .int) :: wT)) B.pre
  have hts := fun w h => hts0 w (List.mem_cons_of_mem _ h)
  clear hts0
  have hown : s.vm.findClass RX6 = some m.cls := findClass_of_methodNamed B.named
  have hlocks := B.notSynchronized
  subst hsz
  have hD := hD0.self (sz := s.heap.size)
  generalize hAe : va_A (cM cyI a v) s.heap.size = A at hD ⊢
  have hA : ∀ q : Nat, s.heap.size ≤ q → A q := fun q h => by rw [← hAe]; exact Or.inr h
  clear hD0
  have hS : va_S A s.heap s.heap [] := va_S.rf
  have hl := lv_entry [.ref (a 0)] (n := 1) (Nat.le_of_ble_eq_true rfl)
  rw [lg_entry_eq]
  generalize (lg_sl [.ref (a 0)] ++ List.replicate (1 - (lg_sl [.ref (a 0)]).length) Slot.unset).toArray = ls at hl ⊢
  have hl : lv_has ls 1 [(0, .ref (a 0))] := hl
  unfold f_X6_needed at hF
  refine lv_aload_n hx hb dX6_needed_0 rfl (lv_at hl 0 rfl) ?_
  refine lv_iconst (v := 0) hx hb dX6_needed_1 (by decide) ?_
  refine va_put (D := (dC, dI)) (ci := 6) (v := .int (0 : Int32)) (ty := .int) (C := RX6) (T := TX6) (N := 23) hx hb hts inX6 tyX6 tyX6_ok nmX6 hown hK.1 hP hD hS 0 rfl rfl 0 (by decide) (hts _ w_fieldLink_X6_31) (fun _ h9 => h9) rfl (by decide +kernel) rfl rfl (Nat.le_of_ble_eq_true rfl) dX6_needed_2 (fun H locs hP hD hS => ?_)
  have hP : va_P (dC, dI) vwCl (cM cyI a (M_set_thrown v (0 : Int32))) H := hP
  have hD : va_D A (cM cyI a (M_set_thrown v (0 : Int32))) := hD
  refine lv_aload_n hx hb dX6_needed_5 rfl (lv_at hl 0 rfl) ?_
  refine va_get (D := (dC, dI)) (ci := 6) (v := .ref (a 1)) (C := RX6) (T := TX6) (N := 23) hx hb hts inX6 hown hK.1 hP 0 rfl rfl 1 (by decide) (hts _ w_fieldLink_X6_7) (fun _ h9 => h9) rfl dX6_needed_6 ?_
  refine lv_bipush (v := 67) hx hb dX6_needed_9 (by decide) ?_
  refine va_iald hx hb hK.1 hP 1 0 rfl rfl (i := (67 : Int32)) (show ixok (67 : Int32) 103 by decide) dX6_needed_11 ?_
  exact W.iret (v := ((M_s v) (67 : Int32).toNatClampNeg)) hx hb hr (fun t ht hW => ⟨⟨_, (M_set_thrown v (0 : Int32)), rfl, Option.some.inj hF, by rw [ht]; exact hP, hD⟩, hS.F ht⟩) hS.2.2 dX6_needed_12
theorem dX6_isOver_0 : decode cX6_isOver 0 = .ok (.aload_n 0, 1) := by decide +kernel
theorem dX6_isOver_1 : decode cX6_isOver 1 = .ok (.iconst 0, 1) := by decide +kernel
theorem dX6_isOver_2 : decode cX6_isOver 2 = .ok (.putfield 31, 3) := by decide +kernel
theorem dX6_isOver_5 : decode cX6_isOver 5 = .ok (.aload_n 0, 1) := by decide +kernel
theorem dX6_isOver_6 : decode cX6_isOver 6 = .ok (.invokevirtual 91, 3) := by decide +kernel
theorem dX6_isOver_9 : decode cX6_isOver 9 = .ok (.ireturn, 1) := by decide +kernel
def f_X6_isOver (N : Nat) (v : MV) : Option (Int32 × MV) :=
  (f_X6_isOverNow N (M_set_thrown v (0 : Int32))).bind (fun o1 => some (o1, (M_set_thrown v (0 : Int32))))
set_option maxHeartbeats 4000000 in
set_option maxRecDepth 100000 in
theorem met_X6_isOver (l : Launch) (dC : Nat → ClassId) (dI : Nat → Nat → Nat) (cyI cyO cyL : ClassId) (a : Nat → Nat) (sz : Nat) (N : Nat) (v : MV) (out : Int32 × MV) (hF : f_X6_isOver N v = some out) : Met l yX6_isOver (Cond.code yX6_isOver cX6_isOver 1 (some .boolean) :: wT) ({ frames := 1, cells := 0, slots := 0, locals := 20 } : Room) (wWr dC dI cyI cyO cyL [.ref (a 0)] (cM cyI a v) sz) (va_Qi (fun (r : Int32) (u : MV) => (r, u) = out ∧ b01 r) (fun u t => va_P (dC, dI) vwCl (cM cyI a u) t.heap ∧ va_D (va_A (cM cyI a v) sz) (cM cyI a u)) (va_A (cM cyI a v) sz)) 0 0 (va_A (cM cyI a v) sz) := by
  refine Met.ofW (cc := cX6_isOver) (maxL := 1) (ret := (some .boolean)) (by decide) rfl ?_
  intro p e s m args below meth c s₁ B hml hv
  obtain ⟨rfl, hsz, hP, hK, hD0⟩ := hv
  have hx := B.exec
  have hb := B.bytes
  have hr := B.returns
  have hts0 := atoms_spec (ws := (Cond.code yX6_isOver cX6_isOver 1 (some .boolean) :: wT)) B.pre
  have hts := fun w h => hts0 w (List.mem_cons_of_mem _ h)
  clear hts0
  have hown : s.vm.findClass RX6 = some m.cls := findClass_of_methodNamed B.named
  have hlocks := B.notSynchronized
  subst hsz
  have hD := hD0.self (sz := s.heap.size)
  generalize hAe : va_A (cM cyI a v) s.heap.size = A at hD ⊢
  have hA : ∀ q : Nat, s.heap.size ≤ q → A q := fun q h => by rw [← hAe]; exact Or.inr h
  clear hD0
  have hS : va_S A s.heap s.heap [] := va_S.rf
  have hl := lv_entry [.ref (a 0)] (n := 1) (Nat.le_of_ble_eq_true rfl)
  rw [lg_entry_eq]
  generalize (lg_sl [.ref (a 0)] ++ List.replicate (1 - (lg_sl [.ref (a 0)]).length) Slot.unset).toArray = ls at hl ⊢
  have hl : lv_has ls 1 [(0, .ref (a 0))] := hl
  unfold f_X6_isOver at hF
  refine lv_aload_n hx hb dX6_isOver_0 rfl (lv_at hl 0 rfl) ?_
  refine lv_iconst (v := 0) hx hb dX6_isOver_1 (by decide) ?_
  refine va_put (D := (dC, dI)) (ci := 6) (v := .int (0 : Int32)) (ty := .int) (C := RX6) (T := TX6) (N := 23) hx hb hts inX6 tyX6 tyX6_ok nmX6 hown hK.1 hP hD hS 0 rfl rfl 0 (by decide) (hts _ w_fieldLink_X6_31) (fun _ h9 => h9) rfl (by decide +kernel) rfl rfl (Nat.le_of_ble_eq_true rfl) dX6_isOver_2 (fun H locs hP hD hS => ?_)
  have hP : va_P (dC, dI) vwCl (cM cyI a (M_set_thrown v (0 : Int32))) H := hP
  have hD : va_D A (cM cyI a (M_set_thrown v (0 : Int32))) := hD
  refine lv_aload_n hx hb dX6_isOver_5 rfl (lv_at hl 0 rfl) ?_
  obtain ⟨o1, h2, hF⟩ := obd hF
  refine wcRVi (As := []) (rest := []) (b := (a 0)) ⟨hx, hb, hml, hown, hts⟩ (met_X6_isOverNow l dC dI cyI cyO cyL a N (M_set_thrown v (0 : Int32))  o1 h2) (cwV 0 hts (gV w_methodLink_X6_91 w_instanceMethod_X6_isOverNow w_selects_X6_isOverNow w_initialized_X6 w_code_X6_isOverNow) rfl rfl rfl (by decide +kernel) ⟨Nat.le_of_ble_eq_true rfl, Nat.le_of_ble_eq_true rfl⟩) (va_recv hK.1 hP (ci := 6) (q0 := 0) rfl rfl) hP hK [0, 1, 2, 3, 4, 5, 6, 7] rfl rfl hl.1 (Nat.le_of_ble_eq_true rfl) dX6_isOver_6 ⟨Nat.le_of_ble_eq_true rfl, Nat.le_of_ble_eq_true rfl⟩ hS (fun r H locs hw hP hS => ?_)
  obtain ⟨hw, hz3⟩ := hw
  have hw := hw.symm
  subst hw
  exact W.zret (ty := .boolean) (v := o1) hx hb hr (b01_n hz3) (fun t ht hW => ⟨⟨_, (M_set_thrown v (0 : Int32)), rfl, ⟨Option.some.inj hF, hz3⟩, by rw [ht]; exact hP, hD⟩, hS.F ht⟩) hS.2.2 dX6_isOver_9
theorem dX6_ends_0 : decode cX6_ends 0 = .ok (.aload_n 0, 1) := by decide +kernel
theorem dX6_ends_1 : decode cX6_ends 1 = .ok (.iconst 0, 1) := by decide +kernel
theorem dX6_ends_2 : decode cX6_ends 2 = .ok (.putfield 31, 3) := by decide +kernel
theorem dX6_ends_5 : decode cX6_ends 5 = .ok (.aload_n 0, 1) := by decide +kernel
theorem dX6_ends_6 : decode cX6_ends 6 = .ok (.getfield 7, 3) := by decide +kernel
theorem dX6_ends_9 : decode cX6_ends 9 = .ok (.bipush 68, 2) := by decide +kernel
theorem dX6_ends_11 : decode cX6_ends 11 = .ok (.iaload, 1) := by decide +kernel
theorem dX6_ends_12 : decode cX6_ends 12 = .ok (.ireturn, 1) := by decide +kernel
def f_X6_ends (N : Nat) (v : MV) : Option (Int32 × MV) :=
  some (((M_s v) (68 : Int32).toNatClampNeg), (M_set_thrown v (0 : Int32)))
set_option maxHeartbeats 4000000 in
set_option maxRecDepth 100000 in
theorem met_X6_ends (l : Launch) (dC : Nat → ClassId) (dI : Nat → Nat → Nat) (cyI cyO cyL : ClassId) (a : Nat → Nat) (sz : Nat) (N : Nat) (v : MV) (out : Int32 × MV) (hF : f_X6_ends N v = some out) : Met l yX6_ends (Cond.code yX6_ends cX6_ends 1 (some .int) :: wT) ({ frames := 0, cells := 0, slots := 0, locals := 0 } : Room) (wWr dC dI cyI cyO cyL [.ref (a 0)] (cM cyI a v) sz) (va_Qi (fun (r : Int32) (u : MV) => (r, u) = out) (fun u t => va_P (dC, dI) vwCl (cM cyI a u) t.heap ∧ va_D (va_A (cM cyI a v) sz) (cM cyI a u)) (va_A (cM cyI a v) sz)) 0 0 (va_A (cM cyI a v) sz) := by
  refine Met.ofW (cc := cX6_ends) (maxL := 1) (ret := (some .int)) (by decide) rfl ?_
  intro p e s m args below meth c s₁ B hml hv
  obtain ⟨rfl, hsz, hP, hK, hD0⟩ := hv
  have hx := B.exec
  have hb := B.bytes
  have hr := B.returns
  have hts0 := atoms_spec (ws := (Cond.code yX6_ends cX6_ends 1 (some .int) :: wT)) B.pre
  have hts := fun w h => hts0 w (List.mem_cons_of_mem _ h)
  clear hts0
  have hown : s.vm.findClass RX6 = some m.cls := findClass_of_methodNamed B.named
  have hlocks := B.notSynchronized
  subst hsz
  have hD := hD0.self (sz := s.heap.size)
  generalize hAe : va_A (cM cyI a v) s.heap.size = A at hD ⊢
  have hA : ∀ q : Nat, s.heap.size ≤ q → A q := fun q h => by rw [← hAe]; exact Or.inr h
  clear hD0
  have hS : va_S A s.heap s.heap [] := va_S.rf
  have hl := lv_entry [.ref (a 0)] (n := 1) (Nat.le_of_ble_eq_true rfl)
  rw [lg_entry_eq]
  generalize (lg_sl [.ref (a 0)] ++ List.replicate (1 - (lg_sl [.ref (a 0)]).length) Slot.unset).toArray = ls at hl ⊢
  have hl : lv_has ls 1 [(0, .ref (a 0))] := hl
  unfold f_X6_ends at hF
  refine lv_aload_n hx hb dX6_ends_0 rfl (lv_at hl 0 rfl) ?_
  refine lv_iconst (v := 0) hx hb dX6_ends_1 (by decide) ?_
  refine va_put (D := (dC, dI)) (ci := 6) (v := .int (0 : Int32)) (ty := .int) (C := RX6) (T := TX6) (N := 23) hx hb hts inX6 tyX6 tyX6_ok nmX6 hown hK.1 hP hD hS 0 rfl rfl 0 (by decide) (hts _ w_fieldLink_X6_31) (fun _ h9 => h9) rfl (by decide +kernel) rfl rfl (Nat.le_of_ble_eq_true rfl) dX6_ends_2 (fun H locs hP hD hS => ?_)
  have hP : va_P (dC, dI) vwCl (cM cyI a (M_set_thrown v (0 : Int32))) H := hP
  have hD : va_D A (cM cyI a (M_set_thrown v (0 : Int32))) := hD
  refine lv_aload_n hx hb dX6_ends_5 rfl (lv_at hl 0 rfl) ?_
  refine va_get (D := (dC, dI)) (ci := 6) (v := .ref (a 1)) (C := RX6) (T := TX6) (N := 23) hx hb hts inX6 hown hK.1 hP 0 rfl rfl 1 (by decide) (hts _ w_fieldLink_X6_7) (fun _ h9 => h9) rfl dX6_ends_6 ?_
  refine lv_bipush (v := 68) hx hb dX6_ends_9 (by decide) ?_
  refine va_iald hx hb hK.1 hP 1 0 rfl rfl (i := (68 : Int32)) (show ixok (68 : Int32) 103 by decide) dX6_ends_11 ?_
  exact W.iret (v := ((M_s v) (68 : Int32).toNatClampNeg)) hx hb hr (fun t ht hW => ⟨⟨_, (M_set_thrown v (0 : Int32)), rfl, Option.some.inj hF, by rw [ht]; exact hP, hD⟩, hS.F ht⟩) hS.2.2 dX6_ends_12
theorem dX6_burntEnds_0 : decode cX6_burntEnds 0 = .ok (.aload_n 0, 1) := by decide +kernel
theorem dX6_burntEnds_1 : decode cX6_burntEnds 1 = .ok (.iconst 0, 1) := by decide +kernel
theorem dX6_burntEnds_2 : decode cX6_burntEnds 2 = .ok (.putfield 31, 3) := by decide +kernel
theorem dX6_burntEnds_5 : decode cX6_burntEnds 5 = .ok (.aload_n 0, 1) := by decide +kernel
theorem dX6_burntEnds_6 : decode cX6_burntEnds 6 = .ok (.getfield 7, 3) := by decide +kernel
theorem dX6_burntEnds_9 : decode cX6_burntEnds 9 = .ok (.bipush 69, 2) := by decide +kernel
theorem dX6_burntEnds_11 : decode cX6_burntEnds 11 = .ok (.iaload, 1) := by decide +kernel
theorem dX6_burntEnds_12 : decode cX6_burntEnds 12 = .ok (.ireturn, 1) := by decide +kernel
def f_X6_burntEnds (N : Nat) (v : MV) : Option (Int32 × MV) :=
  some (((M_s v) (69 : Int32).toNatClampNeg), (M_set_thrown v (0 : Int32)))
set_option maxHeartbeats 4000000 in
set_option maxRecDepth 100000 in
theorem met_X6_burntEnds (l : Launch) (dC : Nat → ClassId) (dI : Nat → Nat → Nat) (cyI cyO cyL : ClassId) (a : Nat → Nat) (sz : Nat) (N : Nat) (v : MV) (out : Int32 × MV) (hF : f_X6_burntEnds N v = some out) : Met l yX6_burntEnds (Cond.code yX6_burntEnds cX6_burntEnds 1 (some .int) :: wT) ({ frames := 0, cells := 0, slots := 0, locals := 0 } : Room) (wWr dC dI cyI cyO cyL [.ref (a 0)] (cM cyI a v) sz) (va_Qi (fun (r : Int32) (u : MV) => (r, u) = out) (fun u t => va_P (dC, dI) vwCl (cM cyI a u) t.heap ∧ va_D (va_A (cM cyI a v) sz) (cM cyI a u)) (va_A (cM cyI a v) sz)) 0 0 (va_A (cM cyI a v) sz) := by
  refine Met.ofW (cc := cX6_burntEnds) (maxL := 1) (ret := (some .int)) (by decide) rfl ?_
  intro p e s m args below meth c s₁ B hml hv
  obtain ⟨rfl, hsz, hP, hK, hD0⟩ := hv
  have hx := B.exec
  have hb := B.bytes
  have hr := B.returns
  have hts0 := atoms_spec (ws := (Cond.code yX6_burntEnds cX6_burntEnds 1 (some .int) :: wT)) B.pre
  have hts := fun w h => hts0 w (List.mem_cons_of_mem _ h)
  clear hts0
  have hown : s.vm.findClass RX6 = some m.cls := findClass_of_methodNamed B.named
  have hlocks := B.notSynchronized
  subst hsz
  have hD := hD0.self (sz := s.heap.size)
  generalize hAe : va_A (cM cyI a v) s.heap.size = A at hD ⊢
  have hA : ∀ q : Nat, s.heap.size ≤ q → A q := fun q h => by rw [← hAe]; exact Or.inr h
  clear hD0
  have hS : va_S A s.heap s.heap [] := va_S.rf
  have hl := lv_entry [.ref (a 0)] (n := 1) (Nat.le_of_ble_eq_true rfl)
  rw [lg_entry_eq]
  generalize (lg_sl [.ref (a 0)] ++ List.replicate (1 - (lg_sl [.ref (a 0)]).length) Slot.unset).toArray = ls at hl ⊢
  have hl : lv_has ls 1 [(0, .ref (a 0))] := hl
  unfold f_X6_burntEnds at hF
  refine lv_aload_n hx hb dX6_burntEnds_0 rfl (lv_at hl 0 rfl) ?_
  refine lv_iconst (v := 0) hx hb dX6_burntEnds_1 (by decide) ?_
  refine va_put (D := (dC, dI)) (ci := 6) (v := .int (0 : Int32)) (ty := .int) (C := RX6) (T := TX6) (N := 23) hx hb hts inX6 tyX6 tyX6_ok nmX6 hown hK.1 hP hD hS 0 rfl rfl 0 (by decide) (hts _ w_fieldLink_X6_31) (fun _ h9 => h9) rfl (by decide +kernel) rfl rfl (Nat.le_of_ble_eq_true rfl) dX6_burntEnds_2 (fun H locs hP hD hS => ?_)
  have hP : va_P (dC, dI) vwCl (cM cyI a (M_set_thrown v (0 : Int32))) H := hP
  have hD : va_D A (cM cyI a (M_set_thrown v (0 : Int32))) := hD
  refine lv_aload_n hx hb dX6_burntEnds_5 rfl (lv_at hl 0 rfl) ?_
  refine va_get (D := (dC, dI)) (ci := 6) (v := .ref (a 1)) (C := RX6) (T := TX6) (N := 23) hx hb hts inX6 hown hK.1 hP 0 rfl rfl 1 (by decide) (hts _ w_fieldLink_X6_7) (fun _ h9 => h9) rfl dX6_burntEnds_6 ?_
  refine lv_bipush (v := 69) hx hb dX6_burntEnds_9 (by decide) ?_
  refine va_iald hx hb hK.1 hP 1 0 rfl rfl (i := (69 : Int32)) (show ixok (69 : Int32) 103 by decide) dX6_burntEnds_11 ?_
  exact W.iret (v := ((M_s v) (69 : Int32).toNatClampNeg)) hx hb hr (fun t ht hW => ⟨⟨_, (M_set_thrown v (0 : Int32)), rfl, Option.some.inj hF, by rw [ht]; exact hP, hD⟩, hS.F ht⟩) hS.2.2 dX6_burntEnds_12
theorem dX6_pointsOfEnd_0 : decode cX6_pointsOfEnd 0 = .ok (.aload_n 0, 1) := by decide +kernel
theorem dX6_pointsOfEnd_1 : decode cX6_pointsOfEnd 1 = .ok (.iload_n 1, 1) := by decide +kernel
theorem dX6_pointsOfEnd_2 : decode cX6_pointsOfEnd 2 = .ok (.iconst 0, 1) := by decide +kernel
theorem dX6_pointsOfEnd_3 : decode cX6_pointsOfEnd 3 = .ok (.aload_n 0, 1) := by decide +kernel
theorem dX6_pointsOfEnd_4 : decode cX6_pointsOfEnd 4 = .ok (.getfield 7, 3) := by decide +kernel
theorem dX6_pointsOfEnd_7 : decode cX6_pointsOfEnd 7 = .ok (.bipush 70, 2) := by decide +kernel
theorem dX6_pointsOfEnd_9 : decode cX6_pointsOfEnd 9 = .ok (.iaload, 1) := by decide +kernel
theorem dX6_pointsOfEnd_10 : decode cX6_pointsOfEnd 10 = .ok (.iconst 1, 1) := by decide +kernel
theorem dX6_pointsOfEnd_11 : decode cX6_pointsOfEnd 11 = .ok (.isub, 1) := by decide +kernel
theorem dX6_pointsOfEnd_12 : decode cX6_pointsOfEnd 12 = .ok (.invokestatic 35, 3) := by decide +kernel
theorem dX6_pointsOfEnd_15 : decode cX6_pointsOfEnd 15 = .ok (.ifCond .eq 7, 3) := by decide +kernel
theorem dX6_pointsOfEnd_18 : decode cX6_pointsOfEnd 18 = .ok (.iconst 0, 1) := by decide +kernel
theorem dX6_pointsOfEnd_19 : decode cX6_pointsOfEnd 19 = .ok (.goto 4, 3) := by decide +kernel
theorem dX6_pointsOfEnd_22 : decode cX6_pointsOfEnd 22 = .ok (.iconst 1, 1) := by decide +kernel
theorem dX6_pointsOfEnd_23 : decode cX6_pointsOfEnd 23 = .ok (.invokevirtual 107, 3) := by decide +kernel
theorem dX6_pointsOfEnd_26 : decode cX6_pointsOfEnd 26 = .ok (.ifCond .eq 15, 3) := by decide +kernel
theorem dX6_pointsOfEnd_29 : decode cX6_pointsOfEnd 29 = .ok (.aload_n 0, 1) := by decide +kernel
theorem dX6_pointsOfEnd_30 : decode cX6_pointsOfEnd 30 = .ok (.getfield 7, 3) := by decide +kernel
theorem dX6_pointsOfEnd_33 : decode cX6_pointsOfEnd 33 = .ok (.bipush 71, 2) := by decide +kernel
theorem dX6_pointsOfEnd_35 : decode cX6_pointsOfEnd 35 = .ok (.iload_n 1, 1) := by decide +kernel
theorem dX6_pointsOfEnd_36 : decode cX6_pointsOfEnd 36 = .ok (.iadd, 1) := by decide +kernel
theorem dX6_pointsOfEnd_37 : decode cX6_pointsOfEnd 37 = .ok (.iaload, 1) := by decide +kernel
theorem dX6_pointsOfEnd_38 : decode cX6_pointsOfEnd 38 = .ok (.goto 4, 3) := by decide +kernel
theorem dX6_pointsOfEnd_41 : decode cX6_pointsOfEnd 41 = .ok (.iconst 0, 1) := by decide +kernel
theorem dX6_pointsOfEnd_42 : decode cX6_pointsOfEnd 42 = .ok (.ireturn, 1) := by decide +kernel
def f_X6_pointsOfEnd (N : Nat) (v : MV) (p1 : Int32) : Option (Int32 × MV) :=
  (f_X6_in N p1 (0 : Int32) (((M_s v) (70 : Int32).toNatClampNeg) - (1 : Int32))).bind (fun o2 => jn (fun (s23 : Int32) => (f_X6_holds N v s23).bind (fun o5 => jn (fun (s42 : Int32) => some (s42, o5.2)) (fun (j42 : (Int32) → Option (Int32 × MV)) => (if o5.1 = 0 then j42 (0 : Int32) else gd (ixok ((71 : Int32) + p1) 103) (j42 ((M_s o5.2) ((71 : Int32) + p1).toNatClampNeg)))))) (fun (j23 : (Int32) → Option (Int32 × MV)) => (if o2 = 0 then j23 (1 : Int32) else j23 (0 : Int32))))
set_option maxHeartbeats 4000000 in
set_option maxRecDepth 100000 in
theorem met_X6_pointsOfEnd (l : Launch) (dC : Nat → ClassId) (dI : Nat → Nat → Nat) (cyI cyO cyL : ClassId) (a : Nat → Nat) (sz : Nat) (N : Nat) (v : MV) (p1 : Int32) (out : Int32 × MV) (hF : f_X6_pointsOfEnd N v p1 = some out) : Met l yX6_pointsOfEnd (Cond.code yX6_pointsOfEnd cX6_pointsOfEnd 2 (some .int) :: wT) ({ frames := 1, cells := 0, slots := 0, locals := 22 } : Room) (wWr dC dI cyI cyO cyL [.ref (a 0), .int p1] (cM cyI a v) sz) (va_Qi (fun (r : Int32) (u : MV) => (r, u) = out) (fun u t => va_P (dC, dI) vwCl (cM cyI a u) t.heap ∧ va_D (va_A (cM cyI a v) sz) (cM cyI a u)) (va_A (cM cyI a v) sz)) 0 0 (va_A (cM cyI a v) sz) := by
  refine Met.ofW (cc := cX6_pointsOfEnd) (maxL := 2) (ret := (some .int)) (by decide) rfl ?_
  intro p e s m args below meth c s₁ B hml hv
  obtain ⟨rfl, hsz, hP, hK, hD0⟩ := hv
  have hx := B.exec
  have hb := B.bytes
  have hr := B.returns
  have hts0 := atoms_spec (ws := (Cond.code yX6_pointsOfEnd cX6_pointsOfEnd 2 (some .int) :: wT)) B.pre
  have hts := fun w h => hts0 w (List.mem_cons_of_mem _ h)
  clear hts0
  have hown : s.vm.findClass RX6 = some m.cls := findClass_of_methodNamed B.named
  have hlocks := B.notSynchronized
  subst hsz
  have hD := hD0.self (sz := s.heap.size)
  generalize hAe : va_A (cM cyI a v) s.heap.size = A at hD ⊢
  have hA : ∀ q : Nat, s.heap.size ≤ q → A q := fun q h => by rw [← hAe]; exact Or.inr h
  clear hD0
  have hS : va_S A s.heap s.heap [] := va_S.rf
  have hl := lv_entry [.ref (a 0), .int p1] (n := 2) (Nat.le_of_ble_eq_true rfl)
  rw [lg_entry_eq]
  generalize (lg_sl [.ref (a 0), .int p1] ++ List.replicate (2 - (lg_sl [.ref (a 0), .int p1]).length) Slot.unset).toArray = ls at hl ⊢
  have hl : lv_has ls 2 [(0, .ref (a 0)), (1, .int p1)] := hl
  unfold f_X6_pointsOfEnd at hF
  refine lv_aload_n hx hb dX6_pointsOfEnd_0 rfl (lv_at hl 0 rfl) ?_
  refine lv_iload_n hx hb dX6_pointsOfEnd_1 rfl (lv_at hl 1 rfl) ?_
  refine lv_iconst (v := 0) hx hb dX6_pointsOfEnd_2 (by decide) ?_
  refine lv_aload_n hx hb dX6_pointsOfEnd_3 rfl (lv_at hl 0 rfl) ?_
  refine va_get (D := (dC, dI)) (ci := 6) (v := .ref (a 1)) (C := RX6) (T := TX6) (N := 23) hx hb hts inX6 hown hK.1 hP 0 rfl rfl 1 (by decide) (hts _ w_fieldLink_X6_7) (fun _ h9 => h9) rfl dX6_pointsOfEnd_4 ?_
  refine lv_bipush (v := 70) hx hb dX6_pointsOfEnd_7 (by decide) ?_
  refine va_iald hx hb hK.1 hP 1 0 rfl rfl (i := (70 : Int32)) (show ixok (70 : Int32) 103 by decide) dX6_pointsOfEnd_9 ?_
  refine lv_iconst (v := 1) hx hb dX6_pointsOfEnd_10 (by decide) ?_
  refine lv_isub hx hb dX6_pointsOfEnd_11 ?_
  obtain ⟨o2, h3, hF⟩ := obd hF
  refine wcRSi (As := [.int p1, .int (0 : Int32), .int (((M_s v) (70 : Int32).toNatClampNeg) - (1 : Int32))]) (rest := [.ref (a 0)]) ⟨hx, hb, hml, hown, hts⟩ (met_X6_in l dC dI cyI cyO cyL  N  p1 (0 : Int32) (((M_s v) (70 : Int32).toNatClampNeg) - (1 : Int32)) o2 h3) (va_cwS 3 hts (gS w_methodLink_X6_35 w_static_X6_in w_initialized_X6 w_code_X6_in) rfl rfl rfl (by decide +kernel) ⟨Nat.le_of_ble_eq_true rfl, Nat.le_of_ble_eq_true rfl⟩) hP hK [] rfl rfl hl.1 (Nat.le_of_ble_eq_true rfl) dX6_pointsOfEnd_12 ⟨Nat.le_of_ble_eq_true rfl, Nat.le_of_ble_eq_true rfl⟩ hS (fun r H locs hw hP hS => ?_)
  obtain ⟨hw, hz4⟩ := hw
  have hw := hw.symm
  subst hw
  obtain ⟨j23, hj23, hF⟩ := jn_use hF
  have hJ23 : ∀ (s23 : Int32) (H : Heap) (locs : List Loc) (ls : Array Slot) (hz_23_s1 : b01 s23), va_P (dC, dI) vwCl (cM cyI a v) H → va_D A (cM cyI a v) → va_S A s.heap H locs → lv_has ls 2 [(0, .ref (a 0)), (1, .int p1)] → j23 s23 = some out → W p l e (headSpec (Cond.code yX6_pointsOfEnd cX6_pointsOfEnd 2 (some .int) :: wT) ({ frames := 1, cells := 0, slots := 0, locals := 22 } : Room)).room s m ([.ref (a 0), .int p1] : List Value).toArray below meth c H locs 0 0 (MQ below (va_Qi (fun (r : Int32) (u : MV) => (r, u) = out) (fun u t => va_P (dC, dI) vwCl (cM cyI a u) t.heap ∧ va_D A (cM cyI a u)) A) ([.ref (a 0), .int p1] : List Value).toArray s 0 0 A) (F0 m 23 ls [.int s23, .ref (a 0)]) := by
    intro s23 H locs ls hz_23_s1 hP hD hS hl hF
    have hF := (congrFun hj23 s23).symm.trans hF
    obtain ⟨o5, h6, hF⟩ := obd hF
    refine wcWVi (As := [.int s23]) (rest := []) (wr := []) (b := (a 0)) ⟨hx, hb, hml, hown, hts⟩ (met_X6_holds l dC dI cyI cyO cyL a _ N v s23 o5 h6) (cwV 1 hts (gV w_methodLink_X6_107 w_instanceMethod_X6_holds w_selects_X6_holds w_initialized_X6 w_code_X6_holds) rfl rfl rfl (by decide +kernel) ⟨Nat.le_of_ble_eq_true rfl, Nat.le_of_ble_eq_true rfl⟩) (va_recv hK.1 hP (ci := 6) (q0 := 0) rfl rfl) hP hD hK [0, 1, 2, 3, 4, 5, 6, 7] [] rfl rfl (by decide) (by decide) (by decide) rfl hl.1 (Nat.le_of_ble_eq_true rfl) dX6_pointsOfEnd_23 ⟨Nat.le_of_ble_eq_true rfl, Nat.le_of_ble_eq_true rfl⟩ hS hA (fun r u H locs hw hP hD hS => ?_)
    obtain ⟨hw, hz7⟩ := hw
    obtain rfl : r = o5.1 := congrArg Prod.fst hw
    obtain rfl : u = o5.2 := congrArg Prod.snd hw
    clear hw
    have hP : va_P (dC, dI) vwCl (cM cyI a o5.2) H := hP
    have hD : va_D A (cM cyI a o5.2) := hD
    obtain ⟨j42, hj42, hF⟩ := jn_use hF
    have hJ42 : ∀ (s42 : Int32) (H : Heap) (locs : List Loc) (ls : Array Slot), va_P (dC, dI) vwCl (cM cyI a o5.2) H → va_D A (cM cyI a o5.2) → va_S A s.heap H locs → lv_has ls 2 [] → j42 s42 = some out → W p l e (headSpec (Cond.code yX6_pointsOfEnd cX6_pointsOfEnd 2 (some .int) :: wT) ({ frames := 1, cells := 0, slots := 0, locals := 22 } : Room)).room s m ([.ref (a 0), .int p1] : List Value).toArray below meth c H locs 0 0 (MQ below (va_Qi (fun (r : Int32) (u : MV) => (r, u) = out) (fun u t => va_P (dC, dI) vwCl (cM cyI a u) t.heap ∧ va_D A (cM cyI a u)) A) ([.ref (a 0), .int p1] : List Value).toArray s 0 0 A) (F0 m 42 ls [.int s42]) := by
      intro s42 H locs ls hP hD hS hl hF
      have hF := (congrFun hj42 s42).symm.trans hF
      exact W.iret (v := s42) hx hb hr (fun t ht hW => ⟨⟨_, o5.2, rfl, Option.some.inj hF, by rw [ht]; exact hP, hD⟩, hS.F ht⟩) hS.2.2 dX6_pointsOfEnd_42
    refine lv_if_eq (tgt := 41) hx hb dX6_pointsOfEnd_26 (by decide) (fun c8 => ?_) (fun c8 => ?_)
    · have hF := itp c8 hF
      refine lv_iconst (v := 0) hx hb dX6_pointsOfEnd_41 (by decide) ?_
      exact hJ42 (0 : Int32) _ _ _ hP hD hS (lv_sub hl [] rfl) hF
    · have hF := itn c8 hF
      refine lv_aload_n hx hb dX6_pointsOfEnd_29 rfl (lv_at hl 0 rfl) ?_
      refine va_get (D := (dC, dI)) (ci := 6) (v := .ref (a 1)) (C := RX6) (T := TX6) (N := 23) hx hb hts inX6 hown hK.1 hP 0 rfl rfl 1 (by decide) (hts _ w_fieldLink_X6_7) (fun _ h9 => h9) rfl dX6_pointsOfEnd_30 ?_
      refine lv_bipush (v := 71) hx hb dX6_pointsOfEnd_33 (by decide) ?_
      refine lv_iload_n hx hb dX6_pointsOfEnd_35 rfl (lv_at hl 1 rfl) ?_
      refine lv_iadd hx hb dX6_pointsOfEnd_36 ?_
      obtain ⟨hg9, hF⟩ := gd_use hF
      refine va_iald hx hb hK.1 hP 1 0 rfl rfl (i := ((71 : Int32) + p1)) hg9 dX6_pointsOfEnd_37 ?_
      refine lv_goto (tgt := 42) hx hb dX6_pointsOfEnd_38 (by decide) ?_
      exact hJ42 ((M_s o5.2) ((71 : Int32) + p1).toNatClampNeg) _ _ _ hP hD hS (lv_sub hl [] rfl) hF
  refine lv_if_eq (tgt := 22) hx hb dX6_pointsOfEnd_15 (by decide) (fun c10 => ?_) (fun c10 => ?_)
  · have hF := itp c10 hF
    refine lv_iconst (v := 1) hx hb dX6_pointsOfEnd_22 (by decide) ?_
    exact hJ23 (1 : Int32) _ _ _ b01_1 hP hD hS (lv_sub hl [0, 1] rfl) hF
  · have hF := itn c10 hF
    refine lv_iconst (v := 0) hx hb dX6_pointsOfEnd_18 (by decide) ?_
    refine lv_goto (tgt := 23) hx hb dX6_pointsOfEnd_19 (by decide) ?_
    exact hJ23 (0 : Int32) _ _ _ b01_0 hP hD hS (lv_sub hl [0, 1] rfl) hF
theorem dX6_keptEnds_0 : decode cX6_keptEnds 0 = .ok (.aload_n 0, 1) := by decide +kernel
theorem dX6_keptEnds_1 : decode cX6_keptEnds 1 = .ok (.iconst 0, 1) := by decide +kernel
theorem dX6_keptEnds_2 : decode cX6_keptEnds 2 = .ok (.putfield 31, 3) := by decide +kernel
theorem dX6_keptEnds_5 : decode cX6_keptEnds 5 = .ok (.aload_n 0, 1) := by decide +kernel
theorem dX6_keptEnds_6 : decode cX6_keptEnds 6 = .ok (.getfield 7, 3) := by decide +kernel
theorem dX6_keptEnds_9 : decode cX6_keptEnds 9 = .ok (.bipush 70, 2) := by decide +kernel
theorem dX6_keptEnds_11 : decode cX6_keptEnds 11 = .ok (.iaload, 1) := by decide +kernel
theorem dX6_keptEnds_12 : decode cX6_keptEnds 12 = .ok (.ireturn, 1) := by decide +kernel
def f_X6_keptEnds (N : Nat) (v : MV) : Option (Int32 × MV) :=
  some (((M_s v) (70 : Int32).toNatClampNeg), (M_set_thrown v (0 : Int32)))
set_option maxHeartbeats 4000000 in
set_option maxRecDepth 100000 in
theorem met_X6_keptEnds (l : Launch) (dC : Nat → ClassId) (dI : Nat → Nat → Nat) (cyI cyO cyL : ClassId) (a : Nat → Nat) (sz : Nat) (N : Nat) (v : MV) (out : Int32 × MV) (hF : f_X6_keptEnds N v = some out) : Met l yX6_keptEnds (Cond.code yX6_keptEnds cX6_keptEnds 1 (some .int) :: wT) ({ frames := 0, cells := 0, slots := 0, locals := 0 } : Room) (wWr dC dI cyI cyO cyL [.ref (a 0)] (cM cyI a v) sz) (va_Qi (fun (r : Int32) (u : MV) => (r, u) = out) (fun u t => va_P (dC, dI) vwCl (cM cyI a u) t.heap ∧ va_D (va_A (cM cyI a v) sz) (cM cyI a u)) (va_A (cM cyI a v) sz)) 0 0 (va_A (cM cyI a v) sz) := by
  refine Met.ofW (cc := cX6_keptEnds) (maxL := 1) (ret := (some .int)) (by decide) rfl ?_
  intro p e s m args below meth c s₁ B hml hv
  obtain ⟨rfl, hsz, hP, hK, hD0⟩ := hv
  have hx := B.exec
  have hb := B.bytes
  have hr := B.returns
  have hts0 := atoms_spec (ws := (Cond.code yX6_keptEnds cX6_keptEnds 1 (some .int) :: wT)) B.pre
  have hts := fun w h => hts0 w (List.mem_cons_of_mem _ h)
  clear hts0
  have hown : s.vm.findClass RX6 = some m.cls := findClass_of_methodNamed B.named
  have hlocks := B.notSynchronized
  subst hsz
  have hD := hD0.self (sz := s.heap.size)
  generalize hAe : va_A (cM cyI a v) s.heap.size = A at hD ⊢
  have hA : ∀ q : Nat, s.heap.size ≤ q → A q := fun q h => by rw [← hAe]; exact Or.inr h
  clear hD0
  have hS : va_S A s.heap s.heap [] := va_S.rf
  have hl := lv_entry [.ref (a 0)] (n := 1) (Nat.le_of_ble_eq_true rfl)
  rw [lg_entry_eq]
  generalize (lg_sl [.ref (a 0)] ++ List.replicate (1 - (lg_sl [.ref (a 0)]).length) Slot.unset).toArray = ls at hl ⊢
  have hl : lv_has ls 1 [(0, .ref (a 0))] := hl
  unfold f_X6_keptEnds at hF
  refine lv_aload_n hx hb dX6_keptEnds_0 rfl (lv_at hl 0 rfl) ?_
  refine lv_iconst (v := 0) hx hb dX6_keptEnds_1 (by decide) ?_
  refine va_put (D := (dC, dI)) (ci := 6) (v := .int (0 : Int32)) (ty := .int) (C := RX6) (T := TX6) (N := 23) hx hb hts inX6 tyX6 tyX6_ok nmX6 hown hK.1 hP hD hS 0 rfl rfl 0 (by decide) (hts _ w_fieldLink_X6_31) (fun _ h9 => h9) rfl (by decide +kernel) rfl rfl (Nat.le_of_ble_eq_true rfl) dX6_keptEnds_2 (fun H locs hP hD hS => ?_)
  have hP : va_P (dC, dI) vwCl (cM cyI a (M_set_thrown v (0 : Int32))) H := hP
  have hD : va_D A (cM cyI a (M_set_thrown v (0 : Int32))) := hD
  refine lv_aload_n hx hb dX6_keptEnds_5 rfl (lv_at hl 0 rfl) ?_
  refine va_get (D := (dC, dI)) (ci := 6) (v := .ref (a 1)) (C := RX6) (T := TX6) (N := 23) hx hb hts inX6 hown hK.1 hP 0 rfl rfl 1 (by decide) (hts _ w_fieldLink_X6_7) (fun _ h9 => h9) rfl dX6_keptEnds_6 ?_
  refine lv_bipush (v := 70) hx hb dX6_keptEnds_9 (by decide) ?_
  refine va_iald hx hb hK.1 hP 1 0 rfl rfl (i := (70 : Int32)) (show ixok (70 : Int32) 103 by decide) dX6_keptEnds_11 ?_
  exact W.iret (v := ((M_s v) (70 : Int32).toNatClampNeg)) hx hb hr (fun t ht hW => ⟨⟨_, (M_set_thrown v (0 : Int32)), rfl, Option.some.inj hF, by rw [ht]; exact hP, hD⟩, hS.F ht⟩) hS.2.2 dX6_keptEnds_12
theorem dX6_endsWith_0 : decode cX6_endsWith 0 = .ok (.aload_n 0, 1) := by decide +kernel
theorem dX6_endsWith_1 : decode cX6_endsWith 1 = .ok (.iload_n 1, 1) := by decide +kernel
theorem dX6_endsWith_2 : decode cX6_endsWith 2 = .ok (.bipush (-8), 2) := by decide +kernel
theorem dX6_endsWith_4 : decode cX6_endsWith 4 = .ok (.bipush 8, 2) := by decide +kernel
theorem dX6_endsWith_6 : decode cX6_endsWith 6 = .ok (.invokestatic 35, 3) := by decide +kernel
theorem dX6_endsWith_9 : decode cX6_endsWith 9 = .ok (.ifCond .eq 7, 3) := by decide +kernel
theorem dX6_endsWith_12 : decode cX6_endsWith 12 = .ok (.iconst 0, 1) := by decide +kernel
theorem dX6_endsWith_13 : decode cX6_endsWith 13 = .ok (.goto 4, 3) := by decide +kernel
theorem dX6_endsWith_16 : decode cX6_endsWith 16 = .ok (.iconst 1, 1) := by decide +kernel
theorem dX6_endsWith_17 : decode cX6_endsWith 17 = .ok (.invokevirtual 107, 3) := by decide +kernel
theorem dX6_endsWith_20 : decode cX6_endsWith 20 = .ok (.ifCond .eq 15, 3) := by decide +kernel
theorem dX6_endsWith_23 : decode cX6_endsWith 23 = .ok (.aload_n 0, 1) := by decide +kernel
theorem dX6_endsWith_24 : decode cX6_endsWith 24 = .ok (.getfield 7, 3) := by decide +kernel
theorem dX6_endsWith_27 : decode cX6_endsWith 27 = .ok (.bipush 91, 2) := by decide +kernel
theorem dX6_endsWith_29 : decode cX6_endsWith 29 = .ok (.iload_n 1, 1) := by decide +kernel
theorem dX6_endsWith_30 : decode cX6_endsWith 30 = .ok (.iadd, 1) := by decide +kernel
theorem dX6_endsWith_31 : decode cX6_endsWith 31 = .ok (.iaload, 1) := by decide +kernel
theorem dX6_endsWith_32 : decode cX6_endsWith 32 = .ok (.goto 4, 3) := by decide +kernel
theorem dX6_endsWith_35 : decode cX6_endsWith 35 = .ok (.iconst 0, 1) := by decide +kernel
theorem dX6_endsWith_36 : decode cX6_endsWith 36 = .ok (.ireturn, 1) := by decide +kernel
def f_X6_endsWith (N : Nat) (v : MV) (p1 : Int32) : Option (Int32 × MV) :=
  (f_X6_in N p1 (-8 : Int32) (8 : Int32)).bind (fun o1 => jn (fun (s17 : Int32) => (f_X6_holds N v s17).bind (fun o4 => jn (fun (s36 : Int32) => some (s36, o4.2)) (fun (j36 : (Int32) → Option (Int32 × MV)) => (if o4.1 = 0 then j36 (0 : Int32) else gd (ixok ((91 : Int32) + p1) 103) (j36 ((M_s o4.2) ((91 : Int32) + p1).toNatClampNeg)))))) (fun (j17 : (Int32) → Option (Int32 × MV)) => (if o1 = 0 then j17 (1 : Int32) else j17 (0 : Int32))))
set_option maxHeartbeats 4000000 in
set_option maxRecDepth 100000 in
theorem met_X6_endsWith (l : Launch) (dC : Nat → ClassId) (dI : Nat → Nat → Nat) (cyI cyO cyL : ClassId) (a : Nat → Nat) (sz : Nat) (N : Nat) (v : MV) (p1 : Int32) (out : Int32 × MV) (hF : f_X6_endsWith N v p1 = some out) : Met l yX6_endsWith (Cond.code yX6_endsWith cX6_endsWith 2 (some .int) :: wT) ({ frames := 1, cells := 0, slots := 0, locals := 22 } : Room) (wWr dC dI cyI cyO cyL [.ref (a 0), .int p1] (cM cyI a v) sz) (va_Qi (fun (r : Int32) (u : MV) => (r, u) = out) (fun u t => va_P (dC, dI) vwCl (cM cyI a u) t.heap ∧ va_D (va_A (cM cyI a v) sz) (cM cyI a u)) (va_A (cM cyI a v) sz)) 0 0 (va_A (cM cyI a v) sz) := by
  refine Met.ofW (cc := cX6_endsWith) (maxL := 2) (ret := (some .int)) (by decide) rfl ?_
  intro p e s m args below meth c s₁ B hml hv
  obtain ⟨rfl, hsz, hP, hK, hD0⟩ := hv
  have hx := B.exec
  have hb := B.bytes
  have hr := B.returns
  have hts0 := atoms_spec (ws := (Cond.code yX6_endsWith cX6_endsWith 2 (some .int) :: wT)) B.pre
  have hts := fun w h => hts0 w (List.mem_cons_of_mem _ h)
  clear hts0
  have hown : s.vm.findClass RX6 = some m.cls := findClass_of_methodNamed B.named
  have hlocks := B.notSynchronized
  subst hsz
  have hD := hD0.self (sz := s.heap.size)
  generalize hAe : va_A (cM cyI a v) s.heap.size = A at hD ⊢
  have hA : ∀ q : Nat, s.heap.size ≤ q → A q := fun q h => by rw [← hAe]; exact Or.inr h
  clear hD0
  have hS : va_S A s.heap s.heap [] := va_S.rf
  have hl := lv_entry [.ref (a 0), .int p1] (n := 2) (Nat.le_of_ble_eq_true rfl)
  rw [lg_entry_eq]
  generalize (lg_sl [.ref (a 0), .int p1] ++ List.replicate (2 - (lg_sl [.ref (a 0), .int p1]).length) Slot.unset).toArray = ls at hl ⊢
  have hl : lv_has ls 2 [(0, .ref (a 0)), (1, .int p1)] := hl
  unfold f_X6_endsWith at hF
  refine lv_aload_n hx hb dX6_endsWith_0 rfl (lv_at hl 0 rfl) ?_
  refine lv_iload_n hx hb dX6_endsWith_1 rfl (lv_at hl 1 rfl) ?_
  refine lv_bipush (v := -8) hx hb dX6_endsWith_2 (by decide) ?_
  refine lv_bipush (v := 8) hx hb dX6_endsWith_4 (by decide) ?_
  obtain ⟨o1, h2, hF⟩ := obd hF
  refine wcRSi (As := [.int p1, .int (-8 : Int32), .int (8 : Int32)]) (rest := [.ref (a 0)]) ⟨hx, hb, hml, hown, hts⟩ (met_X6_in l dC dI cyI cyO cyL  N  p1 (-8 : Int32) (8 : Int32) o1 h2) (va_cwS 3 hts (gS w_methodLink_X6_35 w_static_X6_in w_initialized_X6 w_code_X6_in) rfl rfl rfl (by decide +kernel) ⟨Nat.le_of_ble_eq_true rfl, Nat.le_of_ble_eq_true rfl⟩) hP hK [] rfl rfl hl.1 (Nat.le_of_ble_eq_true rfl) dX6_endsWith_6 ⟨Nat.le_of_ble_eq_true rfl, Nat.le_of_ble_eq_true rfl⟩ hS (fun r H locs hw hP hS => ?_)
  obtain ⟨hw, hz3⟩ := hw
  have hw := hw.symm
  subst hw
  obtain ⟨j17, hj17, hF⟩ := jn_use hF
  have hJ17 : ∀ (s17 : Int32) (H : Heap) (locs : List Loc) (ls : Array Slot) (hz_17_s1 : b01 s17), va_P (dC, dI) vwCl (cM cyI a v) H → va_D A (cM cyI a v) → va_S A s.heap H locs → lv_has ls 2 [(0, .ref (a 0)), (1, .int p1)] → j17 s17 = some out → W p l e (headSpec (Cond.code yX6_endsWith cX6_endsWith 2 (some .int) :: wT) ({ frames := 1, cells := 0, slots := 0, locals := 22 } : Room)).room s m ([.ref (a 0), .int p1] : List Value).toArray below meth c H locs 0 0 (MQ below (va_Qi (fun (r : Int32) (u : MV) => (r, u) = out) (fun u t => va_P (dC, dI) vwCl (cM cyI a u) t.heap ∧ va_D A (cM cyI a u)) A) ([.ref (a 0), .int p1] : List Value).toArray s 0 0 A) (F0 m 17 ls [.int s17, .ref (a 0)]) := by
    intro s17 H locs ls hz_17_s1 hP hD hS hl hF
    have hF := (congrFun hj17 s17).symm.trans hF
    obtain ⟨o4, h5, hF⟩ := obd hF
    refine wcWVi (As := [.int s17]) (rest := []) (wr := []) (b := (a 0)) ⟨hx, hb, hml, hown, hts⟩ (met_X6_holds l dC dI cyI cyO cyL a _ N v s17 o4 h5) (cwV 1 hts (gV w_methodLink_X6_107 w_instanceMethod_X6_holds w_selects_X6_holds w_initialized_X6 w_code_X6_holds) rfl rfl rfl (by decide +kernel) ⟨Nat.le_of_ble_eq_true rfl, Nat.le_of_ble_eq_true rfl⟩) (va_recv hK.1 hP (ci := 6) (q0 := 0) rfl rfl) hP hD hK [0, 1, 2, 3, 4, 5, 6, 7] [] rfl rfl (by decide) (by decide) (by decide) rfl hl.1 (Nat.le_of_ble_eq_true rfl) dX6_endsWith_17 ⟨Nat.le_of_ble_eq_true rfl, Nat.le_of_ble_eq_true rfl⟩ hS hA (fun r u H locs hw hP hD hS => ?_)
    obtain ⟨hw, hz6⟩ := hw
    obtain rfl : r = o4.1 := congrArg Prod.fst hw
    obtain rfl : u = o4.2 := congrArg Prod.snd hw
    clear hw
    have hP : va_P (dC, dI) vwCl (cM cyI a o4.2) H := hP
    have hD : va_D A (cM cyI a o4.2) := hD
    obtain ⟨j36, hj36, hF⟩ := jn_use hF
    have hJ36 : ∀ (s36 : Int32) (H : Heap) (locs : List Loc) (ls : Array Slot), va_P (dC, dI) vwCl (cM cyI a o4.2) H → va_D A (cM cyI a o4.2) → va_S A s.heap H locs → lv_has ls 2 [] → j36 s36 = some out → W p l e (headSpec (Cond.code yX6_endsWith cX6_endsWith 2 (some .int) :: wT) ({ frames := 1, cells := 0, slots := 0, locals := 22 } : Room)).room s m ([.ref (a 0), .int p1] : List Value).toArray below meth c H locs 0 0 (MQ below (va_Qi (fun (r : Int32) (u : MV) => (r, u) = out) (fun u t => va_P (dC, dI) vwCl (cM cyI a u) t.heap ∧ va_D A (cM cyI a u)) A) ([.ref (a 0), .int p1] : List Value).toArray s 0 0 A) (F0 m 36 ls [.int s36]) := by
      intro s36 H locs ls hP hD hS hl hF
      have hF := (congrFun hj36 s36).symm.trans hF
      exact W.iret (v := s36) hx hb hr (fun t ht hW => ⟨⟨_, o4.2, rfl, Option.some.inj hF, by rw [ht]; exact hP, hD⟩, hS.F ht⟩) hS.2.2 dX6_endsWith_36
    refine lv_if_eq (tgt := 35) hx hb dX6_endsWith_20 (by decide) (fun c7 => ?_) (fun c7 => ?_)
    · have hF := itp c7 hF
      refine lv_iconst (v := 0) hx hb dX6_endsWith_35 (by decide) ?_
      exact hJ36 (0 : Int32) _ _ _ hP hD hS (lv_sub hl [] rfl) hF
    · have hF := itn c7 hF
      refine lv_aload_n hx hb dX6_endsWith_23 rfl (lv_at hl 0 rfl) ?_
      refine va_get (D := (dC, dI)) (ci := 6) (v := .ref (a 1)) (C := RX6) (T := TX6) (N := 23) hx hb hts inX6 hown hK.1 hP 0 rfl rfl 1 (by decide) (hts _ w_fieldLink_X6_7) (fun _ h9 => h9) rfl dX6_endsWith_24 ?_
      refine lv_bipush (v := 91) hx hb dX6_endsWith_27 (by decide) ?_
      refine lv_iload_n hx hb dX6_endsWith_29 rfl (lv_at hl 1 rfl) ?_
      refine lv_iadd hx hb dX6_endsWith_30 ?_
      obtain ⟨hg8, hF⟩ := gd_use hF
      refine va_iald hx hb hK.1 hP 1 0 rfl rfl (i := ((91 : Int32) + p1)) hg8 dX6_endsWith_31 ?_
      refine lv_goto (tgt := 36) hx hb dX6_endsWith_32 (by decide) ?_
      exact hJ36 ((M_s o4.2) ((91 : Int32) + p1).toNatClampNeg) _ _ _ hP hD hS (lv_sub hl [] rfl) hF
  refine lv_if_eq (tgt := 16) hx hb dX6_endsWith_9 (by decide) (fun c9 => ?_) (fun c9 => ?_)
  · have hF := itp c9 hF
    refine lv_iconst (v := 1) hx hb dX6_endsWith_16 (by decide) ?_
    exact hJ17 (1 : Int32) _ _ _ b01_1 hP hD hS (lv_sub hl [0, 1] rfl) hF
  · have hF := itn c9 hF
    refine lv_iconst (v := 0) hx hb dX6_endsWith_12 (by decide) ?_
    refine lv_goto (tgt := 17) hx hb dX6_endsWith_13 (by decide) ?_
    exact hJ17 (0 : Int32) _ _ _ b01_0 hP hD hS (lv_sub hl [0, 1] rfl) hF
