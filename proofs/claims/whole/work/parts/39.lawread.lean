/-! written by program from the bytecode: what each method computes, and its contract -/

theorem dL_jackRow_0 : decode cL_jackRow 0 = .ok (.aload_n 1, 1) := by decide +kernel
theorem dL_jackRow_1 : decode cL_jackRow 1 = .ok (.iconst 0, 1) := by decide +kernel
theorem dL_jackRow_2 : decode cL_jackRow 2 = .ok (.aload_n 0, 1) := by decide +kernel
theorem dL_jackRow_3 : decode cL_jackRow 3 = .ok (.invokevirtual 50, 3) := by decide +kernel
theorem dL_jackRow_6 : decode cL_jackRow 6 = .ok (.i2l, 1) := by decide +kernel
theorem dL_jackRow_7 : decode cL_jackRow 7 = .ok (.lastore, 1) := by decide +kernel
theorem dL_jackRow_8 : decode cL_jackRow 8 = .ok (.goto 6, 3) := by decide +kernel
theorem dL_jackRow_11 : decode cL_jackRow 11 = .ok (.astore_n 2, 1) := by decide +kernel
theorem dL_jackRow_12 : decode cL_jackRow 12 = .ok (.iconst 1, 1) := by decide +kernel
theorem dL_jackRow_13 : decode cL_jackRow 13 = .ok (.ireturn, 1) := by decide +kernel
theorem dL_jackRow_14 : decode cL_jackRow 14 = .ok (.iconst 0, 1) := by decide +kernel
theorem dL_jackRow_15 : decode cL_jackRow 15 = .ok (.ireturn, 1) := by decide +kernel
def f_L_jackRow (N : Nat) (fo : (Nat → Int64)) (xv : XV) (nv : SV) : Option (Int32 × ((Nat → Int64) × XV × SV)) :=
  (f_X5_jackRow N xv nv).bind (fun o1 => exc o1 (fun k => (if k = 1 then some ((1 : Int32), (fo, xv, nv)) else none)) (fun (ro1 : Int32) => some ((0 : Int32), ((vp_updL fo (0 : Int32).toNatClampNeg ((ro1).toInt64)), xv, nv))))
set_option maxHeartbeats 4000000 in
set_option maxRecDepth 100000 in
theorem met_L_jackRow (l : Launch) (z0 : Nat) (hst : l.stackTraces = false) (dC : Nat → ClassId) (dI : Nat → Nat → Nat) (cyI cyO cyL : ClassId) (qo : Nat) (x : Nat → Nat) (tr : Nat → Nat) (an : Nat → Nat) (fl fs : Nat → Option Nat) (sz : Nat) (N : Nat) (fo : (Nat → Int64)) (xv : XV) (nv : SV) (out : Int32 × ((Nat → Int64) × XV × SV)) (hF : f_L_jackRow N fo xv nv = some out) : Met l yL_jackRow (Cond.codeWith yL_jackRow cL_jackRow 3 (some .int) [(0, 8, 11, 15)] :: wT) ({ frames := 7, cells := 1, slots := 6, locals := 102 } : Room) (wWrX z0 dC dI cyI cyO cyL [.ref (x 0), .ref qo] (([[cLo cyL qo 1 fo], (cXo x an tr xv), (cH cyO (x 1) (x 2) 2 fl), (cXk cyI x xv), (cH cyO (x 4) (x 5) 6 fs), (cT cyI x (X_text xv)), (cSo an nv), (cG cyI an (S_green nv)), (cV cyI an (S_score nv))] : List va_W).flatten) sz) (va_Qi (fun (r : Int32) (u : (Nat → Int64) × XV × SV) => (r, u) = out) (fun u t => va_P (dC, dI) vwCl (([[cLo cyL qo 1 u.1], (cXo x an tr u.2.1), (cH cyO (x 1) (x 2) 2 fl), (cXk cyI x u.2.1), (cH cyO (x 4) (x 5) 6 fs), (cT cyI x (X_text u.2.1)), (cSo an u.2.2), (cG cyI an (S_green u.2.2)), (cV cyI an (S_score u.2.2))] : List va_W).flatten) t.heap ∧ va_D (va_A (([[cLo cyL qo 1 fo], (cXo x an tr xv), (cH cyO (x 1) (x 2) 2 fl), (cXk cyI x xv), (cH cyO (x 4) (x 5) 6 fs), (cT cyI x (X_text xv)), (cSo an nv), (cG cyI an (S_green nv)), (cV cyI an (S_score nv))] : List va_W).flatten) sz) (([[cLo cyL qo 1 u.1], (cXo x an tr u.2.1), (cH cyO (x 1) (x 2) 2 fl), (cXk cyI x u.2.1), (cH cyO (x 4) (x 5) 6 fs), (cT cyI x (X_text u.2.1)), (cSo an u.2.2), (cG cyI an (S_green u.2.2)), (cV cyI an (S_score u.2.2))] : List va_W).flatten)) (va_A (([[cLo cyL qo 1 fo], (cXo x an tr xv), (cH cyO (x 1) (x 2) 2 fl), (cXk cyI x xv), (cH cyO (x 4) (x 5) 6 fs), (cT cyI x (X_text xv)), (cSo an nv), (cG cyI an (S_green nv)), (cV cyI an (S_score nv))] : List va_W).flatten) sz)) 1 6 (va_A (([[cLo cyL qo 1 fo], (cXo x an tr xv), (cH cyO (x 1) (x 2) 2 fl), (cXk cyI x xv), (cH cyO (x 4) (x 5) 6 fs), (cT cyI x (X_text xv)), (cSo an nv), (cG cyI an (S_green nv)), (cV cyI an (S_score nv))] : List va_W).flatten) sz) := by
  refine Met.ofWH (cc := cL_jackRow) (maxL := 3) (ret := (some .int)) (by decide) rfl ?_
  intro p e s m args below meth c s₁ B hml hv
  obtain ⟨rfl, hsz, hP, hK, hD0, hz0, hZ⟩ := hv
  have hTab := vx_table (x := yL_jackRow) B (atoms_spec (ws := (Cond.codeWith yL_jackRow cL_jackRow 3 (some .int) [(0, 8, 11, 15)] :: wT)) B.pre _ List.mem_cons_self)
  have hx := B.exec
  have hb := B.bytes
  have hr := B.returns
  have hts0 := atoms_spec (ws := (Cond.codeWith yL_jackRow cL_jackRow 3 (some .int) [(0, 8, 11, 15)] :: wT)) B.pre
  have hts := fun w h => hts0 w (List.mem_cons_of_mem _ h)
  clear hts0
  have hown : s.vm.findClass RL = some m.cls := findClass_of_methodNamed B.named
  have hlocks := B.notSynchronized
  subst hsz
  have hD := hD0.self (sz := s.heap.size)
  have hAz := wA_ge hD0 hz0
  generalize hAe : va_A (([[cLo cyL qo 1 fo], (cXo x an tr xv), (cH cyO (x 1) (x 2) 2 fl), (cXk cyI x xv), (cH cyO (x 4) (x 5) 6 fs), (cT cyI x (X_text xv)), (cSo an nv), (cG cyI an (S_green nv)), (cV cyI an (S_score nv))] : List va_W).flatten) s.heap.size = A at hD hAz ⊢
  have hA : ∀ q : Nat, s.heap.size ≤ q → A q := fun q h => by rw [← hAe]; exact Or.inr h
  clear hD0
  have hS : va_S A s.heap s.heap [] := va_S.rf
  have hl := lv_entry [.ref (x 0), .ref qo] (n := 3) (Nat.le_of_ble_eq_true rfl)
  rw [lg_entry_eq]
  generalize (lg_sl [.ref (x 0), .ref qo] ++ List.replicate (3 - (lg_sl [.ref (x 0), .ref qo]).length) Slot.unset).toArray = ls at hl ⊢
  have hl : lv_has ls 3 [(0, .ref (x 0)), (1, .ref qo)] := hl
  unfold f_L_jackRow at hF
  refine lv_aload_n hx hb dL_jackRow_0 rfl (lv_at hl 1 rfl) ?_
  refine lv_iconst (v := 0) hx hb dL_jackRow_1 (by decide) ?_
  refine lv_aload_n hx hb dL_jackRow_2 rfl (lv_at hl 0 rfl) ?_
  obtain ⟨o1, h2, hF⟩ := obd hF
  refine wxRVi (As := []) (rest := [.int (0 : Int32), .ref qo]) (b := (x 0)) ⟨hx, hb, hml, hown, hts⟩ (met_X5_jackRow l z0 hst dC dI cyI cyO cyL x tr an fl fs N xv nv  o1 h2) (cwV 0 hts (gV w_methodLink_L_50 w_instanceMethod_X5_jackRow w_selects_X5_jackRow w_initialized_X5 w_code_X5_jackRow) rfl rfl rfl (by decide +kernel) ⟨Nat.le_of_ble_eq_true rfl, Nat.le_of_ble_eq_true rfl⟩) (va_recv hK.1 hP (ci := 5) (q0 := 1) rfl rfl) hP hK hZ hAz [1, 2, 3, 4, 5, 6, 7, 8, 9, 10, 11, 12, 13, 14, 15, 16, 17, 18, 19, 20, 21] rfl rfl hl.1 (Nat.le_of_ble_eq_true rfl) dL_jackRow_3 ⟨Nat.le_of_ble_eq_true rfl, Nat.le_of_ble_eq_true rfl⟩ hS (fun k ce q9 H locs hw hP hS h9 hv9 hc9 => ?_) (fun ro1 H locs hw hP hS => ?_)
  · have hw := hw.symm
    subst hw
    have hF := exc_l hF
    by_cases c3 : k = 1
    · subst c3
      have hF := itp rfl hF
      refine vx_catch (E := eIS) (name := eIS) hown [] ⟨0, 8, 11, 15⟩ [] hTab (fun z hz => nomatch hz) (by decide) (by decide) (hts _ w_classLink_L_15) (hZ.2.2.2.1.use _ (by decide)) h9 hv9 hc9 ?_
      refine lv_astore_n (lv' := [(2, .ref q9), (0, .ref (x 0)), (1, .ref qo)]) hx hb dL_jackRow_11 rfl hl (by decide) rfl (fun ls hl => ?_)
      refine lv_iconst (v := 1) hx hb dL_jackRow_12 (by decide) ?_
      refine W.widen (k := 1) (n := 6) (Nat.le_of_ble_eq_true rfl) (Nat.le_of_ble_eq_true rfl) ?_
      exact W.iret (v := (1 : Int32)) hx hb hr (fun t ht hW => ⟨⟨_, (fo, xv, nv), rfl, Option.some.inj hF, by rw [ht]; exact hP, hD⟩, hS.F ht⟩) hS.2.2 dL_jackRow_13
    · have hF := itn c3 hF
      cases hF
  · skip
    have hw := hw.symm
    subst hw
    have hF := exc_r hF
    refine lv_i2l (v := (ro1).toInt64) hx hb dL_jackRow_6 rfl ?_
    refine va_last hx hb hK.1 hP hD hS 0 2 rfl rfl (i := (0 : Int32)) (x := ((ro1).toInt64)) (show ixok (0 : Int32) 1 by decide) dL_jackRow_7 (fun H locs hP hD hS => ?_)
    have hP : va_P (dC, dI) vwCl (([[cLo cyL qo 1 (vp_updL fo (0 : Int32).toNatClampNeg ((ro1).toInt64))], (cXo x an tr xv), (cH cyO (x 1) (x 2) 2 fl), (cXk cyI x xv), (cH cyO (x 4) (x 5) 6 fs), (cT cyI x (X_text xv)), (cSo an nv), (cG cyI an (S_green nv)), (cV cyI an (S_score nv))] : List va_W).flatten) H := hP
    have hD : va_D A (([[cLo cyL qo 1 (vp_updL fo (0 : Int32).toNatClampNeg ((ro1).toInt64))], (cXo x an tr xv), (cH cyO (x 1) (x 2) 2 fl), (cXk cyI x xv), (cH cyO (x 4) (x 5) 6 fs), (cT cyI x (X_text xv)), (cSo an nv), (cG cyI an (S_green nv)), (cV cyI an (S_score nv))] : List va_W).flatten) := hD
    refine lv_goto (tgt := 14) hx hb dL_jackRow_8 (by decide) ?_
    refine lv_iconst (v := 0) hx hb dL_jackRow_14 (by decide) ?_
    refine W.widen (k := 1) (n := 6) (Nat.le_of_ble_eq_true rfl) (Nat.le_of_ble_eq_true rfl) ?_
    exact W.iret (v := (0 : Int32)) hx hb hr (fun t ht hW => ⟨⟨_, ((vp_updL fo (0 : Int32).toNatClampNeg ((ro1).toInt64)), xv, nv), rfl, Option.some.inj hF, by rw [ht]; exact hP, hD⟩, hS.F ht⟩) hS.2.2 dL_jackRow_15
theorem dL_jackColumn_0 : decode cL_jackColumn 0 = .ok (.aload_n 1, 1) := by decide +kernel
theorem dL_jackColumn_1 : decode cL_jackColumn 1 = .ok (.iconst 0, 1) := by decide +kernel
theorem dL_jackColumn_2 : decode cL_jackColumn 2 = .ok (.aload_n 0, 1) := by decide +kernel
theorem dL_jackColumn_3 : decode cL_jackColumn 3 = .ok (.invokevirtual 53, 3) := by decide +kernel
theorem dL_jackColumn_6 : decode cL_jackColumn 6 = .ok (.i2l, 1) := by decide +kernel
theorem dL_jackColumn_7 : decode cL_jackColumn 7 = .ok (.lastore, 1) := by decide +kernel
theorem dL_jackColumn_8 : decode cL_jackColumn 8 = .ok (.goto 6, 3) := by decide +kernel
theorem dL_jackColumn_11 : decode cL_jackColumn 11 = .ok (.astore_n 2, 1) := by decide +kernel
theorem dL_jackColumn_12 : decode cL_jackColumn 12 = .ok (.iconst 1, 1) := by decide +kernel
theorem dL_jackColumn_13 : decode cL_jackColumn 13 = .ok (.ireturn, 1) := by decide +kernel
theorem dL_jackColumn_14 : decode cL_jackColumn 14 = .ok (.iconst 0, 1) := by decide +kernel
theorem dL_jackColumn_15 : decode cL_jackColumn 15 = .ok (.ireturn, 1) := by decide +kernel
def f_L_jackColumn (N : Nat) (fo : (Nat → Int64)) (xv : XV) (nv : SV) : Option (Int32 × ((Nat → Int64) × XV × SV)) :=
  (f_X5_jackColumn N xv nv).bind (fun o1 => exc o1 (fun k => (if k = 1 then some ((1 : Int32), (fo, xv, nv)) else none)) (fun (ro1 : Int32) => some ((0 : Int32), ((vp_updL fo (0 : Int32).toNatClampNeg ((ro1).toInt64)), xv, nv))))
set_option maxHeartbeats 4000000 in
set_option maxRecDepth 100000 in
theorem met_L_jackColumn (l : Launch) (z0 : Nat) (hst : l.stackTraces = false) (dC : Nat → ClassId) (dI : Nat → Nat → Nat) (cyI cyO cyL : ClassId) (qo : Nat) (x : Nat → Nat) (tr : Nat → Nat) (an : Nat → Nat) (fl fs : Nat → Option Nat) (sz : Nat) (N : Nat) (fo : (Nat → Int64)) (xv : XV) (nv : SV) (out : Int32 × ((Nat → Int64) × XV × SV)) (hF : f_L_jackColumn N fo xv nv = some out) : Met l yL_jackColumn (Cond.codeWith yL_jackColumn cL_jackColumn 3 (some .int) [(0, 8, 11, 15)] :: wT) ({ frames := 7, cells := 1, slots := 6, locals := 102 } : Room) (wWrX z0 dC dI cyI cyO cyL [.ref (x 0), .ref qo] (([[cLo cyL qo 1 fo], (cXo x an tr xv), (cH cyO (x 1) (x 2) 2 fl), (cXk cyI x xv), (cH cyO (x 4) (x 5) 6 fs), (cT cyI x (X_text xv)), (cSo an nv), (cG cyI an (S_green nv)), (cV cyI an (S_score nv))] : List va_W).flatten) sz) (va_Qi (fun (r : Int32) (u : (Nat → Int64) × XV × SV) => (r, u) = out) (fun u t => va_P (dC, dI) vwCl (([[cLo cyL qo 1 u.1], (cXo x an tr u.2.1), (cH cyO (x 1) (x 2) 2 fl), (cXk cyI x u.2.1), (cH cyO (x 4) (x 5) 6 fs), (cT cyI x (X_text u.2.1)), (cSo an u.2.2), (cG cyI an (S_green u.2.2)), (cV cyI an (S_score u.2.2))] : List va_W).flatten) t.heap ∧ va_D (va_A (([[cLo cyL qo 1 fo], (cXo x an tr xv), (cH cyO (x 1) (x 2) 2 fl), (cXk cyI x xv), (cH cyO (x 4) (x 5) 6 fs), (cT cyI x (X_text xv)), (cSo an nv), (cG cyI an (S_green nv)), (cV cyI an (S_score nv))] : List va_W).flatten) sz) (([[cLo cyL qo 1 u.1], (cXo x an tr u.2.1), (cH cyO (x 1) (x 2) 2 fl), (cXk cyI x u.2.1), (cH cyO (x 4) (x 5) 6 fs), (cT cyI x (X_text u.2.1)), (cSo an u.2.2), (cG cyI an (S_green u.2.2)), (cV cyI an (S_score u.2.2))] : List va_W).flatten)) (va_A (([[cLo cyL qo 1 fo], (cXo x an tr xv), (cH cyO (x 1) (x 2) 2 fl), (cXk cyI x xv), (cH cyO (x 4) (x 5) 6 fs), (cT cyI x (X_text xv)), (cSo an nv), (cG cyI an (S_green nv)), (cV cyI an (S_score nv))] : List va_W).flatten) sz)) 1 6 (va_A (([[cLo cyL qo 1 fo], (cXo x an tr xv), (cH cyO (x 1) (x 2) 2 fl), (cXk cyI x xv), (cH cyO (x 4) (x 5) 6 fs), (cT cyI x (X_text xv)), (cSo an nv), (cG cyI an (S_green nv)), (cV cyI an (S_score nv))] : List va_W).flatten) sz) := by
  refine Met.ofWH (cc := cL_jackColumn) (maxL := 3) (ret := (some .int)) (by decide) rfl ?_
  intro p e s m args below meth c s₁ B hml hv
  obtain ⟨rfl, hsz, hP, hK, hD0, hz0, hZ⟩ := hv
  have hTab := vx_table (x := yL_jackColumn) B (atoms_spec (ws := (Cond.codeWith yL_jackColumn cL_jackColumn 3 (some .int) [(0, 8, 11, 15)] :: wT)) B.pre _ List.mem_cons_self)
  have hx := B.exec
  have hb := B.bytes
  have hr := B.returns
  have hts0 := atoms_spec (ws := (Cond.codeWith yL_jackColumn cL_jackColumn 3 (some .int) [(0, 8, 11, 15)] :: wT)) B.pre
  have hts := fun w h => hts0 w (List.mem_cons_of_mem _ h)
  clear hts0
  have hown : s.vm.findClass RL = some m.cls := findClass_of_methodNamed B.named
  have hlocks := B.notSynchronized
  subst hsz
  have hD := hD0.self (sz := s.heap.size)
  have hAz := wA_ge hD0 hz0
  generalize hAe : va_A (([[cLo cyL qo 1 fo], (cXo x an tr xv), (cH cyO (x 1) (x 2) 2 fl), (cXk cyI x xv), (cH cyO (x 4) (x 5) 6 fs), (cT cyI x (X_text xv)), (cSo an nv), (cG cyI an (S_green nv)), (cV cyI an (S_score nv))] : List va_W).flatten) s.heap.size = A at hD hAz ⊢
  have hA : ∀ q : Nat, s.heap.size ≤ q → A q := fun q h => by rw [← hAe]; exact Or.inr h
  clear hD0
  have hS : va_S A s.heap s.heap [] := va_S.rf
  have hl := lv_entry [.ref (x 0), .ref qo] (n := 3) (Nat.le_of_ble_eq_true rfl)
  rw [lg_entry_eq]
  generalize (lg_sl [.ref (x 0), .ref qo] ++ List.replicate (3 - (lg_sl [.ref (x 0), .ref qo]).length) Slot.unset).toArray = ls at hl ⊢
  have hl : lv_has ls 3 [(0, .ref (x 0)), (1, .ref qo)] := hl
  unfold f_L_jackColumn at hF
  refine lv_aload_n hx hb dL_jackColumn_0 rfl (lv_at hl 1 rfl) ?_
  refine lv_iconst (v := 0) hx hb dL_jackColumn_1 (by decide) ?_
  refine lv_aload_n hx hb dL_jackColumn_2 rfl (lv_at hl 0 rfl) ?_
  obtain ⟨o1, h2, hF⟩ := obd hF
  refine wxRVi (As := []) (rest := [.int (0 : Int32), .ref qo]) (b := (x 0)) ⟨hx, hb, hml, hown, hts⟩ (met_X5_jackColumn l z0 hst dC dI cyI cyO cyL x tr an fl fs N xv nv  o1 h2) (cwV 0 hts (gV w_methodLink_L_53 w_instanceMethod_X5_jackColumn w_selects_X5_jackColumn w_initialized_X5 w_code_X5_jackColumn) rfl rfl rfl (by decide +kernel) ⟨Nat.le_of_ble_eq_true rfl, Nat.le_of_ble_eq_true rfl⟩) (va_recv hK.1 hP (ci := 5) (q0 := 1) rfl rfl) hP hK hZ hAz [1, 2, 3, 4, 5, 6, 7, 8, 9, 10, 11, 12, 13, 14, 15, 16, 17, 18, 19, 20, 21] rfl rfl hl.1 (Nat.le_of_ble_eq_true rfl) dL_jackColumn_3 ⟨Nat.le_of_ble_eq_true rfl, Nat.le_of_ble_eq_true rfl⟩ hS (fun k ce q9 H locs hw hP hS h9 hv9 hc9 => ?_) (fun ro1 H locs hw hP hS => ?_)
  · have hw := hw.symm
    subst hw
    have hF := exc_l hF
    by_cases c3 : k = 1
    · subst c3
      have hF := itp rfl hF
      refine vx_catch (E := eIS) (name := eIS) hown [] ⟨0, 8, 11, 15⟩ [] hTab (fun z hz => nomatch hz) (by decide) (by decide) (hts _ w_classLink_L_15) (hZ.2.2.2.1.use _ (by decide)) h9 hv9 hc9 ?_
      refine lv_astore_n (lv' := [(2, .ref q9), (0, .ref (x 0)), (1, .ref qo)]) hx hb dL_jackColumn_11 rfl hl (by decide) rfl (fun ls hl => ?_)
      refine lv_iconst (v := 1) hx hb dL_jackColumn_12 (by decide) ?_
      refine W.widen (k := 1) (n := 6) (Nat.le_of_ble_eq_true rfl) (Nat.le_of_ble_eq_true rfl) ?_
      exact W.iret (v := (1 : Int32)) hx hb hr (fun t ht hW => ⟨⟨_, (fo, xv, nv), rfl, Option.some.inj hF, by rw [ht]; exact hP, hD⟩, hS.F ht⟩) hS.2.2 dL_jackColumn_13
    · have hF := itn c3 hF
      cases hF
  · skip
    have hw := hw.symm
    subst hw
    have hF := exc_r hF
    refine lv_i2l (v := (ro1).toInt64) hx hb dL_jackColumn_6 rfl ?_
    refine va_last hx hb hK.1 hP hD hS 0 2 rfl rfl (i := (0 : Int32)) (x := ((ro1).toInt64)) (show ixok (0 : Int32) 1 by decide) dL_jackColumn_7 (fun H locs hP hD hS => ?_)
    have hP : va_P (dC, dI) vwCl (([[cLo cyL qo 1 (vp_updL fo (0 : Int32).toNatClampNeg ((ro1).toInt64))], (cXo x an tr xv), (cH cyO (x 1) (x 2) 2 fl), (cXk cyI x xv), (cH cyO (x 4) (x 5) 6 fs), (cT cyI x (X_text xv)), (cSo an nv), (cG cyI an (S_green nv)), (cV cyI an (S_score nv))] : List va_W).flatten) H := hP
    have hD : va_D A (([[cLo cyL qo 1 (vp_updL fo (0 : Int32).toNatClampNeg ((ro1).toInt64))], (cXo x an tr xv), (cH cyO (x 1) (x 2) 2 fl), (cXk cyI x xv), (cH cyO (x 4) (x 5) 6 fs), (cT cyI x (X_text xv)), (cSo an nv), (cG cyI an (S_green nv)), (cV cyI an (S_score nv))] : List va_W).flatten) := hD
    refine lv_goto (tgt := 14) hx hb dL_jackColumn_8 (by decide) ?_
    refine lv_iconst (v := 0) hx hb dL_jackColumn_14 (by decide) ?_
    refine W.widen (k := 1) (n := 6) (Nat.le_of_ble_eq_true rfl) (Nat.le_of_ble_eq_true rfl) ?_
    exact W.iret (v := (0 : Int32)) hx hb hr (fun t ht hW => ⟨⟨_, ((vp_updL fo (0 : Int32).toNatClampNeg ((ro1).toInt64)), xv, nv), rfl, Option.some.inj hF, by rw [ht]; exact hP, hD⟩, hS.F ht⟩) hS.2.2 dL_jackColumn_15
theorem dL_turn_0 : decode cL_turn 0 = .ok (.aload_n 1, 1) := by decide +kernel
theorem dL_turn_1 : decode cL_turn 1 = .ok (.iconst 0, 1) := by decide +kernel
theorem dL_turn_2 : decode cL_turn 2 = .ok (.aload_n 0, 1) := by decide +kernel
theorem dL_turn_3 : decode cL_turn 3 = .ok (.invokevirtual 56, 3) := by decide +kernel
theorem dL_turn_6 : decode cL_turn 6 = .ok (.i2l, 1) := by decide +kernel
theorem dL_turn_7 : decode cL_turn 7 = .ok (.lastore, 1) := by decide +kernel
theorem dL_turn_8 : decode cL_turn 8 = .ok (.goto 6, 3) := by decide +kernel
theorem dL_turn_11 : decode cL_turn 11 = .ok (.astore_n 2, 1) := by decide +kernel
theorem dL_turn_12 : decode cL_turn 12 = .ok (.iconst 1, 1) := by decide +kernel
theorem dL_turn_13 : decode cL_turn 13 = .ok (.ireturn, 1) := by decide +kernel
theorem dL_turn_14 : decode cL_turn 14 = .ok (.iconst 0, 1) := by decide +kernel
theorem dL_turn_15 : decode cL_turn 15 = .ok (.ireturn, 1) := by decide +kernel
def f_L_turn (N : Nat) (fo : (Nat → Int64)) (xv : XV) (nv : SV) : Option (Int32 × ((Nat → Int64) × XV × SV)) :=
  (f_X5_turn N xv nv).bind (fun o1 => exc o1 (fun k => (if k = 1 then some ((1 : Int32), (fo, xv, nv)) else none)) (fun (ro1 : Int32) => some ((0 : Int32), ((vp_updL fo (0 : Int32).toNatClampNeg ((ro1).toInt64)), xv, nv))))
set_option maxHeartbeats 4000000 in
set_option maxRecDepth 100000 in
theorem met_L_turn (l : Launch) (z0 : Nat) (hst : l.stackTraces = false) (dC : Nat → ClassId) (dI : Nat → Nat → Nat) (cyI cyO cyL : ClassId) (qo : Nat) (x : Nat → Nat) (tr : Nat → Nat) (an : Nat → Nat) (fl fs : Nat → Option Nat) (sz : Nat) (N : Nat) (fo : (Nat → Int64)) (xv : XV) (nv : SV) (out : Int32 × ((Nat → Int64) × XV × SV)) (hF : f_L_turn N fo xv nv = some out) : Met l yL_turn (Cond.codeWith yL_turn cL_turn 3 (some .int) [(0, 8, 11, 15)] :: wT) ({ frames := 7, cells := 1, slots := 6, locals := 102 } : Room) (wWrX z0 dC dI cyI cyO cyL [.ref (x 0), .ref qo] (([[cLo cyL qo 1 fo], (cXo x an tr xv), (cH cyO (x 1) (x 2) 2 fl), (cXk cyI x xv), (cH cyO (x 4) (x 5) 6 fs), (cT cyI x (X_text xv)), (cSo an nv), (cG cyI an (S_green nv)), (cV cyI an (S_score nv))] : List va_W).flatten) sz) (va_Qi (fun (r : Int32) (u : (Nat → Int64) × XV × SV) => (r, u) = out) (fun u t => va_P (dC, dI) vwCl (([[cLo cyL qo 1 u.1], (cXo x an tr u.2.1), (cH cyO (x 1) (x 2) 2 fl), (cXk cyI x u.2.1), (cH cyO (x 4) (x 5) 6 fs), (cT cyI x (X_text u.2.1)), (cSo an u.2.2), (cG cyI an (S_green u.2.2)), (cV cyI an (S_score u.2.2))] : List va_W).flatten) t.heap ∧ va_D (va_A (([[cLo cyL qo 1 fo], (cXo x an tr xv), (cH cyO (x 1) (x 2) 2 fl), (cXk cyI x xv), (cH cyO (x 4) (x 5) 6 fs), (cT cyI x (X_text xv)), (cSo an nv), (cG cyI an (S_green nv)), (cV cyI an (S_score nv))] : List va_W).flatten) sz) (([[cLo cyL qo 1 u.1], (cXo x an tr u.2.1), (cH cyO (x 1) (x 2) 2 fl), (cXk cyI x u.2.1), (cH cyO (x 4) (x 5) 6 fs), (cT cyI x (X_text u.2.1)), (cSo an u.2.2), (cG cyI an (S_green u.2.2)), (cV cyI an (S_score u.2.2))] : List va_W).flatten)) (va_A (([[cLo cyL qo 1 fo], (cXo x an tr xv), (cH cyO (x 1) (x 2) 2 fl), (cXk cyI x xv), (cH cyO (x 4) (x 5) 6 fs), (cT cyI x (X_text xv)), (cSo an nv), (cG cyI an (S_green nv)), (cV cyI an (S_score nv))] : List va_W).flatten) sz)) 1 6 (va_A (([[cLo cyL qo 1 fo], (cXo x an tr xv), (cH cyO (x 1) (x 2) 2 fl), (cXk cyI x xv), (cH cyO (x 4) (x 5) 6 fs), (cT cyI x (X_text xv)), (cSo an nv), (cG cyI an (S_green nv)), (cV cyI an (S_score nv))] : List va_W).flatten) sz) := by
  refine Met.ofWH (cc := cL_turn) (maxL := 3) (ret := (some .int)) (by decide) rfl ?_
  intro p e s m args below meth c s₁ B hml hv
  obtain ⟨rfl, hsz, hP, hK, hD0, hz0, hZ⟩ := hv
  have hTab := vx_table (x := yL_turn) B (atoms_spec (ws := (Cond.codeWith yL_turn cL_turn 3 (some .int) [(0, 8, 11, 15)] :: wT)) B.pre _ List.mem_cons_self)
  have hx := B.exec
  have hb := B.bytes
  have hr := B.returns
  have hts0 := atoms_spec (ws := (Cond.codeWith yL_turn cL_turn 3 (some .int) [(0, 8, 11, 15)] :: wT)) B.pre
  have hts := fun w h => hts0 w (List.mem_cons_of_mem _ h)
  clear hts0
  have hown : s.vm.findClass RL = some m.cls := findClass_of_methodNamed B.named
  have hlocks := B.notSynchronized
  subst hsz
  have hD := hD0.self (sz := s.heap.size)
  have hAz := wA_ge hD0 hz0
  generalize hAe : va_A (([[cLo cyL qo 1 fo], (cXo x an tr xv), (cH cyO (x 1) (x 2) 2 fl), (cXk cyI x xv), (cH cyO (x 4) (x 5) 6 fs), (cT cyI x (X_text xv)), (cSo an nv), (cG cyI an (S_green nv)), (cV cyI an (S_score nv))] : List va_W).flatten) s.heap.size = A at hD hAz ⊢
  have hA : ∀ q : Nat, s.heap.size ≤ q → A q := fun q h => by rw [← hAe]; exact Or.inr h
  clear hD0
  have hS : va_S A s.heap s.heap [] := va_S.rf
  have hl := lv_entry [.ref (x 0), .ref qo] (n := 3) (Nat.le_of_ble_eq_true rfl)
  rw [lg_entry_eq]
  generalize (lg_sl [.ref (x 0), .ref qo] ++ List.replicate (3 - (lg_sl [.ref (x 0), .ref qo]).length) Slot.unset).toArray = ls at hl ⊢
  have hl : lv_has ls 3 [(0, .ref (x 0)), (1, .ref qo)] := hl
  unfold f_L_turn at hF
  refine lv_aload_n hx hb dL_turn_0 rfl (lv_at hl 1 rfl) ?_
  refine lv_iconst (v := 0) hx hb dL_turn_1 (by decide) ?_
  refine lv_aload_n hx hb dL_turn_2 rfl (lv_at hl 0 rfl) ?_
  obtain ⟨o1, h2, hF⟩ := obd hF
  refine wxRVi (As := []) (rest := [.int (0 : Int32), .ref qo]) (b := (x 0)) ⟨hx, hb, hml, hown, hts⟩ (met_X5_turn l z0 hst dC dI cyI cyO cyL x tr an fl fs N xv nv  o1 h2) (cwV 0 hts (gV w_methodLink_L_56 w_instanceMethod_X5_turn w_selects_X5_turn w_initialized_X5 w_code_X5_turn) rfl rfl rfl (by decide +kernel) ⟨Nat.le_of_ble_eq_true rfl, Nat.le_of_ble_eq_true rfl⟩) (va_recv hK.1 hP (ci := 5) (q0 := 1) rfl rfl) hP hK hZ hAz [1, 2, 3, 4, 5, 6, 7, 8, 9, 10, 11, 12, 13, 14, 15, 16, 17, 18, 19, 20, 21] rfl rfl hl.1 (Nat.le_of_ble_eq_true rfl) dL_turn_3 ⟨Nat.le_of_ble_eq_true rfl, Nat.le_of_ble_eq_true rfl⟩ hS (fun k ce q9 H locs hw hP hS h9 hv9 hc9 => ?_) (fun ro1 H locs hw hP hS => ?_)
  · have hw := hw.symm
    subst hw
    have hF := exc_l hF
    by_cases c3 : k = 1
    · subst c3
      have hF := itp rfl hF
      refine vx_catch (E := eIS) (name := eIS) hown [] ⟨0, 8, 11, 15⟩ [] hTab (fun z hz => nomatch hz) (by decide) (by decide) (hts _ w_classLink_L_15) (hZ.2.2.2.1.use _ (by decide)) h9 hv9 hc9 ?_
      refine lv_astore_n (lv' := [(2, .ref q9), (0, .ref (x 0)), (1, .ref qo)]) hx hb dL_turn_11 rfl hl (by decide) rfl (fun ls hl => ?_)
      refine lv_iconst (v := 1) hx hb dL_turn_12 (by decide) ?_
      refine W.widen (k := 1) (n := 6) (Nat.le_of_ble_eq_true rfl) (Nat.le_of_ble_eq_true rfl) ?_
      exact W.iret (v := (1 : Int32)) hx hb hr (fun t ht hW => ⟨⟨_, (fo, xv, nv), rfl, Option.some.inj hF, by rw [ht]; exact hP, hD⟩, hS.F ht⟩) hS.2.2 dL_turn_13
    · have hF := itn c3 hF
      cases hF
  · skip
    have hw := hw.symm
    subst hw
    have hF := exc_r hF
    refine lv_i2l (v := (ro1).toInt64) hx hb dL_turn_6 rfl ?_
    refine va_last hx hb hK.1 hP hD hS 0 2 rfl rfl (i := (0 : Int32)) (x := ((ro1).toInt64)) (show ixok (0 : Int32) 1 by decide) dL_turn_7 (fun H locs hP hD hS => ?_)
    have hP : va_P (dC, dI) vwCl (([[cLo cyL qo 1 (vp_updL fo (0 : Int32).toNatClampNeg ((ro1).toInt64))], (cXo x an tr xv), (cH cyO (x 1) (x 2) 2 fl), (cXk cyI x xv), (cH cyO (x 4) (x 5) 6 fs), (cT cyI x (X_text xv)), (cSo an nv), (cG cyI an (S_green nv)), (cV cyI an (S_score nv))] : List va_W).flatten) H := hP
    have hD : va_D A (([[cLo cyL qo 1 (vp_updL fo (0 : Int32).toNatClampNeg ((ro1).toInt64))], (cXo x an tr xv), (cH cyO (x 1) (x 2) 2 fl), (cXk cyI x xv), (cH cyO (x 4) (x 5) 6 fs), (cT cyI x (X_text xv)), (cSo an nv), (cG cyI an (S_green nv)), (cV cyI an (S_score nv))] : List va_W).flatten) := hD
    refine lv_goto (tgt := 14) hx hb dL_turn_8 (by decide) ?_
    refine lv_iconst (v := 0) hx hb dL_turn_14 (by decide) ?_
    refine W.widen (k := 1) (n := 6) (Nat.le_of_ble_eq_true rfl) (Nat.le_of_ble_eq_true rfl) ?_
    exact W.iret (v := (0 : Int32)) hx hb hr (fun t ht hW => ⟨⟨_, ((vp_updL fo (0 : Int32).toNatClampNeg ((ro1).toInt64)), xv, nv), rfl, Option.some.inj hF, by rw [ht]; exact hP, hD⟩, hS.F ht⟩) hS.2.2 dL_turn_15
theorem dL_sideOf_0 : decode cL_sideOf 0 = .ok (.aload_n 2, 1) := by decide +kernel
theorem dL_sideOf_1 : decode cL_sideOf 1 = .ok (.iconst 0, 1) := by decide +kernel
theorem dL_sideOf_2 : decode cL_sideOf 2 = .ok (.aload_n 0, 1) := by decide +kernel
theorem dL_sideOf_3 : decode cL_sideOf 3 = .ok (.iload_n 1, 1) := by decide +kernel
theorem dL_sideOf_4 : decode cL_sideOf 4 = .ok (.invokevirtual 59, 3) := by decide +kernel
theorem dL_sideOf_7 : decode cL_sideOf 7 = .ok (.i2l, 1) := by decide +kernel
theorem dL_sideOf_8 : decode cL_sideOf 8 = .ok (.lastore, 1) := by decide +kernel
theorem dL_sideOf_9 : decode cL_sideOf 9 = .ok (.goto 6, 3) := by decide +kernel
theorem dL_sideOf_12 : decode cL_sideOf 12 = .ok (.astore_n 3, 1) := by decide +kernel
theorem dL_sideOf_13 : decode cL_sideOf 13 = .ok (.iconst 1, 1) := by decide +kernel
theorem dL_sideOf_14 : decode cL_sideOf 14 = .ok (.ireturn, 1) := by decide +kernel
theorem dL_sideOf_15 : decode cL_sideOf 15 = .ok (.iconst 0, 1) := by decide +kernel
theorem dL_sideOf_16 : decode cL_sideOf 16 = .ok (.ireturn, 1) := by decide +kernel
def f_L_sideOf (N : Nat) (fo : (Nat → Int64)) (xv : XV) (nv : SV) (p2 : Int32) : Option (Int32 × ((Nat → Int64) × XV × SV)) :=
  (f_X5_sideOf N xv nv p2).bind (fun o1 => exc o1 (fun k => (if k = 2 then some ((1 : Int32), (fo, xv, nv)) else none)) (fun (ro1 : Int32) => some ((0 : Int32), ((vp_updL fo (0 : Int32).toNatClampNeg ((ro1).toInt64)), xv, nv))))
set_option maxHeartbeats 4000000 in
set_option maxRecDepth 100000 in
theorem met_L_sideOf (l : Launch) (z0 : Nat) (hst : l.stackTraces = false) (dC : Nat → ClassId) (dI : Nat → Nat → Nat) (cyI cyO cyL : ClassId) (qo : Nat) (x : Nat → Nat) (tr : Nat → Nat) (an : Nat → Nat) (fl fs : Nat → Option Nat) (sz : Nat) (N : Nat) (fo : (Nat → Int64)) (xv : XV) (nv : SV) (p2 : Int32) (out : Int32 × ((Nat → Int64) × XV × SV)) (hF : f_L_sideOf N fo xv nv p2 = some out) : Met l yL_sideOf (Cond.codeWith yL_sideOf cL_sideOf 4 (some .int) [(0, 9, 12, 62)] :: wT) ({ frames := 8, cells := 1, slots := 6, locals := 124 } : Room) (wWrX z0 dC dI cyI cyO cyL [.ref (x 0), .int p2, .ref qo] (([[cLo cyL qo 1 fo], (cXo x an tr xv), (cH cyO (x 1) (x 2) 2 fl), (cXk cyI x xv), (cH cyO (x 4) (x 5) 6 fs), (cT cyI x (X_text xv)), (cSo an nv), (cG cyI an (S_green nv)), (cV cyI an (S_score nv))] : List va_W).flatten) sz) (va_Qi (fun (r : Int32) (u : (Nat → Int64) × XV × SV) => (r, u) = out) (fun u t => va_P (dC, dI) vwCl (([[cLo cyL qo 1 u.1], (cXo x an tr u.2.1), (cH cyO (x 1) (x 2) 2 fl), (cXk cyI x u.2.1), (cH cyO (x 4) (x 5) 6 fs), (cT cyI x (X_text u.2.1)), (cSo an u.2.2), (cG cyI an (S_green u.2.2)), (cV cyI an (S_score u.2.2))] : List va_W).flatten) t.heap ∧ va_D (va_A (([[cLo cyL qo 1 fo], (cXo x an tr xv), (cH cyO (x 1) (x 2) 2 fl), (cXk cyI x xv), (cH cyO (x 4) (x 5) 6 fs), (cT cyI x (X_text xv)), (cSo an nv), (cG cyI an (S_green nv)), (cV cyI an (S_score nv))] : List va_W).flatten) sz) (([[cLo cyL qo 1 u.1], (cXo x an tr u.2.1), (cH cyO (x 1) (x 2) 2 fl), (cXk cyI x u.2.1), (cH cyO (x 4) (x 5) 6 fs), (cT cyI x (X_text u.2.1)), (cSo an u.2.2), (cG cyI an (S_green u.2.2)), (cV cyI an (S_score u.2.2))] : List va_W).flatten)) (va_A (([[cLo cyL qo 1 fo], (cXo x an tr xv), (cH cyO (x 1) (x 2) 2 fl), (cXk cyI x xv), (cH cyO (x 4) (x 5) 6 fs), (cT cyI x (X_text xv)), (cSo an nv), (cG cyI an (S_green nv)), (cV cyI an (S_score nv))] : List va_W).flatten) sz)) 1 6 (va_A (([[cLo cyL qo 1 fo], (cXo x an tr xv), (cH cyO (x 1) (x 2) 2 fl), (cXk cyI x xv), (cH cyO (x 4) (x 5) 6 fs), (cT cyI x (X_text xv)), (cSo an nv), (cG cyI an (S_green nv)), (cV cyI an (S_score nv))] : List va_W).flatten) sz) := by
  refine Met.ofWH (cc := cL_sideOf) (maxL := 4) (ret := (some .int)) (by decide) rfl ?_
  intro p e s m args below meth c s₁ B hml hv
  obtain ⟨rfl, hsz, hP, hK, hD0, hz0, hZ⟩ := hv
  have hTab := vx_table (x := yL_sideOf) B (atoms_spec (ws := (Cond.codeWith yL_sideOf cL_sideOf 4 (some .int) [(0, 9, 12, 62)] :: wT)) B.pre _ List.mem_cons_self)
  have hx := B.exec
  have hb := B.bytes
  have hr := B.returns
  have hts0 := atoms_spec (ws := (Cond.codeWith yL_sideOf cL_sideOf 4 (some .int) [(0, 9, 12, 62)] :: wT)) B.pre
  have hts := fun w h => hts0 w (List.mem_cons_of_mem _ h)
  clear hts0
  have hown : s.vm.findClass RL = some m.cls := findClass_of_methodNamed B.named
  have hlocks := B.notSynchronized
  subst hsz
  have hD := hD0.self (sz := s.heap.size)
  have hAz := wA_ge hD0 hz0
  generalize hAe : va_A (([[cLo cyL qo 1 fo], (cXo x an tr xv), (cH cyO (x 1) (x 2) 2 fl), (cXk cyI x xv), (cH cyO (x 4) (x 5) 6 fs), (cT cyI x (X_text xv)), (cSo an nv), (cG cyI an (S_green nv)), (cV cyI an (S_score nv))] : List va_W).flatten) s.heap.size = A at hD hAz ⊢
  have hA : ∀ q : Nat, s.heap.size ≤ q → A q := fun q h => by rw [← hAe]; exact Or.inr h
  clear hD0
  have hS : va_S A s.heap s.heap [] := va_S.rf
  have hl := lv_entry [.ref (x 0), .int p2, .ref qo] (n := 4) (Nat.le_of_ble_eq_true rfl)
  rw [lg_entry_eq]
  generalize (lg_sl [.ref (x 0), .int p2, .ref qo] ++ List.replicate (4 - (lg_sl [.ref (x 0), .int p2, .ref qo]).length) Slot.unset).toArray = ls at hl ⊢
  have hl : lv_has ls 4 [(0, .ref (x 0)), (1, .int p2), (2, .ref qo)] := hl
  unfold f_L_sideOf at hF
  refine lv_aload_n hx hb dL_sideOf_0 rfl (lv_at hl 2 rfl) ?_
  refine lv_iconst (v := 0) hx hb dL_sideOf_1 (by decide) ?_
  refine lv_aload_n hx hb dL_sideOf_2 rfl (lv_at hl 0 rfl) ?_
  refine lv_iload_n hx hb dL_sideOf_3 rfl (lv_at hl 1 rfl) ?_
  obtain ⟨o1, h2, hF⟩ := obd hF
  refine wxRVi (As := [.int p2]) (rest := [.int (0 : Int32), .ref qo]) (b := (x 0)) ⟨hx, hb, hml, hown, hts⟩ (met_X5_sideOf l z0 hst dC dI cyI cyO cyL x tr an fl fs N xv nv p2 o1 h2) (cwV 1 hts (gV w_methodLink_L_59 w_instanceMethod_X5_sideOf w_selects_X5_sideOf w_initialized_X5 w_code_X5_sideOf) rfl rfl rfl (by decide +kernel) ⟨Nat.le_of_ble_eq_true rfl, Nat.le_of_ble_eq_true rfl⟩) (va_recv hK.1 hP (ci := 5) (q0 := 1) rfl rfl) hP hK hZ hAz [1, 2, 3, 4, 5, 6, 7, 8, 9, 10, 11, 12, 13, 14, 15, 16, 17, 18, 19, 20, 21] rfl rfl hl.1 (Nat.le_of_ble_eq_true rfl) dL_sideOf_4 ⟨Nat.le_of_ble_eq_true rfl, Nat.le_of_ble_eq_true rfl⟩ hS (fun k ce q9 H locs hw hP hS h9 hv9 hc9 => ?_) (fun ro1 H locs hw hP hS => ?_)
  · have hw := hw.symm
    subst hw
    have hF := exc_l hF
    by_cases c3 : k = 2
    · subst c3
      have hF := itp rfl hF
      refine vx_catch (E := eIO) (name := eIO) hown [] ⟨0, 9, 12, 62⟩ [] hTab (fun z hz => nomatch hz) (by decide) (by decide) (hts _ w_classLink_L_62) (hZ.2.2.2.1.use _ (by decide)) h9 hv9 hc9 ?_
      refine lv_astore_n (lv' := [(3, .ref q9), (0, .ref (x 0)), (1, .int p2), (2, .ref qo)]) hx hb dL_sideOf_12 rfl hl (by decide) rfl (fun ls hl => ?_)
      refine lv_iconst (v := 1) hx hb dL_sideOf_13 (by decide) ?_
      refine W.widen (k := 1) (n := 6) (Nat.le_of_ble_eq_true rfl) (Nat.le_of_ble_eq_true rfl) ?_
      exact W.iret (v := (1 : Int32)) hx hb hr (fun t ht hW => ⟨⟨_, (fo, xv, nv), rfl, Option.some.inj hF, by rw [ht]; exact hP, hD⟩, hS.F ht⟩) hS.2.2 dL_sideOf_14
    · have hF := itn c3 hF
      cases hF
  · skip
    have hw := hw.symm
    subst hw
    have hF := exc_r hF
    refine lv_i2l (v := (ro1).toInt64) hx hb dL_sideOf_7 rfl ?_
    refine va_last hx hb hK.1 hP hD hS 0 2 rfl rfl (i := (0 : Int32)) (x := ((ro1).toInt64)) (show ixok (0 : Int32) 1 by decide) dL_sideOf_8 (fun H locs hP hD hS => ?_)
    have hP : va_P (dC, dI) vwCl (([[cLo cyL qo 1 (vp_updL fo (0 : Int32).toNatClampNeg ((ro1).toInt64))], (cXo x an tr xv), (cH cyO (x 1) (x 2) 2 fl), (cXk cyI x xv), (cH cyO (x 4) (x 5) 6 fs), (cT cyI x (X_text xv)), (cSo an nv), (cG cyI an (S_green nv)), (cV cyI an (S_score nv))] : List va_W).flatten) H := hP
    have hD : va_D A (([[cLo cyL qo 1 (vp_updL fo (0 : Int32).toNatClampNeg ((ro1).toInt64))], (cXo x an tr xv), (cH cyO (x 1) (x 2) 2 fl), (cXk cyI x xv), (cH cyO (x 4) (x 5) 6 fs), (cT cyI x (X_text xv)), (cSo an nv), (cG cyI an (S_green nv)), (cV cyI an (S_score nv))] : List va_W).flatten) := hD
    refine lv_goto (tgt := 15) hx hb dL_sideOf_9 (by decide) ?_
    refine lv_iconst (v := 0) hx hb dL_sideOf_15 (by decide) ?_
    refine W.widen (k := 1) (n := 6) (Nat.le_of_ble_eq_true rfl) (Nat.le_of_ble_eq_true rfl) ?_
    exact W.iret (v := (0 : Int32)) hx hb hr (fun t ht hW => ⟨⟨_, ((vp_updL fo (0 : Int32).toNatClampNeg ((ro1).toInt64)), xv, nv), rfl, Option.some.inj hF, by rw [ht]; exact hP, hD⟩, hS.F ht⟩) hS.2.2 dL_sideOf_16
theorem dL_stateOf_0 : decode cL_stateOf 0 = .ok (.aload_n 2, 1) := by decide +kernel
theorem dL_stateOf_1 : decode cL_stateOf 1 = .ok (.iconst 0, 1) := by decide +kernel
theorem dL_stateOf_2 : decode cL_stateOf 2 = .ok (.aload_n 0, 1) := by decide +kernel
theorem dL_stateOf_3 : decode cL_stateOf 3 = .ok (.iload_n 1, 1) := by decide +kernel
theorem dL_stateOf_4 : decode cL_stateOf 4 = .ok (.invokevirtual 64, 3) := by decide +kernel
theorem dL_stateOf_7 : decode cL_stateOf 7 = .ok (.i2l, 1) := by decide +kernel
theorem dL_stateOf_8 : decode cL_stateOf 8 = .ok (.lastore, 1) := by decide +kernel
theorem dL_stateOf_9 : decode cL_stateOf 9 = .ok (.goto 6, 3) := by decide +kernel
theorem dL_stateOf_12 : decode cL_stateOf 12 = .ok (.astore_n 3, 1) := by decide +kernel
theorem dL_stateOf_13 : decode cL_stateOf 13 = .ok (.iconst 1, 1) := by decide +kernel
theorem dL_stateOf_14 : decode cL_stateOf 14 = .ok (.ireturn, 1) := by decide +kernel
theorem dL_stateOf_15 : decode cL_stateOf 15 = .ok (.iconst 0, 1) := by decide +kernel
theorem dL_stateOf_16 : decode cL_stateOf 16 = .ok (.ireturn, 1) := by decide +kernel
def f_L_stateOf (N : Nat) (fo : (Nat → Int64)) (xv : XV) (nv : SV) (p2 : Int32) : Option (Int32 × ((Nat → Int64) × XV × SV)) :=
  (f_X5_stateOf N xv nv p2).bind (fun o1 => exc o1 (fun k => (if k = 2 then some ((1 : Int32), (fo, xv, nv)) else none)) (fun (ro1 : Int32) => some ((0 : Int32), ((vp_updL fo (0 : Int32).toNatClampNeg ((ro1).toInt64)), xv, nv))))
set_option maxHeartbeats 4000000 in
set_option maxRecDepth 100000 in
theorem met_L_stateOf (l : Launch) (z0 : Nat) (hst : l.stackTraces = false) (dC : Nat → ClassId) (dI : Nat → Nat → Nat) (cyI cyO cyL : ClassId) (qo : Nat) (x : Nat → Nat) (tr : Nat → Nat) (an : Nat → Nat) (fl fs : Nat → Option Nat) (sz : Nat) (N : Nat) (fo : (Nat → Int64)) (xv : XV) (nv : SV) (p2 : Int32) (out : Int32 × ((Nat → Int64) × XV × SV)) (hF : f_L_stateOf N fo xv nv p2 = some out) : Met l yL_stateOf (Cond.codeWith yL_stateOf cL_stateOf 4 (some .int) [(0, 9, 12, 62)] :: wT) ({ frames := 8, cells := 1, slots := 6, locals := 124 } : Room) (wWrX z0 dC dI cyI cyO cyL [.ref (x 0), .int p2, .ref qo] (([[cLo cyL qo 1 fo], (cXo x an tr xv), (cH cyO (x 1) (x 2) 2 fl), (cXk cyI x xv), (cH cyO (x 4) (x 5) 6 fs), (cT cyI x (X_text xv)), (cSo an nv), (cG cyI an (S_green nv)), (cV cyI an (S_score nv))] : List va_W).flatten) sz) (va_Qi (fun (r : Int32) (u : (Nat → Int64) × XV × SV) => (r, u) = out) (fun u t => va_P (dC, dI) vwCl (([[cLo cyL qo 1 u.1], (cXo x an tr u.2.1), (cH cyO (x 1) (x 2) 2 fl), (cXk cyI x u.2.1), (cH cyO (x 4) (x 5) 6 fs), (cT cyI x (X_text u.2.1)), (cSo an u.2.2), (cG cyI an (S_green u.2.2)), (cV cyI an (S_score u.2.2))] : List va_W).flatten) t.heap ∧ va_D (va_A (([[cLo cyL qo 1 fo], (cXo x an tr xv), (cH cyO (x 1) (x 2) 2 fl), (cXk cyI x xv), (cH cyO (x 4) (x 5) 6 fs), (cT cyI x (X_text xv)), (cSo an nv), (cG cyI an (S_green nv)), (cV cyI an (S_score nv))] : List va_W).flatten) sz) (([[cLo cyL qo 1 u.1], (cXo x an tr u.2.1), (cH cyO (x 1) (x 2) 2 fl), (cXk cyI x u.2.1), (cH cyO (x 4) (x 5) 6 fs), (cT cyI x (X_text u.2.1)), (cSo an u.2.2), (cG cyI an (S_green u.2.2)), (cV cyI an (S_score u.2.2))] : List va_W).flatten)) (va_A (([[cLo cyL qo 1 fo], (cXo x an tr xv), (cH cyO (x 1) (x 2) 2 fl), (cXk cyI x xv), (cH cyO (x 4) (x 5) 6 fs), (cT cyI x (X_text xv)), (cSo an nv), (cG cyI an (S_green nv)), (cV cyI an (S_score nv))] : List va_W).flatten) sz)) 1 6 (va_A (([[cLo cyL qo 1 fo], (cXo x an tr xv), (cH cyO (x 1) (x 2) 2 fl), (cXk cyI x xv), (cH cyO (x 4) (x 5) 6 fs), (cT cyI x (X_text xv)), (cSo an nv), (cG cyI an (S_green nv)), (cV cyI an (S_score nv))] : List va_W).flatten) sz) := by
  refine Met.ofWH (cc := cL_stateOf) (maxL := 4) (ret := (some .int)) (by decide) rfl ?_
  intro p e s m args below meth c s₁ B hml hv
  obtain ⟨rfl, hsz, hP, hK, hD0, hz0, hZ⟩ := hv
  have hTab := vx_table (x := yL_stateOf) B (atoms_spec (ws := (Cond.codeWith yL_stateOf cL_stateOf 4 (some .int) [(0, 9, 12, 62)] :: wT)) B.pre _ List.mem_cons_self)
  have hx := B.exec
  have hb := B.bytes
  have hr := B.returns
  have hts0 := atoms_spec (ws := (Cond.codeWith yL_stateOf cL_stateOf 4 (some .int) [(0, 9, 12, 62)] :: wT)) B.pre
  have hts := fun w h => hts0 w (List.mem_cons_of_mem _ h)
  clear hts0
  have hown : s.vm.findClass RL = some m.cls := findClass_of_methodNamed B.named
  have hlocks := B.notSynchronized
  subst hsz
  have hD := hD0.self (sz := s.heap.size)
  have hAz := wA_ge hD0 hz0
  generalize hAe : va_A (([[cLo cyL qo 1 fo], (cXo x an tr xv), (cH cyO (x 1) (x 2) 2 fl), (cXk cyI x xv), (cH cyO (x 4) (x 5) 6 fs), (cT cyI x (X_text xv)), (cSo an nv), (cG cyI an (S_green nv)), (cV cyI an (S_score nv))] : List va_W).flatten) s.heap.size = A at hD hAz ⊢
  have hA : ∀ q : Nat, s.heap.size ≤ q → A q := fun q h => by rw [← hAe]; exact Or.inr h
  clear hD0
  have hS : va_S A s.heap s.heap [] := va_S.rf
  have hl := lv_entry [.ref (x 0), .int p2, .ref qo] (n := 4) (Nat.le_of_ble_eq_true rfl)
  rw [lg_entry_eq]
  generalize (lg_sl [.ref (x 0), .int p2, .ref qo] ++ List.replicate (4 - (lg_sl [.ref (x 0), .int p2, .ref qo]).length) Slot.unset).toArray = ls at hl ⊢
  have hl : lv_has ls 4 [(0, .ref (x 0)), (1, .int p2), (2, .ref qo)] := hl
  unfold f_L_stateOf at hF
  refine lv_aload_n hx hb dL_stateOf_0 rfl (lv_at hl 2 rfl) ?_
  refine lv_iconst (v := 0) hx hb dL_stateOf_1 (by decide) ?_
  refine lv_aload_n hx hb dL_stateOf_2 rfl (lv_at hl 0 rfl) ?_
  refine lv_iload_n hx hb dL_stateOf_3 rfl (lv_at hl 1 rfl) ?_
  obtain ⟨o1, h2, hF⟩ := obd hF
  refine wxRVi (As := [.int p2]) (rest := [.int (0 : Int32), .ref qo]) (b := (x 0)) ⟨hx, hb, hml, hown, hts⟩ (met_X5_stateOf l z0 hst dC dI cyI cyO cyL x tr an fl fs N xv nv p2 o1 h2) (cwV 1 hts (gV w_methodLink_L_64 w_instanceMethod_X5_stateOf w_selects_X5_stateOf w_initialized_X5 w_code_X5_stateOf) rfl rfl rfl (by decide +kernel) ⟨Nat.le_of_ble_eq_true rfl, Nat.le_of_ble_eq_true rfl⟩) (va_recv hK.1 hP (ci := 5) (q0 := 1) rfl rfl) hP hK hZ hAz [1, 2, 3, 4, 5, 6, 7, 8, 9, 10, 11, 12, 13, 14, 15, 16, 17, 18, 19, 20, 21] rfl rfl hl.1 (Nat.le_of_ble_eq_true rfl) dL_stateOf_4 ⟨Nat.le_of_ble_eq_true rfl, Nat.le_of_ble_eq_true rfl⟩ hS (fun k ce q9 H locs hw hP hS h9 hv9 hc9 => ?_) (fun ro1 H locs hw hP hS => ?_)
  · have hw := hw.symm
    subst hw
    have hF := exc_l hF
    by_cases c3 : k = 2
    · subst c3
      have hF := itp rfl hF
      refine vx_catch (E := eIO) (name := eIO) hown [] ⟨0, 9, 12, 62⟩ [] hTab (fun z hz => nomatch hz) (by decide) (by decide) (hts _ w_classLink_L_62) (hZ.2.2.2.1.use _ (by decide)) h9 hv9 hc9 ?_
      refine lv_astore_n (lv' := [(3, .ref q9), (0, .ref (x 0)), (1, .int p2), (2, .ref qo)]) hx hb dL_stateOf_12 rfl hl (by decide) rfl (fun ls hl => ?_)
      refine lv_iconst (v := 1) hx hb dL_stateOf_13 (by decide) ?_
      refine W.widen (k := 1) (n := 6) (Nat.le_of_ble_eq_true rfl) (Nat.le_of_ble_eq_true rfl) ?_
      exact W.iret (v := (1 : Int32)) hx hb hr (fun t ht hW => ⟨⟨_, (fo, xv, nv), rfl, Option.some.inj hF, by rw [ht]; exact hP, hD⟩, hS.F ht⟩) hS.2.2 dL_stateOf_14
    · have hF := itn c3 hF
      cases hF
  · skip
    have hw := hw.symm
    subst hw
    have hF := exc_r hF
    refine lv_i2l (v := (ro1).toInt64) hx hb dL_stateOf_7 rfl ?_
    refine va_last hx hb hK.1 hP hD hS 0 2 rfl rfl (i := (0 : Int32)) (x := ((ro1).toInt64)) (show ixok (0 : Int32) 1 by decide) dL_stateOf_8 (fun H locs hP hD hS => ?_)
    have hP : va_P (dC, dI) vwCl (([[cLo cyL qo 1 (vp_updL fo (0 : Int32).toNatClampNeg ((ro1).toInt64))], (cXo x an tr xv), (cH cyO (x 1) (x 2) 2 fl), (cXk cyI x xv), (cH cyO (x 4) (x 5) 6 fs), (cT cyI x (X_text xv)), (cSo an nv), (cG cyI an (S_green nv)), (cV cyI an (S_score nv))] : List va_W).flatten) H := hP
    have hD : va_D A (([[cLo cyL qo 1 (vp_updL fo (0 : Int32).toNatClampNeg ((ro1).toInt64))], (cXo x an tr xv), (cH cyO (x 1) (x 2) 2 fl), (cXk cyI x xv), (cH cyO (x 4) (x 5) 6 fs), (cT cyI x (X_text xv)), (cSo an nv), (cG cyI an (S_green nv)), (cV cyI an (S_score nv))] : List va_W).flatten) := hD
    refine lv_goto (tgt := 15) hx hb dL_stateOf_9 (by decide) ?_
    refine lv_iconst (v := 0) hx hb dL_stateOf_15 (by decide) ?_
    refine W.widen (k := 1) (n := 6) (Nat.le_of_ble_eq_true rfl) (Nat.le_of_ble_eq_true rfl) ?_
    exact W.iret (v := (0 : Int32)) hx hb hr (fun t ht hW => ⟨⟨_, ((vp_updL fo (0 : Int32).toNatClampNeg ((ro1).toInt64)), xv, nv), rfl, Option.some.inj hF, by rw [ht]; exact hP, hD⟩, hS.F ht⟩) hS.2.2 dL_stateOf_16
theorem dL_rowOf_0 : decode cL_rowOf 0 = .ok (.aload_n 2, 1) := by decide +kernel
theorem dL_rowOf_1 : decode cL_rowOf 1 = .ok (.iconst 0, 1) := by decide +kernel
theorem dL_rowOf_2 : decode cL_rowOf 2 = .ok (.aload_n 0, 1) := by decide +kernel
theorem dL_rowOf_3 : decode cL_rowOf 3 = .ok (.iload_n 1, 1) := by decide +kernel
theorem dL_rowOf_4 : decode cL_rowOf 4 = .ok (.invokevirtual 67, 3) := by decide +kernel
theorem dL_rowOf_7 : decode cL_rowOf 7 = .ok (.i2l, 1) := by decide +kernel
theorem dL_rowOf_8 : decode cL_rowOf 8 = .ok (.lastore, 1) := by decide +kernel
theorem dL_rowOf_9 : decode cL_rowOf 9 = .ok (.goto 9, 3) := by decide +kernel
theorem dL_rowOf_12 : decode cL_rowOf 12 = .ok (.astore_n 3, 1) := by decide +kernel
theorem dL_rowOf_13 : decode cL_rowOf 13 = .ok (.iconst 1, 1) := by decide +kernel
theorem dL_rowOf_14 : decode cL_rowOf 14 = .ok (.ireturn, 1) := by decide +kernel
theorem dL_rowOf_15 : decode cL_rowOf 15 = .ok (.astore_n 3, 1) := by decide +kernel
theorem dL_rowOf_16 : decode cL_rowOf 16 = .ok (.iconst 2, 1) := by decide +kernel
theorem dL_rowOf_17 : decode cL_rowOf 17 = .ok (.ireturn, 1) := by decide +kernel
theorem dL_rowOf_18 : decode cL_rowOf 18 = .ok (.iconst 0, 1) := by decide +kernel
theorem dL_rowOf_19 : decode cL_rowOf 19 = .ok (.ireturn, 1) := by decide +kernel
def f_L_rowOf (N : Nat) (fo : (Nat → Int64)) (xv : XV) (nv : SV) (p2 : Int32) : Option (Int32 × ((Nat → Int64) × XV × SV)) :=
  (f_X5_rowOf N xv nv p2).bind (fun o1 => exc o1 (fun k => (if k = 2 then some ((1 : Int32), (fo, xv, nv)) else if k = 1 then some ((2 : Int32), (fo, xv, nv)) else none)) (fun (ro1 : Int32) => some ((0 : Int32), ((vp_updL fo (0 : Int32).toNatClampNeg ((ro1).toInt64)), xv, nv))))
set_option maxHeartbeats 4000000 in
set_option maxRecDepth 100000 in
theorem met_L_rowOf (l : Launch) (z0 : Nat) (hst : l.stackTraces = false) (dC : Nat → ClassId) (dI : Nat → Nat → Nat) (cyI cyO cyL : ClassId) (qo : Nat) (x : Nat → Nat) (tr : Nat → Nat) (an : Nat → Nat) (fl fs : Nat → Option Nat) (sz : Nat) (N : Nat) (fo : (Nat → Int64)) (xv : XV) (nv : SV) (p2 : Int32) (out : Int32 × ((Nat → Int64) × XV × SV)) (hF : f_L_rowOf N fo xv nv p2 = some out) : Met l yL_rowOf (Cond.codeWith yL_rowOf cL_rowOf 4 (some .int) [(0, 9, 12, 62), (0, 9, 15, 15)] :: wT) ({ frames := 8, cells := 2, slots := 12, locals := 124 } : Room) (wWrX z0 dC dI cyI cyO cyL [.ref (x 0), .int p2, .ref qo] (([[cLo cyL qo 1 fo], (cXo x an tr xv), (cH cyO (x 1) (x 2) 2 fl), (cXk cyI x xv), (cH cyO (x 4) (x 5) 6 fs), (cT cyI x (X_text xv)), (cSo an nv), (cG cyI an (S_green nv)), (cV cyI an (S_score nv))] : List va_W).flatten) sz) (va_Qi (fun (r : Int32) (u : (Nat → Int64) × XV × SV) => (r, u) = out) (fun u t => va_P (dC, dI) vwCl (([[cLo cyL qo 1 u.1], (cXo x an tr u.2.1), (cH cyO (x 1) (x 2) 2 fl), (cXk cyI x u.2.1), (cH cyO (x 4) (x 5) 6 fs), (cT cyI x (X_text u.2.1)), (cSo an u.2.2), (cG cyI an (S_green u.2.2)), (cV cyI an (S_score u.2.2))] : List va_W).flatten) t.heap ∧ va_D (va_A (([[cLo cyL qo 1 fo], (cXo x an tr xv), (cH cyO (x 1) (x 2) 2 fl), (cXk cyI x xv), (cH cyO (x 4) (x 5) 6 fs), (cT cyI x (X_text xv)), (cSo an nv), (cG cyI an (S_green nv)), (cV cyI an (S_score nv))] : List va_W).flatten) sz) (([[cLo cyL qo 1 u.1], (cXo x an tr u.2.1), (cH cyO (x 1) (x 2) 2 fl), (cXk cyI x u.2.1), (cH cyO (x 4) (x 5) 6 fs), (cT cyI x (X_text u.2.1)), (cSo an u.2.2), (cG cyI an (S_green u.2.2)), (cV cyI an (S_score u.2.2))] : List va_W).flatten)) (va_A (([[cLo cyL qo 1 fo], (cXo x an tr xv), (cH cyO (x 1) (x 2) 2 fl), (cXk cyI x xv), (cH cyO (x 4) (x 5) 6 fs), (cT cyI x (X_text xv)), (cSo an nv), (cG cyI an (S_green nv)), (cV cyI an (S_score nv))] : List va_W).flatten) sz)) 2 12 (va_A (([[cLo cyL qo 1 fo], (cXo x an tr xv), (cH cyO (x 1) (x 2) 2 fl), (cXk cyI x xv), (cH cyO (x 4) (x 5) 6 fs), (cT cyI x (X_text xv)), (cSo an nv), (cG cyI an (S_green nv)), (cV cyI an (S_score nv))] : List va_W).flatten) sz) := by
  refine Met.ofWH (cc := cL_rowOf) (maxL := 4) (ret := (some .int)) (by decide) rfl ?_
  intro p e s m args below meth c s₁ B hml hv
  obtain ⟨rfl, hsz, hP, hK, hD0, hz0, hZ⟩ := hv
  have hTab := vx_table (x := yL_rowOf) B (atoms_spec (ws := (Cond.codeWith yL_rowOf cL_rowOf 4 (some .int) [(0, 9, 12, 62), (0, 9, 15, 15)] :: wT)) B.pre _ List.mem_cons_self)
  have hx := B.exec
  have hb := B.bytes
  have hr := B.returns
  have hts0 := atoms_spec (ws := (Cond.codeWith yL_rowOf cL_rowOf 4 (some .int) [(0, 9, 12, 62), (0, 9, 15, 15)] :: wT)) B.pre
  have hts := fun w h => hts0 w (List.mem_cons_of_mem _ h)
  clear hts0
  have hown : s.vm.findClass RL = some m.cls := findClass_of_methodNamed B.named
  have hlocks := B.notSynchronized
  subst hsz
  have hD := hD0.self (sz := s.heap.size)
  have hAz := wA_ge hD0 hz0
  generalize hAe : va_A (([[cLo cyL qo 1 fo], (cXo x an tr xv), (cH cyO (x 1) (x 2) 2 fl), (cXk cyI x xv), (cH cyO (x 4) (x 5) 6 fs), (cT cyI x (X_text xv)), (cSo an nv), (cG cyI an (S_green nv)), (cV cyI an (S_score nv))] : List va_W).flatten) s.heap.size = A at hD hAz ⊢
  have hA : ∀ q : Nat, s.heap.size ≤ q → A q := fun q h => by rw [← hAe]; exact Or.inr h
  clear hD0
  have hS : va_S A s.heap s.heap [] := va_S.rf
  have hl := lv_entry [.ref (x 0), .int p2, .ref qo] (n := 4) (Nat.le_of_ble_eq_true rfl)
  rw [lg_entry_eq]
  generalize (lg_sl [.ref (x 0), .int p2, .ref qo] ++ List.replicate (4 - (lg_sl [.ref (x 0), .int p2, .ref qo]).length) Slot.unset).toArray = ls at hl ⊢
  have hl : lv_has ls 4 [(0, .ref (x 0)), (1, .int p2), (2, .ref qo)] := hl
  unfold f_L_rowOf at hF
  refine lv_aload_n hx hb dL_rowOf_0 rfl (lv_at hl 2 rfl) ?_
  refine lv_iconst (v := 0) hx hb dL_rowOf_1 (by decide) ?_
  refine lv_aload_n hx hb dL_rowOf_2 rfl (lv_at hl 0 rfl) ?_
  refine lv_iload_n hx hb dL_rowOf_3 rfl (lv_at hl 1 rfl) ?_
  obtain ⟨o1, h2, hF⟩ := obd hF
  refine wxRVi (As := [.int p2]) (rest := [.int (0 : Int32), .ref qo]) (b := (x 0)) ⟨hx, hb, hml, hown, hts⟩ (met_X5_rowOf l z0 hst dC dI cyI cyO cyL x tr an fl fs N xv nv p2 o1 h2) (cwV 1 hts (gV w_methodLink_L_67 w_instanceMethod_X5_rowOf w_selects_X5_rowOf w_initialized_X5 w_code_X5_rowOf) rfl rfl rfl (by decide +kernel) ⟨Nat.le_of_ble_eq_true rfl, Nat.le_of_ble_eq_true rfl⟩) (va_recv hK.1 hP (ci := 5) (q0 := 1) rfl rfl) hP hK hZ hAz [1, 2, 3, 4, 5, 6, 7, 8, 9, 10, 11, 12, 13, 14, 15, 16, 17, 18, 19, 20, 21] rfl rfl hl.1 (Nat.le_of_ble_eq_true rfl) dL_rowOf_4 ⟨Nat.le_of_ble_eq_true rfl, Nat.le_of_ble_eq_true rfl⟩ hS (fun k ce q9 H locs hw hP hS h9 hv9 hc9 => ?_) (fun ro1 H locs hw hP hS => ?_)
  · have hw := hw.symm
    subst hw
    have hF := exc_l hF
    by_cases c3 : k = 2
    · subst c3
      have hF := itp rfl hF
      refine vx_catch (E := eIO) (name := eIO) hown [] ⟨0, 9, 12, 62⟩ [⟨0, 9, 15, 15⟩] hTab (fun z hz => nomatch hz) (by decide) (by decide) (hts _ w_classLink_L_62) (hZ.2.2.2.1.use _ (by decide)) h9 hv9 hc9 ?_
      refine lv_astore_n (lv' := [(3, .ref q9), (0, .ref (x 0)), (1, .int p2), (2, .ref qo)]) hx hb dL_rowOf_12 rfl hl (by decide) rfl (fun ls hl => ?_)
      refine lv_iconst (v := 1) hx hb dL_rowOf_13 (by decide) ?_
      refine W.widen (k := 2) (n := 12) (Nat.le_of_ble_eq_true rfl) (Nat.le_of_ble_eq_true rfl) ?_
      exact W.iret (v := (1 : Int32)) hx hb hr (fun t ht hW => ⟨⟨_, (fo, xv, nv), rfl, Option.some.inj hF, by rw [ht]; exact hP, hD⟩, hS.F ht⟩) hS.2.2 dL_rowOf_14
    · have hF := itn c3 hF
      by_cases c4 : k = 1
      · subst c4
        have hF := itp rfl hF
        refine vx_catch (E := eIS) (name := eIS) hown [⟨0, 9, 12, 62⟩] ⟨0, 9, 15, 15⟩ [] hTab (fun z hz => by obtain rfl := List.mem_singleton.mp hz; exact Or.inr ⟨by decide, _, hts _ w_classLink_L_62, hZ.2.2.2.2 (eIS, eIO) (by decide)⟩) (by decide) (by decide) (hts _ w_classLink_L_15) (hZ.2.2.2.1.use _ (by decide)) h9 hv9 hc9 ?_
        refine lv_astore_n (lv' := [(3, .ref q9), (0, .ref (x 0)), (1, .int p2), (2, .ref qo)]) hx hb dL_rowOf_15 rfl hl (by decide) rfl (fun ls hl => ?_)
        refine lv_iconst (v := 2) hx hb dL_rowOf_16 (by decide) ?_
        refine W.widen (k := 2) (n := 12) (Nat.le_of_ble_eq_true rfl) (Nat.le_of_ble_eq_true rfl) ?_
        exact W.iret (v := (2 : Int32)) hx hb hr (fun t ht hW => ⟨⟨_, (fo, xv, nv), rfl, Option.some.inj hF, by rw [ht]; exact hP, hD⟩, hS.F ht⟩) hS.2.2 dL_rowOf_17
      · have hF := itn c4 hF
        cases hF
  · skip
    have hw := hw.symm
    subst hw
    have hF := exc_r hF
    refine lv_i2l (v := (ro1).toInt64) hx hb dL_rowOf_7 rfl ?_
    refine va_last hx hb hK.1 hP hD hS 0 2 rfl rfl (i := (0 : Int32)) (x := ((ro1).toInt64)) (show ixok (0 : Int32) 1 by decide) dL_rowOf_8 (fun H locs hP hD hS => ?_)
    have hP : va_P (dC, dI) vwCl (([[cLo cyL qo 1 (vp_updL fo (0 : Int32).toNatClampNeg ((ro1).toInt64))], (cXo x an tr xv), (cH cyO (x 1) (x 2) 2 fl), (cXk cyI x xv), (cH cyO (x 4) (x 5) 6 fs), (cT cyI x (X_text xv)), (cSo an nv), (cG cyI an (S_green nv)), (cV cyI an (S_score nv))] : List va_W).flatten) H := hP
    have hD : va_D A (([[cLo cyL qo 1 (vp_updL fo (0 : Int32).toNatClampNeg ((ro1).toInt64))], (cXo x an tr xv), (cH cyO (x 1) (x 2) 2 fl), (cXk cyI x xv), (cH cyO (x 4) (x 5) 6 fs), (cT cyI x (X_text xv)), (cSo an nv), (cG cyI an (S_green nv)), (cV cyI an (S_score nv))] : List va_W).flatten) := hD
    refine lv_goto (tgt := 18) hx hb dL_rowOf_9 (by decide) ?_
    refine lv_iconst (v := 0) hx hb dL_rowOf_18 (by decide) ?_
    refine W.widen (k := 2) (n := 12) (Nat.le_of_ble_eq_true rfl) (Nat.le_of_ble_eq_true rfl) ?_
    exact W.iret (v := (0 : Int32)) hx hb hr (fun t ht hW => ⟨⟨_, ((vp_updL fo (0 : Int32).toNatClampNeg ((ro1).toInt64)), xv, nv), rfl, Option.some.inj hF, by rw [ht]; exact hP, hD⟩, hS.F ht⟩) hS.2.2 dL_rowOf_19
theorem dL_columnOf_0 : decode cL_columnOf 0 = .ok (.aload_n 2, 1) := by decide +kernel
theorem dL_columnOf_1 : decode cL_columnOf 1 = .ok (.iconst 0, 1) := by decide +kernel
theorem dL_columnOf_2 : decode cL_columnOf 2 = .ok (.aload_n 0, 1) := by decide +kernel
theorem dL_columnOf_3 : decode cL_columnOf 3 = .ok (.iload_n 1, 1) := by decide +kernel
theorem dL_columnOf_4 : decode cL_columnOf 4 = .ok (.invokevirtual 70, 3) := by decide +kernel
theorem dL_columnOf_7 : decode cL_columnOf 7 = .ok (.i2l, 1) := by decide +kernel
theorem dL_columnOf_8 : decode cL_columnOf 8 = .ok (.lastore, 1) := by decide +kernel
theorem dL_columnOf_9 : decode cL_columnOf 9 = .ok (.goto 9, 3) := by decide +kernel
theorem dL_columnOf_12 : decode cL_columnOf 12 = .ok (.astore_n 3, 1) := by decide +kernel
theorem dL_columnOf_13 : decode cL_columnOf 13 = .ok (.iconst 1, 1) := by decide +kernel
theorem dL_columnOf_14 : decode cL_columnOf 14 = .ok (.ireturn, 1) := by decide +kernel
theorem dL_columnOf_15 : decode cL_columnOf 15 = .ok (.astore_n 3, 1) := by decide +kernel
theorem dL_columnOf_16 : decode cL_columnOf 16 = .ok (.iconst 2, 1) := by decide +kernel
theorem dL_columnOf_17 : decode cL_columnOf 17 = .ok (.ireturn, 1) := by decide +kernel
theorem dL_columnOf_18 : decode cL_columnOf 18 = .ok (.iconst 0, 1) := by decide +kernel
theorem dL_columnOf_19 : decode cL_columnOf 19 = .ok (.ireturn, 1) := by decide +kernel
def f_L_columnOf (N : Nat) (fo : (Nat → Int64)) (xv : XV) (nv : SV) (p2 : Int32) : Option (Int32 × ((Nat → Int64) × XV × SV)) :=
  (f_X5_columnOf N xv nv p2).bind (fun o1 => exc o1 (fun k => (if k = 2 then some ((1 : Int32), (fo, xv, nv)) else if k = 1 then some ((2 : Int32), (fo, xv, nv)) else none)) (fun (ro1 : Int32) => some ((0 : Int32), ((vp_updL fo (0 : Int32).toNatClampNeg ((ro1).toInt64)), xv, nv))))
set_option maxHeartbeats 4000000 in
set_option maxRecDepth 100000 in
theorem met_L_columnOf (l : Launch) (z0 : Nat) (hst : l.stackTraces = false) (dC : Nat → ClassId) (dI : Nat → Nat → Nat) (cyI cyO cyL : ClassId) (qo : Nat) (x : Nat → Nat) (tr : Nat → Nat) (an : Nat → Nat) (fl fs : Nat → Option Nat) (sz : Nat) (N : Nat) (fo : (Nat → Int64)) (xv : XV) (nv : SV) (p2 : Int32) (out : Int32 × ((Nat → Int64) × XV × SV)) (hF : f_L_columnOf N fo xv nv p2 = some out) : Met l yL_columnOf (Cond.codeWith yL_columnOf cL_columnOf 4 (some .int) [(0, 9, 12, 62), (0, 9, 15, 15)] :: wT) ({ frames := 8, cells := 2, slots := 12, locals := 124 } : Room) (wWrX z0 dC dI cyI cyO cyL [.ref (x 0), .int p2, .ref qo] (([[cLo cyL qo 1 fo], (cXo x an tr xv), (cH cyO (x 1) (x 2) 2 fl), (cXk cyI x xv), (cH cyO (x 4) (x 5) 6 fs), (cT cyI x (X_text xv)), (cSo an nv), (cG cyI an (S_green nv)), (cV cyI an (S_score nv))] : List va_W).flatten) sz) (va_Qi (fun (r : Int32) (u : (Nat → Int64) × XV × SV) => (r, u) = out) (fun u t => va_P (dC, dI) vwCl (([[cLo cyL qo 1 u.1], (cXo x an tr u.2.1), (cH cyO (x 1) (x 2) 2 fl), (cXk cyI x u.2.1), (cH cyO (x 4) (x 5) 6 fs), (cT cyI x (X_text u.2.1)), (cSo an u.2.2), (cG cyI an (S_green u.2.2)), (cV cyI an (S_score u.2.2))] : List va_W).flatten) t.heap ∧ va_D (va_A (([[cLo cyL qo 1 fo], (cXo x an tr xv), (cH cyO (x 1) (x 2) 2 fl), (cXk cyI x xv), (cH cyO (x 4) (x 5) 6 fs), (cT cyI x (X_text xv)), (cSo an nv), (cG cyI an (S_green nv)), (cV cyI an (S_score nv))] : List va_W).flatten) sz) (([[cLo cyL qo 1 u.1], (cXo x an tr u.2.1), (cH cyO (x 1) (x 2) 2 fl), (cXk cyI x u.2.1), (cH cyO (x 4) (x 5) 6 fs), (cT cyI x (X_text u.2.1)), (cSo an u.2.2), (cG cyI an (S_green u.2.2)), (cV cyI an (S_score u.2.2))] : List va_W).flatten)) (va_A (([[cLo cyL qo 1 fo], (cXo x an tr xv), (cH cyO (x 1) (x 2) 2 fl), (cXk cyI x xv), (cH cyO (x 4) (x 5) 6 fs), (cT cyI x (X_text xv)), (cSo an nv), (cG cyI an (S_green nv)), (cV cyI an (S_score nv))] : List va_W).flatten) sz)) 2 12 (va_A (([[cLo cyL qo 1 fo], (cXo x an tr xv), (cH cyO (x 1) (x 2) 2 fl), (cXk cyI x xv), (cH cyO (x 4) (x 5) 6 fs), (cT cyI x (X_text xv)), (cSo an nv), (cG cyI an (S_green nv)), (cV cyI an (S_score nv))] : List va_W).flatten) sz) := by
  refine Met.ofWH (cc := cL_columnOf) (maxL := 4) (ret := (some .int)) (by decide) rfl ?_
  intro p e s m args below meth c s₁ B hml hv
  obtain ⟨rfl, hsz, hP, hK, hD0, hz0, hZ⟩ := hv
  have hTab := vx_table (x := yL_columnOf) B (atoms_spec (ws := (Cond.codeWith yL_columnOf cL_columnOf 4 (some .int) [(0, 9, 12, 62), (0, 9, 15, 15)] :: wT)) B.pre _ List.mem_cons_self)
  have hx := B.exec
  have hb := B.bytes
  have hr := B.returns
  have hts0 := atoms_spec (ws := (Cond.codeWith yL_columnOf cL_columnOf 4 (some .int) [(0, 9, 12, 62), (0, 9, 15, 15)] :: wT)) B.pre
  have hts := fun w h => hts0 w (List.mem_cons_of_mem _ h)
  clear hts0
  have hown : s.vm.findClass RL = some m.cls := findClass_of_methodNamed B.named
  have hlocks := B.notSynchronized
  subst hsz
  have hD := hD0.self (sz := s.heap.size)
  have hAz := wA_ge hD0 hz0
  generalize hAe : va_A (([[cLo cyL qo 1 fo], (cXo x an tr xv), (cH cyO (x 1) (x 2) 2 fl), (cXk cyI x xv), (cH cyO (x 4) (x 5) 6 fs), (cT cyI x (X_text xv)), (cSo an nv), (cG cyI an (S_green nv)), (cV cyI an (S_score nv))] : List va_W).flatten) s.heap.size = A at hD hAz ⊢
  have hA : ∀ q : Nat, s.heap.size ≤ q → A q := fun q h => by rw [← hAe]; exact Or.inr h
  clear hD0
  have hS : va_S A s.heap s.heap [] := va_S.rf
  have hl := lv_entry [.ref (x 0), .int p2, .ref qo] (n := 4) (Nat.le_of_ble_eq_true rfl)
  rw [lg_entry_eq]
  generalize (lg_sl [.ref (x 0), .int p2, .ref qo] ++ List.replicate (4 - (lg_sl [.ref (x 0), .int p2, .ref qo]).length) Slot.unset).toArray = ls at hl ⊢
  have hl : lv_has ls 4 [(0, .ref (x 0)), (1, .int p2), (2, .ref qo)] := hl
  unfold f_L_columnOf at hF
  refine lv_aload_n hx hb dL_columnOf_0 rfl (lv_at hl 2 rfl) ?_
  refine lv_iconst (v := 0) hx hb dL_columnOf_1 (by decide) ?_
  refine lv_aload_n hx hb dL_columnOf_2 rfl (lv_at hl 0 rfl) ?_
  refine lv_iload_n hx hb dL_columnOf_3 rfl (lv_at hl 1 rfl) ?_
  obtain ⟨o1, h2, hF⟩ := obd hF
  refine wxRVi (As := [.int p2]) (rest := [.int (0 : Int32), .ref qo]) (b := (x 0)) ⟨hx, hb, hml, hown, hts⟩ (met_X5_columnOf l z0 hst dC dI cyI cyO cyL x tr an fl fs N xv nv p2 o1 h2) (cwV 1 hts (gV w_methodLink_L_70 w_instanceMethod_X5_columnOf w_selects_X5_columnOf w_initialized_X5 w_code_X5_columnOf) rfl rfl rfl (by decide +kernel) ⟨Nat.le_of_ble_eq_true rfl, Nat.le_of_ble_eq_true rfl⟩) (va_recv hK.1 hP (ci := 5) (q0 := 1) rfl rfl) hP hK hZ hAz [1, 2, 3, 4, 5, 6, 7, 8, 9, 10, 11, 12, 13, 14, 15, 16, 17, 18, 19, 20, 21] rfl rfl hl.1 (Nat.le_of_ble_eq_true rfl) dL_columnOf_4 ⟨Nat.le_of_ble_eq_true rfl, Nat.le_of_ble_eq_true rfl⟩ hS (fun k ce q9 H locs hw hP hS h9 hv9 hc9 => ?_) (fun ro1 H locs hw hP hS => ?_)
  · have hw := hw.symm
    subst hw
    have hF := exc_l hF
    by_cases c3 : k = 2
    · subst c3
      have hF := itp rfl hF
      refine vx_catch (E := eIO) (name := eIO) hown [] ⟨0, 9, 12, 62⟩ [⟨0, 9, 15, 15⟩] hTab (fun z hz => nomatch hz) (by decide) (by decide) (hts _ w_classLink_L_62) (hZ.2.2.2.1.use _ (by decide)) h9 hv9 hc9 ?_
      refine lv_astore_n (lv' := [(3, .ref q9), (0, .ref (x 0)), (1, .int p2), (2, .ref qo)]) hx hb dL_columnOf_12 rfl hl (by decide) rfl (fun ls hl => ?_)
      refine lv_iconst (v := 1) hx hb dL_columnOf_13 (by decide) ?_
      refine W.widen (k := 2) (n := 12) (Nat.le_of_ble_eq_true rfl) (Nat.le_of_ble_eq_true rfl) ?_
      exact W.iret (v := (1 : Int32)) hx hb hr (fun t ht hW => ⟨⟨_, (fo, xv, nv), rfl, Option.some.inj hF, by rw [ht]; exact hP, hD⟩, hS.F ht⟩) hS.2.2 dL_columnOf_14
    · have hF := itn c3 hF
      by_cases c4 : k = 1
      · subst c4
        have hF := itp rfl hF
        refine vx_catch (E := eIS) (name := eIS) hown [⟨0, 9, 12, 62⟩] ⟨0, 9, 15, 15⟩ [] hTab (fun z hz => by obtain rfl := List.mem_singleton.mp hz; exact Or.inr ⟨by decide, _, hts _ w_classLink_L_62, hZ.2.2.2.2 (eIS, eIO) (by decide)⟩) (by decide) (by decide) (hts _ w_classLink_L_15) (hZ.2.2.2.1.use _ (by decide)) h9 hv9 hc9 ?_
        refine lv_astore_n (lv' := [(3, .ref q9), (0, .ref (x 0)), (1, .int p2), (2, .ref qo)]) hx hb dL_columnOf_15 rfl hl (by decide) rfl (fun ls hl => ?_)
        refine lv_iconst (v := 2) hx hb dL_columnOf_16 (by decide) ?_
        refine W.widen (k := 2) (n := 12) (Nat.le_of_ble_eq_true rfl) (Nat.le_of_ble_eq_true rfl) ?_
        exact W.iret (v := (2 : Int32)) hx hb hr (fun t ht hW => ⟨⟨_, (fo, xv, nv), rfl, Option.some.inj hF, by rw [ht]; exact hP, hD⟩, hS.F ht⟩) hS.2.2 dL_columnOf_17
      · have hF := itn c4 hF
        cases hF
  · skip
    have hw := hw.symm
    subst hw
    have hF := exc_r hF
    refine lv_i2l (v := (ro1).toInt64) hx hb dL_columnOf_7 rfl ?_
    refine va_last hx hb hK.1 hP hD hS 0 2 rfl rfl (i := (0 : Int32)) (x := ((ro1).toInt64)) (show ixok (0 : Int32) 1 by decide) dL_columnOf_8 (fun H locs hP hD hS => ?_)
    have hP : va_P (dC, dI) vwCl (([[cLo cyL qo 1 (vp_updL fo (0 : Int32).toNatClampNeg ((ro1).toInt64))], (cXo x an tr xv), (cH cyO (x 1) (x 2) 2 fl), (cXk cyI x xv), (cH cyO (x 4) (x 5) 6 fs), (cT cyI x (X_text xv)), (cSo an nv), (cG cyI an (S_green nv)), (cV cyI an (S_score nv))] : List va_W).flatten) H := hP
    have hD : va_D A (([[cLo cyL qo 1 (vp_updL fo (0 : Int32).toNatClampNeg ((ro1).toInt64))], (cXo x an tr xv), (cH cyO (x 1) (x 2) 2 fl), (cXk cyI x xv), (cH cyO (x 4) (x 5) 6 fs), (cT cyI x (X_text xv)), (cSo an nv), (cG cyI an (S_green nv)), (cV cyI an (S_score nv))] : List va_W).flatten) := hD
    refine lv_goto (tgt := 18) hx hb dL_columnOf_9 (by decide) ?_
    refine lv_iconst (v := 0) hx hb dL_columnOf_18 (by decide) ?_
    refine W.widen (k := 2) (n := 12) (Nat.le_of_ble_eq_true rfl) (Nat.le_of_ble_eq_true rfl) ?_
    exact W.iret (v := (0 : Int32)) hx hb hr (fun t ht hW => ⟨⟨_, ((vp_updL fo (0 : Int32).toNatClampNeg ((ro1).toInt64)), xv, nv), rfl, Option.some.inj hF, by rw [ht]; exact hP, hD⟩, hS.F ht⟩) hS.2.2 dL_columnOf_19
theorem dL_isToucher_0 : decode cL_isToucher 0 = .ok (.aload_n 2, 1) := by decide +kernel
theorem dL_isToucher_1 : decode cL_isToucher 1 = .ok (.iconst 0, 1) := by decide +kernel
theorem dL_isToucher_2 : decode cL_isToucher 2 = .ok (.aload_n 0, 1) := by decide +kernel
theorem dL_isToucher_3 : decode cL_isToucher 3 = .ok (.iload_n 1, 1) := by decide +kernel
theorem dL_isToucher_4 : decode cL_isToucher 4 = .ok (.invokevirtual 73, 3) := by decide +kernel
theorem dL_isToucher_7 : decode cL_isToucher 7 = .ok (.ifCond .eq 7, 3) := by decide +kernel
theorem dL_isToucher_10 : decode cL_isToucher 10 = .ok (.lconst 1, 1) := by decide +kernel
theorem dL_isToucher_11 : decode cL_isToucher 11 = .ok (.goto 4, 3) := by decide +kernel
theorem dL_isToucher_14 : decode cL_isToucher 14 = .ok (.lconst 0, 1) := by decide +kernel
theorem dL_isToucher_15 : decode cL_isToucher 15 = .ok (.lastore, 1) := by decide +kernel
theorem dL_isToucher_16 : decode cL_isToucher 16 = .ok (.goto 6, 3) := by decide +kernel
theorem dL_isToucher_19 : decode cL_isToucher 19 = .ok (.astore_n 3, 1) := by decide +kernel
theorem dL_isToucher_20 : decode cL_isToucher 20 = .ok (.iconst 1, 1) := by decide +kernel
theorem dL_isToucher_21 : decode cL_isToucher 21 = .ok (.ireturn, 1) := by decide +kernel
theorem dL_isToucher_22 : decode cL_isToucher 22 = .ok (.iconst 0, 1) := by decide +kernel
theorem dL_isToucher_23 : decode cL_isToucher 23 = .ok (.ireturn, 1) := by decide +kernel
def f_L_isToucher (N : Nat) (fo : (Nat → Int64)) (xv : XV) (nv : SV) (p2 : Int32) : Option (Int32 × ((Nat → Int64) × XV × SV)) :=
  (f_X5_isToucher N xv nv p2).bind (fun o1 => exc o1 (fun k => (if k = 2 then some ((1 : Int32), (fo, xv, nv)) else none)) (fun (ro1 : Int32) => jn (fun (s15 : Int64) => some ((0 : Int32), ((vp_updL fo (0 : Int32).toNatClampNeg s15), xv, nv))) (fun (j15 : (Int64) → Option (Int32 × ((Nat → Int64) × XV × SV))) => (if ro1 = 0 then j15 (0 : Int64) else j15 (1 : Int64)))))
set_option maxHeartbeats 4000000 in
set_option maxRecDepth 100000 in
theorem met_L_isToucher (l : Launch) (z0 : Nat) (hst : l.stackTraces = false) (dC : Nat → ClassId) (dI : Nat → Nat → Nat) (cyI cyO cyL : ClassId) (qo : Nat) (x : Nat → Nat) (tr : Nat → Nat) (an : Nat → Nat) (fl fs : Nat → Option Nat) (sz : Nat) (N : Nat) (fo : (Nat → Int64)) (xv : XV) (nv : SV) (p2 : Int32) (out : Int32 × ((Nat → Int64) × XV × SV)) (hF : f_L_isToucher N fo xv nv p2 = some out) : Met l yL_isToucher (Cond.codeWith yL_isToucher cL_isToucher 4 (some .int) [(0, 16, 19, 62)] :: wT) ({ frames := 8, cells := 1, slots := 6, locals := 124 } : Room) (wWrX z0 dC dI cyI cyO cyL [.ref (x 0), .int p2, .ref qo] (([[cLo cyL qo 1 fo], (cXo x an tr xv), (cH cyO (x 1) (x 2) 2 fl), (cXk cyI x xv), (cH cyO (x 4) (x 5) 6 fs), (cT cyI x (X_text xv)), (cSo an nv), (cG cyI an (S_green nv)), (cV cyI an (S_score nv))] : List va_W).flatten) sz) (va_Qi (fun (r : Int32) (u : (Nat → Int64) × XV × SV) => (r, u) = out) (fun u t => va_P (dC, dI) vwCl (([[cLo cyL qo 1 u.1], (cXo x an tr u.2.1), (cH cyO (x 1) (x 2) 2 fl), (cXk cyI x u.2.1), (cH cyO (x 4) (x 5) 6 fs), (cT cyI x (X_text u.2.1)), (cSo an u.2.2), (cG cyI an (S_green u.2.2)), (cV cyI an (S_score u.2.2))] : List va_W).flatten) t.heap ∧ va_D (va_A (([[cLo cyL qo 1 fo], (cXo x an tr xv), (cH cyO (x 1) (x 2) 2 fl), (cXk cyI x xv), (cH cyO (x 4) (x 5) 6 fs), (cT cyI x (X_text xv)), (cSo an nv), (cG cyI an (S_green nv)), (cV cyI an (S_score nv))] : List va_W).flatten) sz) (([[cLo cyL qo 1 u.1], (cXo x an tr u.2.1), (cH cyO (x 1) (x 2) 2 fl), (cXk cyI x u.2.1), (cH cyO (x 4) (x 5) 6 fs), (cT cyI x (X_text u.2.1)), (cSo an u.2.2), (cG cyI an (S_green u.2.2)), (cV cyI an (S_score u.2.2))] : List va_W).flatten)) (va_A (([[cLo cyL qo 1 fo], (cXo x an tr xv), (cH cyO (x 1) (x 2) 2 fl), (cXk cyI x xv), (cH cyO (x 4) (x 5) 6 fs), (cT cyI x (X_text xv)), (cSo an nv), (cG cyI an (S_green nv)), (cV cyI an (S_score nv))] : List va_W).flatten) sz)) 1 6 (va_A (([[cLo cyL qo 1 fo], (cXo x an tr xv), (cH cyO (x 1) (x 2) 2 fl), (cXk cyI x xv), (cH cyO (x 4) (x 5) 6 fs), (cT cyI x (X_text xv)), (cSo an nv), (cG cyI an (S_green nv)), (cV cyI an (S_score nv))] : List va_W).flatten) sz) := by
  refine Met.ofWH (cc := cL_isToucher) (maxL := 4) (ret := (some .int)) (by decide) rfl ?_
  intro p e s m args below meth c s₁ B hml hv
  obtain ⟨rfl, hsz, hP, hK, hD0, hz0, hZ⟩ := hv
  have hTab := vx_table (x := yL_isToucher) B (atoms_spec (ws := (Cond.codeWith yL_isToucher cL_isToucher 4 (some .int) [(0, 16, 19, 62)] :: wT)) B.pre _ List.mem_cons_self)
  have hx := B.exec
  have hb := B.bytes
  have hr := B.returns
  have hts0 := atoms_spec (ws := (Cond.codeWith yL_isToucher cL_isToucher 4 (some .int) [(0, 16, 19, 62)] :: wT)) B.pre
  have hts := fun w h => hts0 w (List.mem_cons_of_mem _ h)
  clear hts0
  have hown : s.vm.findClass RL = some m.cls := findClass_of_methodNamed B.named
  have hlocks := B.notSynchronized
  subst hsz
  have hD := hD0.self (sz := s.heap.size)
  have hAz := wA_ge hD0 hz0
  generalize hAe : va_A (([[cLo cyL qo 1 fo], (cXo x an tr xv), (cH cyO (x 1) (x 2) 2 fl), (cXk cyI x xv), (cH cyO (x 4) (x 5) 6 fs), (cT cyI x (X_text xv)), (cSo an nv), (cG cyI an (S_green nv)), (cV cyI an (S_score nv))] : List va_W).flatten) s.heap.size = A at hD hAz ⊢
  have hA : ∀ q : Nat, s.heap.size ≤ q → A q := fun q h => by rw [← hAe]; exact Or.inr h
  clear hD0
  have hS : va_S A s.heap s.heap [] := va_S.rf
  have hl := lv_entry [.ref (x 0), .int p2, .ref qo] (n := 4) (Nat.le_of_ble_eq_true rfl)
  rw [lg_entry_eq]
  generalize (lg_sl [.ref (x 0), .int p2, .ref qo] ++ List.replicate (4 - (lg_sl [.ref (x 0), .int p2, .ref qo]).length) Slot.unset).toArray = ls at hl ⊢
  have hl : lv_has ls 4 [(0, .ref (x 0)), (1, .int p2), (2, .ref qo)] := hl
  unfold f_L_isToucher at hF
  refine lv_aload_n hx hb dL_isToucher_0 rfl (lv_at hl 2 rfl) ?_
  refine lv_iconst (v := 0) hx hb dL_isToucher_1 (by decide) ?_
  refine lv_aload_n hx hb dL_isToucher_2 rfl (lv_at hl 0 rfl) ?_
  refine lv_iload_n hx hb dL_isToucher_3 rfl (lv_at hl 1 rfl) ?_
  obtain ⟨o1, h2, hF⟩ := obd hF
  refine wxRVi (As := [.int p2]) (rest := [.int (0 : Int32), .ref qo]) (b := (x 0)) ⟨hx, hb, hml, hown, hts⟩ (met_X5_isToucher l z0 hst dC dI cyI cyO cyL x tr an fl fs N xv nv p2 o1 h2) (cwV 1 hts (gV w_methodLink_L_73 w_instanceMethod_X5_isToucher w_selects_X5_isToucher w_initialized_X5 w_code_X5_isToucher) rfl rfl rfl (by decide +kernel) ⟨Nat.le_of_ble_eq_true rfl, Nat.le_of_ble_eq_true rfl⟩) (va_recv hK.1 hP (ci := 5) (q0 := 1) rfl rfl) hP hK hZ hAz [1, 2, 3, 4, 5, 6, 7, 8, 9, 10, 11, 12, 13, 14, 15, 16, 17, 18, 19, 20, 21] rfl rfl hl.1 (Nat.le_of_ble_eq_true rfl) dL_isToucher_4 ⟨Nat.le_of_ble_eq_true rfl, Nat.le_of_ble_eq_true rfl⟩ hS (fun k ce q9 H locs hw hP hS h9 hv9 hc9 => ?_) (fun ro1 H locs hw hP hS => ?_)
  · have hw := hw.symm
    subst hw
    have hF := exc_l hF
    by_cases c3 : k = 2
    · subst c3
      have hF := itp rfl hF
      refine vx_catch (E := eIO) (name := eIO) hown [] ⟨0, 16, 19, 62⟩ [] hTab (fun z hz => nomatch hz) (by decide) (by decide) (hts _ w_classLink_L_62) (hZ.2.2.2.1.use _ (by decide)) h9 hv9 hc9 ?_
      refine lv_astore_n (lv' := [(3, .ref q9), (0, .ref (x 0)), (1, .int p2), (2, .ref qo)]) hx hb dL_isToucher_19 rfl hl (by decide) rfl (fun ls hl => ?_)
      refine lv_iconst (v := 1) hx hb dL_isToucher_20 (by decide) ?_
      refine W.widen (k := 1) (n := 6) (Nat.le_of_ble_eq_true rfl) (Nat.le_of_ble_eq_true rfl) ?_
      exact W.iret (v := (1 : Int32)) hx hb hr (fun t ht hW => ⟨⟨_, (fo, xv, nv), rfl, Option.some.inj hF, by rw [ht]; exact hP, hD⟩, hS.F ht⟩) hS.2.2 dL_isToucher_21
    · have hF := itn c3 hF
      cases hF
  · skip
    obtain ⟨hw, hz4⟩ := hw
    have hw := hw.symm
    subst hw
    have hF := exc_r hF
    obtain ⟨j15, hj15, hF⟩ := jn_use hF
    have hJ15 : ∀ (s15 : Int64) (H : Heap) (locs : List Loc) (ls : Array Slot), va_P (dC, dI) vwCl (([[cLo cyL qo 1 fo], (cXo x an tr xv), (cH cyO (x 1) (x 2) 2 fl), (cXk cyI x xv), (cH cyO (x 4) (x 5) 6 fs), (cT cyI x (X_text xv)), (cSo an nv), (cG cyI an (S_green nv)), (cV cyI an (S_score nv))] : List va_W).flatten) H → va_D A (([[cLo cyL qo 1 fo], (cXo x an tr xv), (cH cyO (x 1) (x 2) 2 fl), (cXk cyI x xv), (cH cyO (x 4) (x 5) 6 fs), (cT cyI x (X_text xv)), (cSo an nv), (cG cyI an (S_green nv)), (cV cyI an (S_score nv))] : List va_W).flatten) → va_S A s.heap H locs → lv_has ls 4 [] → j15 s15 = some out → W p l e (headSpec (Cond.codeWith yL_isToucher cL_isToucher 4 (some .int) [(0, 16, 19, 62)] :: wT) ({ frames := 8, cells := 1, slots := 6, locals := 124 } : Room)).room s m ([.ref (x 0), .int p2, .ref qo] : List Value).toArray below meth c H locs (0 + 1) (0 + 6) (MQ below (va_Qi (fun (r : Int32) (u : (Nat → Int64) × XV × SV) => (r, u) = out) (fun u t => va_P (dC, dI) vwCl (([[cLo cyL qo 1 u.1], (cXo x an tr u.2.1), (cH cyO (x 1) (x 2) 2 fl), (cXk cyI x u.2.1), (cH cyO (x 4) (x 5) 6 fs), (cT cyI x (X_text u.2.1)), (cSo an u.2.2), (cG cyI an (S_green u.2.2)), (cV cyI an (S_score u.2.2))] : List va_W).flatten) t.heap ∧ va_D A (([[cLo cyL qo 1 u.1], (cXo x an tr u.2.1), (cH cyO (x 1) (x 2) 2 fl), (cXk cyI x u.2.1), (cH cyO (x 4) (x 5) 6 fs), (cT cyI x (X_text u.2.1)), (cSo an u.2.2), (cG cyI an (S_green u.2.2)), (cV cyI an (S_score u.2.2))] : List va_W).flatten)) A) ([.ref (x 0), .int p2, .ref qo] : List Value).toArray s 1 6 A) (F0 m 15 ls [.long s15, .int (0 : Int32), .ref qo]) := by
      intro s15 H locs ls hP hD hS hl hF
      have hF := (congrFun hj15 s15).symm.trans hF
      refine va_last hx hb hK.1 hP hD hS 0 2 rfl rfl (i := (0 : Int32)) (x := s15) (show ixok (0 : Int32) 1 by decide) dL_isToucher_15 (fun H locs hP hD hS => ?_)
      have hP : va_P (dC, dI) vwCl (([[cLo cyL qo 1 (vp_updL fo (0 : Int32).toNatClampNeg s15)], (cXo x an tr xv), (cH cyO (x 1) (x 2) 2 fl), (cXk cyI x xv), (cH cyO (x 4) (x 5) 6 fs), (cT cyI x (X_text xv)), (cSo an nv), (cG cyI an (S_green nv)), (cV cyI an (S_score nv))] : List va_W).flatten) H := hP
      have hD : va_D A (([[cLo cyL qo 1 (vp_updL fo (0 : Int32).toNatClampNeg s15)], (cXo x an tr xv), (cH cyO (x 1) (x 2) 2 fl), (cXk cyI x xv), (cH cyO (x 4) (x 5) 6 fs), (cT cyI x (X_text xv)), (cSo an nv), (cG cyI an (S_green nv)), (cV cyI an (S_score nv))] : List va_W).flatten) := hD
      refine lv_goto (tgt := 22) hx hb dL_isToucher_16 (by decide) ?_
      refine lv_iconst (v := 0) hx hb dL_isToucher_22 (by decide) ?_
      refine W.widen (k := 1) (n := 6) (Nat.le_of_ble_eq_true rfl) (Nat.le_of_ble_eq_true rfl) ?_
      exact W.iret (v := (0 : Int32)) hx hb hr (fun t ht hW => ⟨⟨_, ((vp_updL fo (0 : Int32).toNatClampNeg s15), xv, nv), rfl, Option.some.inj hF, by rw [ht]; exact hP, hD⟩, hS.F ht⟩) hS.2.2 dL_isToucher_23
    refine lv_if_eq (tgt := 14) hx hb dL_isToucher_7 (by decide) (fun c6 => ?_) (fun c6 => ?_)
    · have hF := itp c6 hF
      refine lv_lconst (v := 0) hx hb dL_isToucher_14 (by decide) ?_
      exact hJ15 (0 : Int64) _ _ _ hP hD hS (lv_sub hl [] rfl) hF
    · have hF := itn c6 hF
      refine lv_lconst (v := 1) hx hb dL_isToucher_10 (by decide) ?_
      refine lv_goto (tgt := 15) hx hb dL_isToucher_11 (by decide) ?_
      exact hJ15 (1 : Int64) _ _ _ hP hD hS (lv_sub hl [] rfl) hF
theorem dL_distanceOf_0 : decode cL_distanceOf 0 = .ok (.aload_n 2, 1) := by decide +kernel
theorem dL_distanceOf_1 : decode cL_distanceOf 1 = .ok (.iconst 0, 1) := by decide +kernel
theorem dL_distanceOf_2 : decode cL_distanceOf 2 = .ok (.aload_n 0, 1) := by decide +kernel
theorem dL_distanceOf_3 : decode cL_distanceOf 3 = .ok (.iload_n 1, 1) := by decide +kernel
theorem dL_distanceOf_4 : decode cL_distanceOf 4 = .ok (.invokevirtual 77, 3) := by decide +kernel
theorem dL_distanceOf_7 : decode cL_distanceOf 7 = .ok (.i2l, 1) := by decide +kernel
theorem dL_distanceOf_8 : decode cL_distanceOf 8 = .ok (.lastore, 1) := by decide +kernel
theorem dL_distanceOf_9 : decode cL_distanceOf 9 = .ok (.goto 9, 3) := by decide +kernel
theorem dL_distanceOf_12 : decode cL_distanceOf 12 = .ok (.astore_n 3, 1) := by decide +kernel
theorem dL_distanceOf_13 : decode cL_distanceOf 13 = .ok (.iconst 1, 1) := by decide +kernel
theorem dL_distanceOf_14 : decode cL_distanceOf 14 = .ok (.ireturn, 1) := by decide +kernel
theorem dL_distanceOf_15 : decode cL_distanceOf 15 = .ok (.astore_n 3, 1) := by decide +kernel
theorem dL_distanceOf_16 : decode cL_distanceOf 16 = .ok (.iconst 2, 1) := by decide +kernel
theorem dL_distanceOf_17 : decode cL_distanceOf 17 = .ok (.ireturn, 1) := by decide +kernel
theorem dL_distanceOf_18 : decode cL_distanceOf 18 = .ok (.iconst 0, 1) := by decide +kernel
theorem dL_distanceOf_19 : decode cL_distanceOf 19 = .ok (.ireturn, 1) := by decide +kernel
def f_L_distanceOf (N : Nat) (fo : (Nat → Int64)) (xv : XV) (nv : SV) (p2 : Int32) : Option (Int32 × ((Nat → Int64) × XV × SV)) :=
  (f_X5_distanceOf N xv nv p2).bind (fun o1 => exc o1 (fun k => (if k = 2 then some ((1 : Int32), (fo, xv, nv)) else if k = 1 then some ((2 : Int32), (fo, xv, nv)) else none)) (fun (ro1 : Int32) => some ((0 : Int32), ((vp_updL fo (0 : Int32).toNatClampNeg ((ro1).toInt64)), xv, nv))))
set_option maxHeartbeats 4000000 in
set_option maxRecDepth 100000 in
theorem met_L_distanceOf (l : Launch) (z0 : Nat) (hst : l.stackTraces = false) (dC : Nat → ClassId) (dI : Nat → Nat → Nat) (cyI cyO cyL : ClassId) (qo : Nat) (x : Nat → Nat) (tr : Nat → Nat) (an : Nat → Nat) (fl fs : Nat → Option Nat) (sz : Nat) (N : Nat) (fo : (Nat → Int64)) (xv : XV) (nv : SV) (p2 : Int32) (out : Int32 × ((Nat → Int64) × XV × SV)) (hF : f_L_distanceOf N fo xv nv p2 = some out) : Met l yL_distanceOf (Cond.codeWith yL_distanceOf cL_distanceOf 4 (some .int) [(0, 9, 12, 62), (0, 9, 15, 15)] :: wT) ({ frames := 8, cells := 3, slots := 18, locals := 124 } : Room) (wWrX z0 dC dI cyI cyO cyL [.ref (x 0), .int p2, .ref qo] (([[cLo cyL qo 1 fo], (cXo x an tr xv), (cH cyO (x 1) (x 2) 2 fl), (cXk cyI x xv), (cH cyO (x 4) (x 5) 6 fs), (cT cyI x (X_text xv)), (cSo an nv), (cG cyI an (S_green nv)), (cV cyI an (S_score nv))] : List va_W).flatten) sz) (va_Qi (fun (r : Int32) (u : (Nat → Int64) × XV × SV) => (r, u) = out) (fun u t => va_P (dC, dI) vwCl (([[cLo cyL qo 1 u.1], (cXo x an tr u.2.1), (cH cyO (x 1) (x 2) 2 fl), (cXk cyI x u.2.1), (cH cyO (x 4) (x 5) 6 fs), (cT cyI x (X_text u.2.1)), (cSo an u.2.2), (cG cyI an (S_green u.2.2)), (cV cyI an (S_score u.2.2))] : List va_W).flatten) t.heap ∧ va_D (va_A (([[cLo cyL qo 1 fo], (cXo x an tr xv), (cH cyO (x 1) (x 2) 2 fl), (cXk cyI x xv), (cH cyO (x 4) (x 5) 6 fs), (cT cyI x (X_text xv)), (cSo an nv), (cG cyI an (S_green nv)), (cV cyI an (S_score nv))] : List va_W).flatten) sz) (([[cLo cyL qo 1 u.1], (cXo x an tr u.2.1), (cH cyO (x 1) (x 2) 2 fl), (cXk cyI x u.2.1), (cH cyO (x 4) (x 5) 6 fs), (cT cyI x (X_text u.2.1)), (cSo an u.2.2), (cG cyI an (S_green u.2.2)), (cV cyI an (S_score u.2.2))] : List va_W).flatten)) (va_A (([[cLo cyL qo 1 fo], (cXo x an tr xv), (cH cyO (x 1) (x 2) 2 fl), (cXk cyI x xv), (cH cyO (x 4) (x 5) 6 fs), (cT cyI x (X_text xv)), (cSo an nv), (cG cyI an (S_green nv)), (cV cyI an (S_score nv))] : List va_W).flatten) sz)) 3 18 (va_A (([[cLo cyL qo 1 fo], (cXo x an tr xv), (cH cyO (x 1) (x 2) 2 fl), (cXk cyI x xv), (cH cyO (x 4) (x 5) 6 fs), (cT cyI x (X_text xv)), (cSo an nv), (cG cyI an (S_green nv)), (cV cyI an (S_score nv))] : List va_W).flatten) sz) := by
  refine Met.ofWH (cc := cL_distanceOf) (maxL := 4) (ret := (some .int)) (by decide) rfl ?_
  intro p e s m args below meth c s₁ B hml hv
  obtain ⟨rfl, hsz, hP, hK, hD0, hz0, hZ⟩ := hv
  have hTab := vx_table (x := yL_distanceOf) B (atoms_spec (ws := (Cond.codeWith yL_distanceOf cL_distanceOf 4 (some .int) [(0, 9, 12, 62), (0, 9, 15, 15)] :: wT)) B.pre _ List.mem_cons_self)
  have hx := B.exec
  have hb := B.bytes
  have hr := B.returns
  have hts0 := atoms_spec (ws := (Cond.codeWith yL_distanceOf cL_distanceOf 4 (some .int) [(0, 9, 12, 62), (0, 9, 15, 15)] :: wT)) B.pre
  have hts := fun w h => hts0 w (List.mem_cons_of_mem _ h)
  clear hts0
  have hown : s.vm.findClass RL = some m.cls := findClass_of_methodNamed B.named
  have hlocks := B.notSynchronized
  subst hsz
  have hD := hD0.self (sz := s.heap.size)
  have hAz := wA_ge hD0 hz0
  generalize hAe : va_A (([[cLo cyL qo 1 fo], (cXo x an tr xv), (cH cyO (x 1) (x 2) 2 fl), (cXk cyI x xv), (cH cyO (x 4) (x 5) 6 fs), (cT cyI x (X_text xv)), (cSo an nv), (cG cyI an (S_green nv)), (cV cyI an (S_score nv))] : List va_W).flatten) s.heap.size = A at hD hAz ⊢
  have hA : ∀ q : Nat, s.heap.size ≤ q → A q := fun q h => by rw [← hAe]; exact Or.inr h
  clear hD0
  have hS : va_S A s.heap s.heap [] := va_S.rf
  have hl := lv_entry [.ref (x 0), .int p2, .ref qo] (n := 4) (Nat.le_of_ble_eq_true rfl)
  rw [lg_entry_eq]
  generalize (lg_sl [.ref (x 0), .int p2, .ref qo] ++ List.replicate (4 - (lg_sl [.ref (x 0), .int p2, .ref qo]).length) Slot.unset).toArray = ls at hl ⊢
  have hl : lv_has ls 4 [(0, .ref (x 0)), (1, .int p2), (2, .ref qo)] := hl
  unfold f_L_distanceOf at hF
  refine lv_aload_n hx hb dL_distanceOf_0 rfl (lv_at hl 2 rfl) ?_
  refine lv_iconst (v := 0) hx hb dL_distanceOf_1 (by decide) ?_
  refine lv_aload_n hx hb dL_distanceOf_2 rfl (lv_at hl 0 rfl) ?_
  refine lv_iload_n hx hb dL_distanceOf_3 rfl (lv_at hl 1 rfl) ?_
  obtain ⟨o1, h2, hF⟩ := obd hF
  refine wxRVi (As := [.int p2]) (rest := [.int (0 : Int32), .ref qo]) (b := (x 0)) ⟨hx, hb, hml, hown, hts⟩ (met_X5_distanceOf l z0 hst dC dI cyI cyO cyL x tr an fl fs N xv nv p2 o1 h2) (cwV 1 hts (gV w_methodLink_L_77 w_instanceMethod_X5_distanceOf w_selects_X5_distanceOf w_initialized_X5 w_code_X5_distanceOf) rfl rfl rfl (by decide +kernel) ⟨Nat.le_of_ble_eq_true rfl, Nat.le_of_ble_eq_true rfl⟩) (va_recv hK.1 hP (ci := 5) (q0 := 1) rfl rfl) hP hK hZ hAz [1, 2, 3, 4, 5, 6, 7, 8, 9, 10, 11, 12, 13, 14, 15, 16, 17, 18, 19, 20, 21] rfl rfl hl.1 (Nat.le_of_ble_eq_true rfl) dL_distanceOf_4 ⟨Nat.le_of_ble_eq_true rfl, Nat.le_of_ble_eq_true rfl⟩ hS (fun k ce q9 H locs hw hP hS h9 hv9 hc9 => ?_) (fun ro1 H locs hw hP hS => ?_)
  · have hw := hw.symm
    subst hw
    have hF := exc_l hF
    by_cases c3 : k = 2
    · subst c3
      have hF := itp rfl hF
      refine vx_catch (E := eIO) (name := eIO) hown [] ⟨0, 9, 12, 62⟩ [⟨0, 9, 15, 15⟩] hTab (fun z hz => nomatch hz) (by decide) (by decide) (hts _ w_classLink_L_62) (hZ.2.2.2.1.use _ (by decide)) h9 hv9 hc9 ?_
      refine lv_astore_n (lv' := [(3, .ref q9), (0, .ref (x 0)), (1, .int p2), (2, .ref qo)]) hx hb dL_distanceOf_12 rfl hl (by decide) rfl (fun ls hl => ?_)
      refine lv_iconst (v := 1) hx hb dL_distanceOf_13 (by decide) ?_
      refine W.widen (k := 3) (n := 18) (Nat.le_of_ble_eq_true rfl) (Nat.le_of_ble_eq_true rfl) ?_
      exact W.iret (v := (1 : Int32)) hx hb hr (fun t ht hW => ⟨⟨_, (fo, xv, nv), rfl, Option.some.inj hF, by rw [ht]; exact hP, hD⟩, hS.F ht⟩) hS.2.2 dL_distanceOf_14
    · have hF := itn c3 hF
      by_cases c4 : k = 1
      · subst c4
        have hF := itp rfl hF
        refine vx_catch (E := eIS) (name := eIS) hown [⟨0, 9, 12, 62⟩] ⟨0, 9, 15, 15⟩ [] hTab (fun z hz => by obtain rfl := List.mem_singleton.mp hz; exact Or.inr ⟨by decide, _, hts _ w_classLink_L_62, hZ.2.2.2.2 (eIS, eIO) (by decide)⟩) (by decide) (by decide) (hts _ w_classLink_L_15) (hZ.2.2.2.1.use _ (by decide)) h9 hv9 hc9 ?_
        refine lv_astore_n (lv' := [(3, .ref q9), (0, .ref (x 0)), (1, .int p2), (2, .ref qo)]) hx hb dL_distanceOf_15 rfl hl (by decide) rfl (fun ls hl => ?_)
        refine lv_iconst (v := 2) hx hb dL_distanceOf_16 (by decide) ?_
        refine W.widen (k := 3) (n := 18) (Nat.le_of_ble_eq_true rfl) (Nat.le_of_ble_eq_true rfl) ?_
        exact W.iret (v := (2 : Int32)) hx hb hr (fun t ht hW => ⟨⟨_, (fo, xv, nv), rfl, Option.some.inj hF, by rw [ht]; exact hP, hD⟩, hS.F ht⟩) hS.2.2 dL_distanceOf_17
      · have hF := itn c4 hF
        cases hF
  · skip
    have hw := hw.symm
    subst hw
    have hF := exc_r hF
    refine lv_i2l (v := (ro1).toInt64) hx hb dL_distanceOf_7 rfl ?_
    refine va_last hx hb hK.1 hP hD hS 0 2 rfl rfl (i := (0 : Int32)) (x := ((ro1).toInt64)) (show ixok (0 : Int32) 1 by decide) dL_distanceOf_8 (fun H locs hP hD hS => ?_)
    have hP : va_P (dC, dI) vwCl (([[cLo cyL qo 1 (vp_updL fo (0 : Int32).toNatClampNeg ((ro1).toInt64))], (cXo x an tr xv), (cH cyO (x 1) (x 2) 2 fl), (cXk cyI x xv), (cH cyO (x 4) (x 5) 6 fs), (cT cyI x (X_text xv)), (cSo an nv), (cG cyI an (S_green nv)), (cV cyI an (S_score nv))] : List va_W).flatten) H := hP
    have hD : va_D A (([[cLo cyL qo 1 (vp_updL fo (0 : Int32).toNatClampNeg ((ro1).toInt64))], (cXo x an tr xv), (cH cyO (x 1) (x 2) 2 fl), (cXk cyI x xv), (cH cyO (x 4) (x 5) 6 fs), (cT cyI x (X_text xv)), (cSo an nv), (cG cyI an (S_green nv)), (cV cyI an (S_score nv))] : List va_W).flatten) := hD
    refine lv_goto (tgt := 18) hx hb dL_distanceOf_9 (by decide) ?_
    refine lv_iconst (v := 0) hx hb dL_distanceOf_18 (by decide) ?_
    refine W.widen (k := 3) (n := 18) (Nat.le_of_ble_eq_true rfl) (Nat.le_of_ble_eq_true rfl) ?_
    exact W.iret (v := (0 : Int32)) hx hb hr (fun t ht hW => ⟨⟨_, ((vp_updL fo (0 : Int32).toNatClampNeg ((ro1).toInt64)), xv, nv), rfl, Option.some.inj hF, by rw [ht]; exact hP, hD⟩, hS.F ht⟩) hS.2.2 dL_distanceOf_19
theorem dL_bowlAt_0 : decode cL_bowlAt 0 = .ok (.aload_n 3, 1) := by decide +kernel
theorem dL_bowlAt_1 : decode cL_bowlAt 1 = .ok (.iconst 0, 1) := by decide +kernel
theorem dL_bowlAt_2 : decode cL_bowlAt 2 = .ok (.aload_n 0, 1) := by decide +kernel
theorem dL_bowlAt_3 : decode cL_bowlAt 3 = .ok (.iload_n 1, 1) := by decide +kernel
theorem dL_bowlAt_4 : decode cL_bowlAt 4 = .ok (.iload_n 2, 1) := by decide +kernel
theorem dL_bowlAt_5 : decode cL_bowlAt 5 = .ok (.invokevirtual 80, 3) := by decide +kernel
theorem dL_bowlAt_8 : decode cL_bowlAt 8 = .ok (.i2l, 1) := by decide +kernel
theorem dL_bowlAt_9 : decode cL_bowlAt 9 = .ok (.lastore, 1) := by decide +kernel
theorem dL_bowlAt_10 : decode cL_bowlAt 10 = .ok (.goto 11, 3) := by decide +kernel
theorem dL_bowlAt_13 : decode cL_bowlAt 13 = .ok (.astore 4, 2) := by decide +kernel
theorem dL_bowlAt_15 : decode cL_bowlAt 15 = .ok (.iconst 1, 1) := by decide +kernel
theorem dL_bowlAt_16 : decode cL_bowlAt 16 = .ok (.ireturn, 1) := by decide +kernel
theorem dL_bowlAt_17 : decode cL_bowlAt 17 = .ok (.astore 4, 2) := by decide +kernel
theorem dL_bowlAt_19 : decode cL_bowlAt 19 = .ok (.iconst 2, 1) := by decide +kernel
theorem dL_bowlAt_20 : decode cL_bowlAt 20 = .ok (.ireturn, 1) := by decide +kernel
theorem dL_bowlAt_21 : decode cL_bowlAt 21 = .ok (.iconst 0, 1) := by decide +kernel
theorem dL_bowlAt_22 : decode cL_bowlAt 22 = .ok (.ireturn, 1) := by decide +kernel
def f_L_bowlAt (N : Nat) (fo : (Nat → Int64)) (xv : XV) (nv : SV) (p2 : Int32) (p3 : Int32) : Option (Int32 × ((Nat → Int64) × XV × SV)) :=
  (f_X5_bowlAt N xv nv p2 p3).bind (fun o1 => exc o1 (fun k => (if k = 2 then some ((1 : Int32), (fo, xv, nv)) else if k = 1 then some ((2 : Int32), (fo, xv, nv)) else none)) (fun (ro1 : Int32) => some ((0 : Int32), ((vp_updL fo (0 : Int32).toNatClampNeg ((ro1).toInt64)), xv, nv))))
set_option maxHeartbeats 4000000 in
set_option maxRecDepth 100000 in
theorem met_L_bowlAt (l : Launch) (z0 : Nat) (hst : l.stackTraces = false) (dC : Nat → ClassId) (dI : Nat → Nat → Nat) (cyI cyO cyL : ClassId) (qo : Nat) (x : Nat → Nat) (tr : Nat → Nat) (an : Nat → Nat) (fl fs : Nat → Option Nat) (sz : Nat) (N : Nat) (fo : (Nat → Int64)) (xv : XV) (nv : SV) (p2 : Int32) (p3 : Int32) (out : Int32 × ((Nat → Int64) × XV × SV)) (hF : f_L_bowlAt N fo xv nv p2 p3 = some out) : Met l yL_bowlAt (Cond.codeWith yL_bowlAt cL_bowlAt 5 (some .int) [(0, 10, 13, 62), (0, 10, 17, 15)] :: wT) ({ frames := 7, cells := 1, slots := 6, locals := 105 } : Room) (wWrX z0 dC dI cyI cyO cyL [.ref (x 0), .int p2, .int p3, .ref qo] (([[cLo cyL qo 1 fo], (cXo x an tr xv), (cH cyO (x 1) (x 2) 2 fl), (cXk cyI x xv), (cH cyO (x 4) (x 5) 6 fs), (cT cyI x (X_text xv)), (cSo an nv), (cG cyI an (S_green nv)), (cV cyI an (S_score nv))] : List va_W).flatten) sz) (va_Qi (fun (r : Int32) (u : (Nat → Int64) × XV × SV) => (r, u) = out) (fun u t => va_P (dC, dI) vwCl (([[cLo cyL qo 1 u.1], (cXo x an tr u.2.1), (cH cyO (x 1) (x 2) 2 fl), (cXk cyI x u.2.1), (cH cyO (x 4) (x 5) 6 fs), (cT cyI x (X_text u.2.1)), (cSo an u.2.2), (cG cyI an (S_green u.2.2)), (cV cyI an (S_score u.2.2))] : List va_W).flatten) t.heap ∧ va_D (va_A (([[cLo cyL qo 1 fo], (cXo x an tr xv), (cH cyO (x 1) (x 2) 2 fl), (cXk cyI x xv), (cH cyO (x 4) (x 5) 6 fs), (cT cyI x (X_text xv)), (cSo an nv), (cG cyI an (S_green nv)), (cV cyI an (S_score nv))] : List va_W).flatten) sz) (([[cLo cyL qo 1 u.1], (cXo x an tr u.2.1), (cH cyO (x 1) (x 2) 2 fl), (cXk cyI x u.2.1), (cH cyO (x 4) (x 5) 6 fs), (cT cyI x (X_text u.2.1)), (cSo an u.2.2), (cG cyI an (S_green u.2.2)), (cV cyI an (S_score u.2.2))] : List va_W).flatten)) (va_A (([[cLo cyL qo 1 fo], (cXo x an tr xv), (cH cyO (x 1) (x 2) 2 fl), (cXk cyI x xv), (cH cyO (x 4) (x 5) 6 fs), (cT cyI x (X_text xv)), (cSo an nv), (cG cyI an (S_green nv)), (cV cyI an (S_score nv))] : List va_W).flatten) sz)) 1 6 (va_A (([[cLo cyL qo 1 fo], (cXo x an tr xv), (cH cyO (x 1) (x 2) 2 fl), (cXk cyI x xv), (cH cyO (x 4) (x 5) 6 fs), (cT cyI x (X_text xv)), (cSo an nv), (cG cyI an (S_green nv)), (cV cyI an (S_score nv))] : List va_W).flatten) sz) := by
  refine Met.ofWH (cc := cL_bowlAt) (maxL := 5) (ret := (some .int)) (by decide) rfl ?_
  intro p e s m args below meth c s₁ B hml hv
  obtain ⟨rfl, hsz, hP, hK, hD0, hz0, hZ⟩ := hv
  have hTab := vx_table (x := yL_bowlAt) B (atoms_spec (ws := (Cond.codeWith yL_bowlAt cL_bowlAt 5 (some .int) [(0, 10, 13, 62), (0, 10, 17, 15)] :: wT)) B.pre _ List.mem_cons_self)
  have hx := B.exec
  have hb := B.bytes
  have hr := B.returns
  have hts0 := atoms_spec (ws := (Cond.codeWith yL_bowlAt cL_bowlAt 5 (some .int) [(0, 10, 13, 62), (0, 10, 17, 15)] :: wT)) B.pre
  have hts := fun w h => hts0 w (List.mem_cons_of_mem _ h)
  clear hts0
  have hown : s.vm.findClass RL = some m.cls := findClass_of_methodNamed B.named
  have hlocks := B.notSynchronized
  subst hsz
  have hD := hD0.self (sz := s.heap.size)
  have hAz := wA_ge hD0 hz0
  generalize hAe : va_A (([[cLo cyL qo 1 fo], (cXo x an tr xv), (cH cyO (x 1) (x 2) 2 fl), (cXk cyI x xv), (cH cyO (x 4) (x 5) 6 fs), (cT cyI x (X_text xv)), (cSo an nv), (cG cyI an (S_green nv)), (cV cyI an (S_score nv))] : List va_W).flatten) s.heap.size = A at hD hAz ⊢
  have hA : ∀ q : Nat, s.heap.size ≤ q → A q := fun q h => by rw [← hAe]; exact Or.inr h
  clear hD0
  have hS : va_S A s.heap s.heap [] := va_S.rf
  have hl := lv_entry [.ref (x 0), .int p2, .int p3, .ref qo] (n := 5) (Nat.le_of_ble_eq_true rfl)
  rw [lg_entry_eq]
  generalize (lg_sl [.ref (x 0), .int p2, .int p3, .ref qo] ++ List.replicate (5 - (lg_sl [.ref (x 0), .int p2, .int p3, .ref qo]).length) Slot.unset).toArray = ls at hl ⊢
  have hl : lv_has ls 5 [(0, .ref (x 0)), (1, .int p2), (2, .int p3), (3, .ref qo)] := hl
  unfold f_L_bowlAt at hF
  refine lv_aload_n hx hb dL_bowlAt_0 rfl (lv_at hl 3 rfl) ?_
  refine lv_iconst (v := 0) hx hb dL_bowlAt_1 (by decide) ?_
  refine lv_aload_n hx hb dL_bowlAt_2 rfl (lv_at hl 0 rfl) ?_
  refine lv_iload_n hx hb dL_bowlAt_3 rfl (lv_at hl 1 rfl) ?_
  refine lv_iload_n hx hb dL_bowlAt_4 rfl (lv_at hl 2 rfl) ?_
  obtain ⟨o1, h2, hF⟩ := obd hF
  refine wxRVi (As := [.int p2, .int p3]) (rest := [.int (0 : Int32), .ref qo]) (b := (x 0)) ⟨hx, hb, hml, hown, hts⟩ (met_X5_bowlAt l z0 hst dC dI cyI cyO cyL x tr an fl fs N xv nv p2 p3 o1 h2) (cwV 2 hts (gV w_methodLink_L_80 w_instanceMethod_X5_bowlAt w_selects_X5_bowlAt w_initialized_X5 w_code_X5_bowlAt) rfl rfl rfl (by decide +kernel) ⟨Nat.le_of_ble_eq_true rfl, Nat.le_of_ble_eq_true rfl⟩) (va_recv hK.1 hP (ci := 5) (q0 := 1) rfl rfl) hP hK hZ hAz [1, 2, 3, 4, 5, 6, 7, 8, 9, 10, 11, 12, 13, 14, 15, 16, 17, 18, 19, 20, 21] rfl rfl hl.1 (Nat.le_of_ble_eq_true rfl) dL_bowlAt_5 ⟨Nat.le_of_ble_eq_true rfl, Nat.le_of_ble_eq_true rfl⟩ hS (fun k ce q9 H locs hw hP hS h9 hv9 hc9 => ?_) (fun ro1 H locs hw hP hS => ?_)
  · have hw := hw.symm
    subst hw
    have hF := exc_l hF
    by_cases c3 : k = 2
    · subst c3
      have hF := itp rfl hF
      refine vx_catch (E := eIO) (name := eIO) hown [] ⟨0, 10, 13, 62⟩ [⟨0, 10, 17, 15⟩] hTab (fun z hz => nomatch hz) (by decide) (by decide) (hts _ w_classLink_L_62) (hZ.2.2.2.1.use _ (by decide)) h9 hv9 hc9 ?_
      refine lv_astore (lv' := [(4, .ref q9), (0, .ref (x 0)), (1, .int p2), (2, .int p3), (3, .ref qo)]) hx hb dL_bowlAt_13 hl (by decide) rfl (fun ls hl => ?_)
      refine lv_iconst (v := 1) hx hb dL_bowlAt_15 (by decide) ?_
      refine W.widen (k := 1) (n := 6) (Nat.le_of_ble_eq_true rfl) (Nat.le_of_ble_eq_true rfl) ?_
      exact W.iret (v := (1 : Int32)) hx hb hr (fun t ht hW => ⟨⟨_, (fo, xv, nv), rfl, Option.some.inj hF, by rw [ht]; exact hP, hD⟩, hS.F ht⟩) hS.2.2 dL_bowlAt_16
    · have hF := itn c3 hF
      by_cases c4 : k = 1
      · subst c4
        have hF := itp rfl hF
        refine vx_catch (E := eIS) (name := eIS) hown [⟨0, 10, 13, 62⟩] ⟨0, 10, 17, 15⟩ [] hTab (fun z hz => by obtain rfl := List.mem_singleton.mp hz; exact Or.inr ⟨by decide, _, hts _ w_classLink_L_62, hZ.2.2.2.2 (eIS, eIO) (by decide)⟩) (by decide) (by decide) (hts _ w_classLink_L_15) (hZ.2.2.2.1.use _ (by decide)) h9 hv9 hc9 ?_
        refine lv_astore (lv' := [(4, .ref q9), (0, .ref (x 0)), (1, .int p2), (2, .int p3), (3, .ref qo)]) hx hb dL_bowlAt_17 hl (by decide) rfl (fun ls hl => ?_)
        refine lv_iconst (v := 2) hx hb dL_bowlAt_19 (by decide) ?_
        refine W.widen (k := 1) (n := 6) (Nat.le_of_ble_eq_true rfl) (Nat.le_of_ble_eq_true rfl) ?_
        exact W.iret (v := (2 : Int32)) hx hb hr (fun t ht hW => ⟨⟨_, (fo, xv, nv), rfl, Option.some.inj hF, by rw [ht]; exact hP, hD⟩, hS.F ht⟩) hS.2.2 dL_bowlAt_20
      · have hF := itn c4 hF
        cases hF
  · skip
    have hw := hw.symm
    subst hw
    have hF := exc_r hF
    refine lv_i2l (v := (ro1).toInt64) hx hb dL_bowlAt_8 rfl ?_
    refine va_last hx hb hK.1 hP hD hS 0 2 rfl rfl (i := (0 : Int32)) (x := ((ro1).toInt64)) (show ixok (0 : Int32) 1 by decide) dL_bowlAt_9 (fun H locs hP hD hS => ?_)
    have hP : va_P (dC, dI) vwCl (([[cLo cyL qo 1 (vp_updL fo (0 : Int32).toNatClampNeg ((ro1).toInt64))], (cXo x an tr xv), (cH cyO (x 1) (x 2) 2 fl), (cXk cyI x xv), (cH cyO (x 4) (x 5) 6 fs), (cT cyI x (X_text xv)), (cSo an nv), (cG cyI an (S_green nv)), (cV cyI an (S_score nv))] : List va_W).flatten) H := hP
    have hD : va_D A (([[cLo cyL qo 1 (vp_updL fo (0 : Int32).toNatClampNeg ((ro1).toInt64))], (cXo x an tr xv), (cH cyO (x 1) (x 2) 2 fl), (cXk cyI x xv), (cH cyO (x 4) (x 5) 6 fs), (cT cyI x (X_text xv)), (cSo an nv), (cG cyI an (S_green nv)), (cV cyI an (S_score nv))] : List va_W).flatten) := hD
    refine lv_goto (tgt := 21) hx hb dL_bowlAt_10 (by decide) ?_
    refine lv_iconst (v := 0) hx hb dL_bowlAt_21 (by decide) ?_
    refine W.widen (k := 1) (n := 6) (Nat.le_of_ble_eq_true rfl) (Nat.le_of_ble_eq_true rfl) ?_
    exact W.iret (v := (0 : Int32)) hx hb hr (fun t ht hW => ⟨⟨_, ((vp_updL fo (0 : Int32).toNatClampNeg ((ro1).toInt64)), xv, nv), rfl, Option.some.inj hF, by rw [ht]; exact hP, hD⟩, hS.F ht⟩) hS.2.2 dL_bowlAt_22
theorem dL_aimOf_0 : decode cL_aimOf 0 = .ok (.aload_n 2, 1) := by decide +kernel
theorem dL_aimOf_1 : decode cL_aimOf 1 = .ok (.iconst 0, 1) := by decide +kernel
theorem dL_aimOf_2 : decode cL_aimOf 2 = .ok (.aload_n 0, 1) := by decide +kernel
theorem dL_aimOf_3 : decode cL_aimOf 3 = .ok (.iload_n 1, 1) := by decide +kernel
theorem dL_aimOf_4 : decode cL_aimOf 4 = .ok (.invokevirtual 84, 3) := by decide +kernel
theorem dL_aimOf_7 : decode cL_aimOf 7 = .ok (.i2l, 1) := by decide +kernel
theorem dL_aimOf_8 : decode cL_aimOf 8 = .ok (.lastore, 1) := by decide +kernel
theorem dL_aimOf_9 : decode cL_aimOf 9 = .ok (.goto 6, 3) := by decide +kernel
theorem dL_aimOf_12 : decode cL_aimOf 12 = .ok (.astore_n 3, 1) := by decide +kernel
theorem dL_aimOf_13 : decode cL_aimOf 13 = .ok (.iconst 1, 1) := by decide +kernel
theorem dL_aimOf_14 : decode cL_aimOf 14 = .ok (.ireturn, 1) := by decide +kernel
theorem dL_aimOf_15 : decode cL_aimOf 15 = .ok (.iconst 0, 1) := by decide +kernel
theorem dL_aimOf_16 : decode cL_aimOf 16 = .ok (.ireturn, 1) := by decide +kernel
def f_L_aimOf (N : Nat) (fo : (Nat → Int64)) (xv : XV) (nv : SV) (p2 : Int32) : Option (Int32 × ((Nat → Int64) × XV × SV)) :=
  (f_X5_aimOf N xv nv p2).bind (fun o1 => exc o1 (fun k => (if k = 2 then some ((1 : Int32), (fo, xv, nv)) else none)) (fun (ro1 : Int32) => some ((0 : Int32), ((vp_updL fo (0 : Int32).toNatClampNeg ((ro1).toInt64)), xv, nv))))
set_option maxHeartbeats 4000000 in
set_option maxRecDepth 100000 in
theorem met_L_aimOf (l : Launch) (z0 : Nat) (hst : l.stackTraces = false) (dC : Nat → ClassId) (dI : Nat → Nat → Nat) (cyI cyO cyL : ClassId) (qo : Nat) (x : Nat → Nat) (tr : Nat → Nat) (an : Nat → Nat) (fl fs : Nat → Option Nat) (sz : Nat) (N : Nat) (fo : (Nat → Int64)) (xv : XV) (nv : SV) (p2 : Int32) (out : Int32 × ((Nat → Int64) × XV × SV)) (hF : f_L_aimOf N fo xv nv p2 = some out) : Met l yL_aimOf (Cond.codeWith yL_aimOf cL_aimOf 4 (some .int) [(0, 9, 12, 62)] :: wT) ({ frames := 8, cells := 1, slots := 6, locals := 124 } : Room) (wWrX z0 dC dI cyI cyO cyL [.ref (x 0), .int p2, .ref qo] (([[cLo cyL qo 1 fo], (cXo x an tr xv), (cH cyO (x 1) (x 2) 2 fl), (cXk cyI x xv), (cH cyO (x 4) (x 5) 6 fs), (cT cyI x (X_text xv)), (cSo an nv), (cG cyI an (S_green nv)), (cV cyI an (S_score nv))] : List va_W).flatten) sz) (va_Qi (fun (r : Int32) (u : (Nat → Int64) × XV × SV) => (r, u) = out) (fun u t => va_P (dC, dI) vwCl (([[cLo cyL qo 1 u.1], (cXo x an tr u.2.1), (cH cyO (x 1) (x 2) 2 fl), (cXk cyI x u.2.1), (cH cyO (x 4) (x 5) 6 fs), (cT cyI x (X_text u.2.1)), (cSo an u.2.2), (cG cyI an (S_green u.2.2)), (cV cyI an (S_score u.2.2))] : List va_W).flatten) t.heap ∧ va_D (va_A (([[cLo cyL qo 1 fo], (cXo x an tr xv), (cH cyO (x 1) (x 2) 2 fl), (cXk cyI x xv), (cH cyO (x 4) (x 5) 6 fs), (cT cyI x (X_text xv)), (cSo an nv), (cG cyI an (S_green nv)), (cV cyI an (S_score nv))] : List va_W).flatten) sz) (([[cLo cyL qo 1 u.1], (cXo x an tr u.2.1), (cH cyO (x 1) (x 2) 2 fl), (cXk cyI x u.2.1), (cH cyO (x 4) (x 5) 6 fs), (cT cyI x (X_text u.2.1)), (cSo an u.2.2), (cG cyI an (S_green u.2.2)), (cV cyI an (S_score u.2.2))] : List va_W).flatten)) (va_A (([[cLo cyL qo 1 fo], (cXo x an tr xv), (cH cyO (x 1) (x 2) 2 fl), (cXk cyI x xv), (cH cyO (x 4) (x 5) 6 fs), (cT cyI x (X_text xv)), (cSo an nv), (cG cyI an (S_green nv)), (cV cyI an (S_score nv))] : List va_W).flatten) sz)) 1 6 (va_A (([[cLo cyL qo 1 fo], (cXo x an tr xv), (cH cyO (x 1) (x 2) 2 fl), (cXk cyI x xv), (cH cyO (x 4) (x 5) 6 fs), (cT cyI x (X_text xv)), (cSo an nv), (cG cyI an (S_green nv)), (cV cyI an (S_score nv))] : List va_W).flatten) sz) := by
  refine Met.ofWH (cc := cL_aimOf) (maxL := 4) (ret := (some .int)) (by decide) rfl ?_
  intro p e s m args below meth c s₁ B hml hv
  obtain ⟨rfl, hsz, hP, hK, hD0, hz0, hZ⟩ := hv
  have hTab := vx_table (x := yL_aimOf) B (atoms_spec (ws := (Cond.codeWith yL_aimOf cL_aimOf 4 (some .int) [(0, 9, 12, 62)] :: wT)) B.pre _ List.mem_cons_self)
  have hx := B.exec
  have hb := B.bytes
  have hr := B.returns
  have hts0 := atoms_spec (ws := (Cond.codeWith yL_aimOf cL_aimOf 4 (some .int) [(0, 9, 12, 62)] :: wT)) B.pre
  have hts := fun w h => hts0 w (List.mem_cons_of_mem _ h)
  clear hts0
  have hown : s.vm.findClass RL = some m.cls := findClass_of_methodNamed B.named
  have hlocks := B.notSynchronized
  subst hsz
  have hD := hD0.self (sz := s.heap.size)
  have hAz := wA_ge hD0 hz0
  generalize hAe : va_A (([[cLo cyL qo 1 fo], (cXo x an tr xv), (cH cyO (x 1) (x 2) 2 fl), (cXk cyI x xv), (cH cyO (x 4) (x 5) 6 fs), (cT cyI x (X_text xv)), (cSo an nv), (cG cyI an (S_green nv)), (cV cyI an (S_score nv))] : List va_W).flatten) s.heap.size = A at hD hAz ⊢
  have hA : ∀ q : Nat, s.heap.size ≤ q → A q := fun q h => by rw [← hAe]; exact Or.inr h
  clear hD0
  have hS : va_S A s.heap s.heap [] := va_S.rf
  have hl := lv_entry [.ref (x 0), .int p2, .ref qo] (n := 4) (Nat.le_of_ble_eq_true rfl)
  rw [lg_entry_eq]
  generalize (lg_sl [.ref (x 0), .int p2, .ref qo] ++ List.replicate (4 - (lg_sl [.ref (x 0), .int p2, .ref qo]).length) Slot.unset).toArray = ls at hl ⊢
  have hl : lv_has ls 4 [(0, .ref (x 0)), (1, .int p2), (2, .ref qo)] := hl
  unfold f_L_aimOf at hF
  refine lv_aload_n hx hb dL_aimOf_0 rfl (lv_at hl 2 rfl) ?_
  refine lv_iconst (v := 0) hx hb dL_aimOf_1 (by decide) ?_
  refine lv_aload_n hx hb dL_aimOf_2 rfl (lv_at hl 0 rfl) ?_
  refine lv_iload_n hx hb dL_aimOf_3 rfl (lv_at hl 1 rfl) ?_
  obtain ⟨o1, h2, hF⟩ := obd hF
  refine wxRVi (As := [.int p2]) (rest := [.int (0 : Int32), .ref qo]) (b := (x 0)) ⟨hx, hb, hml, hown, hts⟩ (met_X5_aimOf l z0 hst dC dI cyI cyO cyL x tr an fl fs N xv nv p2 o1 h2) (cwV 1 hts (gV w_methodLink_L_84 w_instanceMethod_X5_aimOf w_selects_X5_aimOf w_initialized_X5 w_code_X5_aimOf) rfl rfl rfl (by decide +kernel) ⟨Nat.le_of_ble_eq_true rfl, Nat.le_of_ble_eq_true rfl⟩) (va_recv hK.1 hP (ci := 5) (q0 := 1) rfl rfl) hP hK hZ hAz [1, 2, 3, 4, 5, 6, 7, 8, 9, 10, 11, 12, 13, 14, 15, 16, 17, 18, 19, 20, 21] rfl rfl hl.1 (Nat.le_of_ble_eq_true rfl) dL_aimOf_4 ⟨Nat.le_of_ble_eq_true rfl, Nat.le_of_ble_eq_true rfl⟩ hS (fun k ce q9 H locs hw hP hS h9 hv9 hc9 => ?_) (fun ro1 H locs hw hP hS => ?_)
  · have hw := hw.symm
    subst hw
    have hF := exc_l hF
    by_cases c3 : k = 2
    · subst c3
      have hF := itp rfl hF
      refine vx_catch (E := eIO) (name := eIO) hown [] ⟨0, 9, 12, 62⟩ [] hTab (fun z hz => nomatch hz) (by decide) (by decide) (hts _ w_classLink_L_62) (hZ.2.2.2.1.use _ (by decide)) h9 hv9 hc9 ?_
      refine lv_astore_n (lv' := [(3, .ref q9), (0, .ref (x 0)), (1, .int p2), (2, .ref qo)]) hx hb dL_aimOf_12 rfl hl (by decide) rfl (fun ls hl => ?_)
      refine lv_iconst (v := 1) hx hb dL_aimOf_13 (by decide) ?_
      refine W.widen (k := 1) (n := 6) (Nat.le_of_ble_eq_true rfl) (Nat.le_of_ble_eq_true rfl) ?_
      exact W.iret (v := (1 : Int32)) hx hb hr (fun t ht hW => ⟨⟨_, (fo, xv, nv), rfl, Option.some.inj hF, by rw [ht]; exact hP, hD⟩, hS.F ht⟩) hS.2.2 dL_aimOf_14
    · have hF := itn c3 hF
      cases hF
  · skip
    have hw := hw.symm
    subst hw
    have hF := exc_r hF
    refine lv_i2l (v := (ro1).toInt64) hx hb dL_aimOf_7 rfl ?_
    refine va_last hx hb hK.1 hP hD hS 0 2 rfl rfl (i := (0 : Int32)) (x := ((ro1).toInt64)) (show ixok (0 : Int32) 1 by decide) dL_aimOf_8 (fun H locs hP hD hS => ?_)
    have hP : va_P (dC, dI) vwCl (([[cLo cyL qo 1 (vp_updL fo (0 : Int32).toNatClampNeg ((ro1).toInt64))], (cXo x an tr xv), (cH cyO (x 1) (x 2) 2 fl), (cXk cyI x xv), (cH cyO (x 4) (x 5) 6 fs), (cT cyI x (X_text xv)), (cSo an nv), (cG cyI an (S_green nv)), (cV cyI an (S_score nv))] : List va_W).flatten) H := hP
    have hD : va_D A (([[cLo cyL qo 1 (vp_updL fo (0 : Int32).toNatClampNeg ((ro1).toInt64))], (cXo x an tr xv), (cH cyO (x 1) (x 2) 2 fl), (cXk cyI x xv), (cH cyO (x 4) (x 5) 6 fs), (cT cyI x (X_text xv)), (cSo an nv), (cG cyI an (S_green nv)), (cV cyI an (S_score nv))] : List va_W).flatten) := hD
    refine lv_goto (tgt := 15) hx hb dL_aimOf_9 (by decide) ?_
    refine lv_iconst (v := 0) hx hb dL_aimOf_15 (by decide) ?_
    refine W.widen (k := 1) (n := 6) (Nat.le_of_ble_eq_true rfl) (Nat.le_of_ble_eq_true rfl) ?_
    exact W.iret (v := (0 : Int32)) hx hb hr (fun t ht hW => ⟨⟨_, ((vp_updL fo (0 : Int32).toNatClampNeg ((ro1).toInt64)), xv, nv), rfl, Option.some.inj hF, by rw [ht]; exact hP, hD⟩, hS.F ht⟩) hS.2.2 dL_aimOf_16
theorem dL_weightOf_0 : decode cL_weightOf 0 = .ok (.aload_n 2, 1) := by decide +kernel
theorem dL_weightOf_1 : decode cL_weightOf 1 = .ok (.iconst 0, 1) := by decide +kernel
theorem dL_weightOf_2 : decode cL_weightOf 2 = .ok (.aload_n 0, 1) := by decide +kernel
theorem dL_weightOf_3 : decode cL_weightOf 3 = .ok (.iload_n 1, 1) := by decide +kernel
theorem dL_weightOf_4 : decode cL_weightOf 4 = .ok (.invokevirtual 87, 3) := by decide +kernel
theorem dL_weightOf_7 : decode cL_weightOf 7 = .ok (.i2l, 1) := by decide +kernel
theorem dL_weightOf_8 : decode cL_weightOf 8 = .ok (.lastore, 1) := by decide +kernel
theorem dL_weightOf_9 : decode cL_weightOf 9 = .ok (.goto 6, 3) := by decide +kernel
theorem dL_weightOf_12 : decode cL_weightOf 12 = .ok (.astore_n 3, 1) := by decide +kernel
theorem dL_weightOf_13 : decode cL_weightOf 13 = .ok (.iconst 1, 1) := by decide +kernel
theorem dL_weightOf_14 : decode cL_weightOf 14 = .ok (.ireturn, 1) := by decide +kernel
theorem dL_weightOf_15 : decode cL_weightOf 15 = .ok (.iconst 0, 1) := by decide +kernel
theorem dL_weightOf_16 : decode cL_weightOf 16 = .ok (.ireturn, 1) := by decide +kernel
def f_L_weightOf (N : Nat) (fo : (Nat → Int64)) (xv : XV) (nv : SV) (p2 : Int32) : Option (Int32 × ((Nat → Int64) × XV × SV)) :=
  (f_X5_weightOf N xv nv p2).bind (fun o1 => exc o1 (fun k => (if k = 2 then some ((1 : Int32), (fo, xv, nv)) else none)) (fun (ro1 : Int32) => some ((0 : Int32), ((vp_updL fo (0 : Int32).toNatClampNeg ((ro1).toInt64)), xv, nv))))
set_option maxHeartbeats 4000000 in
set_option maxRecDepth 100000 in
theorem met_L_weightOf (l : Launch) (z0 : Nat) (hst : l.stackTraces = false) (dC : Nat → ClassId) (dI : Nat → Nat → Nat) (cyI cyO cyL : ClassId) (qo : Nat) (x : Nat → Nat) (tr : Nat → Nat) (an : Nat → Nat) (fl fs : Nat → Option Nat) (sz : Nat) (N : Nat) (fo : (Nat → Int64)) (xv : XV) (nv : SV) (p2 : Int32) (out : Int32 × ((Nat → Int64) × XV × SV)) (hF : f_L_weightOf N fo xv nv p2 = some out) : Met l yL_weightOf (Cond.codeWith yL_weightOf cL_weightOf 4 (some .int) [(0, 9, 12, 62)] :: wT) ({ frames := 8, cells := 1, slots := 6, locals := 124 } : Room) (wWrX z0 dC dI cyI cyO cyL [.ref (x 0), .int p2, .ref qo] (([[cLo cyL qo 1 fo], (cXo x an tr xv), (cH cyO (x 1) (x 2) 2 fl), (cXk cyI x xv), (cH cyO (x 4) (x 5) 6 fs), (cT cyI x (X_text xv)), (cSo an nv), (cG cyI an (S_green nv)), (cV cyI an (S_score nv))] : List va_W).flatten) sz) (va_Qi (fun (r : Int32) (u : (Nat → Int64) × XV × SV) => (r, u) = out) (fun u t => va_P (dC, dI) vwCl (([[cLo cyL qo 1 u.1], (cXo x an tr u.2.1), (cH cyO (x 1) (x 2) 2 fl), (cXk cyI x u.2.1), (cH cyO (x 4) (x 5) 6 fs), (cT cyI x (X_text u.2.1)), (cSo an u.2.2), (cG cyI an (S_green u.2.2)), (cV cyI an (S_score u.2.2))] : List va_W).flatten) t.heap ∧ va_D (va_A (([[cLo cyL qo 1 fo], (cXo x an tr xv), (cH cyO (x 1) (x 2) 2 fl), (cXk cyI x xv), (cH cyO (x 4) (x 5) 6 fs), (cT cyI x (X_text xv)), (cSo an nv), (cG cyI an (S_green nv)), (cV cyI an (S_score nv))] : List va_W).flatten) sz) (([[cLo cyL qo 1 u.1], (cXo x an tr u.2.1), (cH cyO (x 1) (x 2) 2 fl), (cXk cyI x u.2.1), (cH cyO (x 4) (x 5) 6 fs), (cT cyI x (X_text u.2.1)), (cSo an u.2.2), (cG cyI an (S_green u.2.2)), (cV cyI an (S_score u.2.2))] : List va_W).flatten)) (va_A (([[cLo cyL qo 1 fo], (cXo x an tr xv), (cH cyO (x 1) (x 2) 2 fl), (cXk cyI x xv), (cH cyO (x 4) (x 5) 6 fs), (cT cyI x (X_text xv)), (cSo an nv), (cG cyI an (S_green nv)), (cV cyI an (S_score nv))] : List va_W).flatten) sz)) 1 6 (va_A (([[cLo cyL qo 1 fo], (cXo x an tr xv), (cH cyO (x 1) (x 2) 2 fl), (cXk cyI x xv), (cH cyO (x 4) (x 5) 6 fs), (cT cyI x (X_text xv)), (cSo an nv), (cG cyI an (S_green nv)), (cV cyI an (S_score nv))] : List va_W).flatten) sz) := by
  refine Met.ofWH (cc := cL_weightOf) (maxL := 4) (ret := (some .int)) (by decide) rfl ?_
  intro p e s m args below meth c s₁ B hml hv
  obtain ⟨rfl, hsz, hP, hK, hD0, hz0, hZ⟩ := hv
  have hTab := vx_table (x := yL_weightOf) B (atoms_spec (ws := (Cond.codeWith yL_weightOf cL_weightOf 4 (some .int) [(0, 9, 12, 62)] :: wT)) B.pre _ List.mem_cons_self)
  have hx := B.exec
  have hb := B.bytes
  have hr := B.returns
  have hts0 := atoms_spec (ws := (Cond.codeWith yL_weightOf cL_weightOf 4 (some .int) [(0, 9, 12, 62)] :: wT)) B.pre
  have hts := fun w h => hts0 w (List.mem_cons_of_mem _ h)
  clear hts0
  have hown : s.vm.findClass RL = some m.cls := findClass_of_methodNamed B.named
  have hlocks := B.notSynchronized
  subst hsz
  have hD := hD0.self (sz := s.heap.size)
  have hAz := wA_ge hD0 hz0
  generalize hAe : va_A (([[cLo cyL qo 1 fo], (cXo x an tr xv), (cH cyO (x 1) (x 2) 2 fl), (cXk cyI x xv), (cH cyO (x 4) (x 5) 6 fs), (cT cyI x (X_text xv)), (cSo an nv), (cG cyI an (S_green nv)), (cV cyI an (S_score nv))] : List va_W).flatten) s.heap.size = A at hD hAz ⊢
  have hA : ∀ q : Nat, s.heap.size ≤ q → A q := fun q h => by rw [← hAe]; exact Or.inr h
  clear hD0
  have hS : va_S A s.heap s.heap [] := va_S.rf
  have hl := lv_entry [.ref (x 0), .int p2, .ref qo] (n := 4) (Nat.le_of_ble_eq_true rfl)
  rw [lg_entry_eq]
  generalize (lg_sl [.ref (x 0), .int p2, .ref qo] ++ List.replicate (4 - (lg_sl [.ref (x 0), .int p2, .ref qo]).length) Slot.unset).toArray = ls at hl ⊢
  have hl : lv_has ls 4 [(0, .ref (x 0)), (1, .int p2), (2, .ref qo)] := hl
  unfold f_L_weightOf at hF
  refine lv_aload_n hx hb dL_weightOf_0 rfl (lv_at hl 2 rfl) ?_
  refine lv_iconst (v := 0) hx hb dL_weightOf_1 (by decide) ?_
  refine lv_aload_n hx hb dL_weightOf_2 rfl (lv_at hl 0 rfl) ?_
  refine lv_iload_n hx hb dL_weightOf_3 rfl (lv_at hl 1 rfl) ?_
  obtain ⟨o1, h2, hF⟩ := obd hF
  refine wxRVi (As := [.int p2]) (rest := [.int (0 : Int32), .ref qo]) (b := (x 0)) ⟨hx, hb, hml, hown, hts⟩ (met_X5_weightOf l z0 hst dC dI cyI cyO cyL x tr an fl fs N xv nv p2 o1 h2) (cwV 1 hts (gV w_methodLink_L_87 w_instanceMethod_X5_weightOf w_selects_X5_weightOf w_initialized_X5 w_code_X5_weightOf) rfl rfl rfl (by decide +kernel) ⟨Nat.le_of_ble_eq_true rfl, Nat.le_of_ble_eq_true rfl⟩) (va_recv hK.1 hP (ci := 5) (q0 := 1) rfl rfl) hP hK hZ hAz [1, 2, 3, 4, 5, 6, 7, 8, 9, 10, 11, 12, 13, 14, 15, 16, 17, 18, 19, 20, 21] rfl rfl hl.1 (Nat.le_of_ble_eq_true rfl) dL_weightOf_4 ⟨Nat.le_of_ble_eq_true rfl, Nat.le_of_ble_eq_true rfl⟩ hS (fun k ce q9 H locs hw hP hS h9 hv9 hc9 => ?_) (fun ro1 H locs hw hP hS => ?_)
  · have hw := hw.symm
    subst hw
    have hF := exc_l hF
    by_cases c3 : k = 2
    · subst c3
      have hF := itp rfl hF
      refine vx_catch (E := eIO) (name := eIO) hown [] ⟨0, 9, 12, 62⟩ [] hTab (fun z hz => nomatch hz) (by decide) (by decide) (hts _ w_classLink_L_62) (hZ.2.2.2.1.use _ (by decide)) h9 hv9 hc9 ?_
      refine lv_astore_n (lv' := [(3, .ref q9), (0, .ref (x 0)), (1, .int p2), (2, .ref qo)]) hx hb dL_weightOf_12 rfl hl (by decide) rfl (fun ls hl => ?_)
      refine lv_iconst (v := 1) hx hb dL_weightOf_13 (by decide) ?_
      refine W.widen (k := 1) (n := 6) (Nat.le_of_ble_eq_true rfl) (Nat.le_of_ble_eq_true rfl) ?_
      exact W.iret (v := (1 : Int32)) hx hb hr (fun t ht hW => ⟨⟨_, (fo, xv, nv), rfl, Option.some.inj hF, by rw [ht]; exact hP, hD⟩, hS.F ht⟩) hS.2.2 dL_weightOf_14
    · have hF := itn c3 hF
      cases hF
  · skip
    have hw := hw.symm
    subst hw
    have hF := exc_r hF
    refine lv_i2l (v := (ro1).toInt64) hx hb dL_weightOf_7 rfl ?_
    refine va_last hx hb hK.1 hP hD hS 0 2 rfl rfl (i := (0 : Int32)) (x := ((ro1).toInt64)) (show ixok (0 : Int32) 1 by decide) dL_weightOf_8 (fun H locs hP hD hS => ?_)
    have hP : va_P (dC, dI) vwCl (([[cLo cyL qo 1 (vp_updL fo (0 : Int32).toNatClampNeg ((ro1).toInt64))], (cXo x an tr xv), (cH cyO (x 1) (x 2) 2 fl), (cXk cyI x xv), (cH cyO (x 4) (x 5) 6 fs), (cT cyI x (X_text xv)), (cSo an nv), (cG cyI an (S_green nv)), (cV cyI an (S_score nv))] : List va_W).flatten) H := hP
    have hD : va_D A (([[cLo cyL qo 1 (vp_updL fo (0 : Int32).toNatClampNeg ((ro1).toInt64))], (cXo x an tr xv), (cH cyO (x 1) (x 2) 2 fl), (cXk cyI x xv), (cH cyO (x 4) (x 5) 6 fs), (cT cyI x (X_text xv)), (cSo an nv), (cG cyI an (S_green nv)), (cV cyI an (S_score nv))] : List va_W).flatten) := hD
    refine lv_goto (tgt := 15) hx hb dL_weightOf_9 (by decide) ?_
    refine lv_iconst (v := 0) hx hb dL_weightOf_15 (by decide) ?_
    refine W.widen (k := 1) (n := 6) (Nat.le_of_ble_eq_true rfl) (Nat.le_of_ble_eq_true rfl) ?_
    exact W.iret (v := (0 : Int32)) hx hb hr (fun t ht hW => ⟨⟨_, ((vp_updL fo (0 : Int32).toNatClampNeg ((ro1).toInt64)), xv, nv), rfl, Option.some.inj hF, by rw [ht]; exact hP, hD⟩, hS.F ht⟩) hS.2.2 dL_weightOf_16
theorem dL_biasOf_0 : decode cL_biasOf 0 = .ok (.aload_n 2, 1) := by decide +kernel
theorem dL_biasOf_1 : decode cL_biasOf 1 = .ok (.iconst 0, 1) := by decide +kernel
theorem dL_biasOf_2 : decode cL_biasOf 2 = .ok (.aload_n 0, 1) := by decide +kernel
theorem dL_biasOf_3 : decode cL_biasOf 3 = .ok (.iload_n 1, 1) := by decide +kernel
theorem dL_biasOf_4 : decode cL_biasOf 4 = .ok (.invokevirtual 90, 3) := by decide +kernel
theorem dL_biasOf_7 : decode cL_biasOf 7 = .ok (.i2l, 1) := by decide +kernel
theorem dL_biasOf_8 : decode cL_biasOf 8 = .ok (.lastore, 1) := by decide +kernel
theorem dL_biasOf_9 : decode cL_biasOf 9 = .ok (.goto 6, 3) := by decide +kernel
theorem dL_biasOf_12 : decode cL_biasOf 12 = .ok (.astore_n 3, 1) := by decide +kernel
theorem dL_biasOf_13 : decode cL_biasOf 13 = .ok (.iconst 1, 1) := by decide +kernel
theorem dL_biasOf_14 : decode cL_biasOf 14 = .ok (.ireturn, 1) := by decide +kernel
theorem dL_biasOf_15 : decode cL_biasOf 15 = .ok (.iconst 0, 1) := by decide +kernel
theorem dL_biasOf_16 : decode cL_biasOf 16 = .ok (.ireturn, 1) := by decide +kernel
def f_L_biasOf (N : Nat) (fo : (Nat → Int64)) (xv : XV) (nv : SV) (p2 : Int32) : Option (Int32 × ((Nat → Int64) × XV × SV)) :=
  (f_X5_biasOf N xv nv p2).bind (fun o1 => exc o1 (fun k => (if k = 2 then some ((1 : Int32), (fo, xv, nv)) else none)) (fun (ro1 : Int32) => some ((0 : Int32), ((vp_updL fo (0 : Int32).toNatClampNeg ((ro1).toInt64)), xv, nv))))
set_option maxHeartbeats 4000000 in
set_option maxRecDepth 100000 in
theorem met_L_biasOf (l : Launch) (z0 : Nat) (hst : l.stackTraces = false) (dC : Nat → ClassId) (dI : Nat → Nat → Nat) (cyI cyO cyL : ClassId) (qo : Nat) (x : Nat → Nat) (tr : Nat → Nat) (an : Nat → Nat) (fl fs : Nat → Option Nat) (sz : Nat) (N : Nat) (fo : (Nat → Int64)) (xv : XV) (nv : SV) (p2 : Int32) (out : Int32 × ((Nat → Int64) × XV × SV)) (hF : f_L_biasOf N fo xv nv p2 = some out) : Met l yL_biasOf (Cond.codeWith yL_biasOf cL_biasOf 4 (some .int) [(0, 9, 12, 62)] :: wT) ({ frames := 8, cells := 1, slots := 6, locals := 124 } : Room) (wWrX z0 dC dI cyI cyO cyL [.ref (x 0), .int p2, .ref qo] (([[cLo cyL qo 1 fo], (cXo x an tr xv), (cH cyO (x 1) (x 2) 2 fl), (cXk cyI x xv), (cH cyO (x 4) (x 5) 6 fs), (cT cyI x (X_text xv)), (cSo an nv), (cG cyI an (S_green nv)), (cV cyI an (S_score nv))] : List va_W).flatten) sz) (va_Qi (fun (r : Int32) (u : (Nat → Int64) × XV × SV) => (r, u) = out) (fun u t => va_P (dC, dI) vwCl (([[cLo cyL qo 1 u.1], (cXo x an tr u.2.1), (cH cyO (x 1) (x 2) 2 fl), (cXk cyI x u.2.1), (cH cyO (x 4) (x 5) 6 fs), (cT cyI x (X_text u.2.1)), (cSo an u.2.2), (cG cyI an (S_green u.2.2)), (cV cyI an (S_score u.2.2))] : List va_W).flatten) t.heap ∧ va_D (va_A (([[cLo cyL qo 1 fo], (cXo x an tr xv), (cH cyO (x 1) (x 2) 2 fl), (cXk cyI x xv), (cH cyO (x 4) (x 5) 6 fs), (cT cyI x (X_text xv)), (cSo an nv), (cG cyI an (S_green nv)), (cV cyI an (S_score nv))] : List va_W).flatten) sz) (([[cLo cyL qo 1 u.1], (cXo x an tr u.2.1), (cH cyO (x 1) (x 2) 2 fl), (cXk cyI x u.2.1), (cH cyO (x 4) (x 5) 6 fs), (cT cyI x (X_text u.2.1)), (cSo an u.2.2), (cG cyI an (S_green u.2.2)), (cV cyI an (S_score u.2.2))] : List va_W).flatten)) (va_A (([[cLo cyL qo 1 fo], (cXo x an tr xv), (cH cyO (x 1) (x 2) 2 fl), (cXk cyI x xv), (cH cyO (x 4) (x 5) 6 fs), (cT cyI x (X_text xv)), (cSo an nv), (cG cyI an (S_green nv)), (cV cyI an (S_score nv))] : List va_W).flatten) sz)) 1 6 (va_A (([[cLo cyL qo 1 fo], (cXo x an tr xv), (cH cyO (x 1) (x 2) 2 fl), (cXk cyI x xv), (cH cyO (x 4) (x 5) 6 fs), (cT cyI x (X_text xv)), (cSo an nv), (cG cyI an (S_green nv)), (cV cyI an (S_score nv))] : List va_W).flatten) sz) := by
  refine Met.ofWH (cc := cL_biasOf) (maxL := 4) (ret := (some .int)) (by decide) rfl ?_
  intro p e s m args below meth c s₁ B hml hv
  obtain ⟨rfl, hsz, hP, hK, hD0, hz0, hZ⟩ := hv
  have hTab := vx_table (x := yL_biasOf) B (atoms_spec (ws := (Cond.codeWith yL_biasOf cL_biasOf 4 (some .int) [(0, 9, 12, 62)] :: wT)) B.pre _ List.mem_cons_self)
  have hx := B.exec
  have hb := B.bytes
  have hr := B.returns
  have hts0 := atoms_spec (ws := (Cond.codeWith yL_biasOf cL_biasOf 4 (some .int) [(0, 9, 12, 62)] :: wT)) B.pre
  have hts := fun w h => hts0 w (List.mem_cons_of_mem _ h)
  clear hts0
  have hown : s.vm.findClass RL = some m.cls := findClass_of_methodNamed B.named
  have hlocks := B.notSynchronized
  subst hsz
  have hD := hD0.self (sz := s.heap.size)
  have hAz := wA_ge hD0 hz0
  generalize hAe : va_A (([[cLo cyL qo 1 fo], (cXo x an tr xv), (cH cyO (x 1) (x 2) 2 fl), (cXk cyI x xv), (cH cyO (x 4) (x 5) 6 fs), (cT cyI x (X_text xv)), (cSo an nv), (cG cyI an (S_green nv)), (cV cyI an (S_score nv))] : List va_W).flatten) s.heap.size = A at hD hAz ⊢
  have hA : ∀ q : Nat, s.heap.size ≤ q → A q := fun q h => by rw [← hAe]; exact Or.inr h
  clear hD0
  have hS : va_S A s.heap s.heap [] := va_S.rf
  have hl := lv_entry [.ref (x 0), .int p2, .ref qo] (n := 4) (Nat.le_of_ble_eq_true rfl)
  rw [lg_entry_eq]
  generalize (lg_sl [.ref (x 0), .int p2, .ref qo] ++ List.replicate (4 - (lg_sl [.ref (x 0), .int p2, .ref qo]).length) Slot.unset).toArray = ls at hl ⊢
  have hl : lv_has ls 4 [(0, .ref (x 0)), (1, .int p2), (2, .ref qo)] := hl
  unfold f_L_biasOf at hF
  refine lv_aload_n hx hb dL_biasOf_0 rfl (lv_at hl 2 rfl) ?_
  refine lv_iconst (v := 0) hx hb dL_biasOf_1 (by decide) ?_
  refine lv_aload_n hx hb dL_biasOf_2 rfl (lv_at hl 0 rfl) ?_
  refine lv_iload_n hx hb dL_biasOf_3 rfl (lv_at hl 1 rfl) ?_
  obtain ⟨o1, h2, hF⟩ := obd hF
  refine wxRVi (As := [.int p2]) (rest := [.int (0 : Int32), .ref qo]) (b := (x 0)) ⟨hx, hb, hml, hown, hts⟩ (met_X5_biasOf l z0 hst dC dI cyI cyO cyL x tr an fl fs N xv nv p2 o1 h2) (cwV 1 hts (gV w_methodLink_L_90 w_instanceMethod_X5_biasOf w_selects_X5_biasOf w_initialized_X5 w_code_X5_biasOf) rfl rfl rfl (by decide +kernel) ⟨Nat.le_of_ble_eq_true rfl, Nat.le_of_ble_eq_true rfl⟩) (va_recv hK.1 hP (ci := 5) (q0 := 1) rfl rfl) hP hK hZ hAz [1, 2, 3, 4, 5, 6, 7, 8, 9, 10, 11, 12, 13, 14, 15, 16, 17, 18, 19, 20, 21] rfl rfl hl.1 (Nat.le_of_ble_eq_true rfl) dL_biasOf_4 ⟨Nat.le_of_ble_eq_true rfl, Nat.le_of_ble_eq_true rfl⟩ hS (fun k ce q9 H locs hw hP hS h9 hv9 hc9 => ?_) (fun ro1 H locs hw hP hS => ?_)
  · have hw := hw.symm
    subst hw
    have hF := exc_l hF
    by_cases c3 : k = 2
    · subst c3
      have hF := itp rfl hF
      refine vx_catch (E := eIO) (name := eIO) hown [] ⟨0, 9, 12, 62⟩ [] hTab (fun z hz => nomatch hz) (by decide) (by decide) (hts _ w_classLink_L_62) (hZ.2.2.2.1.use _ (by decide)) h9 hv9 hc9 ?_
      refine lv_astore_n (lv' := [(3, .ref q9), (0, .ref (x 0)), (1, .int p2), (2, .ref qo)]) hx hb dL_biasOf_12 rfl hl (by decide) rfl (fun ls hl => ?_)
      refine lv_iconst (v := 1) hx hb dL_biasOf_13 (by decide) ?_
      refine W.widen (k := 1) (n := 6) (Nat.le_of_ble_eq_true rfl) (Nat.le_of_ble_eq_true rfl) ?_
      exact W.iret (v := (1 : Int32)) hx hb hr (fun t ht hW => ⟨⟨_, (fo, xv, nv), rfl, Option.some.inj hF, by rw [ht]; exact hP, hD⟩, hS.F ht⟩) hS.2.2 dL_biasOf_14
    · have hF := itn c3 hF
      cases hF
  · skip
    have hw := hw.symm
    subst hw
    have hF := exc_r hF
    refine lv_i2l (v := (ro1).toInt64) hx hb dL_biasOf_7 rfl ?_
    refine va_last hx hb hK.1 hP hD hS 0 2 rfl rfl (i := (0 : Int32)) (x := ((ro1).toInt64)) (show ixok (0 : Int32) 1 by decide) dL_biasOf_8 (fun H locs hP hD hS => ?_)
    have hP : va_P (dC, dI) vwCl (([[cLo cyL qo 1 (vp_updL fo (0 : Int32).toNatClampNeg ((ro1).toInt64))], (cXo x an tr xv), (cH cyO (x 1) (x 2) 2 fl), (cXk cyI x xv), (cH cyO (x 4) (x 5) 6 fs), (cT cyI x (X_text xv)), (cSo an nv), (cG cyI an (S_green nv)), (cV cyI an (S_score nv))] : List va_W).flatten) H := hP
    have hD : va_D A (([[cLo cyL qo 1 (vp_updL fo (0 : Int32).toNatClampNeg ((ro1).toInt64))], (cXo x an tr xv), (cH cyO (x 1) (x 2) 2 fl), (cXk cyI x xv), (cH cyO (x 4) (x 5) 6 fs), (cT cyI x (X_text xv)), (cSo an nv), (cG cyI an (S_green nv)), (cV cyI an (S_score nv))] : List va_W).flatten) := hD
    refine lv_goto (tgt := 15) hx hb dL_biasOf_9 (by decide) ?_
    refine lv_iconst (v := 0) hx hb dL_biasOf_15 (by decide) ?_
    refine W.widen (k := 1) (n := 6) (Nat.le_of_ble_eq_true rfl) (Nat.le_of_ble_eq_true rfl) ?_
    exact W.iret (v := (0 : Int32)) hx hb hr (fun t ht hW => ⟨⟨_, ((vp_updL fo (0 : Int32).toNatClampNeg ((ro1).toInt64)), xv, nv), rfl, Option.some.inj hF, by rw [ht]; exact hP, hD⟩, hS.F ht⟩) hS.2.2 dL_biasOf_16
theorem dL_leader_0 : decode cL_leader 0 = .ok (.aload_n 1, 1) := by decide +kernel
theorem dL_leader_1 : decode cL_leader 1 = .ok (.iconst 0, 1) := by decide +kernel
theorem dL_leader_2 : decode cL_leader 2 = .ok (.aload_n 0, 1) := by decide +kernel
theorem dL_leader_3 : decode cL_leader 3 = .ok (.invokevirtual 93, 3) := by decide +kernel
theorem dL_leader_6 : decode cL_leader 6 = .ok (.i2l, 1) := by decide +kernel
theorem dL_leader_7 : decode cL_leader 7 = .ok (.lastore, 1) := by decide +kernel
theorem dL_leader_8 : decode cL_leader 8 = .ok (.goto 6, 3) := by decide +kernel
theorem dL_leader_11 : decode cL_leader 11 = .ok (.astore_n 2, 1) := by decide +kernel
theorem dL_leader_12 : decode cL_leader 12 = .ok (.iconst 1, 1) := by decide +kernel
theorem dL_leader_13 : decode cL_leader 13 = .ok (.ireturn, 1) := by decide +kernel
theorem dL_leader_14 : decode cL_leader 14 = .ok (.iconst 0, 1) := by decide +kernel
theorem dL_leader_15 : decode cL_leader 15 = .ok (.ireturn, 1) := by decide +kernel
def f_L_leader (N : Nat) (fo : (Nat → Int64)) (xv : XV) (nv : SV) : Option (Int32 × ((Nat → Int64) × XV × SV)) :=
  (f_X5_leader N xv nv).bind (fun o1 => exc o1 (fun k => (if k = 1 then some ((1 : Int32), (fo, xv, nv)) else none)) (fun (ro1 : Int32) => some ((0 : Int32), ((vp_updL fo (0 : Int32).toNatClampNeg ((ro1).toInt64)), xv, nv))))
set_option maxHeartbeats 4000000 in
set_option maxRecDepth 100000 in
theorem met_L_leader (l : Launch) (z0 : Nat) (hst : l.stackTraces = false) (dC : Nat → ClassId) (dI : Nat → Nat → Nat) (cyI cyO cyL : ClassId) (qo : Nat) (x : Nat → Nat) (tr : Nat → Nat) (an : Nat → Nat) (fl fs : Nat → Option Nat) (sz : Nat) (N : Nat) (fo : (Nat → Int64)) (xv : XV) (nv : SV) (out : Int32 × ((Nat → Int64) × XV × SV)) (hF : f_L_leader N fo xv nv = some out) : Met l yL_leader (Cond.codeWith yL_leader cL_leader 3 (some .int) [(0, 8, 11, 15)] :: wT) ({ frames := 7, cells := 1, slots := 6, locals := 109 } : Room) (wWrX z0 dC dI cyI cyO cyL [.ref (x 0), .ref qo] (([[cLo cyL qo 1 fo], (cXo x an tr xv), (cH cyO (x 1) (x 2) 2 fl), (cXk cyI x xv), (cH cyO (x 4) (x 5) 6 fs), (cT cyI x (X_text xv)), (cSo an nv), (cG cyI an (S_green nv)), (cV cyI an (S_score nv))] : List va_W).flatten) sz) (va_Qi (fun (r : Int32) (u : (Nat → Int64) × XV × SV) => (r, u) = out) (fun u t => va_P (dC, dI) vwCl (([[cLo cyL qo 1 u.1], (cXo x an tr u.2.1), (cH cyO (x 1) (x 2) 2 fl), (cXk cyI x u.2.1), (cH cyO (x 4) (x 5) 6 fs), (cT cyI x (X_text u.2.1)), (cSo an u.2.2), (cG cyI an (S_green u.2.2)), (cV cyI an (S_score u.2.2))] : List va_W).flatten) t.heap ∧ va_D (va_A (([[cLo cyL qo 1 fo], (cXo x an tr xv), (cH cyO (x 1) (x 2) 2 fl), (cXk cyI x xv), (cH cyO (x 4) (x 5) 6 fs), (cT cyI x (X_text xv)), (cSo an nv), (cG cyI an (S_green nv)), (cV cyI an (S_score nv))] : List va_W).flatten) sz) (([[cLo cyL qo 1 u.1], (cXo x an tr u.2.1), (cH cyO (x 1) (x 2) 2 fl), (cXk cyI x u.2.1), (cH cyO (x 4) (x 5) 6 fs), (cT cyI x (X_text u.2.1)), (cSo an u.2.2), (cG cyI an (S_green u.2.2)), (cV cyI an (S_score u.2.2))] : List va_W).flatten)) (va_A (([[cLo cyL qo 1 fo], (cXo x an tr xv), (cH cyO (x 1) (x 2) 2 fl), (cXk cyI x xv), (cH cyO (x 4) (x 5) 6 fs), (cT cyI x (X_text xv)), (cSo an nv), (cG cyI an (S_green nv)), (cV cyI an (S_score nv))] : List va_W).flatten) sz)) 1 6 (va_A (([[cLo cyL qo 1 fo], (cXo x an tr xv), (cH cyO (x 1) (x 2) 2 fl), (cXk cyI x xv), (cH cyO (x 4) (x 5) 6 fs), (cT cyI x (X_text xv)), (cSo an nv), (cG cyI an (S_green nv)), (cV cyI an (S_score nv))] : List va_W).flatten) sz) := by
  refine Met.ofWH (cc := cL_leader) (maxL := 3) (ret := (some .int)) (by decide) rfl ?_
  intro p e s m args below meth c s₁ B hml hv
  obtain ⟨rfl, hsz, hP, hK, hD0, hz0, hZ⟩ := hv
  have hTab := vx_table (x := yL_leader) B (atoms_spec (ws := (Cond.codeWith yL_leader cL_leader 3 (some .int) [(0, 8, 11, 15)] :: wT)) B.pre _ List.mem_cons_self)
  have hx := B.exec
  have hb := B.bytes
  have hr := B.returns
  have hts0 := atoms_spec (ws := (Cond.codeWith yL_leader cL_leader 3 (some .int) [(0, 8, 11, 15)] :: wT)) B.pre
  have hts := fun w h => hts0 w (List.mem_cons_of_mem _ h)
  clear hts0
  have hown : s.vm.findClass RL = some m.cls := findClass_of_methodNamed B.named
  have hlocks := B.notSynchronized
  subst hsz
  have hD := hD0.self (sz := s.heap.size)
  have hAz := wA_ge hD0 hz0
  generalize hAe : va_A (([[cLo cyL qo 1 fo], (cXo x an tr xv), (cH cyO (x 1) (x 2) 2 fl), (cXk cyI x xv), (cH cyO (x 4) (x 5) 6 fs), (cT cyI x (X_text xv)), (cSo an nv), (cG cyI an (S_green nv)), (cV cyI an (S_score nv))] : List va_W).flatten) s.heap.size = A at hD hAz ⊢
  have hA : ∀ q : Nat, s.heap.size ≤ q → A q := fun q h => by rw [← hAe]; exact Or.inr h
  clear hD0
  have hS : va_S A s.heap s.heap [] := va_S.rf
  have hl := lv_entry [.ref (x 0), .ref qo] (n := 3) (Nat.le_of_ble_eq_true rfl)
  rw [lg_entry_eq]
  generalize (lg_sl [.ref (x 0), .ref qo] ++ List.replicate (3 - (lg_sl [.ref (x 0), .ref qo]).length) Slot.unset).toArray = ls at hl ⊢
  have hl : lv_has ls 3 [(0, .ref (x 0)), (1, .ref qo)] := hl
  unfold f_L_leader at hF
  refine lv_aload_n hx hb dL_leader_0 rfl (lv_at hl 1 rfl) ?_
  refine lv_iconst (v := 0) hx hb dL_leader_1 (by decide) ?_
  refine lv_aload_n hx hb dL_leader_2 rfl (lv_at hl 0 rfl) ?_
  obtain ⟨o1, h2, hF⟩ := obd hF
  refine wxRVi (As := []) (rest := [.int (0 : Int32), .ref qo]) (b := (x 0)) ⟨hx, hb, hml, hown, hts⟩ (met_X5_leader l z0 hst dC dI cyI cyO cyL x tr an fl fs N xv nv  o1 h2) (cwV 0 hts (gV w_methodLink_L_93 w_instanceMethod_X5_leader w_selects_X5_leader w_initialized_X5 w_code_X5_leader) rfl rfl rfl (by decide +kernel) ⟨Nat.le_of_ble_eq_true rfl, Nat.le_of_ble_eq_true rfl⟩) (va_recv hK.1 hP (ci := 5) (q0 := 1) rfl rfl) hP hK hZ hAz [1, 2, 3, 4, 5, 6, 7, 8, 9, 10, 11, 12, 13, 14, 15, 16, 17, 18, 19, 20, 21] rfl rfl hl.1 (Nat.le_of_ble_eq_true rfl) dL_leader_3 ⟨Nat.le_of_ble_eq_true rfl, Nat.le_of_ble_eq_true rfl⟩ hS (fun k ce q9 H locs hw hP hS h9 hv9 hc9 => ?_) (fun ro1 H locs hw hP hS => ?_)
  · have hw := hw.symm
    subst hw
    have hF := exc_l hF
    by_cases c3 : k = 1
    · subst c3
      have hF := itp rfl hF
      refine vx_catch (E := eIS) (name := eIS) hown [] ⟨0, 8, 11, 15⟩ [] hTab (fun z hz => nomatch hz) (by decide) (by decide) (hts _ w_classLink_L_15) (hZ.2.2.2.1.use _ (by decide)) h9 hv9 hc9 ?_
      refine lv_astore_n (lv' := [(2, .ref q9), (0, .ref (x 0)), (1, .ref qo)]) hx hb dL_leader_11 rfl hl (by decide) rfl (fun ls hl => ?_)
      refine lv_iconst (v := 1) hx hb dL_leader_12 (by decide) ?_
      refine W.widen (k := 1) (n := 6) (Nat.le_of_ble_eq_true rfl) (Nat.le_of_ble_eq_true rfl) ?_
      exact W.iret (v := (1 : Int32)) hx hb hr (fun t ht hW => ⟨⟨_, (fo, xv, nv), rfl, Option.some.inj hF, by rw [ht]; exact hP, hD⟩, hS.F ht⟩) hS.2.2 dL_leader_13
    · have hF := itn c3 hF
      cases hF
  · skip
    have hw := hw.symm
    subst hw
    have hF := exc_r hF
    refine lv_i2l (v := (ro1).toInt64) hx hb dL_leader_6 rfl ?_
    refine va_last hx hb hK.1 hP hD hS 0 2 rfl rfl (i := (0 : Int32)) (x := ((ro1).toInt64)) (show ixok (0 : Int32) 1 by decide) dL_leader_7 (fun H locs hP hD hS => ?_)
    have hP : va_P (dC, dI) vwCl (([[cLo cyL qo 1 (vp_updL fo (0 : Int32).toNatClampNeg ((ro1).toInt64))], (cXo x an tr xv), (cH cyO (x 1) (x 2) 2 fl), (cXk cyI x xv), (cH cyO (x 4) (x 5) 6 fs), (cT cyI x (X_text xv)), (cSo an nv), (cG cyI an (S_green nv)), (cV cyI an (S_score nv))] : List va_W).flatten) H := hP
    have hD : va_D A (([[cLo cyL qo 1 (vp_updL fo (0 : Int32).toNatClampNeg ((ro1).toInt64))], (cXo x an tr xv), (cH cyO (x 1) (x 2) 2 fl), (cXk cyI x xv), (cH cyO (x 4) (x 5) 6 fs), (cT cyI x (X_text xv)), (cSo an nv), (cG cyI an (S_green nv)), (cV cyI an (S_score nv))] : List va_W).flatten) := hD
    refine lv_goto (tgt := 14) hx hb dL_leader_8 (by decide) ?_
    refine lv_iconst (v := 0) hx hb dL_leader_14 (by decide) ?_
    refine W.widen (k := 1) (n := 6) (Nat.le_of_ble_eq_true rfl) (Nat.le_of_ble_eq_true rfl) ?_
    exact W.iret (v := (0 : Int32)) hx hb hr (fun t ht hW => ⟨⟨_, ((vp_updL fo (0 : Int32).toNatClampNeg ((ro1).toInt64)), xv, nv), rfl, Option.some.inj hF, by rw [ht]; exact hP, hD⟩, hS.F ht⟩) hS.2.2 dL_leader_15
theorem dL_nearest_0 : decode cL_nearest 0 = .ok (.aload_n 2, 1) := by decide +kernel
theorem dL_nearest_1 : decode cL_nearest 1 = .ok (.iconst 0, 1) := by decide +kernel
theorem dL_nearest_2 : decode cL_nearest 2 = .ok (.aload_n 0, 1) := by decide +kernel
theorem dL_nearest_3 : decode cL_nearest 3 = .ok (.iload_n 1, 1) := by decide +kernel
theorem dL_nearest_4 : decode cL_nearest 4 = .ok (.invokevirtual 96, 3) := by decide +kernel
theorem dL_nearest_7 : decode cL_nearest 7 = .ok (.i2l, 1) := by decide +kernel
theorem dL_nearest_8 : decode cL_nearest 8 = .ok (.lastore, 1) := by decide +kernel
theorem dL_nearest_9 : decode cL_nearest 9 = .ok (.goto 6, 3) := by decide +kernel
theorem dL_nearest_12 : decode cL_nearest 12 = .ok (.astore_n 3, 1) := by decide +kernel
theorem dL_nearest_13 : decode cL_nearest 13 = .ok (.iconst 1, 1) := by decide +kernel
theorem dL_nearest_14 : decode cL_nearest 14 = .ok (.ireturn, 1) := by decide +kernel
theorem dL_nearest_15 : decode cL_nearest 15 = .ok (.iconst 0, 1) := by decide +kernel
theorem dL_nearest_16 : decode cL_nearest 16 = .ok (.ireturn, 1) := by decide +kernel
def f_L_nearest (N : Nat) (fo : (Nat → Int64)) (xv : XV) (nv : SV) (p2 : Int32) : Option (Int32 × ((Nat → Int64) × XV × SV)) :=
  (f_X5_nearest N xv nv p2).bind (fun o1 => exc o1.1 (fun k => (if k = 2 then some ((1 : Int32), (fo, o1.2.1, o1.2.2)) else none)) (fun (ro1 : Int32) => some ((0 : Int32), ((vp_updL fo (0 : Int32).toNatClampNeg ((ro1).toInt64)), o1.2.1, o1.2.2))))
set_option maxHeartbeats 4000000 in
set_option maxRecDepth 100000 in
theorem met_L_nearest (l : Launch) (z0 : Nat) (hst : l.stackTraces = false) (dC : Nat → ClassId) (dI : Nat → Nat → Nat) (cyI cyO cyL : ClassId) (qo : Nat) (x : Nat → Nat) (tr : Nat → Nat) (an : Nat → Nat) (fl fs : Nat → Option Nat) (sz : Nat) (N : Nat) (fo : (Nat → Int64)) (xv : XV) (nv : SV) (p2 : Int32) (out : Int32 × ((Nat → Int64) × XV × SV)) (hF : f_L_nearest N fo xv nv p2 = some out) : Met l yL_nearest (Cond.codeWith yL_nearest cL_nearest 4 (some .int) [(0, 9, 12, 62)] :: wT) ({ frames := 7, cells := 1, slots := 6, locals := 103 } : Room) (wWrX z0 dC dI cyI cyO cyL [.ref (x 0), .int p2, .ref qo] (([[cLo cyL qo 1 fo], (cXo x an tr xv), (cH cyO (x 1) (x 2) 2 fl), (cXk cyI x xv), (cH cyO (x 4) (x 5) 6 fs), (cT cyI x (X_text xv)), (cSo an nv), (cG cyI an (S_green nv)), (cV cyI an (S_score nv))] : List va_W).flatten) sz) (va_Qi (fun (r : Int32) (u : (Nat → Int64) × XV × SV) => (r, u) = out) (fun u t => va_P (dC, dI) vwCl (([[cLo cyL qo 1 u.1], (cXo x an tr u.2.1), (cH cyO (x 1) (x 2) 2 fl), (cXk cyI x u.2.1), (cH cyO (x 4) (x 5) 6 fs), (cT cyI x (X_text u.2.1)), (cSo an u.2.2), (cG cyI an (S_green u.2.2)), (cV cyI an (S_score u.2.2))] : List va_W).flatten) t.heap ∧ va_D (va_A (([[cLo cyL qo 1 fo], (cXo x an tr xv), (cH cyO (x 1) (x 2) 2 fl), (cXk cyI x xv), (cH cyO (x 4) (x 5) 6 fs), (cT cyI x (X_text xv)), (cSo an nv), (cG cyI an (S_green nv)), (cV cyI an (S_score nv))] : List va_W).flatten) sz) (([[cLo cyL qo 1 u.1], (cXo x an tr u.2.1), (cH cyO (x 1) (x 2) 2 fl), (cXk cyI x u.2.1), (cH cyO (x 4) (x 5) 6 fs), (cT cyI x (X_text u.2.1)), (cSo an u.2.2), (cG cyI an (S_green u.2.2)), (cV cyI an (S_score u.2.2))] : List va_W).flatten)) (va_A (([[cLo cyL qo 1 fo], (cXo x an tr xv), (cH cyO (x 1) (x 2) 2 fl), (cXk cyI x xv), (cH cyO (x 4) (x 5) 6 fs), (cT cyI x (X_text xv)), (cSo an nv), (cG cyI an (S_green nv)), (cV cyI an (S_score nv))] : List va_W).flatten) sz)) 1 6 (va_A (([[cLo cyL qo 1 fo], (cXo x an tr xv), (cH cyO (x 1) (x 2) 2 fl), (cXk cyI x xv), (cH cyO (x 4) (x 5) 6 fs), (cT cyI x (X_text xv)), (cSo an nv), (cG cyI an (S_green nv)), (cV cyI an (S_score nv))] : List va_W).flatten) sz) := by
  refine Met.ofWH (cc := cL_nearest) (maxL := 4) (ret := (some .int)) (by decide) rfl ?_
  intro p e s m args below meth c s₁ B hml hv
  obtain ⟨rfl, hsz, hP, hK, hD0, hz0, hZ⟩ := hv
  have hTab := vx_table (x := yL_nearest) B (atoms_spec (ws := (Cond.codeWith yL_nearest cL_nearest 4 (some .int) [(0, 9, 12, 62)] :: wT)) B.pre _ List.mem_cons_self)
  have hx := B.exec
  have hb := B.bytes
  have hr := B.returns
  have hts0 := atoms_spec (ws := (Cond.codeWith yL_nearest cL_nearest 4 (some .int) [(0, 9, 12, 62)] :: wT)) B.pre
  have hts := fun w h => hts0 w (List.mem_cons_of_mem _ h)
  clear hts0
  have hown : s.vm.findClass RL = some m.cls := findClass_of_methodNamed B.named
  have hlocks := B.notSynchronized
  subst hsz
  have hD := hD0.self (sz := s.heap.size)
  have hAz := wA_ge hD0 hz0
  generalize hAe : va_A (([[cLo cyL qo 1 fo], (cXo x an tr xv), (cH cyO (x 1) (x 2) 2 fl), (cXk cyI x xv), (cH cyO (x 4) (x 5) 6 fs), (cT cyI x (X_text xv)), (cSo an nv), (cG cyI an (S_green nv)), (cV cyI an (S_score nv))] : List va_W).flatten) s.heap.size = A at hD hAz ⊢
  have hA : ∀ q : Nat, s.heap.size ≤ q → A q := fun q h => by rw [← hAe]; exact Or.inr h
  clear hD0
  have hS : va_S A s.heap s.heap [] := va_S.rf
  have hl := lv_entry [.ref (x 0), .int p2, .ref qo] (n := 4) (Nat.le_of_ble_eq_true rfl)
  rw [lg_entry_eq]
  generalize (lg_sl [.ref (x 0), .int p2, .ref qo] ++ List.replicate (4 - (lg_sl [.ref (x 0), .int p2, .ref qo]).length) Slot.unset).toArray = ls at hl ⊢
  have hl : lv_has ls 4 [(0, .ref (x 0)), (1, .int p2), (2, .ref qo)] := hl
  unfold f_L_nearest at hF
  refine lv_aload_n hx hb dL_nearest_0 rfl (lv_at hl 2 rfl) ?_
  refine lv_iconst (v := 0) hx hb dL_nearest_1 (by decide) ?_
  refine lv_aload_n hx hb dL_nearest_2 rfl (lv_at hl 0 rfl) ?_
  refine lv_iload_n hx hb dL_nearest_3 rfl (lv_at hl 1 rfl) ?_
  obtain ⟨o1, h2, hF⟩ := obd hF
  refine wxPVi (As := [.int p2]) (rest := [.int (0 : Int32), .ref qo]) (wr := ([[cLo cyL qo 1 fo]] : List va_W).flatten) (b := (x 0)) ⟨hx, hb, hml, hown, hts⟩ (met_X5_nearest l z0 hst dC dI cyI cyO cyL x tr an fl fs _ N xv nv p2 o1 h2) (cwV 1 hts (gV w_methodLink_L_96 w_instanceMethod_X5_nearest w_selects_X5_nearest w_initialized_X5 w_code_X5_nearest) rfl rfl rfl (by decide +kernel) ⟨Nat.le_of_ble_eq_true rfl, Nat.le_of_ble_eq_true rfl⟩) (va_recv hK.1 hP (ci := 5) (q0 := 1) rfl rfl) hP hD hK hZ hAz hz0 (seg_perm (n := 9) (R := [[cLo cyL qo 1 fo]]) (C := [(cXo x an tr xv), (cH cyO (x 1) (x 2) 2 fl), (cXk cyI x xv), (cH cyO (x 4) (x 5) 6 fs), (cT cyI x (X_text xv)), (cSo an nv), (cG cyI an (S_green nv)), (cV cyI an (S_score nv))]) [0] [1, 2, 3, 4, 5, 6, 7, 8] rfl rfl rfl (by decide) rfl) rfl hl.1 (Nat.le_of_ble_eq_true rfl) dL_nearest_4 ⟨Nat.le_of_ble_eq_true rfl, Nat.le_of_ble_eq_true rfl⟩ hS hA (fun k u ce q9 H locs hw hP hD hS h9 hv9 hc9 => ?_) (fun ro1 u H locs hw hP hD hS => ?_)
  · obtain rfl : u = o1.2 := congrArg Prod.snd hw
    have hw1 : Sum.inl k = o1.1 := congrArg Prod.fst hw
    rw [← hw1] at hF
    have hF := exc_l hF
    have hq := seg_permS (segs := [[cLo cyL qo 1 fo], (cXo x an tr o1.2.1), (cH cyO (x 1) (x 2) 2 fl), (cXk cyI x o1.2.1), (cH cyO (x 4) (x 5) 6 fs), (cT cyI x (X_text o1.2.1)), (cSo an o1.2.2), (cG cyI an (S_green o1.2.2)), (cV cyI an (S_score o1.2.2))]) (R := [[cLo cyL qo 1 fo]]) (C := [(cXo x an tr o1.2.1), (cH cyO (x 1) (x 2) 2 fl), (cXk cyI x o1.2.1), (cH cyO (x 4) (x 5) 6 fs), (cT cyI x (X_text o1.2.1)), (cSo an o1.2.2), (cG cyI an (S_green o1.2.2)), (cV cyI an (S_score o1.2.2))]) (n := 9) [0] [1, 2, 3, 4, 5, 6, 7, 8] rfl rfl rfl (by decide)
    have hP : va_P (dC, dI) vwCl (([[cLo cyL qo 1 fo], (cXo x an tr o1.2.1), (cH cyO (x 1) (x 2) 2 fl), (cXk cyI x o1.2.1), (cH cyO (x 4) (x 5) 6 fs), (cT cyI x (X_text o1.2.1)), (cSo an o1.2.2), (cG cyI an (S_green o1.2.2)), (cV cyI an (S_score o1.2.2))] : List va_W).flatten) H := hP.perm hq
    have hD : va_D A (([[cLo cyL qo 1 fo], (cXo x an tr o1.2.1), (cH cyO (x 1) (x 2) 2 fl), (cXk cyI x o1.2.1), (cH cyO (x 4) (x 5) 6 fs), (cT cyI x (X_text o1.2.1)), (cSo an o1.2.2), (cG cyI an (S_green o1.2.2)), (cV cyI an (S_score o1.2.2))] : List va_W).flatten) := hD.perm hq
    clear hq
    by_cases c3 : k = 2
    · subst c3
      have hF := itp rfl hF
      refine vx_catch (E := eIO) (name := eIO) hown [] ⟨0, 9, 12, 62⟩ [] hTab (fun z hz => nomatch hz) (by decide) (by decide) (hts _ w_classLink_L_62) (hZ.2.2.2.1.use _ (by decide)) h9 hv9 hc9 ?_
      refine lv_astore_n (lv' := [(3, .ref q9), (0, .ref (x 0)), (1, .int p2), (2, .ref qo)]) hx hb dL_nearest_12 rfl hl (by decide) rfl (fun ls hl => ?_)
      refine lv_iconst (v := 1) hx hb dL_nearest_13 (by decide) ?_
      refine W.widen (k := 1) (n := 6) (Nat.le_of_ble_eq_true rfl) (Nat.le_of_ble_eq_true rfl) ?_
      exact W.iret (v := (1 : Int32)) hx hb hr (fun t ht hW => ⟨⟨_, (fo, o1.2.1, o1.2.2), rfl, Option.some.inj hF, by rw [ht]; exact hP, hD⟩, hS.F ht⟩) hS.2.2 dL_nearest_14
    · have hF := itn c3 hF
      cases hF
  · skip
    obtain rfl : u = o1.2 := congrArg Prod.snd hw
    have hw1 : Sum.inr ro1 = o1.1 := congrArg Prod.fst hw
    rw [← hw1] at hF
    have hF := exc_r hF
    have hq := seg_permS (segs := [[cLo cyL qo 1 fo], (cXo x an tr o1.2.1), (cH cyO (x 1) (x 2) 2 fl), (cXk cyI x o1.2.1), (cH cyO (x 4) (x 5) 6 fs), (cT cyI x (X_text o1.2.1)), (cSo an o1.2.2), (cG cyI an (S_green o1.2.2)), (cV cyI an (S_score o1.2.2))]) (R := [[cLo cyL qo 1 fo]]) (C := [(cXo x an tr o1.2.1), (cH cyO (x 1) (x 2) 2 fl), (cXk cyI x o1.2.1), (cH cyO (x 4) (x 5) 6 fs), (cT cyI x (X_text o1.2.1)), (cSo an o1.2.2), (cG cyI an (S_green o1.2.2)), (cV cyI an (S_score o1.2.2))]) (n := 9) [0] [1, 2, 3, 4, 5, 6, 7, 8] rfl rfl rfl (by decide)
    have hP : va_P (dC, dI) vwCl (([[cLo cyL qo 1 fo], (cXo x an tr o1.2.1), (cH cyO (x 1) (x 2) 2 fl), (cXk cyI x o1.2.1), (cH cyO (x 4) (x 5) 6 fs), (cT cyI x (X_text o1.2.1)), (cSo an o1.2.2), (cG cyI an (S_green o1.2.2)), (cV cyI an (S_score o1.2.2))] : List va_W).flatten) H := hP.perm hq
    have hD : va_D A (([[cLo cyL qo 1 fo], (cXo x an tr o1.2.1), (cH cyO (x 1) (x 2) 2 fl), (cXk cyI x o1.2.1), (cH cyO (x 4) (x 5) 6 fs), (cT cyI x (X_text o1.2.1)), (cSo an o1.2.2), (cG cyI an (S_green o1.2.2)), (cV cyI an (S_score o1.2.2))] : List va_W).flatten) := hD.perm hq
    clear hq
    refine lv_i2l (v := (ro1).toInt64) hx hb dL_nearest_7 rfl ?_
    refine va_last hx hb hK.1 hP hD hS 0 2 rfl rfl (i := (0 : Int32)) (x := ((ro1).toInt64)) (show ixok (0 : Int32) 1 by decide) dL_nearest_8 (fun H locs hP hD hS => ?_)
    have hP : va_P (dC, dI) vwCl (([[cLo cyL qo 1 (vp_updL fo (0 : Int32).toNatClampNeg ((ro1).toInt64))], (cXo x an tr o1.2.1), (cH cyO (x 1) (x 2) 2 fl), (cXk cyI x o1.2.1), (cH cyO (x 4) (x 5) 6 fs), (cT cyI x (X_text o1.2.1)), (cSo an o1.2.2), (cG cyI an (S_green o1.2.2)), (cV cyI an (S_score o1.2.2))] : List va_W).flatten) H := hP
    have hD : va_D A (([[cLo cyL qo 1 (vp_updL fo (0 : Int32).toNatClampNeg ((ro1).toInt64))], (cXo x an tr o1.2.1), (cH cyO (x 1) (x 2) 2 fl), (cXk cyI x o1.2.1), (cH cyO (x 4) (x 5) 6 fs), (cT cyI x (X_text o1.2.1)), (cSo an o1.2.2), (cG cyI an (S_green o1.2.2)), (cV cyI an (S_score o1.2.2))] : List va_W).flatten) := hD
    refine lv_goto (tgt := 15) hx hb dL_nearest_9 (by decide) ?_
    refine lv_iconst (v := 0) hx hb dL_nearest_15 (by decide) ?_
    refine W.widen (k := 1) (n := 6) (Nat.le_of_ble_eq_true rfl) (Nat.le_of_ble_eq_true rfl) ?_
    exact W.iret (v := (0 : Int32)) hx hb hr (fun t ht hW => ⟨⟨_, ((vp_updL fo (0 : Int32).toNatClampNeg ((ro1).toInt64)), o1.2.1, o1.2.2), rfl, Option.some.inj hF, by rw [ht]; exact hP, hD⟩, hS.F ht⟩) hS.2.2 dL_nearest_16
theorem dL_aliveOf_0 : decode cL_aliveOf 0 = .ok (.aload_n 2, 1) := by decide +kernel
theorem dL_aliveOf_1 : decode cL_aliveOf 1 = .ok (.iconst 0, 1) := by decide +kernel
theorem dL_aliveOf_2 : decode cL_aliveOf 2 = .ok (.aload_n 0, 1) := by decide +kernel
theorem dL_aliveOf_3 : decode cL_aliveOf 3 = .ok (.iload_n 1, 1) := by decide +kernel
theorem dL_aliveOf_4 : decode cL_aliveOf 4 = .ok (.invokevirtual 99, 3) := by decide +kernel
theorem dL_aliveOf_7 : decode cL_aliveOf 7 = .ok (.i2l, 1) := by decide +kernel
theorem dL_aliveOf_8 : decode cL_aliveOf 8 = .ok (.lastore, 1) := by decide +kernel
theorem dL_aliveOf_9 : decode cL_aliveOf 9 = .ok (.goto 6, 3) := by decide +kernel
theorem dL_aliveOf_12 : decode cL_aliveOf 12 = .ok (.astore_n 3, 1) := by decide +kernel
theorem dL_aliveOf_13 : decode cL_aliveOf 13 = .ok (.iconst 1, 1) := by decide +kernel
theorem dL_aliveOf_14 : decode cL_aliveOf 14 = .ok (.ireturn, 1) := by decide +kernel
theorem dL_aliveOf_15 : decode cL_aliveOf 15 = .ok (.iconst 0, 1) := by decide +kernel
theorem dL_aliveOf_16 : decode cL_aliveOf 16 = .ok (.ireturn, 1) := by decide +kernel
def f_L_aliveOf (N : Nat) (fo : (Nat → Int64)) (xv : XV) (nv : SV) (p2 : Int32) : Option (Int32 × ((Nat → Int64) × XV × SV)) :=
  (f_X5_aliveOf N xv nv p2).bind (fun o1 => exc o1 (fun k => (if k = 2 then some ((1 : Int32), (fo, xv, nv)) else none)) (fun (ro1 : Int32) => some ((0 : Int32), ((vp_updL fo (0 : Int32).toNatClampNeg ((ro1).toInt64)), xv, nv))))
set_option maxHeartbeats 4000000 in
set_option maxRecDepth 100000 in
theorem met_L_aliveOf (l : Launch) (z0 : Nat) (hst : l.stackTraces = false) (dC : Nat → ClassId) (dI : Nat → Nat → Nat) (cyI cyO cyL : ClassId) (qo : Nat) (x : Nat → Nat) (tr : Nat → Nat) (an : Nat → Nat) (fl fs : Nat → Option Nat) (sz : Nat) (N : Nat) (fo : (Nat → Int64)) (xv : XV) (nv : SV) (p2 : Int32) (out : Int32 × ((Nat → Int64) × XV × SV)) (hF : f_L_aliveOf N fo xv nv p2 = some out) : Met l yL_aliveOf (Cond.codeWith yL_aliveOf cL_aliveOf 4 (some .int) [(0, 9, 12, 62)] :: wT) ({ frames := 8, cells := 1, slots := 6, locals := 123 } : Room) (wWrX z0 dC dI cyI cyO cyL [.ref (x 0), .int p2, .ref qo] (([[cLo cyL qo 1 fo], (cXo x an tr xv), (cH cyO (x 1) (x 2) 2 fl), (cXk cyI x xv), (cH cyO (x 4) (x 5) 6 fs), (cT cyI x (X_text xv)), (cSo an nv), (cG cyI an (S_green nv)), (cV cyI an (S_score nv))] : List va_W).flatten) sz) (va_Qi (fun (r : Int32) (u : (Nat → Int64) × XV × SV) => (r, u) = out) (fun u t => va_P (dC, dI) vwCl (([[cLo cyL qo 1 u.1], (cXo x an tr u.2.1), (cH cyO (x 1) (x 2) 2 fl), (cXk cyI x u.2.1), (cH cyO (x 4) (x 5) 6 fs), (cT cyI x (X_text u.2.1)), (cSo an u.2.2), (cG cyI an (S_green u.2.2)), (cV cyI an (S_score u.2.2))] : List va_W).flatten) t.heap ∧ va_D (va_A (([[cLo cyL qo 1 fo], (cXo x an tr xv), (cH cyO (x 1) (x 2) 2 fl), (cXk cyI x xv), (cH cyO (x 4) (x 5) 6 fs), (cT cyI x (X_text xv)), (cSo an nv), (cG cyI an (S_green nv)), (cV cyI an (S_score nv))] : List va_W).flatten) sz) (([[cLo cyL qo 1 u.1], (cXo x an tr u.2.1), (cH cyO (x 1) (x 2) 2 fl), (cXk cyI x u.2.1), (cH cyO (x 4) (x 5) 6 fs), (cT cyI x (X_text u.2.1)), (cSo an u.2.2), (cG cyI an (S_green u.2.2)), (cV cyI an (S_score u.2.2))] : List va_W).flatten)) (va_A (([[cLo cyL qo 1 fo], (cXo x an tr xv), (cH cyO (x 1) (x 2) 2 fl), (cXk cyI x xv), (cH cyO (x 4) (x 5) 6 fs), (cT cyI x (X_text xv)), (cSo an nv), (cG cyI an (S_green nv)), (cV cyI an (S_score nv))] : List va_W).flatten) sz)) 1 6 (va_A (([[cLo cyL qo 1 fo], (cXo x an tr xv), (cH cyO (x 1) (x 2) 2 fl), (cXk cyI x xv), (cH cyO (x 4) (x 5) 6 fs), (cT cyI x (X_text xv)), (cSo an nv), (cG cyI an (S_green nv)), (cV cyI an (S_score nv))] : List va_W).flatten) sz) := by
  refine Met.ofWH (cc := cL_aliveOf) (maxL := 4) (ret := (some .int)) (by decide) rfl ?_
  intro p e s m args below meth c s₁ B hml hv
  obtain ⟨rfl, hsz, hP, hK, hD0, hz0, hZ⟩ := hv
  have hTab := vx_table (x := yL_aliveOf) B (atoms_spec (ws := (Cond.codeWith yL_aliveOf cL_aliveOf 4 (some .int) [(0, 9, 12, 62)] :: wT)) B.pre _ List.mem_cons_self)
  have hx := B.exec
  have hb := B.bytes
  have hr := B.returns
  have hts0 := atoms_spec (ws := (Cond.codeWith yL_aliveOf cL_aliveOf 4 (some .int) [(0, 9, 12, 62)] :: wT)) B.pre
  have hts := fun w h => hts0 w (List.mem_cons_of_mem _ h)
  clear hts0
  have hown : s.vm.findClass RL = some m.cls := findClass_of_methodNamed B.named
  have hlocks := B.notSynchronized
  subst hsz
  have hD := hD0.self (sz := s.heap.size)
  have hAz := wA_ge hD0 hz0
  generalize hAe : va_A (([[cLo cyL qo 1 fo], (cXo x an tr xv), (cH cyO (x 1) (x 2) 2 fl), (cXk cyI x xv), (cH cyO (x 4) (x 5) 6 fs), (cT cyI x (X_text xv)), (cSo an nv), (cG cyI an (S_green nv)), (cV cyI an (S_score nv))] : List va_W).flatten) s.heap.size = A at hD hAz ⊢
  have hA : ∀ q : Nat, s.heap.size ≤ q → A q := fun q h => by rw [← hAe]; exact Or.inr h
  clear hD0
  have hS : va_S A s.heap s.heap [] := va_S.rf
  have hl := lv_entry [.ref (x 0), .int p2, .ref qo] (n := 4) (Nat.le_of_ble_eq_true rfl)
  rw [lg_entry_eq]
  generalize (lg_sl [.ref (x 0), .int p2, .ref qo] ++ List.replicate (4 - (lg_sl [.ref (x 0), .int p2, .ref qo]).length) Slot.unset).toArray = ls at hl ⊢
  have hl : lv_has ls 4 [(0, .ref (x 0)), (1, .int p2), (2, .ref qo)] := hl
  unfold f_L_aliveOf at hF
  refine lv_aload_n hx hb dL_aliveOf_0 rfl (lv_at hl 2 rfl) ?_
  refine lv_iconst (v := 0) hx hb dL_aliveOf_1 (by decide) ?_
  refine lv_aload_n hx hb dL_aliveOf_2 rfl (lv_at hl 0 rfl) ?_
  refine lv_iload_n hx hb dL_aliveOf_3 rfl (lv_at hl 1 rfl) ?_
  obtain ⟨o1, h2, hF⟩ := obd hF
  refine wxRVi (As := [.int p2]) (rest := [.int (0 : Int32), .ref qo]) (b := (x 0)) ⟨hx, hb, hml, hown, hts⟩ (met_X5_aliveOf l z0 hst dC dI cyI cyO cyL x tr an fl fs N xv nv p2 o1 h2) (cwV 1 hts (gV w_methodLink_L_99 w_instanceMethod_X5_aliveOf w_selects_X5_aliveOf w_initialized_X5 w_code_X5_aliveOf) rfl rfl rfl (by decide +kernel) ⟨Nat.le_of_ble_eq_true rfl, Nat.le_of_ble_eq_true rfl⟩) (va_recv hK.1 hP (ci := 5) (q0 := 1) rfl rfl) hP hK hZ hAz [1, 2, 3, 4, 5, 6, 7, 8, 9, 10, 11, 12, 13, 14, 15, 16, 17, 18, 19, 20, 21] rfl rfl hl.1 (Nat.le_of_ble_eq_true rfl) dL_aliveOf_4 ⟨Nat.le_of_ble_eq_true rfl, Nat.le_of_ble_eq_true rfl⟩ hS (fun k ce q9 H locs hw hP hS h9 hv9 hc9 => ?_) (fun ro1 H locs hw hP hS => ?_)
  · have hw := hw.symm
    subst hw
    have hF := exc_l hF
    by_cases c3 : k = 2
    · subst c3
      have hF := itp rfl hF
      refine vx_catch (E := eIO) (name := eIO) hown [] ⟨0, 9, 12, 62⟩ [] hTab (fun z hz => nomatch hz) (by decide) (by decide) (hts _ w_classLink_L_62) (hZ.2.2.2.1.use _ (by decide)) h9 hv9 hc9 ?_
      refine lv_astore_n (lv' := [(3, .ref q9), (0, .ref (x 0)), (1, .int p2), (2, .ref qo)]) hx hb dL_aliveOf_12 rfl hl (by decide) rfl (fun ls hl => ?_)
      refine lv_iconst (v := 1) hx hb dL_aliveOf_13 (by decide) ?_
      refine W.widen (k := 1) (n := 6) (Nat.le_of_ble_eq_true rfl) (Nat.le_of_ble_eq_true rfl) ?_
      exact W.iret (v := (1 : Int32)) hx hb hr (fun t ht hW => ⟨⟨_, (fo, xv, nv), rfl, Option.some.inj hF, by rw [ht]; exact hP, hD⟩, hS.F ht⟩) hS.2.2 dL_aliveOf_14
    · have hF := itn c3 hF
      cases hF
  · skip
    have hw := hw.symm
    subst hw
    have hF := exc_r hF
    refine lv_i2l (v := (ro1).toInt64) hx hb dL_aliveOf_7 rfl ?_
    refine va_last hx hb hK.1 hP hD hS 0 2 rfl rfl (i := (0 : Int32)) (x := ((ro1).toInt64)) (show ixok (0 : Int32) 1 by decide) dL_aliveOf_8 (fun H locs hP hD hS => ?_)
    have hP : va_P (dC, dI) vwCl (([[cLo cyL qo 1 (vp_updL fo (0 : Int32).toNatClampNeg ((ro1).toInt64))], (cXo x an tr xv), (cH cyO (x 1) (x 2) 2 fl), (cXk cyI x xv), (cH cyO (x 4) (x 5) 6 fs), (cT cyI x (X_text xv)), (cSo an nv), (cG cyI an (S_green nv)), (cV cyI an (S_score nv))] : List va_W).flatten) H := hP
    have hD : va_D A (([[cLo cyL qo 1 (vp_updL fo (0 : Int32).toNatClampNeg ((ro1).toInt64))], (cXo x an tr xv), (cH cyO (x 1) (x 2) 2 fl), (cXk cyI x xv), (cH cyO (x 4) (x 5) 6 fs), (cT cyI x (X_text xv)), (cSo an nv), (cG cyI an (S_green nv)), (cV cyI an (S_score nv))] : List va_W).flatten) := hD
    refine lv_goto (tgt := 15) hx hb dL_aliveOf_9 (by decide) ?_
    refine lv_iconst (v := 0) hx hb dL_aliveOf_15 (by decide) ?_
    refine W.widen (k := 1) (n := 6) (Nat.le_of_ble_eq_true rfl) (Nat.le_of_ble_eq_true rfl) ?_
    exact W.iret (v := (0 : Int32)) hx hb hr (fun t ht hW => ⟨⟨_, ((vp_updL fo (0 : Int32).toNatClampNeg ((ro1).toInt64)), xv, nv), rfl, Option.some.inj hF, by rw [ht]; exact hP, hD⟩, hS.F ht⟩) hS.2.2 dL_aliveOf_16
theorem dL_gap_0 : decode cL_gap 0 = .ok (.aload_n 1, 1) := by decide +kernel
theorem dL_gap_1 : decode cL_gap 1 = .ok (.iconst 0, 1) := by decide +kernel
theorem dL_gap_2 : decode cL_gap 2 = .ok (.aload_n 0, 1) := by decide +kernel
theorem dL_gap_3 : decode cL_gap 3 = .ok (.invokevirtual 102, 3) := by decide +kernel
theorem dL_gap_6 : decode cL_gap 6 = .ok (.i2l, 1) := by decide +kernel
theorem dL_gap_7 : decode cL_gap 7 = .ok (.lastore, 1) := by decide +kernel
theorem dL_gap_8 : decode cL_gap 8 = .ok (.goto 6, 3) := by decide +kernel
theorem dL_gap_11 : decode cL_gap 11 = .ok (.astore_n 2, 1) := by decide +kernel
theorem dL_gap_12 : decode cL_gap 12 = .ok (.iconst 1, 1) := by decide +kernel
theorem dL_gap_13 : decode cL_gap 13 = .ok (.ireturn, 1) := by decide +kernel
theorem dL_gap_14 : decode cL_gap 14 = .ok (.iconst 0, 1) := by decide +kernel
theorem dL_gap_15 : decode cL_gap 15 = .ok (.ireturn, 1) := by decide +kernel
def f_L_gap (N : Nat) (fo : (Nat → Int64)) (xv : XV) (nv : SV) : Option (Int32 × ((Nat → Int64) × XV × SV)) :=
  (f_X5_gap N xv nv).bind (fun o1 => exc o1 (fun k => (if k = 1 then some ((1 : Int32), (fo, xv, nv)) else none)) (fun (ro1 : Int32) => some ((0 : Int32), ((vp_updL fo (0 : Int32).toNatClampNeg ((ro1).toInt64)), xv, nv))))
set_option maxHeartbeats 4000000 in
set_option maxRecDepth 100000 in
theorem met_L_gap (l : Launch) (z0 : Nat) (hst : l.stackTraces = false) (dC : Nat → ClassId) (dI : Nat → Nat → Nat) (cyI cyO cyL : ClassId) (qo : Nat) (x : Nat → Nat) (tr : Nat → Nat) (an : Nat → Nat) (fl fs : Nat → Option Nat) (sz : Nat) (N : Nat) (fo : (Nat → Int64)) (xv : XV) (nv : SV) (out : Int32 × ((Nat → Int64) × XV × SV)) (hF : f_L_gap N fo xv nv = some out) : Met l yL_gap (Cond.codeWith yL_gap cL_gap 3 (some .int) [(0, 8, 11, 15)] :: wT) ({ frames := 7, cells := 1, slots := 6, locals := 110 } : Room) (wWrX z0 dC dI cyI cyO cyL [.ref (x 0), .ref qo] (([[cLo cyL qo 1 fo], (cXo x an tr xv), (cH cyO (x 1) (x 2) 2 fl), (cXk cyI x xv), (cH cyO (x 4) (x 5) 6 fs), (cT cyI x (X_text xv)), (cSo an nv), (cG cyI an (S_green nv)), (cV cyI an (S_score nv))] : List va_W).flatten) sz) (va_Qi (fun (r : Int32) (u : (Nat → Int64) × XV × SV) => (r, u) = out) (fun u t => va_P (dC, dI) vwCl (([[cLo cyL qo 1 u.1], (cXo x an tr u.2.1), (cH cyO (x 1) (x 2) 2 fl), (cXk cyI x u.2.1), (cH cyO (x 4) (x 5) 6 fs), (cT cyI x (X_text u.2.1)), (cSo an u.2.2), (cG cyI an (S_green u.2.2)), (cV cyI an (S_score u.2.2))] : List va_W).flatten) t.heap ∧ va_D (va_A (([[cLo cyL qo 1 fo], (cXo x an tr xv), (cH cyO (x 1) (x 2) 2 fl), (cXk cyI x xv), (cH cyO (x 4) (x 5) 6 fs), (cT cyI x (X_text xv)), (cSo an nv), (cG cyI an (S_green nv)), (cV cyI an (S_score nv))] : List va_W).flatten) sz) (([[cLo cyL qo 1 u.1], (cXo x an tr u.2.1), (cH cyO (x 1) (x 2) 2 fl), (cXk cyI x u.2.1), (cH cyO (x 4) (x 5) 6 fs), (cT cyI x (X_text u.2.1)), (cSo an u.2.2), (cG cyI an (S_green u.2.2)), (cV cyI an (S_score u.2.2))] : List va_W).flatten)) (va_A (([[cLo cyL qo 1 fo], (cXo x an tr xv), (cH cyO (x 1) (x 2) 2 fl), (cXk cyI x xv), (cH cyO (x 4) (x 5) 6 fs), (cT cyI x (X_text xv)), (cSo an nv), (cG cyI an (S_green nv)), (cV cyI an (S_score nv))] : List va_W).flatten) sz)) 1 6 (va_A (([[cLo cyL qo 1 fo], (cXo x an tr xv), (cH cyO (x 1) (x 2) 2 fl), (cXk cyI x xv), (cH cyO (x 4) (x 5) 6 fs), (cT cyI x (X_text xv)), (cSo an nv), (cG cyI an (S_green nv)), (cV cyI an (S_score nv))] : List va_W).flatten) sz) := by
  refine Met.ofWH (cc := cL_gap) (maxL := 3) (ret := (some .int)) (by decide) rfl ?_
  intro p e s m args below meth c s₁ B hml hv
  obtain ⟨rfl, hsz, hP, hK, hD0, hz0, hZ⟩ := hv
  have hTab := vx_table (x := yL_gap) B (atoms_spec (ws := (Cond.codeWith yL_gap cL_gap 3 (some .int) [(0, 8, 11, 15)] :: wT)) B.pre _ List.mem_cons_self)
  have hx := B.exec
  have hb := B.bytes
  have hr := B.returns
  have hts0 := atoms_spec (ws := (Cond.codeWith yL_gap cL_gap 3 (some .int) [(0, 8, 11, 15)] :: wT)) B.pre
  have hts := fun w h => hts0 w (List.mem_cons_of_mem _ h)
  clear hts0
  have hown : s.vm.findClass RL = some m.cls := findClass_of_methodNamed B.named
  have hlocks := B.notSynchronized
  subst hsz
  have hD := hD0.self (sz := s.heap.size)
  have hAz := wA_ge hD0 hz0
  generalize hAe : va_A (([[cLo cyL qo 1 fo], (cXo x an tr xv), (cH cyO (x 1) (x 2) 2 fl), (cXk cyI x xv), (cH cyO (x 4) (x 5) 6 fs), (cT cyI x (X_text xv)), (cSo an nv), (cG cyI an (S_green nv)), (cV cyI an (S_score nv))] : List va_W).flatten) s.heap.size = A at hD hAz ⊢
  have hA : ∀ q : Nat, s.heap.size ≤ q → A q := fun q h => by rw [← hAe]; exact Or.inr h
  clear hD0
  have hS : va_S A s.heap s.heap [] := va_S.rf
  have hl := lv_entry [.ref (x 0), .ref qo] (n := 3) (Nat.le_of_ble_eq_true rfl)
  rw [lg_entry_eq]
  generalize (lg_sl [.ref (x 0), .ref qo] ++ List.replicate (3 - (lg_sl [.ref (x 0), .ref qo]).length) Slot.unset).toArray = ls at hl ⊢
  have hl : lv_has ls 3 [(0, .ref (x 0)), (1, .ref qo)] := hl
  unfold f_L_gap at hF
  refine lv_aload_n hx hb dL_gap_0 rfl (lv_at hl 1 rfl) ?_
  refine lv_iconst (v := 0) hx hb dL_gap_1 (by decide) ?_
  refine lv_aload_n hx hb dL_gap_2 rfl (lv_at hl 0 rfl) ?_
  obtain ⟨o1, h2, hF⟩ := obd hF
  refine wxRVi (As := []) (rest := [.int (0 : Int32), .ref qo]) (b := (x 0)) ⟨hx, hb, hml, hown, hts⟩ (met_X5_gap l z0 hst dC dI cyI cyO cyL x tr an fl fs N xv nv  o1 h2) (cwV 0 hts (gV w_methodLink_L_102 w_instanceMethod_X5_gap w_selects_X5_gap w_initialized_X5 w_code_X5_gap) rfl rfl rfl (by decide +kernel) ⟨Nat.le_of_ble_eq_true rfl, Nat.le_of_ble_eq_true rfl⟩) (va_recv hK.1 hP (ci := 5) (q0 := 1) rfl rfl) hP hK hZ hAz [1, 2, 3, 4, 5, 6, 7, 8, 9, 10, 11, 12, 13, 14, 15, 16, 17, 18, 19, 20, 21] rfl rfl hl.1 (Nat.le_of_ble_eq_true rfl) dL_gap_3 ⟨Nat.le_of_ble_eq_true rfl, Nat.le_of_ble_eq_true rfl⟩ hS (fun k ce q9 H locs hw hP hS h9 hv9 hc9 => ?_) (fun ro1 H locs hw hP hS => ?_)
  · have hw := hw.symm
    subst hw
    have hF := exc_l hF
    by_cases c3 : k = 1
    · subst c3
      have hF := itp rfl hF
      refine vx_catch (E := eIS) (name := eIS) hown [] ⟨0, 8, 11, 15⟩ [] hTab (fun z hz => nomatch hz) (by decide) (by decide) (hts _ w_classLink_L_15) (hZ.2.2.2.1.use _ (by decide)) h9 hv9 hc9 ?_
      refine lv_astore_n (lv' := [(2, .ref q9), (0, .ref (x 0)), (1, .ref qo)]) hx hb dL_gap_11 rfl hl (by decide) rfl (fun ls hl => ?_)
      refine lv_iconst (v := 1) hx hb dL_gap_12 (by decide) ?_
      refine W.widen (k := 1) (n := 6) (Nat.le_of_ble_eq_true rfl) (Nat.le_of_ble_eq_true rfl) ?_
      exact W.iret (v := (1 : Int32)) hx hb hr (fun t ht hW => ⟨⟨_, (fo, xv, nv), rfl, Option.some.inj hF, by rw [ht]; exact hP, hD⟩, hS.F ht⟩) hS.2.2 dL_gap_13
    · have hF := itn c3 hF
      cases hF
  · skip
    have hw := hw.symm
    subst hw
    have hF := exc_r hF
    refine lv_i2l (v := (ro1).toInt64) hx hb dL_gap_6 rfl ?_
    refine va_last hx hb hK.1 hP hD hS 0 2 rfl rfl (i := (0 : Int32)) (x := ((ro1).toInt64)) (show ixok (0 : Int32) 1 by decide) dL_gap_7 (fun H locs hP hD hS => ?_)
    have hP : va_P (dC, dI) vwCl (([[cLo cyL qo 1 (vp_updL fo (0 : Int32).toNatClampNeg ((ro1).toInt64))], (cXo x an tr xv), (cH cyO (x 1) (x 2) 2 fl), (cXk cyI x xv), (cH cyO (x 4) (x 5) 6 fs), (cT cyI x (X_text xv)), (cSo an nv), (cG cyI an (S_green nv)), (cV cyI an (S_score nv))] : List va_W).flatten) H := hP
    have hD : va_D A (([[cLo cyL qo 1 (vp_updL fo (0 : Int32).toNatClampNeg ((ro1).toInt64))], (cXo x an tr xv), (cH cyO (x 1) (x 2) 2 fl), (cXk cyI x xv), (cH cyO (x 4) (x 5) 6 fs), (cT cyI x (X_text xv)), (cSo an nv), (cG cyI an (S_green nv)), (cV cyI an (S_score nv))] : List va_W).flatten) := hD
    refine lv_goto (tgt := 14) hx hb dL_gap_8 (by decide) ?_
    refine lv_iconst (v := 0) hx hb dL_gap_14 (by decide) ?_
    refine W.widen (k := 1) (n := 6) (Nat.le_of_ble_eq_true rfl) (Nat.le_of_ble_eq_true rfl) ?_
    exact W.iret (v := (0 : Int32)) hx hb hr (fun t ht hW => ⟨⟨_, ((vp_updL fo (0 : Int32).toNatClampNeg ((ro1).toInt64)), xv, nv), rfl, Option.some.inj hF, by rw [ht]; exact hP, hD⟩, hS.F ht⟩) hS.2.2 dL_gap_15
theorem dL_curveBySteps_0 : decode cL_curveBySteps 0 = .ok (.aload 5, 2) := by decide +kernel
theorem dL_curveBySteps_2 : decode cL_curveBySteps 2 = .ok (.iconst 0, 1) := by decide +kernel
theorem dL_curveBySteps_3 : decode cL_curveBySteps 3 = .ok (.aload_n 0, 1) := by decide +kernel
theorem dL_curveBySteps_4 : decode cL_curveBySteps 4 = .ok (.iload_n 1, 1) := by decide +kernel
theorem dL_curveBySteps_5 : decode cL_curveBySteps 5 = .ok (.iload_n 2, 1) := by decide +kernel
theorem dL_curveBySteps_6 : decode cL_curveBySteps 6 = .ok (.iload_n 3, 1) := by decide +kernel
theorem dL_curveBySteps_7 : decode cL_curveBySteps 7 = .ok (.iload 4, 2) := by decide +kernel
theorem dL_curveBySteps_9 : decode cL_curveBySteps 9 = .ok (.invokevirtual 105, 3) := by decide +kernel
theorem dL_curveBySteps_12 : decode cL_curveBySteps 12 = .ok (.i2l, 1) := by decide +kernel
theorem dL_curveBySteps_13 : decode cL_curveBySteps 13 = .ok (.lastore, 1) := by decide +kernel
theorem dL_curveBySteps_14 : decode cL_curveBySteps 14 = .ok (.goto 7, 3) := by decide +kernel
theorem dL_curveBySteps_17 : decode cL_curveBySteps 17 = .ok (.astore 6, 2) := by decide +kernel
theorem dL_curveBySteps_19 : decode cL_curveBySteps 19 = .ok (.iconst 1, 1) := by decide +kernel
theorem dL_curveBySteps_20 : decode cL_curveBySteps 20 = .ok (.ireturn, 1) := by decide +kernel
theorem dL_curveBySteps_21 : decode cL_curveBySteps 21 = .ok (.iconst 0, 1) := by decide +kernel
theorem dL_curveBySteps_22 : decode cL_curveBySteps 22 = .ok (.ireturn, 1) := by decide +kernel
def f_L_curveBySteps (N : Nat) (fo : (Nat → Int64)) (xv : XV) (nv : SV) (p2 : Int32) (p3 : Int32) (p4 : Int32) (p5 : Int32) : Option (Int32 × ((Nat → Int64) × XV × SV)) :=
  (f_X5_curveBySteps N xv nv p2 p3 p4 p5).bind (fun o1 => exc o1 (fun k => (if k = 0 then some ((1 : Int32), (fo, xv, nv)) else none)) (fun (ro1 : Int32) => some ((0 : Int32), ((vp_updL fo (0 : Int32).toNatClampNeg ((ro1).toInt64)), xv, nv))))
set_option maxHeartbeats 4000000 in
set_option maxRecDepth 100000 in
theorem met_L_curveBySteps (l : Launch) (z0 : Nat) (hst : l.stackTraces = false) (dC : Nat → ClassId) (dI : Nat → Nat → Nat) (cyI cyO cyL : ClassId) (qo : Nat) (x : Nat → Nat) (tr : Nat → Nat) (an : Nat → Nat) (fl fs : Nat → Option Nat) (sz : Nat) (N : Nat) (fo : (Nat → Int64)) (xv : XV) (nv : SV) (p2 : Int32) (p3 : Int32) (p4 : Int32) (p5 : Int32) (out : Int32 × ((Nat → Int64) × XV × SV)) (hF : f_L_curveBySteps N fo xv nv p2 p3 p4 p5 = some out) : Met l yL_curveBySteps (Cond.codeWith yL_curveBySteps cL_curveBySteps 7 (some .int) [(0, 14, 17, 13)] :: wT) ({ frames := 8, cells := 1, slots := 6, locals := 129 } : Room) (wWrX z0 dC dI cyI cyO cyL [.ref (x 0), .int p2, .int p3, .int p4, .int p5, .ref qo] (([[cLo cyL qo 1 fo], (cXo x an tr xv), (cH cyO (x 1) (x 2) 2 fl), (cXk cyI x xv), (cH cyO (x 4) (x 5) 6 fs), (cT cyI x (X_text xv)), (cSo an nv), (cG cyI an (S_green nv)), (cV cyI an (S_score nv))] : List va_W).flatten) sz) (va_Qi (fun (r : Int32) (u : (Nat → Int64) × XV × SV) => (r, u) = out) (fun u t => va_P (dC, dI) vwCl (([[cLo cyL qo 1 u.1], (cXo x an tr u.2.1), (cH cyO (x 1) (x 2) 2 fl), (cXk cyI x u.2.1), (cH cyO (x 4) (x 5) 6 fs), (cT cyI x (X_text u.2.1)), (cSo an u.2.2), (cG cyI an (S_green u.2.2)), (cV cyI an (S_score u.2.2))] : List va_W).flatten) t.heap ∧ va_D (va_A (([[cLo cyL qo 1 fo], (cXo x an tr xv), (cH cyO (x 1) (x 2) 2 fl), (cXk cyI x xv), (cH cyO (x 4) (x 5) 6 fs), (cT cyI x (X_text xv)), (cSo an nv), (cG cyI an (S_green nv)), (cV cyI an (S_score nv))] : List va_W).flatten) sz) (([[cLo cyL qo 1 u.1], (cXo x an tr u.2.1), (cH cyO (x 1) (x 2) 2 fl), (cXk cyI x u.2.1), (cH cyO (x 4) (x 5) 6 fs), (cT cyI x (X_text u.2.1)), (cSo an u.2.2), (cG cyI an (S_green u.2.2)), (cV cyI an (S_score u.2.2))] : List va_W).flatten)) (va_A (([[cLo cyL qo 1 fo], (cXo x an tr xv), (cH cyO (x 1) (x 2) 2 fl), (cXk cyI x xv), (cH cyO (x 4) (x 5) 6 fs), (cT cyI x (X_text xv)), (cSo an nv), (cG cyI an (S_green nv)), (cV cyI an (S_score nv))] : List va_W).flatten) sz)) 1 6 (va_A (([[cLo cyL qo 1 fo], (cXo x an tr xv), (cH cyO (x 1) (x 2) 2 fl), (cXk cyI x xv), (cH cyO (x 4) (x 5) 6 fs), (cT cyI x (X_text xv)), (cSo an nv), (cG cyI an (S_green nv)), (cV cyI an (S_score nv))] : List va_W).flatten) sz) := by
  refine Met.ofWH (cc := cL_curveBySteps) (maxL := 7) (ret := (some .int)) (by decide) rfl ?_
  intro p e s m args below meth c s₁ B hml hv
  obtain ⟨rfl, hsz, hP, hK, hD0, hz0, hZ⟩ := hv
  have hTab := vx_table (x := yL_curveBySteps) B (atoms_spec (ws := (Cond.codeWith yL_curveBySteps cL_curveBySteps 7 (some .int) [(0, 14, 17, 13)] :: wT)) B.pre _ List.mem_cons_self)
  have hx := B.exec
  have hb := B.bytes
  have hr := B.returns
  have hts0 := atoms_spec (ws := (Cond.codeWith yL_curveBySteps cL_curveBySteps 7 (some .int) [(0, 14, 17, 13)] :: wT)) B.pre
  have hts := fun w h => hts0 w (List.mem_cons_of_mem _ h)
  clear hts0
  have hown : s.vm.findClass RL = some m.cls := findClass_of_methodNamed B.named
  have hlocks := B.notSynchronized
  subst hsz
  have hD := hD0.self (sz := s.heap.size)
  have hAz := wA_ge hD0 hz0
  generalize hAe : va_A (([[cLo cyL qo 1 fo], (cXo x an tr xv), (cH cyO (x 1) (x 2) 2 fl), (cXk cyI x xv), (cH cyO (x 4) (x 5) 6 fs), (cT cyI x (X_text xv)), (cSo an nv), (cG cyI an (S_green nv)), (cV cyI an (S_score nv))] : List va_W).flatten) s.heap.size = A at hD hAz ⊢
  have hA : ∀ q : Nat, s.heap.size ≤ q → A q := fun q h => by rw [← hAe]; exact Or.inr h
  clear hD0
  have hS : va_S A s.heap s.heap [] := va_S.rf
  have hl := lv_entry [.ref (x 0), .int p2, .int p3, .int p4, .int p5, .ref qo] (n := 7) (Nat.le_of_ble_eq_true rfl)
  rw [lg_entry_eq]
  generalize (lg_sl [.ref (x 0), .int p2, .int p3, .int p4, .int p5, .ref qo] ++ List.replicate (7 - (lg_sl [.ref (x 0), .int p2, .int p3, .int p4, .int p5, .ref qo]).length) Slot.unset).toArray = ls at hl ⊢
  have hl : lv_has ls 7 [(0, .ref (x 0)), (1, .int p2), (2, .int p3), (3, .int p4), (4, .int p5), (5, .ref qo)] := hl
  unfold f_L_curveBySteps at hF
  refine lv_aload hx hb dL_curveBySteps_0 (lv_at hl 5 rfl) ?_
  refine lv_iconst (v := 0) hx hb dL_curveBySteps_2 (by decide) ?_
  refine lv_aload_n hx hb dL_curveBySteps_3 rfl (lv_at hl 0 rfl) ?_
  refine lv_iload_n hx hb dL_curveBySteps_4 rfl (lv_at hl 1 rfl) ?_
  refine lv_iload_n hx hb dL_curveBySteps_5 rfl (lv_at hl 2 rfl) ?_
  refine lv_iload_n hx hb dL_curveBySteps_6 rfl (lv_at hl 3 rfl) ?_
  refine lv_iload hx hb dL_curveBySteps_7 (lv_at hl 4 rfl) ?_
  obtain ⟨o1, h2, hF⟩ := obd hF
  refine wxRVi (As := [.int p2, .int p3, .int p4, .int p5]) (rest := [.int (0 : Int32), .ref qo]) (b := (x 0)) ⟨hx, hb, hml, hown, hts⟩ (met_X5_curveBySteps l z0 hst dC dI cyI cyO cyL x tr an fl fs N xv nv p2 p3 p4 p5 o1 h2) (cwV 4 hts (gV w_methodLink_L_105 w_instanceMethod_X5_curveBySteps w_selects_X5_curveBySteps w_initialized_X5 w_code_X5_curveBySteps) rfl rfl rfl (by decide +kernel) ⟨Nat.le_of_ble_eq_true rfl, Nat.le_of_ble_eq_true rfl⟩) (va_recv hK.1 hP (ci := 5) (q0 := 1) rfl rfl) hP hK hZ hAz [1, 2, 3, 4, 5, 6, 7, 8, 9, 10, 11, 12, 13, 14, 15, 16, 17, 18, 19, 20, 21] rfl rfl hl.1 (Nat.le_of_ble_eq_true rfl) dL_curveBySteps_9 ⟨Nat.le_of_ble_eq_true rfl, Nat.le_of_ble_eq_true rfl⟩ hS (fun k ce q9 H locs hw hP hS h9 hv9 hc9 => ?_) (fun ro1 H locs hw hP hS => ?_)
  · have hw := hw.symm
    subst hw
    have hF := exc_l hF
    by_cases c3 : k = 0
    · subst c3
      have hF := itp rfl hF
      refine vx_catch (E := eIA) (name := eIA) hown [] ⟨0, 14, 17, 13⟩ [] hTab (fun z hz => nomatch hz) (by decide) (by decide) (hts _ w_classLink_L_13) (hZ.2.2.2.1.use _ (by decide)) h9 hv9 hc9 ?_
      refine lv_astore (lv' := [(6, .ref q9), (0, .ref (x 0)), (1, .int p2), (2, .int p3), (3, .int p4), (4, .int p5), (5, .ref qo)]) hx hb dL_curveBySteps_17 hl (by decide) rfl (fun ls hl => ?_)
      refine lv_iconst (v := 1) hx hb dL_curveBySteps_19 (by decide) ?_
      refine W.widen (k := 1) (n := 6) (Nat.le_of_ble_eq_true rfl) (Nat.le_of_ble_eq_true rfl) ?_
      exact W.iret (v := (1 : Int32)) hx hb hr (fun t ht hW => ⟨⟨_, (fo, xv, nv), rfl, Option.some.inj hF, by rw [ht]; exact hP, hD⟩, hS.F ht⟩) hS.2.2 dL_curveBySteps_20
    · have hF := itn c3 hF
      cases hF
  · skip
    have hw := hw.symm
    subst hw
    have hF := exc_r hF
    refine lv_i2l (v := (ro1).toInt64) hx hb dL_curveBySteps_12 rfl ?_
    refine va_last hx hb hK.1 hP hD hS 0 2 rfl rfl (i := (0 : Int32)) (x := ((ro1).toInt64)) (show ixok (0 : Int32) 1 by decide) dL_curveBySteps_13 (fun H locs hP hD hS => ?_)
    have hP : va_P (dC, dI) vwCl (([[cLo cyL qo 1 (vp_updL fo (0 : Int32).toNatClampNeg ((ro1).toInt64))], (cXo x an tr xv), (cH cyO (x 1) (x 2) 2 fl), (cXk cyI x xv), (cH cyO (x 4) (x 5) 6 fs), (cT cyI x (X_text xv)), (cSo an nv), (cG cyI an (S_green nv)), (cV cyI an (S_score nv))] : List va_W).flatten) H := hP
    have hD : va_D A (([[cLo cyL qo 1 (vp_updL fo (0 : Int32).toNatClampNeg ((ro1).toInt64))], (cXo x an tr xv), (cH cyO (x 1) (x 2) 2 fl), (cXk cyI x xv), (cH cyO (x 4) (x 5) 6 fs), (cT cyI x (X_text xv)), (cSo an nv), (cG cyI an (S_green nv)), (cV cyI an (S_score nv))] : List va_W).flatten) := hD
    refine lv_goto (tgt := 21) hx hb dL_curveBySteps_14 (by decide) ?_
    refine lv_iconst (v := 0) hx hb dL_curveBySteps_21 (by decide) ?_
    refine W.widen (k := 1) (n := 6) (Nat.le_of_ble_eq_true rfl) (Nat.le_of_ble_eq_true rfl) ?_
    exact W.iret (v := (0 : Int32)) hx hb hr (fun t ht hW => ⟨⟨_, ((vp_updL fo (0 : Int32).toNatClampNeg ((ro1).toInt64)), xv, nv), rfl, Option.some.inj hF, by rw [ht]; exact hP, hD⟩, hS.F ht⟩) hS.2.2 dL_curveBySteps_22
theorem dL_curveByFormula_0 : decode cL_curveByFormula 0 = .ok (.aload 5, 2) := by decide +kernel
theorem dL_curveByFormula_2 : decode cL_curveByFormula 2 = .ok (.iconst 0, 1) := by decide +kernel
theorem dL_curveByFormula_3 : decode cL_curveByFormula 3 = .ok (.aload_n 0, 1) := by decide +kernel
theorem dL_curveByFormula_4 : decode cL_curveByFormula 4 = .ok (.iload_n 1, 1) := by decide +kernel
theorem dL_curveByFormula_5 : decode cL_curveByFormula 5 = .ok (.iload_n 2, 1) := by decide +kernel
theorem dL_curveByFormula_6 : decode cL_curveByFormula 6 = .ok (.iload_n 3, 1) := by decide +kernel
theorem dL_curveByFormula_7 : decode cL_curveByFormula 7 = .ok (.iload 4, 2) := by decide +kernel
theorem dL_curveByFormula_9 : decode cL_curveByFormula 9 = .ok (.invokevirtual 109, 3) := by decide +kernel
theorem dL_curveByFormula_12 : decode cL_curveByFormula 12 = .ok (.i2l, 1) := by decide +kernel
theorem dL_curveByFormula_13 : decode cL_curveByFormula 13 = .ok (.lastore, 1) := by decide +kernel
theorem dL_curveByFormula_14 : decode cL_curveByFormula 14 = .ok (.goto 7, 3) := by decide +kernel
theorem dL_curveByFormula_17 : decode cL_curveByFormula 17 = .ok (.astore 6, 2) := by decide +kernel
theorem dL_curveByFormula_19 : decode cL_curveByFormula 19 = .ok (.iconst 1, 1) := by decide +kernel
theorem dL_curveByFormula_20 : decode cL_curveByFormula 20 = .ok (.ireturn, 1) := by decide +kernel
theorem dL_curveByFormula_21 : decode cL_curveByFormula 21 = .ok (.iconst 0, 1) := by decide +kernel
theorem dL_curveByFormula_22 : decode cL_curveByFormula 22 = .ok (.ireturn, 1) := by decide +kernel
def f_L_curveByFormula (N : Nat) (fo : (Nat → Int64)) (xv : XV) (nv : SV) (p2 : Int32) (p3 : Int32) (p4 : Int32) (p5 : Int32) : Option (Int32 × ((Nat → Int64) × XV × SV)) :=
  (f_X5_curveByFormula N xv nv p2 p3 p4 p5).bind (fun o1 => exc o1 (fun k => (if k = 0 then some ((1 : Int32), (fo, xv, nv)) else none)) (fun (ro1 : Int32) => some ((0 : Int32), ((vp_updL fo (0 : Int32).toNatClampNeg ((ro1).toInt64)), xv, nv))))
set_option maxHeartbeats 4000000 in
set_option maxRecDepth 100000 in
theorem met_L_curveByFormula (l : Launch) (z0 : Nat) (hst : l.stackTraces = false) (dC : Nat → ClassId) (dI : Nat → Nat → Nat) (cyI cyO cyL : ClassId) (qo : Nat) (x : Nat → Nat) (tr : Nat → Nat) (an : Nat → Nat) (fl fs : Nat → Option Nat) (sz : Nat) (N : Nat) (fo : (Nat → Int64)) (xv : XV) (nv : SV) (p2 : Int32) (p3 : Int32) (p4 : Int32) (p5 : Int32) (out : Int32 × ((Nat → Int64) × XV × SV)) (hF : f_L_curveByFormula N fo xv nv p2 p3 p4 p5 = some out) : Met l yL_curveByFormula (Cond.codeWith yL_curveByFormula cL_curveByFormula 7 (some .int) [(0, 14, 17, 13)] :: wT) ({ frames := 8, cells := 1, slots := 6, locals := 129 } : Room) (wWrX z0 dC dI cyI cyO cyL [.ref (x 0), .int p2, .int p3, .int p4, .int p5, .ref qo] (([[cLo cyL qo 1 fo], (cXo x an tr xv), (cH cyO (x 1) (x 2) 2 fl), (cXk cyI x xv), (cH cyO (x 4) (x 5) 6 fs), (cT cyI x (X_text xv)), (cSo an nv), (cG cyI an (S_green nv)), (cV cyI an (S_score nv))] : List va_W).flatten) sz) (va_Qi (fun (r : Int32) (u : (Nat → Int64) × XV × SV) => (r, u) = out) (fun u t => va_P (dC, dI) vwCl (([[cLo cyL qo 1 u.1], (cXo x an tr u.2.1), (cH cyO (x 1) (x 2) 2 fl), (cXk cyI x u.2.1), (cH cyO (x 4) (x 5) 6 fs), (cT cyI x (X_text u.2.1)), (cSo an u.2.2), (cG cyI an (S_green u.2.2)), (cV cyI an (S_score u.2.2))] : List va_W).flatten) t.heap ∧ va_D (va_A (([[cLo cyL qo 1 fo], (cXo x an tr xv), (cH cyO (x 1) (x 2) 2 fl), (cXk cyI x xv), (cH cyO (x 4) (x 5) 6 fs), (cT cyI x (X_text xv)), (cSo an nv), (cG cyI an (S_green nv)), (cV cyI an (S_score nv))] : List va_W).flatten) sz) (([[cLo cyL qo 1 u.1], (cXo x an tr u.2.1), (cH cyO (x 1) (x 2) 2 fl), (cXk cyI x u.2.1), (cH cyO (x 4) (x 5) 6 fs), (cT cyI x (X_text u.2.1)), (cSo an u.2.2), (cG cyI an (S_green u.2.2)), (cV cyI an (S_score u.2.2))] : List va_W).flatten)) (va_A (([[cLo cyL qo 1 fo], (cXo x an tr xv), (cH cyO (x 1) (x 2) 2 fl), (cXk cyI x xv), (cH cyO (x 4) (x 5) 6 fs), (cT cyI x (X_text xv)), (cSo an nv), (cG cyI an (S_green nv)), (cV cyI an (S_score nv))] : List va_W).flatten) sz)) 1 6 (va_A (([[cLo cyL qo 1 fo], (cXo x an tr xv), (cH cyO (x 1) (x 2) 2 fl), (cXk cyI x xv), (cH cyO (x 4) (x 5) 6 fs), (cT cyI x (X_text xv)), (cSo an nv), (cG cyI an (S_green nv)), (cV cyI an (S_score nv))] : List va_W).flatten) sz) := by
  refine Met.ofWH (cc := cL_curveByFormula) (maxL := 7) (ret := (some .int)) (by decide) rfl ?_
  intro p e s m args below meth c s₁ B hml hv
  obtain ⟨rfl, hsz, hP, hK, hD0, hz0, hZ⟩ := hv
  have hTab := vx_table (x := yL_curveByFormula) B (atoms_spec (ws := (Cond.codeWith yL_curveByFormula cL_curveByFormula 7 (some .int) [(0, 14, 17, 13)] :: wT)) B.pre _ List.mem_cons_self)
  have hx := B.exec
  have hb := B.bytes
  have hr := B.returns
  have hts0 := atoms_spec (ws := (Cond.codeWith yL_curveByFormula cL_curveByFormula 7 (some .int) [(0, 14, 17, 13)] :: wT)) B.pre
  have hts := fun w h => hts0 w (List.mem_cons_of_mem _ h)
  clear hts0
  have hown : s.vm.findClass RL = some m.cls := findClass_of_methodNamed B.named
  have hlocks := B.notSynchronized
  subst hsz
  have hD := hD0.self (sz := s.heap.size)
  have hAz := wA_ge hD0 hz0
  generalize hAe : va_A (([[cLo cyL qo 1 fo], (cXo x an tr xv), (cH cyO (x 1) (x 2) 2 fl), (cXk cyI x xv), (cH cyO (x 4) (x 5) 6 fs), (cT cyI x (X_text xv)), (cSo an nv), (cG cyI an (S_green nv)), (cV cyI an (S_score nv))] : List va_W).flatten) s.heap.size = A at hD hAz ⊢
  have hA : ∀ q : Nat, s.heap.size ≤ q → A q := fun q h => by rw [← hAe]; exact Or.inr h
  clear hD0
  have hS : va_S A s.heap s.heap [] := va_S.rf
  have hl := lv_entry [.ref (x 0), .int p2, .int p3, .int p4, .int p5, .ref qo] (n := 7) (Nat.le_of_ble_eq_true rfl)
  rw [lg_entry_eq]
  generalize (lg_sl [.ref (x 0), .int p2, .int p3, .int p4, .int p5, .ref qo] ++ List.replicate (7 - (lg_sl [.ref (x 0), .int p2, .int p3, .int p4, .int p5, .ref qo]).length) Slot.unset).toArray = ls at hl ⊢
  have hl : lv_has ls 7 [(0, .ref (x 0)), (1, .int p2), (2, .int p3), (3, .int p4), (4, .int p5), (5, .ref qo)] := hl
  unfold f_L_curveByFormula at hF
  refine lv_aload hx hb dL_curveByFormula_0 (lv_at hl 5 rfl) ?_
  refine lv_iconst (v := 0) hx hb dL_curveByFormula_2 (by decide) ?_
  refine lv_aload_n hx hb dL_curveByFormula_3 rfl (lv_at hl 0 rfl) ?_
  refine lv_iload_n hx hb dL_curveByFormula_4 rfl (lv_at hl 1 rfl) ?_
  refine lv_iload_n hx hb dL_curveByFormula_5 rfl (lv_at hl 2 rfl) ?_
  refine lv_iload_n hx hb dL_curveByFormula_6 rfl (lv_at hl 3 rfl) ?_
  refine lv_iload hx hb dL_curveByFormula_7 (lv_at hl 4 rfl) ?_
  obtain ⟨o1, h2, hF⟩ := obd hF
  refine wxRVi (As := [.int p2, .int p3, .int p4, .int p5]) (rest := [.int (0 : Int32), .ref qo]) (b := (x 0)) ⟨hx, hb, hml, hown, hts⟩ (met_X5_curveByFormula l z0 hst dC dI cyI cyO cyL x tr an fl fs N xv nv p2 p3 p4 p5 o1 h2) (cwV 4 hts (gV w_methodLink_L_109 w_instanceMethod_X5_curveByFormula w_selects_X5_curveByFormula w_initialized_X5 w_code_X5_curveByFormula) rfl rfl rfl (by decide +kernel) ⟨Nat.le_of_ble_eq_true rfl, Nat.le_of_ble_eq_true rfl⟩) (va_recv hK.1 hP (ci := 5) (q0 := 1) rfl rfl) hP hK hZ hAz [1, 2, 3, 4, 5, 6, 7, 8, 9, 10, 11, 12, 13, 14, 15, 16, 17, 18, 19, 20, 21] rfl rfl hl.1 (Nat.le_of_ble_eq_true rfl) dL_curveByFormula_9 ⟨Nat.le_of_ble_eq_true rfl, Nat.le_of_ble_eq_true rfl⟩ hS (fun k ce q9 H locs hw hP hS h9 hv9 hc9 => ?_) (fun ro1 H locs hw hP hS => ?_)
  · have hw := hw.symm
    subst hw
    have hF := exc_l hF
    by_cases c3 : k = 0
    · subst c3
      have hF := itp rfl hF
      refine vx_catch (E := eIA) (name := eIA) hown [] ⟨0, 14, 17, 13⟩ [] hTab (fun z hz => nomatch hz) (by decide) (by decide) (hts _ w_classLink_L_13) (hZ.2.2.2.1.use _ (by decide)) h9 hv9 hc9 ?_
      refine lv_astore (lv' := [(6, .ref q9), (0, .ref (x 0)), (1, .int p2), (2, .int p3), (3, .int p4), (4, .int p5), (5, .ref qo)]) hx hb dL_curveByFormula_17 hl (by decide) rfl (fun ls hl => ?_)
      refine lv_iconst (v := 1) hx hb dL_curveByFormula_19 (by decide) ?_
      refine W.widen (k := 1) (n := 6) (Nat.le_of_ble_eq_true rfl) (Nat.le_of_ble_eq_true rfl) ?_
      exact W.iret (v := (1 : Int32)) hx hb hr (fun t ht hW => ⟨⟨_, (fo, xv, nv), rfl, Option.some.inj hF, by rw [ht]; exact hP, hD⟩, hS.F ht⟩) hS.2.2 dL_curveByFormula_20
    · have hF := itn c3 hF
      cases hF
  · skip
    have hw := hw.symm
    subst hw
    have hF := exc_r hF
    refine lv_i2l (v := (ro1).toInt64) hx hb dL_curveByFormula_12 rfl ?_
    refine va_last hx hb hK.1 hP hD hS 0 2 rfl rfl (i := (0 : Int32)) (x := ((ro1).toInt64)) (show ixok (0 : Int32) 1 by decide) dL_curveByFormula_13 (fun H locs hP hD hS => ?_)
    have hP : va_P (dC, dI) vwCl (([[cLo cyL qo 1 (vp_updL fo (0 : Int32).toNatClampNeg ((ro1).toInt64))], (cXo x an tr xv), (cH cyO (x 1) (x 2) 2 fl), (cXk cyI x xv), (cH cyO (x 4) (x 5) 6 fs), (cT cyI x (X_text xv)), (cSo an nv), (cG cyI an (S_green nv)), (cV cyI an (S_score nv))] : List va_W).flatten) H := hP
    have hD : va_D A (([[cLo cyL qo 1 (vp_updL fo (0 : Int32).toNatClampNeg ((ro1).toInt64))], (cXo x an tr xv), (cH cyO (x 1) (x 2) 2 fl), (cXk cyI x xv), (cH cyO (x 4) (x 5) 6 fs), (cT cyI x (X_text xv)), (cSo an nv), (cG cyI an (S_green nv)), (cV cyI an (S_score nv))] : List va_W).flatten) := hD
    refine lv_goto (tgt := 21) hx hb dL_curveByFormula_14 (by decide) ?_
    refine lv_iconst (v := 0) hx hb dL_curveByFormula_21 (by decide) ?_
    refine W.widen (k := 1) (n := 6) (Nat.le_of_ble_eq_true rfl) (Nat.le_of_ble_eq_true rfl) ?_
    exact W.iret (v := (0 : Int32)) hx hb hr (fun t ht hW => ⟨⟨_, ((vp_updL fo (0 : Int32).toNatClampNeg ((ro1).toInt64)), xv, nv), rfl, Option.some.inj hF, by rw [ht]; exact hP, hD⟩, hS.F ht⟩) hS.2.2 dL_curveByFormula_22
theorem dL_wouldCount_0 : decode cL_wouldCount 0 = .ok (.aload 4, 2) := by decide +kernel
theorem dL_wouldCount_2 : decode cL_wouldCount 2 = .ok (.iconst 0, 1) := by decide +kernel
theorem dL_wouldCount_3 : decode cL_wouldCount 3 = .ok (.aload_n 0, 1) := by decide +kernel
theorem dL_wouldCount_4 : decode cL_wouldCount 4 = .ok (.iload_n 1, 1) := by decide +kernel
theorem dL_wouldCount_5 : decode cL_wouldCount 5 = .ok (.iload_n 2, 1) := by decide +kernel
theorem dL_wouldCount_6 : decode cL_wouldCount 6 = .ok (.iload_n 3, 1) := by decide +kernel
theorem dL_wouldCount_7 : decode cL_wouldCount 7 = .ok (.invokevirtual 112, 3) := by decide +kernel
theorem dL_wouldCount_10 : decode cL_wouldCount 10 = .ok (.i2l, 1) := by decide +kernel
theorem dL_wouldCount_11 : decode cL_wouldCount 11 = .ok (.lastore, 1) := by decide +kernel
theorem dL_wouldCount_12 : decode cL_wouldCount 12 = .ok (.goto 11, 3) := by decide +kernel
theorem dL_wouldCount_15 : decode cL_wouldCount 15 = .ok (.astore 5, 2) := by decide +kernel
theorem dL_wouldCount_17 : decode cL_wouldCount 17 = .ok (.iconst 1, 1) := by decide +kernel
theorem dL_wouldCount_18 : decode cL_wouldCount 18 = .ok (.ireturn, 1) := by decide +kernel
theorem dL_wouldCount_19 : decode cL_wouldCount 19 = .ok (.astore 5, 2) := by decide +kernel
theorem dL_wouldCount_21 : decode cL_wouldCount 21 = .ok (.iconst 2, 1) := by decide +kernel
theorem dL_wouldCount_22 : decode cL_wouldCount 22 = .ok (.ireturn, 1) := by decide +kernel
theorem dL_wouldCount_23 : decode cL_wouldCount 23 = .ok (.iconst 0, 1) := by decide +kernel
theorem dL_wouldCount_24 : decode cL_wouldCount 24 = .ok (.ireturn, 1) := by decide +kernel
def f_L_wouldCount (N : Nat) (fo : (Nat → Int64)) (xv : XV) (nv : SV) (tv : SV) (p2 : Int32) (p3 : Int32) (p4 : Int32) : Option (Int32 × ((Nat → Int64) × XV × SV × SV)) :=
  (f_X5_wouldCount N xv nv tv p2 p3 p4).bind (fun o1 => exc o1.1 (fun k => (if k = 0 then some ((1 : Int32), (fo, o1.2.1, o1.2.2.1, o1.2.2.2)) else if k = 1 then some ((2 : Int32), (fo, o1.2.1, o1.2.2.1, o1.2.2.2)) else none)) (fun (ro1 : Int32) => some ((0 : Int32), ((vp_updL fo (0 : Int32).toNatClampNeg ((ro1).toInt64)), o1.2.1, o1.2.2.1, o1.2.2.2))))
set_option maxHeartbeats 4000000 in
set_option maxRecDepth 100000 in
theorem met_L_wouldCount (l : Launch) (z0 : Nat) (hst : l.stackTraces = false) (dC : Nat → ClassId) (dI : Nat → Nat → Nat) (cyI cyO cyL : ClassId) (qo : Nat) (x : Nat → Nat) (an : Nat → Nat) (tr : Nat → Nat) (fl fs : Nat → Option Nat) (sz : Nat) (N : Nat) (fo : (Nat → Int64)) (xv : XV) (nv : SV) (tv : SV) (p2 : Int32) (p3 : Int32) (p4 : Int32) (out : Int32 × ((Nat → Int64) × XV × SV × SV)) (hF : f_L_wouldCount N fo xv nv tv p2 p3 p4 = some out) : Met l yL_wouldCount (Cond.codeWith yL_wouldCount cL_wouldCount 6 (some .int) [(0, 12, 15, 13), (0, 12, 19, 15)] :: wT) ({ frames := 7, cells := 1, slots := 6, locals := 150 } : Room) (wWrX z0 dC dI cyI cyO cyL [.ref (x 0), .int p2, .int p3, .int p4, .ref qo] (([[cLo cyL qo 1 fo], (cXo x an tr xv), (cH cyO (x 1) (x 2) 2 fl), (cXk cyI x xv), (cH cyO (x 4) (x 5) 6 fs), (cT cyI x (X_text xv)), (cSo an nv), (cG cyI an (S_green nv)), (cV cyI an (S_score nv)), (cSo tr tv), (cG cyI tr (S_green tv)), (cV cyI tr (S_score tv))] : List va_W).flatten) sz) (va_Qi (fun (r : Int32) (u : (Nat → Int64) × XV × SV × SV) => (r, u) = out) (fun u t => va_P (dC, dI) vwCl (([[cLo cyL qo 1 u.1], (cXo x an tr u.2.1), (cH cyO (x 1) (x 2) 2 fl), (cXk cyI x u.2.1), (cH cyO (x 4) (x 5) 6 fs), (cT cyI x (X_text u.2.1)), (cSo an u.2.2.1), (cG cyI an (S_green u.2.2.1)), (cV cyI an (S_score u.2.2.1)), (cSo tr u.2.2.2), (cG cyI tr (S_green u.2.2.2)), (cV cyI tr (S_score u.2.2.2))] : List va_W).flatten) t.heap ∧ va_D (va_A (([[cLo cyL qo 1 fo], (cXo x an tr xv), (cH cyO (x 1) (x 2) 2 fl), (cXk cyI x xv), (cH cyO (x 4) (x 5) 6 fs), (cT cyI x (X_text xv)), (cSo an nv), (cG cyI an (S_green nv)), (cV cyI an (S_score nv)), (cSo tr tv), (cG cyI tr (S_green tv)), (cV cyI tr (S_score tv))] : List va_W).flatten) sz) (([[cLo cyL qo 1 u.1], (cXo x an tr u.2.1), (cH cyO (x 1) (x 2) 2 fl), (cXk cyI x u.2.1), (cH cyO (x 4) (x 5) 6 fs), (cT cyI x (X_text u.2.1)), (cSo an u.2.2.1), (cG cyI an (S_green u.2.2.1)), (cV cyI an (S_score u.2.2.1)), (cSo tr u.2.2.2), (cG cyI tr (S_green u.2.2.2)), (cV cyI tr (S_score u.2.2.2))] : List va_W).flatten)) (va_A (([[cLo cyL qo 1 fo], (cXo x an tr xv), (cH cyO (x 1) (x 2) 2 fl), (cXk cyI x xv), (cH cyO (x 4) (x 5) 6 fs), (cT cyI x (X_text xv)), (cSo an nv), (cG cyI an (S_green nv)), (cV cyI an (S_score nv)), (cSo tr tv), (cG cyI tr (S_green tv)), (cV cyI tr (S_score tv))] : List va_W).flatten) sz)) 1 6 (va_A (([[cLo cyL qo 1 fo], (cXo x an tr xv), (cH cyO (x 1) (x 2) 2 fl), (cXk cyI x xv), (cH cyO (x 4) (x 5) 6 fs), (cT cyI x (X_text xv)), (cSo an nv), (cG cyI an (S_green nv)), (cV cyI an (S_score nv)), (cSo tr tv), (cG cyI tr (S_green tv)), (cV cyI tr (S_score tv))] : List va_W).flatten) sz) := by
  refine Met.ofWH (cc := cL_wouldCount) (maxL := 6) (ret := (some .int)) (by decide) rfl ?_
  intro p e s m args below meth c s₁ B hml hv
  obtain ⟨rfl, hsz, hP, hK, hD0, hz0, hZ⟩ := hv
  have hTab := vx_table (x := yL_wouldCount) B (atoms_spec (ws := (Cond.codeWith yL_wouldCount cL_wouldCount 6 (some .int) [(0, 12, 15, 13), (0, 12, 19, 15)] :: wT)) B.pre _ List.mem_cons_self)
  have hx := B.exec
  have hb := B.bytes
  have hr := B.returns
  have hts0 := atoms_spec (ws := (Cond.codeWith yL_wouldCount cL_wouldCount 6 (some .int) [(0, 12, 15, 13), (0, 12, 19, 15)] :: wT)) B.pre
  have hts := fun w h => hts0 w (List.mem_cons_of_mem _ h)
  clear hts0
  have hown : s.vm.findClass RL = some m.cls := findClass_of_methodNamed B.named
  have hlocks := B.notSynchronized
  subst hsz
  have hD := hD0.self (sz := s.heap.size)
  have hAz := wA_ge hD0 hz0
  generalize hAe : va_A (([[cLo cyL qo 1 fo], (cXo x an tr xv), (cH cyO (x 1) (x 2) 2 fl), (cXk cyI x xv), (cH cyO (x 4) (x 5) 6 fs), (cT cyI x (X_text xv)), (cSo an nv), (cG cyI an (S_green nv)), (cV cyI an (S_score nv)), (cSo tr tv), (cG cyI tr (S_green tv)), (cV cyI tr (S_score tv))] : List va_W).flatten) s.heap.size = A at hD hAz ⊢
  have hA : ∀ q : Nat, s.heap.size ≤ q → A q := fun q h => by rw [← hAe]; exact Or.inr h
  clear hD0
  have hS : va_S A s.heap s.heap [] := va_S.rf
  have hl := lv_entry [.ref (x 0), .int p2, .int p3, .int p4, .ref qo] (n := 6) (Nat.le_of_ble_eq_true rfl)
  rw [lg_entry_eq]
  generalize (lg_sl [.ref (x 0), .int p2, .int p3, .int p4, .ref qo] ++ List.replicate (6 - (lg_sl [.ref (x 0), .int p2, .int p3, .int p4, .ref qo]).length) Slot.unset).toArray = ls at hl ⊢
  have hl : lv_has ls 6 [(0, .ref (x 0)), (1, .int p2), (2, .int p3), (3, .int p4), (4, .ref qo)] := hl
  unfold f_L_wouldCount at hF
  refine lv_aload hx hb dL_wouldCount_0 (lv_at hl 4 rfl) ?_
  refine lv_iconst (v := 0) hx hb dL_wouldCount_2 (by decide) ?_
  refine lv_aload_n hx hb dL_wouldCount_3 rfl (lv_at hl 0 rfl) ?_
  refine lv_iload_n hx hb dL_wouldCount_4 rfl (lv_at hl 1 rfl) ?_
  refine lv_iload_n hx hb dL_wouldCount_5 rfl (lv_at hl 2 rfl) ?_
  refine lv_iload_n hx hb dL_wouldCount_6 rfl (lv_at hl 3 rfl) ?_
  obtain ⟨o1, h2, hF⟩ := obd hF
  refine wxPVi (As := [.int p2, .int p3, .int p4]) (rest := [.int (0 : Int32), .ref qo]) (wr := ([[cLo cyL qo 1 fo]] : List va_W).flatten) (b := (x 0)) ⟨hx, hb, hml, hown, hts⟩ (met_X5_wouldCount l z0 hst dC dI cyI cyO cyL x an tr fl fs _ N xv nv tv p2 p3 p4 o1 h2) (cwV 3 hts (gV w_methodLink_L_112 w_instanceMethod_X5_wouldCount w_selects_X5_wouldCount w_initialized_X5 w_code_X5_wouldCount) rfl rfl rfl (by decide +kernel) ⟨Nat.le_of_ble_eq_true rfl, Nat.le_of_ble_eq_true rfl⟩) (va_recv hK.1 hP (ci := 5) (q0 := 1) rfl rfl) hP hD hK hZ hAz hz0 (seg_perm (n := 12) (R := [[cLo cyL qo 1 fo]]) (C := [(cXo x an tr xv), (cH cyO (x 1) (x 2) 2 fl), (cXk cyI x xv), (cH cyO (x 4) (x 5) 6 fs), (cT cyI x (X_text xv)), (cSo an nv), (cG cyI an (S_green nv)), (cV cyI an (S_score nv)), (cSo tr tv), (cG cyI tr (S_green tv)), (cV cyI tr (S_score tv))]) [0] [1, 2, 3, 4, 5, 6, 7, 8, 9, 10, 11] rfl rfl rfl (by decide) rfl) rfl hl.1 (Nat.le_of_ble_eq_true rfl) dL_wouldCount_7 ⟨Nat.le_of_ble_eq_true rfl, Nat.le_of_ble_eq_true rfl⟩ hS hA (fun k u ce q9 H locs hw hP hD hS h9 hv9 hc9 => ?_) (fun ro1 u H locs hw hP hD hS => ?_)
  · obtain rfl : u = o1.2 := congrArg Prod.snd hw
    have hw1 : Sum.inl k = o1.1 := congrArg Prod.fst hw
    rw [← hw1] at hF
    have hF := exc_l hF
    have hq := seg_permS (segs := [[cLo cyL qo 1 fo], (cXo x an tr o1.2.1), (cH cyO (x 1) (x 2) 2 fl), (cXk cyI x o1.2.1), (cH cyO (x 4) (x 5) 6 fs), (cT cyI x (X_text o1.2.1)), (cSo an o1.2.2.1), (cG cyI an (S_green o1.2.2.1)), (cV cyI an (S_score o1.2.2.1)), (cSo tr o1.2.2.2), (cG cyI tr (S_green o1.2.2.2)), (cV cyI tr (S_score o1.2.2.2))]) (R := [[cLo cyL qo 1 fo]]) (C := [(cXo x an tr o1.2.1), (cH cyO (x 1) (x 2) 2 fl), (cXk cyI x o1.2.1), (cH cyO (x 4) (x 5) 6 fs), (cT cyI x (X_text o1.2.1)), (cSo an o1.2.2.1), (cG cyI an (S_green o1.2.2.1)), (cV cyI an (S_score o1.2.2.1)), (cSo tr o1.2.2.2), (cG cyI tr (S_green o1.2.2.2)), (cV cyI tr (S_score o1.2.2.2))]) (n := 12) [0] [1, 2, 3, 4, 5, 6, 7, 8, 9, 10, 11] rfl rfl rfl (by decide)
    have hP : va_P (dC, dI) vwCl (([[cLo cyL qo 1 fo], (cXo x an tr o1.2.1), (cH cyO (x 1) (x 2) 2 fl), (cXk cyI x o1.2.1), (cH cyO (x 4) (x 5) 6 fs), (cT cyI x (X_text o1.2.1)), (cSo an o1.2.2.1), (cG cyI an (S_green o1.2.2.1)), (cV cyI an (S_score o1.2.2.1)), (cSo tr o1.2.2.2), (cG cyI tr (S_green o1.2.2.2)), (cV cyI tr (S_score o1.2.2.2))] : List va_W).flatten) H := hP.perm hq
    have hD : va_D A (([[cLo cyL qo 1 fo], (cXo x an tr o1.2.1), (cH cyO (x 1) (x 2) 2 fl), (cXk cyI x o1.2.1), (cH cyO (x 4) (x 5) 6 fs), (cT cyI x (X_text o1.2.1)), (cSo an o1.2.2.1), (cG cyI an (S_green o1.2.2.1)), (cV cyI an (S_score o1.2.2.1)), (cSo tr o1.2.2.2), (cG cyI tr (S_green o1.2.2.2)), (cV cyI tr (S_score o1.2.2.2))] : List va_W).flatten) := hD.perm hq
    clear hq
    by_cases c3 : k = 0
    · subst c3
      have hF := itp rfl hF
      refine vx_catch (E := eIA) (name := eIA) hown [] ⟨0, 12, 15, 13⟩ [⟨0, 12, 19, 15⟩] hTab (fun z hz => nomatch hz) (by decide) (by decide) (hts _ w_classLink_L_13) (hZ.2.2.2.1.use _ (by decide)) h9 hv9 hc9 ?_
      refine lv_astore (lv' := [(5, .ref q9), (0, .ref (x 0)), (1, .int p2), (2, .int p3), (3, .int p4), (4, .ref qo)]) hx hb dL_wouldCount_15 hl (by decide) rfl (fun ls hl => ?_)
      refine lv_iconst (v := 1) hx hb dL_wouldCount_17 (by decide) ?_
      refine W.widen (k := 1) (n := 6) (Nat.le_of_ble_eq_true rfl) (Nat.le_of_ble_eq_true rfl) ?_
      exact W.iret (v := (1 : Int32)) hx hb hr (fun t ht hW => ⟨⟨_, (fo, o1.2.1, o1.2.2.1, o1.2.2.2), rfl, Option.some.inj hF, by rw [ht]; exact hP, hD⟩, hS.F ht⟩) hS.2.2 dL_wouldCount_18
    · have hF := itn c3 hF
      by_cases c4 : k = 1
      · subst c4
        have hF := itp rfl hF
        refine vx_catch (E := eIS) (name := eIS) hown [⟨0, 12, 15, 13⟩] ⟨0, 12, 19, 15⟩ [] hTab (fun z hz => by obtain rfl := List.mem_singleton.mp hz; exact Or.inr ⟨by decide, _, hts _ w_classLink_L_13, hZ.2.2.2.2 (eIS, eIA) (by decide)⟩) (by decide) (by decide) (hts _ w_classLink_L_15) (hZ.2.2.2.1.use _ (by decide)) h9 hv9 hc9 ?_
        refine lv_astore (lv' := [(5, .ref q9), (0, .ref (x 0)), (1, .int p2), (2, .int p3), (3, .int p4), (4, .ref qo)]) hx hb dL_wouldCount_19 hl (by decide) rfl (fun ls hl => ?_)
        refine lv_iconst (v := 2) hx hb dL_wouldCount_21 (by decide) ?_
        refine W.widen (k := 1) (n := 6) (Nat.le_of_ble_eq_true rfl) (Nat.le_of_ble_eq_true rfl) ?_
        exact W.iret (v := (2 : Int32)) hx hb hr (fun t ht hW => ⟨⟨_, (fo, o1.2.1, o1.2.2.1, o1.2.2.2), rfl, Option.some.inj hF, by rw [ht]; exact hP, hD⟩, hS.F ht⟩) hS.2.2 dL_wouldCount_22
      · have hF := itn c4 hF
        cases hF
  · skip
    obtain rfl : u = o1.2 := congrArg Prod.snd hw
    have hw1 : Sum.inr ro1 = o1.1 := congrArg Prod.fst hw
    rw [← hw1] at hF
    have hF := exc_r hF
    have hq := seg_permS (segs := [[cLo cyL qo 1 fo], (cXo x an tr o1.2.1), (cH cyO (x 1) (x 2) 2 fl), (cXk cyI x o1.2.1), (cH cyO (x 4) (x 5) 6 fs), (cT cyI x (X_text o1.2.1)), (cSo an o1.2.2.1), (cG cyI an (S_green o1.2.2.1)), (cV cyI an (S_score o1.2.2.1)), (cSo tr o1.2.2.2), (cG cyI tr (S_green o1.2.2.2)), (cV cyI tr (S_score o1.2.2.2))]) (R := [[cLo cyL qo 1 fo]]) (C := [(cXo x an tr o1.2.1), (cH cyO (x 1) (x 2) 2 fl), (cXk cyI x o1.2.1), (cH cyO (x 4) (x 5) 6 fs), (cT cyI x (X_text o1.2.1)), (cSo an o1.2.2.1), (cG cyI an (S_green o1.2.2.1)), (cV cyI an (S_score o1.2.2.1)), (cSo tr o1.2.2.2), (cG cyI tr (S_green o1.2.2.2)), (cV cyI tr (S_score o1.2.2.2))]) (n := 12) [0] [1, 2, 3, 4, 5, 6, 7, 8, 9, 10, 11] rfl rfl rfl (by decide)
    have hP : va_P (dC, dI) vwCl (([[cLo cyL qo 1 fo], (cXo x an tr o1.2.1), (cH cyO (x 1) (x 2) 2 fl), (cXk cyI x o1.2.1), (cH cyO (x 4) (x 5) 6 fs), (cT cyI x (X_text o1.2.1)), (cSo an o1.2.2.1), (cG cyI an (S_green o1.2.2.1)), (cV cyI an (S_score o1.2.2.1)), (cSo tr o1.2.2.2), (cG cyI tr (S_green o1.2.2.2)), (cV cyI tr (S_score o1.2.2.2))] : List va_W).flatten) H := hP.perm hq
    have hD : va_D A (([[cLo cyL qo 1 fo], (cXo x an tr o1.2.1), (cH cyO (x 1) (x 2) 2 fl), (cXk cyI x o1.2.1), (cH cyO (x 4) (x 5) 6 fs), (cT cyI x (X_text o1.2.1)), (cSo an o1.2.2.1), (cG cyI an (S_green o1.2.2.1)), (cV cyI an (S_score o1.2.2.1)), (cSo tr o1.2.2.2), (cG cyI tr (S_green o1.2.2.2)), (cV cyI tr (S_score o1.2.2.2))] : List va_W).flatten) := hD.perm hq
    clear hq
    refine lv_i2l (v := (ro1).toInt64) hx hb dL_wouldCount_10 rfl ?_
    refine va_last hx hb hK.1 hP hD hS 0 2 rfl rfl (i := (0 : Int32)) (x := ((ro1).toInt64)) (show ixok (0 : Int32) 1 by decide) dL_wouldCount_11 (fun H locs hP hD hS => ?_)
    have hP : va_P (dC, dI) vwCl (([[cLo cyL qo 1 (vp_updL fo (0 : Int32).toNatClampNeg ((ro1).toInt64))], (cXo x an tr o1.2.1), (cH cyO (x 1) (x 2) 2 fl), (cXk cyI x o1.2.1), (cH cyO (x 4) (x 5) 6 fs), (cT cyI x (X_text o1.2.1)), (cSo an o1.2.2.1), (cG cyI an (S_green o1.2.2.1)), (cV cyI an (S_score o1.2.2.1)), (cSo tr o1.2.2.2), (cG cyI tr (S_green o1.2.2.2)), (cV cyI tr (S_score o1.2.2.2))] : List va_W).flatten) H := hP
    have hD : va_D A (([[cLo cyL qo 1 (vp_updL fo (0 : Int32).toNatClampNeg ((ro1).toInt64))], (cXo x an tr o1.2.1), (cH cyO (x 1) (x 2) 2 fl), (cXk cyI x o1.2.1), (cH cyO (x 4) (x 5) 6 fs), (cT cyI x (X_text o1.2.1)), (cSo an o1.2.2.1), (cG cyI an (S_green o1.2.2.1)), (cV cyI an (S_score o1.2.2.1)), (cSo tr o1.2.2.2), (cG cyI tr (S_green o1.2.2.2)), (cV cyI tr (S_score o1.2.2.2))] : List va_W).flatten) := hD
    refine lv_goto (tgt := 23) hx hb dL_wouldCount_12 (by decide) ?_
    refine lv_iconst (v := 0) hx hb dL_wouldCount_23 (by decide) ?_
    refine W.widen (k := 1) (n := 6) (Nat.le_of_ble_eq_true rfl) (Nat.le_of_ble_eq_true rfl) ?_
    exact W.iret (v := (0 : Int32)) hx hb hr (fun t ht hW => ⟨⟨_, ((vp_updL fo (0 : Int32).toNatClampNeg ((ro1).toInt64)), o1.2.1, o1.2.2.1, o1.2.2.2), rfl, Option.some.inj hF, by rw [ht]; exact hP, hD⟩, hS.F ht⟩) hS.2.2 dL_wouldCount_24
theorem dL_bestWeight_0 : decode cL_bestWeight 0 = .ok (.aload_n 3, 1) := by decide +kernel
theorem dL_bestWeight_1 : decode cL_bestWeight 1 = .ok (.iconst 0, 1) := by decide +kernel
theorem dL_bestWeight_2 : decode cL_bestWeight 2 = .ok (.aload_n 0, 1) := by decide +kernel
theorem dL_bestWeight_3 : decode cL_bestWeight 3 = .ok (.iload_n 1, 1) := by decide +kernel
theorem dL_bestWeight_4 : decode cL_bestWeight 4 = .ok (.iload_n 2, 1) := by decide +kernel
theorem dL_bestWeight_5 : decode cL_bestWeight 5 = .ok (.invokevirtual 115, 3) := by decide +kernel
theorem dL_bestWeight_8 : decode cL_bestWeight 8 = .ok (.i2l, 1) := by decide +kernel
theorem dL_bestWeight_9 : decode cL_bestWeight 9 = .ok (.lastore, 1) := by decide +kernel
theorem dL_bestWeight_10 : decode cL_bestWeight 10 = .ok (.goto 11, 3) := by decide +kernel
theorem dL_bestWeight_13 : decode cL_bestWeight 13 = .ok (.astore 4, 2) := by decide +kernel
theorem dL_bestWeight_15 : decode cL_bestWeight 15 = .ok (.iconst 1, 1) := by decide +kernel
theorem dL_bestWeight_16 : decode cL_bestWeight 16 = .ok (.ireturn, 1) := by decide +kernel
theorem dL_bestWeight_17 : decode cL_bestWeight 17 = .ok (.astore 4, 2) := by decide +kernel
theorem dL_bestWeight_19 : decode cL_bestWeight 19 = .ok (.iconst 2, 1) := by decide +kernel
theorem dL_bestWeight_20 : decode cL_bestWeight 20 = .ok (.ireturn, 1) := by decide +kernel
theorem dL_bestWeight_21 : decode cL_bestWeight 21 = .ok (.iconst 0, 1) := by decide +kernel
theorem dL_bestWeight_22 : decode cL_bestWeight 22 = .ok (.ireturn, 1) := by decide +kernel
def f_L_bestWeight (N : Nat) (fo : (Nat → Int64)) (xv : XV) (nv : SV) (tv : SV) (p2 : Int32) (p3 : Int32) : Option (Int32 × ((Nat → Int64) × XV × SV × SV)) :=
  (f_X5_bestWeight N xv nv tv p2 p3).bind (fun o1 => exc o1.1 (fun k => (if k = 0 then some ((1 : Int32), (fo, o1.2.1, o1.2.2.1, o1.2.2.2)) else if k = 1 then some ((2 : Int32), (fo, o1.2.1, o1.2.2.1, o1.2.2.2)) else none)) (fun (ro1 : Int32) => some ((0 : Int32), ((vp_updL fo (0 : Int32).toNatClampNeg ((ro1).toInt64)), o1.2.1, o1.2.2.1, o1.2.2.2))))
set_option maxHeartbeats 4000000 in
set_option maxRecDepth 100000 in
theorem met_L_bestWeight (l : Launch) (z0 : Nat) (hst : l.stackTraces = false) (dC : Nat → ClassId) (dI : Nat → Nat → Nat) (cyI cyO cyL : ClassId) (qo : Nat) (x : Nat → Nat) (an : Nat → Nat) (tr : Nat → Nat) (fl fs : Nat → Option Nat) (sz : Nat) (N : Nat) (fo : (Nat → Int64)) (xv : XV) (nv : SV) (tv : SV) (p2 : Int32) (p3 : Int32) (out : Int32 × ((Nat → Int64) × XV × SV × SV)) (hF : f_L_bestWeight N fo xv nv tv p2 p3 = some out) : Met l yL_bestWeight (Cond.codeWith yL_bestWeight cL_bestWeight 5 (some .int) [(0, 10, 13, 13), (0, 10, 17, 15)] :: wT) ({ frames := 7, cells := 1, slots := 6, locals := 153 } : Room) (wWrX z0 dC dI cyI cyO cyL [.ref (x 0), .int p2, .int p3, .ref qo] (([[cLo cyL qo 1 fo], (cXo x an tr xv), (cH cyO (x 1) (x 2) 2 fl), (cXk cyI x xv), (cH cyO (x 4) (x 5) 6 fs), (cT cyI x (X_text xv)), (cSo an nv), (cG cyI an (S_green nv)), (cV cyI an (S_score nv)), (cSo tr tv), (cG cyI tr (S_green tv)), (cV cyI tr (S_score tv))] : List va_W).flatten) sz) (va_Qi (fun (r : Int32) (u : (Nat → Int64) × XV × SV × SV) => (r, u) = out) (fun u t => va_P (dC, dI) vwCl (([[cLo cyL qo 1 u.1], (cXo x an tr u.2.1), (cH cyO (x 1) (x 2) 2 fl), (cXk cyI x u.2.1), (cH cyO (x 4) (x 5) 6 fs), (cT cyI x (X_text u.2.1)), (cSo an u.2.2.1), (cG cyI an (S_green u.2.2.1)), (cV cyI an (S_score u.2.2.1)), (cSo tr u.2.2.2), (cG cyI tr (S_green u.2.2.2)), (cV cyI tr (S_score u.2.2.2))] : List va_W).flatten) t.heap ∧ va_D (va_A (([[cLo cyL qo 1 fo], (cXo x an tr xv), (cH cyO (x 1) (x 2) 2 fl), (cXk cyI x xv), (cH cyO (x 4) (x 5) 6 fs), (cT cyI x (X_text xv)), (cSo an nv), (cG cyI an (S_green nv)), (cV cyI an (S_score nv)), (cSo tr tv), (cG cyI tr (S_green tv)), (cV cyI tr (S_score tv))] : List va_W).flatten) sz) (([[cLo cyL qo 1 u.1], (cXo x an tr u.2.1), (cH cyO (x 1) (x 2) 2 fl), (cXk cyI x u.2.1), (cH cyO (x 4) (x 5) 6 fs), (cT cyI x (X_text u.2.1)), (cSo an u.2.2.1), (cG cyI an (S_green u.2.2.1)), (cV cyI an (S_score u.2.2.1)), (cSo tr u.2.2.2), (cG cyI tr (S_green u.2.2.2)), (cV cyI tr (S_score u.2.2.2))] : List va_W).flatten)) (va_A (([[cLo cyL qo 1 fo], (cXo x an tr xv), (cH cyO (x 1) (x 2) 2 fl), (cXk cyI x xv), (cH cyO (x 4) (x 5) 6 fs), (cT cyI x (X_text xv)), (cSo an nv), (cG cyI an (S_green nv)), (cV cyI an (S_score nv)), (cSo tr tv), (cG cyI tr (S_green tv)), (cV cyI tr (S_score tv))] : List va_W).flatten) sz)) 1 6 (va_A (([[cLo cyL qo 1 fo], (cXo x an tr xv), (cH cyO (x 1) (x 2) 2 fl), (cXk cyI x xv), (cH cyO (x 4) (x 5) 6 fs), (cT cyI x (X_text xv)), (cSo an nv), (cG cyI an (S_green nv)), (cV cyI an (S_score nv)), (cSo tr tv), (cG cyI tr (S_green tv)), (cV cyI tr (S_score tv))] : List va_W).flatten) sz) := by
  refine Met.ofWH (cc := cL_bestWeight) (maxL := 5) (ret := (some .int)) (by decide) rfl ?_
  intro p e s m args below meth c s₁ B hml hv
  obtain ⟨rfl, hsz, hP, hK, hD0, hz0, hZ⟩ := hv
  have hTab := vx_table (x := yL_bestWeight) B (atoms_spec (ws := (Cond.codeWith yL_bestWeight cL_bestWeight 5 (some .int) [(0, 10, 13, 13), (0, 10, 17, 15)] :: wT)) B.pre _ List.mem_cons_self)
  have hx := B.exec
  have hb := B.bytes
  have hr := B.returns
  have hts0 := atoms_spec (ws := (Cond.codeWith yL_bestWeight cL_bestWeight 5 (some .int) [(0, 10, 13, 13), (0, 10, 17, 15)] :: wT)) B.pre
  have hts := fun w h => hts0 w (List.mem_cons_of_mem _ h)
  clear hts0
  have hown : s.vm.findClass RL = some m.cls := findClass_of_methodNamed B.named
  have hlocks := B.notSynchronized
  subst hsz
  have hD := hD0.self (sz := s.heap.size)
  have hAz := wA_ge hD0 hz0
  generalize hAe : va_A (([[cLo cyL qo 1 fo], (cXo x an tr xv), (cH cyO (x 1) (x 2) 2 fl), (cXk cyI x xv), (cH cyO (x 4) (x 5) 6 fs), (cT cyI x (X_text xv)), (cSo an nv), (cG cyI an (S_green nv)), (cV cyI an (S_score nv)), (cSo tr tv), (cG cyI tr (S_green tv)), (cV cyI tr (S_score tv))] : List va_W).flatten) s.heap.size = A at hD hAz ⊢
  have hA : ∀ q : Nat, s.heap.size ≤ q → A q := fun q h => by rw [← hAe]; exact Or.inr h
  clear hD0
  have hS : va_S A s.heap s.heap [] := va_S.rf
  have hl := lv_entry [.ref (x 0), .int p2, .int p3, .ref qo] (n := 5) (Nat.le_of_ble_eq_true rfl)
  rw [lg_entry_eq]
  generalize (lg_sl [.ref (x 0), .int p2, .int p3, .ref qo] ++ List.replicate (5 - (lg_sl [.ref (x 0), .int p2, .int p3, .ref qo]).length) Slot.unset).toArray = ls at hl ⊢
  have hl : lv_has ls 5 [(0, .ref (x 0)), (1, .int p2), (2, .int p3), (3, .ref qo)] := hl
  unfold f_L_bestWeight at hF
  refine lv_aload_n hx hb dL_bestWeight_0 rfl (lv_at hl 3 rfl) ?_
  refine lv_iconst (v := 0) hx hb dL_bestWeight_1 (by decide) ?_
  refine lv_aload_n hx hb dL_bestWeight_2 rfl (lv_at hl 0 rfl) ?_
  refine lv_iload_n hx hb dL_bestWeight_3 rfl (lv_at hl 1 rfl) ?_
  refine lv_iload_n hx hb dL_bestWeight_4 rfl (lv_at hl 2 rfl) ?_
  obtain ⟨o1, h2, hF⟩ := obd hF
  refine wxPVi (As := [.int p2, .int p3]) (rest := [.int (0 : Int32), .ref qo]) (wr := ([[cLo cyL qo 1 fo]] : List va_W).flatten) (b := (x 0)) ⟨hx, hb, hml, hown, hts⟩ (met_X5_bestWeight l z0 hst dC dI cyI cyO cyL x an tr fl fs _ N xv nv tv p2 p3 o1 h2) (cwV 2 hts (gV w_methodLink_L_115 w_instanceMethod_X5_bestWeight w_selects_X5_bestWeight w_initialized_X5 w_code_X5_bestWeight) rfl rfl rfl (by decide +kernel) ⟨Nat.le_of_ble_eq_true rfl, Nat.le_of_ble_eq_true rfl⟩) (va_recv hK.1 hP (ci := 5) (q0 := 1) rfl rfl) hP hD hK hZ hAz hz0 (seg_perm (n := 12) (R := [[cLo cyL qo 1 fo]]) (C := [(cXo x an tr xv), (cH cyO (x 1) (x 2) 2 fl), (cXk cyI x xv), (cH cyO (x 4) (x 5) 6 fs), (cT cyI x (X_text xv)), (cSo an nv), (cG cyI an (S_green nv)), (cV cyI an (S_score nv)), (cSo tr tv), (cG cyI tr (S_green tv)), (cV cyI tr (S_score tv))]) [0] [1, 2, 3, 4, 5, 6, 7, 8, 9, 10, 11] rfl rfl rfl (by decide) rfl) rfl hl.1 (Nat.le_of_ble_eq_true rfl) dL_bestWeight_5 ⟨Nat.le_of_ble_eq_true rfl, Nat.le_of_ble_eq_true rfl⟩ hS hA (fun k u ce q9 H locs hw hP hD hS h9 hv9 hc9 => ?_) (fun ro1 u H locs hw hP hD hS => ?_)
  · obtain rfl : u = o1.2 := congrArg Prod.snd hw
    have hw1 : Sum.inl k = o1.1 := congrArg Prod.fst hw
    rw [← hw1] at hF
    have hF := exc_l hF
    have hq := seg_permS (segs := [[cLo cyL qo 1 fo], (cXo x an tr o1.2.1), (cH cyO (x 1) (x 2) 2 fl), (cXk cyI x o1.2.1), (cH cyO (x 4) (x 5) 6 fs), (cT cyI x (X_text o1.2.1)), (cSo an o1.2.2.1), (cG cyI an (S_green o1.2.2.1)), (cV cyI an (S_score o1.2.2.1)), (cSo tr o1.2.2.2), (cG cyI tr (S_green o1.2.2.2)), (cV cyI tr (S_score o1.2.2.2))]) (R := [[cLo cyL qo 1 fo]]) (C := [(cXo x an tr o1.2.1), (cH cyO (x 1) (x 2) 2 fl), (cXk cyI x o1.2.1), (cH cyO (x 4) (x 5) 6 fs), (cT cyI x (X_text o1.2.1)), (cSo an o1.2.2.1), (cG cyI an (S_green o1.2.2.1)), (cV cyI an (S_score o1.2.2.1)), (cSo tr o1.2.2.2), (cG cyI tr (S_green o1.2.2.2)), (cV cyI tr (S_score o1.2.2.2))]) (n := 12) [0] [1, 2, 3, 4, 5, 6, 7, 8, 9, 10, 11] rfl rfl rfl (by decide)
    have hP : va_P (dC, dI) vwCl (([[cLo cyL qo 1 fo], (cXo x an tr o1.2.1), (cH cyO (x 1) (x 2) 2 fl), (cXk cyI x o1.2.1), (cH cyO (x 4) (x 5) 6 fs), (cT cyI x (X_text o1.2.1)), (cSo an o1.2.2.1), (cG cyI an (S_green o1.2.2.1)), (cV cyI an (S_score o1.2.2.1)), (cSo tr o1.2.2.2), (cG cyI tr (S_green o1.2.2.2)), (cV cyI tr (S_score o1.2.2.2))] : List va_W).flatten) H := hP.perm hq
    have hD : va_D A (([[cLo cyL qo 1 fo], (cXo x an tr o1.2.1), (cH cyO (x 1) (x 2) 2 fl), (cXk cyI x o1.2.1), (cH cyO (x 4) (x 5) 6 fs), (cT cyI x (X_text o1.2.1)), (cSo an o1.2.2.1), (cG cyI an (S_green o1.2.2.1)), (cV cyI an (S_score o1.2.2.1)), (cSo tr o1.2.2.2), (cG cyI tr (S_green o1.2.2.2)), (cV cyI tr (S_score o1.2.2.2))] : List va_W).flatten) := hD.perm hq
    clear hq
    by_cases c3 : k = 0
    · subst c3
      have hF := itp rfl hF
      refine vx_catch (E := eIA) (name := eIA) hown [] ⟨0, 10, 13, 13⟩ [⟨0, 10, 17, 15⟩] hTab (fun z hz => nomatch hz) (by decide) (by decide) (hts _ w_classLink_L_13) (hZ.2.2.2.1.use _ (by decide)) h9 hv9 hc9 ?_
      refine lv_astore (lv' := [(4, .ref q9), (0, .ref (x 0)), (1, .int p2), (2, .int p3), (3, .ref qo)]) hx hb dL_bestWeight_13 hl (by decide) rfl (fun ls hl => ?_)
      refine lv_iconst (v := 1) hx hb dL_bestWeight_15 (by decide) ?_
      refine W.widen (k := 1) (n := 6) (Nat.le_of_ble_eq_true rfl) (Nat.le_of_ble_eq_true rfl) ?_
      exact W.iret (v := (1 : Int32)) hx hb hr (fun t ht hW => ⟨⟨_, (fo, o1.2.1, o1.2.2.1, o1.2.2.2), rfl, Option.some.inj hF, by rw [ht]; exact hP, hD⟩, hS.F ht⟩) hS.2.2 dL_bestWeight_16
    · have hF := itn c3 hF
      by_cases c4 : k = 1
      · subst c4
        have hF := itp rfl hF
        refine vx_catch (E := eIS) (name := eIS) hown [⟨0, 10, 13, 13⟩] ⟨0, 10, 17, 15⟩ [] hTab (fun z hz => by obtain rfl := List.mem_singleton.mp hz; exact Or.inr ⟨by decide, _, hts _ w_classLink_L_13, hZ.2.2.2.2 (eIS, eIA) (by decide)⟩) (by decide) (by decide) (hts _ w_classLink_L_15) (hZ.2.2.2.1.use _ (by decide)) h9 hv9 hc9 ?_
        refine lv_astore (lv' := [(4, .ref q9), (0, .ref (x 0)), (1, .int p2), (2, .int p3), (3, .ref qo)]) hx hb dL_bestWeight_17 hl (by decide) rfl (fun ls hl => ?_)
        refine lv_iconst (v := 2) hx hb dL_bestWeight_19 (by decide) ?_
        refine W.widen (k := 1) (n := 6) (Nat.le_of_ble_eq_true rfl) (Nat.le_of_ble_eq_true rfl) ?_
        exact W.iret (v := (2 : Int32)) hx hb hr (fun t ht hW => ⟨⟨_, (fo, o1.2.1, o1.2.2.1, o1.2.2.2), rfl, Option.some.inj hF, by rw [ht]; exact hP, hD⟩, hS.F ht⟩) hS.2.2 dL_bestWeight_20
      · have hF := itn c4 hF
        cases hF
  · skip
    obtain rfl : u = o1.2 := congrArg Prod.snd hw
    have hw1 : Sum.inr ro1 = o1.1 := congrArg Prod.fst hw
    rw [← hw1] at hF
    have hF := exc_r hF
    have hq := seg_permS (segs := [[cLo cyL qo 1 fo], (cXo x an tr o1.2.1), (cH cyO (x 1) (x 2) 2 fl), (cXk cyI x o1.2.1), (cH cyO (x 4) (x 5) 6 fs), (cT cyI x (X_text o1.2.1)), (cSo an o1.2.2.1), (cG cyI an (S_green o1.2.2.1)), (cV cyI an (S_score o1.2.2.1)), (cSo tr o1.2.2.2), (cG cyI tr (S_green o1.2.2.2)), (cV cyI tr (S_score o1.2.2.2))]) (R := [[cLo cyL qo 1 fo]]) (C := [(cXo x an tr o1.2.1), (cH cyO (x 1) (x 2) 2 fl), (cXk cyI x o1.2.1), (cH cyO (x 4) (x 5) 6 fs), (cT cyI x (X_text o1.2.1)), (cSo an o1.2.2.1), (cG cyI an (S_green o1.2.2.1)), (cV cyI an (S_score o1.2.2.1)), (cSo tr o1.2.2.2), (cG cyI tr (S_green o1.2.2.2)), (cV cyI tr (S_score o1.2.2.2))]) (n := 12) [0] [1, 2, 3, 4, 5, 6, 7, 8, 9, 10, 11] rfl rfl rfl (by decide)
    have hP : va_P (dC, dI) vwCl (([[cLo cyL qo 1 fo], (cXo x an tr o1.2.1), (cH cyO (x 1) (x 2) 2 fl), (cXk cyI x o1.2.1), (cH cyO (x 4) (x 5) 6 fs), (cT cyI x (X_text o1.2.1)), (cSo an o1.2.2.1), (cG cyI an (S_green o1.2.2.1)), (cV cyI an (S_score o1.2.2.1)), (cSo tr o1.2.2.2), (cG cyI tr (S_green o1.2.2.2)), (cV cyI tr (S_score o1.2.2.2))] : List va_W).flatten) H := hP.perm hq
    have hD : va_D A (([[cLo cyL qo 1 fo], (cXo x an tr o1.2.1), (cH cyO (x 1) (x 2) 2 fl), (cXk cyI x o1.2.1), (cH cyO (x 4) (x 5) 6 fs), (cT cyI x (X_text o1.2.1)), (cSo an o1.2.2.1), (cG cyI an (S_green o1.2.2.1)), (cV cyI an (S_score o1.2.2.1)), (cSo tr o1.2.2.2), (cG cyI tr (S_green o1.2.2.2)), (cV cyI tr (S_score o1.2.2.2))] : List va_W).flatten) := hD.perm hq
    clear hq
    refine lv_i2l (v := (ro1).toInt64) hx hb dL_bestWeight_8 rfl ?_
    refine va_last hx hb hK.1 hP hD hS 0 2 rfl rfl (i := (0 : Int32)) (x := ((ro1).toInt64)) (show ixok (0 : Int32) 1 by decide) dL_bestWeight_9 (fun H locs hP hD hS => ?_)
    have hP : va_P (dC, dI) vwCl (([[cLo cyL qo 1 (vp_updL fo (0 : Int32).toNatClampNeg ((ro1).toInt64))], (cXo x an tr o1.2.1), (cH cyO (x 1) (x 2) 2 fl), (cXk cyI x o1.2.1), (cH cyO (x 4) (x 5) 6 fs), (cT cyI x (X_text o1.2.1)), (cSo an o1.2.2.1), (cG cyI an (S_green o1.2.2.1)), (cV cyI an (S_score o1.2.2.1)), (cSo tr o1.2.2.2), (cG cyI tr (S_green o1.2.2.2)), (cV cyI tr (S_score o1.2.2.2))] : List va_W).flatten) H := hP
    have hD : va_D A (([[cLo cyL qo 1 (vp_updL fo (0 : Int32).toNatClampNeg ((ro1).toInt64))], (cXo x an tr o1.2.1), (cH cyO (x 1) (x 2) 2 fl), (cXk cyI x o1.2.1), (cH cyO (x 4) (x 5) 6 fs), (cT cyI x (X_text o1.2.1)), (cSo an o1.2.2.1), (cG cyI an (S_green o1.2.2.1)), (cV cyI an (S_score o1.2.2.1)), (cSo tr o1.2.2.2), (cG cyI tr (S_green o1.2.2.2)), (cV cyI tr (S_score o1.2.2.2))] : List va_W).flatten) := hD
    refine lv_goto (tgt := 21) hx hb dL_bestWeight_10 (by decide) ?_
    refine lv_iconst (v := 0) hx hb dL_bestWeight_21 (by decide) ?_
    refine W.widen (k := 1) (n := 6) (Nat.le_of_ble_eq_true rfl) (Nat.le_of_ble_eq_true rfl) ?_
    exact W.iret (v := (0 : Int32)) hx hb hr (fun t ht hW => ⟨⟨_, ((vp_updL fo (0 : Int32).toNatClampNeg ((ro1).toInt64)), o1.2.1, o1.2.2.1, o1.2.2.2), rfl, Option.some.inj hF, by rw [ht]; exact hP, hD⟩, hS.F ht⟩) hS.2.2 dL_bestWeight_22
theorem dL_wouldStrike_0 : decode cL_wouldStrike 0 = .ok (.aload 4, 2) := by decide +kernel
theorem dL_wouldStrike_2 : decode cL_wouldStrike 2 = .ok (.iconst 0, 1) := by decide +kernel
theorem dL_wouldStrike_3 : decode cL_wouldStrike 3 = .ok (.aload_n 0, 1) := by decide +kernel
theorem dL_wouldStrike_4 : decode cL_wouldStrike 4 = .ok (.iload_n 1, 1) := by decide +kernel
theorem dL_wouldStrike_5 : decode cL_wouldStrike 5 = .ok (.iload_n 2, 1) := by decide +kernel
theorem dL_wouldStrike_6 : decode cL_wouldStrike 6 = .ok (.iload_n 3, 1) := by decide +kernel
theorem dL_wouldStrike_7 : decode cL_wouldStrike 7 = .ok (.invokevirtual 118, 3) := by decide +kernel
theorem dL_wouldStrike_10 : decode cL_wouldStrike 10 = .ok (.i2l, 1) := by decide +kernel
theorem dL_wouldStrike_11 : decode cL_wouldStrike 11 = .ok (.lastore, 1) := by decide +kernel
theorem dL_wouldStrike_12 : decode cL_wouldStrike 12 = .ok (.goto 11, 3) := by decide +kernel
theorem dL_wouldStrike_15 : decode cL_wouldStrike 15 = .ok (.astore 5, 2) := by decide +kernel
theorem dL_wouldStrike_17 : decode cL_wouldStrike 17 = .ok (.iconst 1, 1) := by decide +kernel
theorem dL_wouldStrike_18 : decode cL_wouldStrike 18 = .ok (.ireturn, 1) := by decide +kernel
theorem dL_wouldStrike_19 : decode cL_wouldStrike 19 = .ok (.astore 5, 2) := by decide +kernel
theorem dL_wouldStrike_21 : decode cL_wouldStrike 21 = .ok (.iconst 2, 1) := by decide +kernel
theorem dL_wouldStrike_22 : decode cL_wouldStrike 22 = .ok (.ireturn, 1) := by decide +kernel
theorem dL_wouldStrike_23 : decode cL_wouldStrike 23 = .ok (.iconst 0, 1) := by decide +kernel
theorem dL_wouldStrike_24 : decode cL_wouldStrike 24 = .ok (.ireturn, 1) := by decide +kernel
def f_L_wouldStrike (N : Nat) (fo : (Nat → Int64)) (xv : XV) (nv : SV) (tv : SV) (p2 : Int32) (p3 : Int32) (p4 : Int32) : Option (Int32 × ((Nat → Int64) × XV × SV × SV)) :=
  (f_X5_wouldStrike N xv nv tv p2 p3 p4).bind (fun o1 => exc o1.1 (fun k => (if k = 0 then some ((1 : Int32), (fo, o1.2.1, o1.2.2.1, o1.2.2.2)) else if k = 1 then some ((2 : Int32), (fo, o1.2.1, o1.2.2.1, o1.2.2.2)) else none)) (fun (ro1 : Int32) => some ((0 : Int32), ((vp_updL fo (0 : Int32).toNatClampNeg ((ro1).toInt64)), o1.2.1, o1.2.2.1, o1.2.2.2))))
set_option maxHeartbeats 4000000 in
set_option maxRecDepth 100000 in
theorem met_L_wouldStrike (l : Launch) (z0 : Nat) (hst : l.stackTraces = false) (dC : Nat → ClassId) (dI : Nat → Nat → Nat) (cyI cyO cyL : ClassId) (qo : Nat) (x : Nat → Nat) (an : Nat → Nat) (tr : Nat → Nat) (fl fs : Nat → Option Nat) (sz : Nat) (N : Nat) (fo : (Nat → Int64)) (xv : XV) (nv : SV) (tv : SV) (p2 : Int32) (p3 : Int32) (p4 : Int32) (out : Int32 × ((Nat → Int64) × XV × SV × SV)) (hF : f_L_wouldStrike N fo xv nv tv p2 p3 p4 = some out) : Met l yL_wouldStrike (Cond.codeWith yL_wouldStrike cL_wouldStrike 6 (some .int) [(0, 12, 15, 13), (0, 12, 19, 15)] :: wT) ({ frames := 7, cells := 1, slots := 6, locals := 125 } : Room) (wWrX z0 dC dI cyI cyO cyL [.ref (x 0), .int p2, .int p3, .int p4, .ref qo] (([[cLo cyL qo 1 fo], (cXo x an tr xv), (cH cyO (x 1) (x 2) 2 fl), (cXk cyI x xv), (cH cyO (x 4) (x 5) 6 fs), (cT cyI x (X_text xv)), (cSo an nv), (cG cyI an (S_green nv)), (cV cyI an (S_score nv)), (cSo tr tv), (cG cyI tr (S_green tv)), (cV cyI tr (S_score tv))] : List va_W).flatten) sz) (va_Qi (fun (r : Int32) (u : (Nat → Int64) × XV × SV × SV) => (r, u) = out) (fun u t => va_P (dC, dI) vwCl (([[cLo cyL qo 1 u.1], (cXo x an tr u.2.1), (cH cyO (x 1) (x 2) 2 fl), (cXk cyI x u.2.1), (cH cyO (x 4) (x 5) 6 fs), (cT cyI x (X_text u.2.1)), (cSo an u.2.2.1), (cG cyI an (S_green u.2.2.1)), (cV cyI an (S_score u.2.2.1)), (cSo tr u.2.2.2), (cG cyI tr (S_green u.2.2.2)), (cV cyI tr (S_score u.2.2.2))] : List va_W).flatten) t.heap ∧ va_D (va_A (([[cLo cyL qo 1 fo], (cXo x an tr xv), (cH cyO (x 1) (x 2) 2 fl), (cXk cyI x xv), (cH cyO (x 4) (x 5) 6 fs), (cT cyI x (X_text xv)), (cSo an nv), (cG cyI an (S_green nv)), (cV cyI an (S_score nv)), (cSo tr tv), (cG cyI tr (S_green tv)), (cV cyI tr (S_score tv))] : List va_W).flatten) sz) (([[cLo cyL qo 1 u.1], (cXo x an tr u.2.1), (cH cyO (x 1) (x 2) 2 fl), (cXk cyI x u.2.1), (cH cyO (x 4) (x 5) 6 fs), (cT cyI x (X_text u.2.1)), (cSo an u.2.2.1), (cG cyI an (S_green u.2.2.1)), (cV cyI an (S_score u.2.2.1)), (cSo tr u.2.2.2), (cG cyI tr (S_green u.2.2.2)), (cV cyI tr (S_score u.2.2.2))] : List va_W).flatten)) (va_A (([[cLo cyL qo 1 fo], (cXo x an tr xv), (cH cyO (x 1) (x 2) 2 fl), (cXk cyI x xv), (cH cyO (x 4) (x 5) 6 fs), (cT cyI x (X_text xv)), (cSo an nv), (cG cyI an (S_green nv)), (cV cyI an (S_score nv)), (cSo tr tv), (cG cyI tr (S_green tv)), (cV cyI tr (S_score tv))] : List va_W).flatten) sz)) 1 6 (va_A (([[cLo cyL qo 1 fo], (cXo x an tr xv), (cH cyO (x 1) (x 2) 2 fl), (cXk cyI x xv), (cH cyO (x 4) (x 5) 6 fs), (cT cyI x (X_text xv)), (cSo an nv), (cG cyI an (S_green nv)), (cV cyI an (S_score nv)), (cSo tr tv), (cG cyI tr (S_green tv)), (cV cyI tr (S_score tv))] : List va_W).flatten) sz) := by
  refine Met.ofWH (cc := cL_wouldStrike) (maxL := 6) (ret := (some .int)) (by decide) rfl ?_
  intro p e s m args below meth c s₁ B hml hv
  obtain ⟨rfl, hsz, hP, hK, hD0, hz0, hZ⟩ := hv
  have hTab := vx_table (x := yL_wouldStrike) B (atoms_spec (ws := (Cond.codeWith yL_wouldStrike cL_wouldStrike 6 (some .int) [(0, 12, 15, 13), (0, 12, 19, 15)] :: wT)) B.pre _ List.mem_cons_self)
  have hx := B.exec
  have hb := B.bytes
  have hr := B.returns
  have hts0 := atoms_spec (ws := (Cond.codeWith yL_wouldStrike cL_wouldStrike 6 (some .int) [(0, 12, 15, 13), (0, 12, 19, 15)] :: wT)) B.pre
  have hts := fun w h => hts0 w (List.mem_cons_of_mem _ h)
  clear hts0
  have hown : s.vm.findClass RL = some m.cls := findClass_of_methodNamed B.named
  have hlocks := B.notSynchronized
  subst hsz
  have hD := hD0.self (sz := s.heap.size)
  have hAz := wA_ge hD0 hz0
  generalize hAe : va_A (([[cLo cyL qo 1 fo], (cXo x an tr xv), (cH cyO (x 1) (x 2) 2 fl), (cXk cyI x xv), (cH cyO (x 4) (x 5) 6 fs), (cT cyI x (X_text xv)), (cSo an nv), (cG cyI an (S_green nv)), (cV cyI an (S_score nv)), (cSo tr tv), (cG cyI tr (S_green tv)), (cV cyI tr (S_score tv))] : List va_W).flatten) s.heap.size = A at hD hAz ⊢
  have hA : ∀ q : Nat, s.heap.size ≤ q → A q := fun q h => by rw [← hAe]; exact Or.inr h
  clear hD0
  have hS : va_S A s.heap s.heap [] := va_S.rf
  have hl := lv_entry [.ref (x 0), .int p2, .int p3, .int p4, .ref qo] (n := 6) (Nat.le_of_ble_eq_true rfl)
  rw [lg_entry_eq]
  generalize (lg_sl [.ref (x 0), .int p2, .int p3, .int p4, .ref qo] ++ List.replicate (6 - (lg_sl [.ref (x 0), .int p2, .int p3, .int p4, .ref qo]).length) Slot.unset).toArray = ls at hl ⊢
  have hl : lv_has ls 6 [(0, .ref (x 0)), (1, .int p2), (2, .int p3), (3, .int p4), (4, .ref qo)] := hl
  unfold f_L_wouldStrike at hF
  refine lv_aload hx hb dL_wouldStrike_0 (lv_at hl 4 rfl) ?_
  refine lv_iconst (v := 0) hx hb dL_wouldStrike_2 (by decide) ?_
  refine lv_aload_n hx hb dL_wouldStrike_3 rfl (lv_at hl 0 rfl) ?_
  refine lv_iload_n hx hb dL_wouldStrike_4 rfl (lv_at hl 1 rfl) ?_
  refine lv_iload_n hx hb dL_wouldStrike_5 rfl (lv_at hl 2 rfl) ?_
  refine lv_iload_n hx hb dL_wouldStrike_6 rfl (lv_at hl 3 rfl) ?_
  obtain ⟨o1, h2, hF⟩ := obd hF
  refine wxPVi (As := [.int p2, .int p3, .int p4]) (rest := [.int (0 : Int32), .ref qo]) (wr := ([[cLo cyL qo 1 fo]] : List va_W).flatten) (b := (x 0)) ⟨hx, hb, hml, hown, hts⟩ (met_X5_wouldStrike l z0 hst dC dI cyI cyO cyL x an tr fl fs _ N xv nv tv p2 p3 p4 o1 h2) (cwV 3 hts (gV w_methodLink_L_118 w_instanceMethod_X5_wouldStrike w_selects_X5_wouldStrike w_initialized_X5 w_code_X5_wouldStrike) rfl rfl rfl (by decide +kernel) ⟨Nat.le_of_ble_eq_true rfl, Nat.le_of_ble_eq_true rfl⟩) (va_recv hK.1 hP (ci := 5) (q0 := 1) rfl rfl) hP hD hK hZ hAz hz0 (seg_perm (n := 12) (R := [[cLo cyL qo 1 fo]]) (C := [(cXo x an tr xv), (cH cyO (x 1) (x 2) 2 fl), (cXk cyI x xv), (cH cyO (x 4) (x 5) 6 fs), (cT cyI x (X_text xv)), (cSo an nv), (cG cyI an (S_green nv)), (cV cyI an (S_score nv)), (cSo tr tv), (cG cyI tr (S_green tv)), (cV cyI tr (S_score tv))]) [0] [1, 2, 3, 4, 5, 6, 7, 8, 9, 10, 11] rfl rfl rfl (by decide) rfl) rfl hl.1 (Nat.le_of_ble_eq_true rfl) dL_wouldStrike_7 ⟨Nat.le_of_ble_eq_true rfl, Nat.le_of_ble_eq_true rfl⟩ hS hA (fun k u ce q9 H locs hw hP hD hS h9 hv9 hc9 => ?_) (fun ro1 u H locs hw hP hD hS => ?_)
  · obtain rfl : u = o1.2 := congrArg Prod.snd hw
    have hw1 : Sum.inl k = o1.1 := congrArg Prod.fst hw
    rw [← hw1] at hF
    have hF := exc_l hF
    have hq := seg_permS (segs := [[cLo cyL qo 1 fo], (cXo x an tr o1.2.1), (cH cyO (x 1) (x 2) 2 fl), (cXk cyI x o1.2.1), (cH cyO (x 4) (x 5) 6 fs), (cT cyI x (X_text o1.2.1)), (cSo an o1.2.2.1), (cG cyI an (S_green o1.2.2.1)), (cV cyI an (S_score o1.2.2.1)), (cSo tr o1.2.2.2), (cG cyI tr (S_green o1.2.2.2)), (cV cyI tr (S_score o1.2.2.2))]) (R := [[cLo cyL qo 1 fo]]) (C := [(cXo x an tr o1.2.1), (cH cyO (x 1) (x 2) 2 fl), (cXk cyI x o1.2.1), (cH cyO (x 4) (x 5) 6 fs), (cT cyI x (X_text o1.2.1)), (cSo an o1.2.2.1), (cG cyI an (S_green o1.2.2.1)), (cV cyI an (S_score o1.2.2.1)), (cSo tr o1.2.2.2), (cG cyI tr (S_green o1.2.2.2)), (cV cyI tr (S_score o1.2.2.2))]) (n := 12) [0] [1, 2, 3, 4, 5, 6, 7, 8, 9, 10, 11] rfl rfl rfl (by decide)
    have hP : va_P (dC, dI) vwCl (([[cLo cyL qo 1 fo], (cXo x an tr o1.2.1), (cH cyO (x 1) (x 2) 2 fl), (cXk cyI x o1.2.1), (cH cyO (x 4) (x 5) 6 fs), (cT cyI x (X_text o1.2.1)), (cSo an o1.2.2.1), (cG cyI an (S_green o1.2.2.1)), (cV cyI an (S_score o1.2.2.1)), (cSo tr o1.2.2.2), (cG cyI tr (S_green o1.2.2.2)), (cV cyI tr (S_score o1.2.2.2))] : List va_W).flatten) H := hP.perm hq
    have hD : va_D A (([[cLo cyL qo 1 fo], (cXo x an tr o1.2.1), (cH cyO (x 1) (x 2) 2 fl), (cXk cyI x o1.2.1), (cH cyO (x 4) (x 5) 6 fs), (cT cyI x (X_text o1.2.1)), (cSo an o1.2.2.1), (cG cyI an (S_green o1.2.2.1)), (cV cyI an (S_score o1.2.2.1)), (cSo tr o1.2.2.2), (cG cyI tr (S_green o1.2.2.2)), (cV cyI tr (S_score o1.2.2.2))] : List va_W).flatten) := hD.perm hq
    clear hq
    by_cases c3 : k = 0
    · subst c3
      have hF := itp rfl hF
      refine vx_catch (E := eIA) (name := eIA) hown [] ⟨0, 12, 15, 13⟩ [⟨0, 12, 19, 15⟩] hTab (fun z hz => nomatch hz) (by decide) (by decide) (hts _ w_classLink_L_13) (hZ.2.2.2.1.use _ (by decide)) h9 hv9 hc9 ?_
      refine lv_astore (lv' := [(5, .ref q9), (0, .ref (x 0)), (1, .int p2), (2, .int p3), (3, .int p4), (4, .ref qo)]) hx hb dL_wouldStrike_15 hl (by decide) rfl (fun ls hl => ?_)
      refine lv_iconst (v := 1) hx hb dL_wouldStrike_17 (by decide) ?_
      refine W.widen (k := 1) (n := 6) (Nat.le_of_ble_eq_true rfl) (Nat.le_of_ble_eq_true rfl) ?_
      exact W.iret (v := (1 : Int32)) hx hb hr (fun t ht hW => ⟨⟨_, (fo, o1.2.1, o1.2.2.1, o1.2.2.2), rfl, Option.some.inj hF, by rw [ht]; exact hP, hD⟩, hS.F ht⟩) hS.2.2 dL_wouldStrike_18
    · have hF := itn c3 hF
      by_cases c4 : k = 1
      · subst c4
        have hF := itp rfl hF
        refine vx_catch (E := eIS) (name := eIS) hown [⟨0, 12, 15, 13⟩] ⟨0, 12, 19, 15⟩ [] hTab (fun z hz => by obtain rfl := List.mem_singleton.mp hz; exact Or.inr ⟨by decide, _, hts _ w_classLink_L_13, hZ.2.2.2.2 (eIS, eIA) (by decide)⟩) (by decide) (by decide) (hts _ w_classLink_L_15) (hZ.2.2.2.1.use _ (by decide)) h9 hv9 hc9 ?_
        refine lv_astore (lv' := [(5, .ref q9), (0, .ref (x 0)), (1, .int p2), (2, .int p3), (3, .int p4), (4, .ref qo)]) hx hb dL_wouldStrike_19 hl (by decide) rfl (fun ls hl => ?_)
        refine lv_iconst (v := 2) hx hb dL_wouldStrike_21 (by decide) ?_
        refine W.widen (k := 1) (n := 6) (Nat.le_of_ble_eq_true rfl) (Nat.le_of_ble_eq_true rfl) ?_
        exact W.iret (v := (2 : Int32)) hx hb hr (fun t ht hW => ⟨⟨_, (fo, o1.2.1, o1.2.2.1, o1.2.2.2), rfl, Option.some.inj hF, by rw [ht]; exact hP, hD⟩, hS.F ht⟩) hS.2.2 dL_wouldStrike_22
      · have hF := itn c4 hF
        cases hF
  · skip
    obtain rfl : u = o1.2 := congrArg Prod.snd hw
    have hw1 : Sum.inr ro1 = o1.1 := congrArg Prod.fst hw
    rw [← hw1] at hF
    have hF := exc_r hF
    have hq := seg_permS (segs := [[cLo cyL qo 1 fo], (cXo x an tr o1.2.1), (cH cyO (x 1) (x 2) 2 fl), (cXk cyI x o1.2.1), (cH cyO (x 4) (x 5) 6 fs), (cT cyI x (X_text o1.2.1)), (cSo an o1.2.2.1), (cG cyI an (S_green o1.2.2.1)), (cV cyI an (S_score o1.2.2.1)), (cSo tr o1.2.2.2), (cG cyI tr (S_green o1.2.2.2)), (cV cyI tr (S_score o1.2.2.2))]) (R := [[cLo cyL qo 1 fo]]) (C := [(cXo x an tr o1.2.1), (cH cyO (x 1) (x 2) 2 fl), (cXk cyI x o1.2.1), (cH cyO (x 4) (x 5) 6 fs), (cT cyI x (X_text o1.2.1)), (cSo an o1.2.2.1), (cG cyI an (S_green o1.2.2.1)), (cV cyI an (S_score o1.2.2.1)), (cSo tr o1.2.2.2), (cG cyI tr (S_green o1.2.2.2)), (cV cyI tr (S_score o1.2.2.2))]) (n := 12) [0] [1, 2, 3, 4, 5, 6, 7, 8, 9, 10, 11] rfl rfl rfl (by decide)
    have hP : va_P (dC, dI) vwCl (([[cLo cyL qo 1 fo], (cXo x an tr o1.2.1), (cH cyO (x 1) (x 2) 2 fl), (cXk cyI x o1.2.1), (cH cyO (x 4) (x 5) 6 fs), (cT cyI x (X_text o1.2.1)), (cSo an o1.2.2.1), (cG cyI an (S_green o1.2.2.1)), (cV cyI an (S_score o1.2.2.1)), (cSo tr o1.2.2.2), (cG cyI tr (S_green o1.2.2.2)), (cV cyI tr (S_score o1.2.2.2))] : List va_W).flatten) H := hP.perm hq
    have hD : va_D A (([[cLo cyL qo 1 fo], (cXo x an tr o1.2.1), (cH cyO (x 1) (x 2) 2 fl), (cXk cyI x o1.2.1), (cH cyO (x 4) (x 5) 6 fs), (cT cyI x (X_text o1.2.1)), (cSo an o1.2.2.1), (cG cyI an (S_green o1.2.2.1)), (cV cyI an (S_score o1.2.2.1)), (cSo tr o1.2.2.2), (cG cyI tr (S_green o1.2.2.2)), (cV cyI tr (S_score o1.2.2.2))] : List va_W).flatten) := hD.perm hq
    clear hq
    refine lv_i2l (v := (ro1).toInt64) hx hb dL_wouldStrike_10 rfl ?_
    refine va_last hx hb hK.1 hP hD hS 0 2 rfl rfl (i := (0 : Int32)) (x := ((ro1).toInt64)) (show ixok (0 : Int32) 1 by decide) dL_wouldStrike_11 (fun H locs hP hD hS => ?_)
    have hP : va_P (dC, dI) vwCl (([[cLo cyL qo 1 (vp_updL fo (0 : Int32).toNatClampNeg ((ro1).toInt64))], (cXo x an tr o1.2.1), (cH cyO (x 1) (x 2) 2 fl), (cXk cyI x o1.2.1), (cH cyO (x 4) (x 5) 6 fs), (cT cyI x (X_text o1.2.1)), (cSo an o1.2.2.1), (cG cyI an (S_green o1.2.2.1)), (cV cyI an (S_score o1.2.2.1)), (cSo tr o1.2.2.2), (cG cyI tr (S_green o1.2.2.2)), (cV cyI tr (S_score o1.2.2.2))] : List va_W).flatten) H := hP
    have hD : va_D A (([[cLo cyL qo 1 (vp_updL fo (0 : Int32).toNatClampNeg ((ro1).toInt64))], (cXo x an tr o1.2.1), (cH cyO (x 1) (x 2) 2 fl), (cXk cyI x o1.2.1), (cH cyO (x 4) (x 5) 6 fs), (cT cyI x (X_text o1.2.1)), (cSo an o1.2.2.1), (cG cyI an (S_green o1.2.2.1)), (cV cyI an (S_score o1.2.2.1)), (cSo tr o1.2.2.2), (cG cyI tr (S_green o1.2.2.2)), (cV cyI tr (S_score o1.2.2.2))] : List va_W).flatten) := hD
    refine lv_goto (tgt := 23) hx hb dL_wouldStrike_12 (by decide) ?_
    refine lv_iconst (v := 0) hx hb dL_wouldStrike_23 (by decide) ?_
    refine W.widen (k := 1) (n := 6) (Nat.le_of_ble_eq_true rfl) (Nat.le_of_ble_eq_true rfl) ?_
    exact W.iret (v := (0 : Int32)) hx hb hr (fun t ht hW => ⟨⟨_, ((vp_updL fo (0 : Int32).toNatClampNeg ((ro1).toInt64)), o1.2.1, o1.2.2.1, o1.2.2.2), rfl, Option.some.inj hF, by rw [ht]; exact hP, hD⟩, hS.F ht⟩) hS.2.2 dL_wouldStrike_24
theorem dL_bestPlay_0 : decode cL_bestPlay 0 = .ok (.aload_n 1, 1) := by decide +kernel
theorem dL_bestPlay_1 : decode cL_bestPlay 1 = .ok (.iconst 0, 1) := by decide +kernel
theorem dL_bestPlay_2 : decode cL_bestPlay 2 = .ok (.aload_n 0, 1) := by decide +kernel
theorem dL_bestPlay_3 : decode cL_bestPlay 3 = .ok (.invokevirtual 121, 3) := by decide +kernel
theorem dL_bestPlay_6 : decode cL_bestPlay 6 = .ok (.i2l, 1) := by decide +kernel
theorem dL_bestPlay_7 : decode cL_bestPlay 7 = .ok (.lastore, 1) := by decide +kernel
theorem dL_bestPlay_8 : decode cL_bestPlay 8 = .ok (.goto 6, 3) := by decide +kernel
theorem dL_bestPlay_11 : decode cL_bestPlay 11 = .ok (.astore_n 2, 1) := by decide +kernel
theorem dL_bestPlay_12 : decode cL_bestPlay 12 = .ok (.iconst 1, 1) := by decide +kernel
theorem dL_bestPlay_13 : decode cL_bestPlay 13 = .ok (.ireturn, 1) := by decide +kernel
theorem dL_bestPlay_14 : decode cL_bestPlay 14 = .ok (.iconst 0, 1) := by decide +kernel
theorem dL_bestPlay_15 : decode cL_bestPlay 15 = .ok (.ireturn, 1) := by decide +kernel
def f_L_bestPlay (N : Nat) (fo : (Nat → Int64)) (xv : XV) (nv : SV) (tv : SV) : Option (Int32 × ((Nat → Int64) × XV × SV × SV)) :=
  (f_X5_bestPlay N xv nv tv).bind (fun o1 => exc o1.1 (fun k => (if k = 1 then some ((1 : Int32), (fo, o1.2.1, o1.2.2.1, o1.2.2.2)) else none)) (fun (ro1 : Int32) => some ((0 : Int32), ((vp_updL fo (0 : Int32).toNatClampNeg ((ro1).toInt64)), o1.2.1, o1.2.2.1, o1.2.2.2))))
set_option maxHeartbeats 4000000 in
set_option maxRecDepth 100000 in
theorem met_L_bestPlay (l : Launch) (z0 : Nat) (hst : l.stackTraces = false) (dC : Nat → ClassId) (dI : Nat → Nat → Nat) (cyI cyO cyL : ClassId) (qo : Nat) (x : Nat → Nat) (an : Nat → Nat) (tr : Nat → Nat) (fl fs : Nat → Option Nat) (sz : Nat) (N : Nat) (fo : (Nat → Int64)) (xv : XV) (nv : SV) (tv : SV) (out : Int32 × ((Nat → Int64) × XV × SV × SV)) (hF : f_L_bestPlay N fo xv nv tv = some out) : Met l yL_bestPlay (Cond.codeWith yL_bestPlay cL_bestPlay 3 (some .int) [(0, 8, 11, 15)] :: wT) ({ frames := 7, cells := 1, slots := 6, locals := 153 } : Room) (wWrX z0 dC dI cyI cyO cyL [.ref (x 0), .ref qo] (([[cLo cyL qo 1 fo], (cXo x an tr xv), (cH cyO (x 1) (x 2) 2 fl), (cXk cyI x xv), (cH cyO (x 4) (x 5) 6 fs), (cT cyI x (X_text xv)), (cSo an nv), (cG cyI an (S_green nv)), (cV cyI an (S_score nv)), (cSo tr tv), (cG cyI tr (S_green tv)), (cV cyI tr (S_score tv))] : List va_W).flatten) sz) (va_Qi (fun (r : Int32) (u : (Nat → Int64) × XV × SV × SV) => (r, u) = out) (fun u t => va_P (dC, dI) vwCl (([[cLo cyL qo 1 u.1], (cXo x an tr u.2.1), (cH cyO (x 1) (x 2) 2 fl), (cXk cyI x u.2.1), (cH cyO (x 4) (x 5) 6 fs), (cT cyI x (X_text u.2.1)), (cSo an u.2.2.1), (cG cyI an (S_green u.2.2.1)), (cV cyI an (S_score u.2.2.1)), (cSo tr u.2.2.2), (cG cyI tr (S_green u.2.2.2)), (cV cyI tr (S_score u.2.2.2))] : List va_W).flatten) t.heap ∧ va_D (va_A (([[cLo cyL qo 1 fo], (cXo x an tr xv), (cH cyO (x 1) (x 2) 2 fl), (cXk cyI x xv), (cH cyO (x 4) (x 5) 6 fs), (cT cyI x (X_text xv)), (cSo an nv), (cG cyI an (S_green nv)), (cV cyI an (S_score nv)), (cSo tr tv), (cG cyI tr (S_green tv)), (cV cyI tr (S_score tv))] : List va_W).flatten) sz) (([[cLo cyL qo 1 u.1], (cXo x an tr u.2.1), (cH cyO (x 1) (x 2) 2 fl), (cXk cyI x u.2.1), (cH cyO (x 4) (x 5) 6 fs), (cT cyI x (X_text u.2.1)), (cSo an u.2.2.1), (cG cyI an (S_green u.2.2.1)), (cV cyI an (S_score u.2.2.1)), (cSo tr u.2.2.2), (cG cyI tr (S_green u.2.2.2)), (cV cyI tr (S_score u.2.2.2))] : List va_W).flatten)) (va_A (([[cLo cyL qo 1 fo], (cXo x an tr xv), (cH cyO (x 1) (x 2) 2 fl), (cXk cyI x xv), (cH cyO (x 4) (x 5) 6 fs), (cT cyI x (X_text xv)), (cSo an nv), (cG cyI an (S_green nv)), (cV cyI an (S_score nv)), (cSo tr tv), (cG cyI tr (S_green tv)), (cV cyI tr (S_score tv))] : List va_W).flatten) sz)) 1 6 (va_A (([[cLo cyL qo 1 fo], (cXo x an tr xv), (cH cyO (x 1) (x 2) 2 fl), (cXk cyI x xv), (cH cyO (x 4) (x 5) 6 fs), (cT cyI x (X_text xv)), (cSo an nv), (cG cyI an (S_green nv)), (cV cyI an (S_score nv)), (cSo tr tv), (cG cyI tr (S_green tv)), (cV cyI tr (S_score tv))] : List va_W).flatten) sz) := by
  refine Met.ofWH (cc := cL_bestPlay) (maxL := 3) (ret := (some .int)) (by decide) rfl ?_
  intro p e s m args below meth c s₁ B hml hv
  obtain ⟨rfl, hsz, hP, hK, hD0, hz0, hZ⟩ := hv
  have hTab := vx_table (x := yL_bestPlay) B (atoms_spec (ws := (Cond.codeWith yL_bestPlay cL_bestPlay 3 (some .int) [(0, 8, 11, 15)] :: wT)) B.pre _ List.mem_cons_self)
  have hx := B.exec
  have hb := B.bytes
  have hr := B.returns
  have hts0 := atoms_spec (ws := (Cond.codeWith yL_bestPlay cL_bestPlay 3 (some .int) [(0, 8, 11, 15)] :: wT)) B.pre
  have hts := fun w h => hts0 w (List.mem_cons_of_mem _ h)
  clear hts0
  have hown : s.vm.findClass RL = some m.cls := findClass_of_methodNamed B.named
  have hlocks := B.notSynchronized
  subst hsz
  have hD := hD0.self (sz := s.heap.size)
  have hAz := wA_ge hD0 hz0
  generalize hAe : va_A (([[cLo cyL qo 1 fo], (cXo x an tr xv), (cH cyO (x 1) (x 2) 2 fl), (cXk cyI x xv), (cH cyO (x 4) (x 5) 6 fs), (cT cyI x (X_text xv)), (cSo an nv), (cG cyI an (S_green nv)), (cV cyI an (S_score nv)), (cSo tr tv), (cG cyI tr (S_green tv)), (cV cyI tr (S_score tv))] : List va_W).flatten) s.heap.size = A at hD hAz ⊢
  have hA : ∀ q : Nat, s.heap.size ≤ q → A q := fun q h => by rw [← hAe]; exact Or.inr h
  clear hD0
  have hS : va_S A s.heap s.heap [] := va_S.rf
  have hl := lv_entry [.ref (x 0), .ref qo] (n := 3) (Nat.le_of_ble_eq_true rfl)
  rw [lg_entry_eq]
  generalize (lg_sl [.ref (x 0), .ref qo] ++ List.replicate (3 - (lg_sl [.ref (x 0), .ref qo]).length) Slot.unset).toArray = ls at hl ⊢
  have hl : lv_has ls 3 [(0, .ref (x 0)), (1, .ref qo)] := hl
  unfold f_L_bestPlay at hF
  refine lv_aload_n hx hb dL_bestPlay_0 rfl (lv_at hl 1 rfl) ?_
  refine lv_iconst (v := 0) hx hb dL_bestPlay_1 (by decide) ?_
  refine lv_aload_n hx hb dL_bestPlay_2 rfl (lv_at hl 0 rfl) ?_
  obtain ⟨o1, h2, hF⟩ := obd hF
  refine wxPVi (As := []) (rest := [.int (0 : Int32), .ref qo]) (wr := ([[cLo cyL qo 1 fo]] : List va_W).flatten) (b := (x 0)) ⟨hx, hb, hml, hown, hts⟩ (met_X5_bestPlay l z0 hst dC dI cyI cyO cyL x an tr fl fs _ N xv nv tv  o1 h2) (cwV 0 hts (gV w_methodLink_L_121 w_instanceMethod_X5_bestPlay w_selects_X5_bestPlay w_initialized_X5 w_code_X5_bestPlay) rfl rfl rfl (by decide +kernel) ⟨Nat.le_of_ble_eq_true rfl, Nat.le_of_ble_eq_true rfl⟩) (va_recv hK.1 hP (ci := 5) (q0 := 1) rfl rfl) hP hD hK hZ hAz hz0 (seg_perm (n := 12) (R := [[cLo cyL qo 1 fo]]) (C := [(cXo x an tr xv), (cH cyO (x 1) (x 2) 2 fl), (cXk cyI x xv), (cH cyO (x 4) (x 5) 6 fs), (cT cyI x (X_text xv)), (cSo an nv), (cG cyI an (S_green nv)), (cV cyI an (S_score nv)), (cSo tr tv), (cG cyI tr (S_green tv)), (cV cyI tr (S_score tv))]) [0] [1, 2, 3, 4, 5, 6, 7, 8, 9, 10, 11] rfl rfl rfl (by decide) rfl) rfl hl.1 (Nat.le_of_ble_eq_true rfl) dL_bestPlay_3 ⟨Nat.le_of_ble_eq_true rfl, Nat.le_of_ble_eq_true rfl⟩ hS hA (fun k u ce q9 H locs hw hP hD hS h9 hv9 hc9 => ?_) (fun ro1 u H locs hw hP hD hS => ?_)
  · obtain rfl : u = o1.2 := congrArg Prod.snd hw
    have hw1 : Sum.inl k = o1.1 := congrArg Prod.fst hw
    rw [← hw1] at hF
    have hF := exc_l hF
    have hq := seg_permS (segs := [[cLo cyL qo 1 fo], (cXo x an tr o1.2.1), (cH cyO (x 1) (x 2) 2 fl), (cXk cyI x o1.2.1), (cH cyO (x 4) (x 5) 6 fs), (cT cyI x (X_text o1.2.1)), (cSo an o1.2.2.1), (cG cyI an (S_green o1.2.2.1)), (cV cyI an (S_score o1.2.2.1)), (cSo tr o1.2.2.2), (cG cyI tr (S_green o1.2.2.2)), (cV cyI tr (S_score o1.2.2.2))]) (R := [[cLo cyL qo 1 fo]]) (C := [(cXo x an tr o1.2.1), (cH cyO (x 1) (x 2) 2 fl), (cXk cyI x o1.2.1), (cH cyO (x 4) (x 5) 6 fs), (cT cyI x (X_text o1.2.1)), (cSo an o1.2.2.1), (cG cyI an (S_green o1.2.2.1)), (cV cyI an (S_score o1.2.2.1)), (cSo tr o1.2.2.2), (cG cyI tr (S_green o1.2.2.2)), (cV cyI tr (S_score o1.2.2.2))]) (n := 12) [0] [1, 2, 3, 4, 5, 6, 7, 8, 9, 10, 11] rfl rfl rfl (by decide)
    have hP : va_P (dC, dI) vwCl (([[cLo cyL qo 1 fo], (cXo x an tr o1.2.1), (cH cyO (x 1) (x 2) 2 fl), (cXk cyI x o1.2.1), (cH cyO (x 4) (x 5) 6 fs), (cT cyI x (X_text o1.2.1)), (cSo an o1.2.2.1), (cG cyI an (S_green o1.2.2.1)), (cV cyI an (S_score o1.2.2.1)), (cSo tr o1.2.2.2), (cG cyI tr (S_green o1.2.2.2)), (cV cyI tr (S_score o1.2.2.2))] : List va_W).flatten) H := hP.perm hq
    have hD : va_D A (([[cLo cyL qo 1 fo], (cXo x an tr o1.2.1), (cH cyO (x 1) (x 2) 2 fl), (cXk cyI x o1.2.1), (cH cyO (x 4) (x 5) 6 fs), (cT cyI x (X_text o1.2.1)), (cSo an o1.2.2.1), (cG cyI an (S_green o1.2.2.1)), (cV cyI an (S_score o1.2.2.1)), (cSo tr o1.2.2.2), (cG cyI tr (S_green o1.2.2.2)), (cV cyI tr (S_score o1.2.2.2))] : List va_W).flatten) := hD.perm hq
    clear hq
    by_cases c3 : k = 1
    · subst c3
      have hF := itp rfl hF
      refine vx_catch (E := eIS) (name := eIS) hown [] ⟨0, 8, 11, 15⟩ [] hTab (fun z hz => nomatch hz) (by decide) (by decide) (hts _ w_classLink_L_15) (hZ.2.2.2.1.use _ (by decide)) h9 hv9 hc9 ?_
      refine lv_astore_n (lv' := [(2, .ref q9), (0, .ref (x 0)), (1, .ref qo)]) hx hb dL_bestPlay_11 rfl hl (by decide) rfl (fun ls hl => ?_)
      refine lv_iconst (v := 1) hx hb dL_bestPlay_12 (by decide) ?_
      refine W.widen (k := 1) (n := 6) (Nat.le_of_ble_eq_true rfl) (Nat.le_of_ble_eq_true rfl) ?_
      exact W.iret (v := (1 : Int32)) hx hb hr (fun t ht hW => ⟨⟨_, (fo, o1.2.1, o1.2.2.1, o1.2.2.2), rfl, Option.some.inj hF, by rw [ht]; exact hP, hD⟩, hS.F ht⟩) hS.2.2 dL_bestPlay_13
    · have hF := itn c3 hF
      cases hF
  · skip
    obtain rfl : u = o1.2 := congrArg Prod.snd hw
    have hw1 : Sum.inr ro1 = o1.1 := congrArg Prod.fst hw
    rw [← hw1] at hF
    have hF := exc_r hF
    have hq := seg_permS (segs := [[cLo cyL qo 1 fo], (cXo x an tr o1.2.1), (cH cyO (x 1) (x 2) 2 fl), (cXk cyI x o1.2.1), (cH cyO (x 4) (x 5) 6 fs), (cT cyI x (X_text o1.2.1)), (cSo an o1.2.2.1), (cG cyI an (S_green o1.2.2.1)), (cV cyI an (S_score o1.2.2.1)), (cSo tr o1.2.2.2), (cG cyI tr (S_green o1.2.2.2)), (cV cyI tr (S_score o1.2.2.2))]) (R := [[cLo cyL qo 1 fo]]) (C := [(cXo x an tr o1.2.1), (cH cyO (x 1) (x 2) 2 fl), (cXk cyI x o1.2.1), (cH cyO (x 4) (x 5) 6 fs), (cT cyI x (X_text o1.2.1)), (cSo an o1.2.2.1), (cG cyI an (S_green o1.2.2.1)), (cV cyI an (S_score o1.2.2.1)), (cSo tr o1.2.2.2), (cG cyI tr (S_green o1.2.2.2)), (cV cyI tr (S_score o1.2.2.2))]) (n := 12) [0] [1, 2, 3, 4, 5, 6, 7, 8, 9, 10, 11] rfl rfl rfl (by decide)
    have hP : va_P (dC, dI) vwCl (([[cLo cyL qo 1 fo], (cXo x an tr o1.2.1), (cH cyO (x 1) (x 2) 2 fl), (cXk cyI x o1.2.1), (cH cyO (x 4) (x 5) 6 fs), (cT cyI x (X_text o1.2.1)), (cSo an o1.2.2.1), (cG cyI an (S_green o1.2.2.1)), (cV cyI an (S_score o1.2.2.1)), (cSo tr o1.2.2.2), (cG cyI tr (S_green o1.2.2.2)), (cV cyI tr (S_score o1.2.2.2))] : List va_W).flatten) H := hP.perm hq
    have hD : va_D A (([[cLo cyL qo 1 fo], (cXo x an tr o1.2.1), (cH cyO (x 1) (x 2) 2 fl), (cXk cyI x o1.2.1), (cH cyO (x 4) (x 5) 6 fs), (cT cyI x (X_text o1.2.1)), (cSo an o1.2.2.1), (cG cyI an (S_green o1.2.2.1)), (cV cyI an (S_score o1.2.2.1)), (cSo tr o1.2.2.2), (cG cyI tr (S_green o1.2.2.2)), (cV cyI tr (S_score o1.2.2.2))] : List va_W).flatten) := hD.perm hq
    clear hq
    refine lv_i2l (v := (ro1).toInt64) hx hb dL_bestPlay_6 rfl ?_
    refine va_last hx hb hK.1 hP hD hS 0 2 rfl rfl (i := (0 : Int32)) (x := ((ro1).toInt64)) (show ixok (0 : Int32) 1 by decide) dL_bestPlay_7 (fun H locs hP hD hS => ?_)
    have hP : va_P (dC, dI) vwCl (([[cLo cyL qo 1 (vp_updL fo (0 : Int32).toNatClampNeg ((ro1).toInt64))], (cXo x an tr o1.2.1), (cH cyO (x 1) (x 2) 2 fl), (cXk cyI x o1.2.1), (cH cyO (x 4) (x 5) 6 fs), (cT cyI x (X_text o1.2.1)), (cSo an o1.2.2.1), (cG cyI an (S_green o1.2.2.1)), (cV cyI an (S_score o1.2.2.1)), (cSo tr o1.2.2.2), (cG cyI tr (S_green o1.2.2.2)), (cV cyI tr (S_score o1.2.2.2))] : List va_W).flatten) H := hP
    have hD : va_D A (([[cLo cyL qo 1 (vp_updL fo (0 : Int32).toNatClampNeg ((ro1).toInt64))], (cXo x an tr o1.2.1), (cH cyO (x 1) (x 2) 2 fl), (cXk cyI x o1.2.1), (cH cyO (x 4) (x 5) 6 fs), (cT cyI x (X_text o1.2.1)), (cSo an o1.2.2.1), (cG cyI an (S_green o1.2.2.1)), (cV cyI an (S_score o1.2.2.1)), (cSo tr o1.2.2.2), (cG cyI tr (S_green o1.2.2.2)), (cV cyI tr (S_score o1.2.2.2))] : List va_W).flatten) := hD
    refine lv_goto (tgt := 14) hx hb dL_bestPlay_8 (by decide) ?_
    refine lv_iconst (v := 0) hx hb dL_bestPlay_14 (by decide) ?_
    refine W.widen (k := 1) (n := 6) (Nat.le_of_ble_eq_true rfl) (Nat.le_of_ble_eq_true rfl) ?_
    exact W.iret (v := (0 : Int32)) hx hb hr (fun t ht hW => ⟨⟨_, ((vp_updL fo (0 : Int32).toNatClampNeg ((ro1).toInt64)), o1.2.1, o1.2.2.1, o1.2.2.2), rfl, Option.some.inj hF, by rw [ht]; exact hP, hD⟩, hS.F ht⟩) hS.2.2 dL_bestPlay_15
theorem dL_pointsOf_0 : decode cL_pointsOf 0 = .ok (.aload_n 2, 1) := by decide +kernel
theorem dL_pointsOf_1 : decode cL_pointsOf 1 = .ok (.iconst 0, 1) := by decide +kernel
theorem dL_pointsOf_2 : decode cL_pointsOf 2 = .ok (.aload_n 0, 1) := by decide +kernel
theorem dL_pointsOf_3 : decode cL_pointsOf 3 = .ok (.iload_n 1, 1) := by decide +kernel
theorem dL_pointsOf_4 : decode cL_pointsOf 4 = .ok (.invokevirtual 124, 3) := by decide +kernel
theorem dL_pointsOf_7 : decode cL_pointsOf 7 = .ok (.i2l, 1) := by decide +kernel
theorem dL_pointsOf_8 : decode cL_pointsOf 8 = .ok (.lastore, 1) := by decide +kernel
theorem dL_pointsOf_9 : decode cL_pointsOf 9 = .ok (.goto 6, 3) := by decide +kernel
theorem dL_pointsOf_12 : decode cL_pointsOf 12 = .ok (.astore_n 3, 1) := by decide +kernel
theorem dL_pointsOf_13 : decode cL_pointsOf 13 = .ok (.iconst 1, 1) := by decide +kernel
theorem dL_pointsOf_14 : decode cL_pointsOf 14 = .ok (.ireturn, 1) := by decide +kernel
theorem dL_pointsOf_15 : decode cL_pointsOf 15 = .ok (.iconst 0, 1) := by decide +kernel
theorem dL_pointsOf_16 : decode cL_pointsOf 16 = .ok (.ireturn, 1) := by decide +kernel
def f_L_pointsOf (N : Nat) (fo : (Nat → Int64)) (xv : XV) (nv : SV) (p2 : Int32) : Option (Int32 × ((Nat → Int64) × XV × SV)) :=
  (f_X5_pointsOf N xv nv p2).bind (fun o1 => exc o1 (fun k => (if k = 2 then some ((1 : Int32), (fo, xv, nv)) else none)) (fun (ro1 : Int32) => some ((0 : Int32), ((vp_updL fo (0 : Int32).toNatClampNeg ((ro1).toInt64)), xv, nv))))
set_option maxHeartbeats 4000000 in
set_option maxRecDepth 100000 in
theorem met_L_pointsOf (l : Launch) (z0 : Nat) (hst : l.stackTraces = false) (dC : Nat → ClassId) (dI : Nat → Nat → Nat) (cyI cyO cyL : ClassId) (qo : Nat) (x : Nat → Nat) (tr : Nat → Nat) (an : Nat → Nat) (fl fs : Nat → Option Nat) (sz : Nat) (N : Nat) (fo : (Nat → Int64)) (xv : XV) (nv : SV) (p2 : Int32) (out : Int32 × ((Nat → Int64) × XV × SV)) (hF : f_L_pointsOf N fo xv nv p2 = some out) : Met l yL_pointsOf (Cond.codeWith yL_pointsOf cL_pointsOf 4 (some .int) [(0, 9, 12, 62)] :: wT) ({ frames := 8, cells := 1, slots := 6, locals := 123 } : Room) (wWrX z0 dC dI cyI cyO cyL [.ref (x 0), .int p2, .ref qo] (([[cLo cyL qo 1 fo], (cXo x an tr xv), (cH cyO (x 1) (x 2) 2 fl), (cXk cyI x xv), (cH cyO (x 4) (x 5) 6 fs), (cT cyI x (X_text xv)), (cSo an nv), (cG cyI an (S_green nv)), (cV cyI an (S_score nv))] : List va_W).flatten) sz) (va_Qi (fun (r : Int32) (u : (Nat → Int64) × XV × SV) => (r, u) = out) (fun u t => va_P (dC, dI) vwCl (([[cLo cyL qo 1 u.1], (cXo x an tr u.2.1), (cH cyO (x 1) (x 2) 2 fl), (cXk cyI x u.2.1), (cH cyO (x 4) (x 5) 6 fs), (cT cyI x (X_text u.2.1)), (cSo an u.2.2), (cG cyI an (S_green u.2.2)), (cV cyI an (S_score u.2.2))] : List va_W).flatten) t.heap ∧ va_D (va_A (([[cLo cyL qo 1 fo], (cXo x an tr xv), (cH cyO (x 1) (x 2) 2 fl), (cXk cyI x xv), (cH cyO (x 4) (x 5) 6 fs), (cT cyI x (X_text xv)), (cSo an nv), (cG cyI an (S_green nv)), (cV cyI an (S_score nv))] : List va_W).flatten) sz) (([[cLo cyL qo 1 u.1], (cXo x an tr u.2.1), (cH cyO (x 1) (x 2) 2 fl), (cXk cyI x u.2.1), (cH cyO (x 4) (x 5) 6 fs), (cT cyI x (X_text u.2.1)), (cSo an u.2.2), (cG cyI an (S_green u.2.2)), (cV cyI an (S_score u.2.2))] : List va_W).flatten)) (va_A (([[cLo cyL qo 1 fo], (cXo x an tr xv), (cH cyO (x 1) (x 2) 2 fl), (cXk cyI x xv), (cH cyO (x 4) (x 5) 6 fs), (cT cyI x (X_text xv)), (cSo an nv), (cG cyI an (S_green nv)), (cV cyI an (S_score nv))] : List va_W).flatten) sz)) 1 6 (va_A (([[cLo cyL qo 1 fo], (cXo x an tr xv), (cH cyO (x 1) (x 2) 2 fl), (cXk cyI x xv), (cH cyO (x 4) (x 5) 6 fs), (cT cyI x (X_text xv)), (cSo an nv), (cG cyI an (S_green nv)), (cV cyI an (S_score nv))] : List va_W).flatten) sz) := by
  refine Met.ofWH (cc := cL_pointsOf) (maxL := 4) (ret := (some .int)) (by decide) rfl ?_
  intro p e s m args below meth c s₁ B hml hv
  obtain ⟨rfl, hsz, hP, hK, hD0, hz0, hZ⟩ := hv
  have hTab := vx_table (x := yL_pointsOf) B (atoms_spec (ws := (Cond.codeWith yL_pointsOf cL_pointsOf 4 (some .int) [(0, 9, 12, 62)] :: wT)) B.pre _ List.mem_cons_self)
  have hx := B.exec
  have hb := B.bytes
  have hr := B.returns
  have hts0 := atoms_spec (ws := (Cond.codeWith yL_pointsOf cL_pointsOf 4 (some .int) [(0, 9, 12, 62)] :: wT)) B.pre
  have hts := fun w h => hts0 w (List.mem_cons_of_mem _ h)
  clear hts0
  have hown : s.vm.findClass RL = some m.cls := findClass_of_methodNamed B.named
  have hlocks := B.notSynchronized
  subst hsz
  have hD := hD0.self (sz := s.heap.size)
  have hAz := wA_ge hD0 hz0
  generalize hAe : va_A (([[cLo cyL qo 1 fo], (cXo x an tr xv), (cH cyO (x 1) (x 2) 2 fl), (cXk cyI x xv), (cH cyO (x 4) (x 5) 6 fs), (cT cyI x (X_text xv)), (cSo an nv), (cG cyI an (S_green nv)), (cV cyI an (S_score nv))] : List va_W).flatten) s.heap.size = A at hD hAz ⊢
  have hA : ∀ q : Nat, s.heap.size ≤ q → A q := fun q h => by rw [← hAe]; exact Or.inr h
  clear hD0
  have hS : va_S A s.heap s.heap [] := va_S.rf
  have hl := lv_entry [.ref (x 0), .int p2, .ref qo] (n := 4) (Nat.le_of_ble_eq_true rfl)
  rw [lg_entry_eq]
  generalize (lg_sl [.ref (x 0), .int p2, .ref qo] ++ List.replicate (4 - (lg_sl [.ref (x 0), .int p2, .ref qo]).length) Slot.unset).toArray = ls at hl ⊢
  have hl : lv_has ls 4 [(0, .ref (x 0)), (1, .int p2), (2, .ref qo)] := hl
  unfold f_L_pointsOf at hF
  refine lv_aload_n hx hb dL_pointsOf_0 rfl (lv_at hl 2 rfl) ?_
  refine lv_iconst (v := 0) hx hb dL_pointsOf_1 (by decide) ?_
  refine lv_aload_n hx hb dL_pointsOf_2 rfl (lv_at hl 0 rfl) ?_
  refine lv_iload_n hx hb dL_pointsOf_3 rfl (lv_at hl 1 rfl) ?_
  obtain ⟨o1, h2, hF⟩ := obd hF
  refine wxRVi (As := [.int p2]) (rest := [.int (0 : Int32), .ref qo]) (b := (x 0)) ⟨hx, hb, hml, hown, hts⟩ (met_X5_pointsOf l z0 hst dC dI cyI cyO cyL x tr an fl fs N xv nv p2 o1 h2) (cwV 1 hts (gV w_methodLink_L_124 w_instanceMethod_X5_pointsOf w_selects_X5_pointsOf w_initialized_X5 w_code_X5_pointsOf) rfl rfl rfl (by decide +kernel) ⟨Nat.le_of_ble_eq_true rfl, Nat.le_of_ble_eq_true rfl⟩) (va_recv hK.1 hP (ci := 5) (q0 := 1) rfl rfl) hP hK hZ hAz [1, 2, 3, 4, 5, 6, 7, 8, 9, 10, 11, 12, 13, 14, 15, 16, 17, 18, 19, 20, 21] rfl rfl hl.1 (Nat.le_of_ble_eq_true rfl) dL_pointsOf_4 ⟨Nat.le_of_ble_eq_true rfl, Nat.le_of_ble_eq_true rfl⟩ hS (fun k ce q9 H locs hw hP hS h9 hv9 hc9 => ?_) (fun ro1 H locs hw hP hS => ?_)
  · have hw := hw.symm
    subst hw
    have hF := exc_l hF
    by_cases c3 : k = 2
    · subst c3
      have hF := itp rfl hF
      refine vx_catch (E := eIO) (name := eIO) hown [] ⟨0, 9, 12, 62⟩ [] hTab (fun z hz => nomatch hz) (by decide) (by decide) (hts _ w_classLink_L_62) (hZ.2.2.2.1.use _ (by decide)) h9 hv9 hc9 ?_
      refine lv_astore_n (lv' := [(3, .ref q9), (0, .ref (x 0)), (1, .int p2), (2, .ref qo)]) hx hb dL_pointsOf_12 rfl hl (by decide) rfl (fun ls hl => ?_)
      refine lv_iconst (v := 1) hx hb dL_pointsOf_13 (by decide) ?_
      refine W.widen (k := 1) (n := 6) (Nat.le_of_ble_eq_true rfl) (Nat.le_of_ble_eq_true rfl) ?_
      exact W.iret (v := (1 : Int32)) hx hb hr (fun t ht hW => ⟨⟨_, (fo, xv, nv), rfl, Option.some.inj hF, by rw [ht]; exact hP, hD⟩, hS.F ht⟩) hS.2.2 dL_pointsOf_14
    · have hF := itn c3 hF
      cases hF
  · skip
    have hw := hw.symm
    subst hw
    have hF := exc_r hF
    refine lv_i2l (v := (ro1).toInt64) hx hb dL_pointsOf_7 rfl ?_
    refine va_last hx hb hK.1 hP hD hS 0 2 rfl rfl (i := (0 : Int32)) (x := ((ro1).toInt64)) (show ixok (0 : Int32) 1 by decide) dL_pointsOf_8 (fun H locs hP hD hS => ?_)
    have hP : va_P (dC, dI) vwCl (([[cLo cyL qo 1 (vp_updL fo (0 : Int32).toNatClampNeg ((ro1).toInt64))], (cXo x an tr xv), (cH cyO (x 1) (x 2) 2 fl), (cXk cyI x xv), (cH cyO (x 4) (x 5) 6 fs), (cT cyI x (X_text xv)), (cSo an nv), (cG cyI an (S_green nv)), (cV cyI an (S_score nv))] : List va_W).flatten) H := hP
    have hD : va_D A (([[cLo cyL qo 1 (vp_updL fo (0 : Int32).toNatClampNeg ((ro1).toInt64))], (cXo x an tr xv), (cH cyO (x 1) (x 2) 2 fl), (cXk cyI x xv), (cH cyO (x 4) (x 5) 6 fs), (cT cyI x (X_text xv)), (cSo an nv), (cG cyI an (S_green nv)), (cV cyI an (S_score nv))] : List va_W).flatten) := hD
    refine lv_goto (tgt := 15) hx hb dL_pointsOf_9 (by decide) ?_
    refine lv_iconst (v := 0) hx hb dL_pointsOf_15 (by decide) ?_
    refine W.widen (k := 1) (n := 6) (Nat.le_of_ble_eq_true rfl) (Nat.le_of_ble_eq_true rfl) ?_
    exact W.iret (v := (0 : Int32)) hx hb hr (fun t ht hW => ⟨⟨_, ((vp_updL fo (0 : Int32).toNatClampNeg ((ro1).toInt64)), xv, nv), rfl, Option.some.inj hF, by rw [ht]; exact hP, hD⟩, hS.F ht⟩) hS.2.2 dL_pointsOf_16
theorem dL_pointsOfEnd_0 : decode cL_pointsOfEnd 0 = .ok (.aload_n 2, 1) := by decide +kernel
theorem dL_pointsOfEnd_1 : decode cL_pointsOfEnd 1 = .ok (.iconst 0, 1) := by decide +kernel
theorem dL_pointsOfEnd_2 : decode cL_pointsOfEnd 2 = .ok (.aload_n 0, 1) := by decide +kernel
theorem dL_pointsOfEnd_3 : decode cL_pointsOfEnd 3 = .ok (.iload_n 1, 1) := by decide +kernel
theorem dL_pointsOfEnd_4 : decode cL_pointsOfEnd 4 = .ok (.invokevirtual 127, 3) := by decide +kernel
theorem dL_pointsOfEnd_7 : decode cL_pointsOfEnd 7 = .ok (.i2l, 1) := by decide +kernel
theorem dL_pointsOfEnd_8 : decode cL_pointsOfEnd 8 = .ok (.lastore, 1) := by decide +kernel
theorem dL_pointsOfEnd_9 : decode cL_pointsOfEnd 9 = .ok (.goto 6, 3) := by decide +kernel
theorem dL_pointsOfEnd_12 : decode cL_pointsOfEnd 12 = .ok (.astore_n 3, 1) := by decide +kernel
theorem dL_pointsOfEnd_13 : decode cL_pointsOfEnd 13 = .ok (.iconst 1, 1) := by decide +kernel
theorem dL_pointsOfEnd_14 : decode cL_pointsOfEnd 14 = .ok (.ireturn, 1) := by decide +kernel
theorem dL_pointsOfEnd_15 : decode cL_pointsOfEnd 15 = .ok (.iconst 0, 1) := by decide +kernel
theorem dL_pointsOfEnd_16 : decode cL_pointsOfEnd 16 = .ok (.ireturn, 1) := by decide +kernel
def f_L_pointsOfEnd (N : Nat) (fo : (Nat → Int64)) (xv : XV) (nv : SV) (p2 : Int32) : Option (Int32 × ((Nat → Int64) × XV × SV)) :=
  (f_X5_pointsOfEnd N xv nv p2).bind (fun o1 => exc o1 (fun k => (if k = 2 then some ((1 : Int32), (fo, xv, nv)) else none)) (fun (ro1 : Int32) => some ((0 : Int32), ((vp_updL fo (0 : Int32).toNatClampNeg ((ro1).toInt64)), xv, nv))))
set_option maxHeartbeats 4000000 in
set_option maxRecDepth 100000 in
theorem met_L_pointsOfEnd (l : Launch) (z0 : Nat) (hst : l.stackTraces = false) (dC : Nat → ClassId) (dI : Nat → Nat → Nat) (cyI cyO cyL : ClassId) (qo : Nat) (x : Nat → Nat) (tr : Nat → Nat) (an : Nat → Nat) (fl fs : Nat → Option Nat) (sz : Nat) (N : Nat) (fo : (Nat → Int64)) (xv : XV) (nv : SV) (p2 : Int32) (out : Int32 × ((Nat → Int64) × XV × SV)) (hF : f_L_pointsOfEnd N fo xv nv p2 = some out) : Met l yL_pointsOfEnd (Cond.codeWith yL_pointsOfEnd cL_pointsOfEnd 4 (some .int) [(0, 9, 12, 62)] :: wT) ({ frames := 7, cells := 1, slots := 6, locals := 103 } : Room) (wWrX z0 dC dI cyI cyO cyL [.ref (x 0), .int p2, .ref qo] (([[cLo cyL qo 1 fo], (cXo x an tr xv), (cH cyO (x 1) (x 2) 2 fl), (cXk cyI x xv), (cH cyO (x 4) (x 5) 6 fs), (cT cyI x (X_text xv)), (cSo an nv), (cG cyI an (S_green nv)), (cV cyI an (S_score nv))] : List va_W).flatten) sz) (va_Qi (fun (r : Int32) (u : (Nat → Int64) × XV × SV) => (r, u) = out) (fun u t => va_P (dC, dI) vwCl (([[cLo cyL qo 1 u.1], (cXo x an tr u.2.1), (cH cyO (x 1) (x 2) 2 fl), (cXk cyI x u.2.1), (cH cyO (x 4) (x 5) 6 fs), (cT cyI x (X_text u.2.1)), (cSo an u.2.2), (cG cyI an (S_green u.2.2)), (cV cyI an (S_score u.2.2))] : List va_W).flatten) t.heap ∧ va_D (va_A (([[cLo cyL qo 1 fo], (cXo x an tr xv), (cH cyO (x 1) (x 2) 2 fl), (cXk cyI x xv), (cH cyO (x 4) (x 5) 6 fs), (cT cyI x (X_text xv)), (cSo an nv), (cG cyI an (S_green nv)), (cV cyI an (S_score nv))] : List va_W).flatten) sz) (([[cLo cyL qo 1 u.1], (cXo x an tr u.2.1), (cH cyO (x 1) (x 2) 2 fl), (cXk cyI x u.2.1), (cH cyO (x 4) (x 5) 6 fs), (cT cyI x (X_text u.2.1)), (cSo an u.2.2), (cG cyI an (S_green u.2.2)), (cV cyI an (S_score u.2.2))] : List va_W).flatten)) (va_A (([[cLo cyL qo 1 fo], (cXo x an tr xv), (cH cyO (x 1) (x 2) 2 fl), (cXk cyI x xv), (cH cyO (x 4) (x 5) 6 fs), (cT cyI x (X_text xv)), (cSo an nv), (cG cyI an (S_green nv)), (cV cyI an (S_score nv))] : List va_W).flatten) sz)) 1 6 (va_A (([[cLo cyL qo 1 fo], (cXo x an tr xv), (cH cyO (x 1) (x 2) 2 fl), (cXk cyI x xv), (cH cyO (x 4) (x 5) 6 fs), (cT cyI x (X_text xv)), (cSo an nv), (cG cyI an (S_green nv)), (cV cyI an (S_score nv))] : List va_W).flatten) sz) := by
  refine Met.ofWH (cc := cL_pointsOfEnd) (maxL := 4) (ret := (some .int)) (by decide) rfl ?_
  intro p e s m args below meth c s₁ B hml hv
  obtain ⟨rfl, hsz, hP, hK, hD0, hz0, hZ⟩ := hv
  have hTab := vx_table (x := yL_pointsOfEnd) B (atoms_spec (ws := (Cond.codeWith yL_pointsOfEnd cL_pointsOfEnd 4 (some .int) [(0, 9, 12, 62)] :: wT)) B.pre _ List.mem_cons_self)
  have hx := B.exec
  have hb := B.bytes
  have hr := B.returns
  have hts0 := atoms_spec (ws := (Cond.codeWith yL_pointsOfEnd cL_pointsOfEnd 4 (some .int) [(0, 9, 12, 62)] :: wT)) B.pre
  have hts := fun w h => hts0 w (List.mem_cons_of_mem _ h)
  clear hts0
  have hown : s.vm.findClass RL = some m.cls := findClass_of_methodNamed B.named
  have hlocks := B.notSynchronized
  subst hsz
  have hD := hD0.self (sz := s.heap.size)
  have hAz := wA_ge hD0 hz0
  generalize hAe : va_A (([[cLo cyL qo 1 fo], (cXo x an tr xv), (cH cyO (x 1) (x 2) 2 fl), (cXk cyI x xv), (cH cyO (x 4) (x 5) 6 fs), (cT cyI x (X_text xv)), (cSo an nv), (cG cyI an (S_green nv)), (cV cyI an (S_score nv))] : List va_W).flatten) s.heap.size = A at hD hAz ⊢
  have hA : ∀ q : Nat, s.heap.size ≤ q → A q := fun q h => by rw [← hAe]; exact Or.inr h
  clear hD0
  have hS : va_S A s.heap s.heap [] := va_S.rf
  have hl := lv_entry [.ref (x 0), .int p2, .ref qo] (n := 4) (Nat.le_of_ble_eq_true rfl)
  rw [lg_entry_eq]
  generalize (lg_sl [.ref (x 0), .int p2, .ref qo] ++ List.replicate (4 - (lg_sl [.ref (x 0), .int p2, .ref qo]).length) Slot.unset).toArray = ls at hl ⊢
  have hl : lv_has ls 4 [(0, .ref (x 0)), (1, .int p2), (2, .ref qo)] := hl
  unfold f_L_pointsOfEnd at hF
  refine lv_aload_n hx hb dL_pointsOfEnd_0 rfl (lv_at hl 2 rfl) ?_
  refine lv_iconst (v := 0) hx hb dL_pointsOfEnd_1 (by decide) ?_
  refine lv_aload_n hx hb dL_pointsOfEnd_2 rfl (lv_at hl 0 rfl) ?_
  refine lv_iload_n hx hb dL_pointsOfEnd_3 rfl (lv_at hl 1 rfl) ?_
  obtain ⟨o1, h2, hF⟩ := obd hF
  refine wxRVi (As := [.int p2]) (rest := [.int (0 : Int32), .ref qo]) (b := (x 0)) ⟨hx, hb, hml, hown, hts⟩ (met_X5_pointsOfEnd l z0 hst dC dI cyI cyO cyL x tr an fl fs N xv nv p2 o1 h2) (cwV 1 hts (gV w_methodLink_L_127 w_instanceMethod_X5_pointsOfEnd w_selects_X5_pointsOfEnd w_initialized_X5 w_code_X5_pointsOfEnd) rfl rfl rfl (by decide +kernel) ⟨Nat.le_of_ble_eq_true rfl, Nat.le_of_ble_eq_true rfl⟩) (va_recv hK.1 hP (ci := 5) (q0 := 1) rfl rfl) hP hK hZ hAz [1, 2, 3, 4, 5, 6, 7, 8, 9, 10, 11, 12, 13, 14, 15, 16, 17, 18, 19, 20, 21] rfl rfl hl.1 (Nat.le_of_ble_eq_true rfl) dL_pointsOfEnd_4 ⟨Nat.le_of_ble_eq_true rfl, Nat.le_of_ble_eq_true rfl⟩ hS (fun k ce q9 H locs hw hP hS h9 hv9 hc9 => ?_) (fun ro1 H locs hw hP hS => ?_)
  · have hw := hw.symm
    subst hw
    have hF := exc_l hF
    by_cases c3 : k = 2
    · subst c3
      have hF := itp rfl hF
      refine vx_catch (E := eIO) (name := eIO) hown [] ⟨0, 9, 12, 62⟩ [] hTab (fun z hz => nomatch hz) (by decide) (by decide) (hts _ w_classLink_L_62) (hZ.2.2.2.1.use _ (by decide)) h9 hv9 hc9 ?_
      refine lv_astore_n (lv' := [(3, .ref q9), (0, .ref (x 0)), (1, .int p2), (2, .ref qo)]) hx hb dL_pointsOfEnd_12 rfl hl (by decide) rfl (fun ls hl => ?_)
      refine lv_iconst (v := 1) hx hb dL_pointsOfEnd_13 (by decide) ?_
      refine W.widen (k := 1) (n := 6) (Nat.le_of_ble_eq_true rfl) (Nat.le_of_ble_eq_true rfl) ?_
      exact W.iret (v := (1 : Int32)) hx hb hr (fun t ht hW => ⟨⟨_, (fo, xv, nv), rfl, Option.some.inj hF, by rw [ht]; exact hP, hD⟩, hS.F ht⟩) hS.2.2 dL_pointsOfEnd_14
    · have hF := itn c3 hF
      cases hF
  · skip
    have hw := hw.symm
    subst hw
    have hF := exc_r hF
    refine lv_i2l (v := (ro1).toInt64) hx hb dL_pointsOfEnd_7 rfl ?_
    refine va_last hx hb hK.1 hP hD hS 0 2 rfl rfl (i := (0 : Int32)) (x := ((ro1).toInt64)) (show ixok (0 : Int32) 1 by decide) dL_pointsOfEnd_8 (fun H locs hP hD hS => ?_)
    have hP : va_P (dC, dI) vwCl (([[cLo cyL qo 1 (vp_updL fo (0 : Int32).toNatClampNeg ((ro1).toInt64))], (cXo x an tr xv), (cH cyO (x 1) (x 2) 2 fl), (cXk cyI x xv), (cH cyO (x 4) (x 5) 6 fs), (cT cyI x (X_text xv)), (cSo an nv), (cG cyI an (S_green nv)), (cV cyI an (S_score nv))] : List va_W).flatten) H := hP
    have hD : va_D A (([[cLo cyL qo 1 (vp_updL fo (0 : Int32).toNatClampNeg ((ro1).toInt64))], (cXo x an tr xv), (cH cyO (x 1) (x 2) 2 fl), (cXk cyI x xv), (cH cyO (x 4) (x 5) 6 fs), (cT cyI x (X_text xv)), (cSo an nv), (cG cyI an (S_green nv)), (cV cyI an (S_score nv))] : List va_W).flatten) := hD
    refine lv_goto (tgt := 15) hx hb dL_pointsOfEnd_9 (by decide) ?_
    refine lv_iconst (v := 0) hx hb dL_pointsOfEnd_15 (by decide) ?_
    refine W.widen (k := 1) (n := 6) (Nat.le_of_ble_eq_true rfl) (Nat.le_of_ble_eq_true rfl) ?_
    exact W.iret (v := (0 : Int32)) hx hb hr (fun t ht hW => ⟨⟨_, ((vp_updL fo (0 : Int32).toNatClampNeg ((ro1).toInt64)), xv, nv), rfl, Option.some.inj hF, by rw [ht]; exact hP, hD⟩, hS.F ht⟩) hS.2.2 dL_pointsOfEnd_16
theorem dL_endsWith_0 : decode cL_endsWith 0 = .ok (.aload_n 2, 1) := by decide +kernel
theorem dL_endsWith_1 : decode cL_endsWith 1 = .ok (.iconst 0, 1) := by decide +kernel
theorem dL_endsWith_2 : decode cL_endsWith 2 = .ok (.aload_n 0, 1) := by decide +kernel
theorem dL_endsWith_3 : decode cL_endsWith 3 = .ok (.iload_n 1, 1) := by decide +kernel
theorem dL_endsWith_4 : decode cL_endsWith 4 = .ok (.invokevirtual 130, 3) := by decide +kernel
theorem dL_endsWith_7 : decode cL_endsWith 7 = .ok (.i2l, 1) := by decide +kernel
theorem dL_endsWith_8 : decode cL_endsWith 8 = .ok (.lastore, 1) := by decide +kernel
theorem dL_endsWith_9 : decode cL_endsWith 9 = .ok (.goto 6, 3) := by decide +kernel
theorem dL_endsWith_12 : decode cL_endsWith 12 = .ok (.astore_n 3, 1) := by decide +kernel
theorem dL_endsWith_13 : decode cL_endsWith 13 = .ok (.iconst 1, 1) := by decide +kernel
theorem dL_endsWith_14 : decode cL_endsWith 14 = .ok (.ireturn, 1) := by decide +kernel
theorem dL_endsWith_15 : decode cL_endsWith 15 = .ok (.iconst 0, 1) := by decide +kernel
theorem dL_endsWith_16 : decode cL_endsWith 16 = .ok (.ireturn, 1) := by decide +kernel
def f_L_endsWith (N : Nat) (fo : (Nat → Int64)) (xv : XV) (nv : SV) (p2 : Int32) : Option (Int32 × ((Nat → Int64) × XV × SV)) :=
  (f_X5_endsWith N xv nv p2).bind (fun o1 => exc o1 (fun k => (if k = 0 then some ((1 : Int32), (fo, xv, nv)) else none)) (fun (ro1 : Int32) => some ((0 : Int32), ((vp_updL fo (0 : Int32).toNatClampNeg ((ro1).toInt64)), xv, nv))))
set_option maxHeartbeats 4000000 in
set_option maxRecDepth 100000 in
theorem met_L_endsWith (l : Launch) (z0 : Nat) (hst : l.stackTraces = false) (dC : Nat → ClassId) (dI : Nat → Nat → Nat) (cyI cyO cyL : ClassId) (qo : Nat) (x : Nat → Nat) (tr : Nat → Nat) (an : Nat → Nat) (fl fs : Nat → Option Nat) (sz : Nat) (N : Nat) (fo : (Nat → Int64)) (xv : XV) (nv : SV) (p2 : Int32) (out : Int32 × ((Nat → Int64) × XV × SV)) (hF : f_L_endsWith N fo xv nv p2 = some out) : Met l yL_endsWith (Cond.codeWith yL_endsWith cL_endsWith 4 (some .int) [(0, 9, 12, 13)] :: wT) ({ frames := 7, cells := 1, slots := 6, locals := 103 } : Room) (wWrX z0 dC dI cyI cyO cyL [.ref (x 0), .int p2, .ref qo] (([[cLo cyL qo 1 fo], (cXo x an tr xv), (cH cyO (x 1) (x 2) 2 fl), (cXk cyI x xv), (cH cyO (x 4) (x 5) 6 fs), (cT cyI x (X_text xv)), (cSo an nv), (cG cyI an (S_green nv)), (cV cyI an (S_score nv))] : List va_W).flatten) sz) (va_Qi (fun (r : Int32) (u : (Nat → Int64) × XV × SV) => (r, u) = out) (fun u t => va_P (dC, dI) vwCl (([[cLo cyL qo 1 u.1], (cXo x an tr u.2.1), (cH cyO (x 1) (x 2) 2 fl), (cXk cyI x u.2.1), (cH cyO (x 4) (x 5) 6 fs), (cT cyI x (X_text u.2.1)), (cSo an u.2.2), (cG cyI an (S_green u.2.2)), (cV cyI an (S_score u.2.2))] : List va_W).flatten) t.heap ∧ va_D (va_A (([[cLo cyL qo 1 fo], (cXo x an tr xv), (cH cyO (x 1) (x 2) 2 fl), (cXk cyI x xv), (cH cyO (x 4) (x 5) 6 fs), (cT cyI x (X_text xv)), (cSo an nv), (cG cyI an (S_green nv)), (cV cyI an (S_score nv))] : List va_W).flatten) sz) (([[cLo cyL qo 1 u.1], (cXo x an tr u.2.1), (cH cyO (x 1) (x 2) 2 fl), (cXk cyI x u.2.1), (cH cyO (x 4) (x 5) 6 fs), (cT cyI x (X_text u.2.1)), (cSo an u.2.2), (cG cyI an (S_green u.2.2)), (cV cyI an (S_score u.2.2))] : List va_W).flatten)) (va_A (([[cLo cyL qo 1 fo], (cXo x an tr xv), (cH cyO (x 1) (x 2) 2 fl), (cXk cyI x xv), (cH cyO (x 4) (x 5) 6 fs), (cT cyI x (X_text xv)), (cSo an nv), (cG cyI an (S_green nv)), (cV cyI an (S_score nv))] : List va_W).flatten) sz)) 1 6 (va_A (([[cLo cyL qo 1 fo], (cXo x an tr xv), (cH cyO (x 1) (x 2) 2 fl), (cXk cyI x xv), (cH cyO (x 4) (x 5) 6 fs), (cT cyI x (X_text xv)), (cSo an nv), (cG cyI an (S_green nv)), (cV cyI an (S_score nv))] : List va_W).flatten) sz) := by
  refine Met.ofWH (cc := cL_endsWith) (maxL := 4) (ret := (some .int)) (by decide) rfl ?_
  intro p e s m args below meth c s₁ B hml hv
  obtain ⟨rfl, hsz, hP, hK, hD0, hz0, hZ⟩ := hv
  have hTab := vx_table (x := yL_endsWith) B (atoms_spec (ws := (Cond.codeWith yL_endsWith cL_endsWith 4 (some .int) [(0, 9, 12, 13)] :: wT)) B.pre _ List.mem_cons_self)
  have hx := B.exec
  have hb := B.bytes
  have hr := B.returns
  have hts0 := atoms_spec (ws := (Cond.codeWith yL_endsWith cL_endsWith 4 (some .int) [(0, 9, 12, 13)] :: wT)) B.pre
  have hts := fun w h => hts0 w (List.mem_cons_of_mem _ h)
  clear hts0
  have hown : s.vm.findClass RL = some m.cls := findClass_of_methodNamed B.named
  have hlocks := B.notSynchronized
  subst hsz
  have hD := hD0.self (sz := s.heap.size)
  have hAz := wA_ge hD0 hz0
  generalize hAe : va_A (([[cLo cyL qo 1 fo], (cXo x an tr xv), (cH cyO (x 1) (x 2) 2 fl), (cXk cyI x xv), (cH cyO (x 4) (x 5) 6 fs), (cT cyI x (X_text xv)), (cSo an nv), (cG cyI an (S_green nv)), (cV cyI an (S_score nv))] : List va_W).flatten) s.heap.size = A at hD hAz ⊢
  have hA : ∀ q : Nat, s.heap.size ≤ q → A q := fun q h => by rw [← hAe]; exact Or.inr h
  clear hD0
  have hS : va_S A s.heap s.heap [] := va_S.rf
  have hl := lv_entry [.ref (x 0), .int p2, .ref qo] (n := 4) (Nat.le_of_ble_eq_true rfl)
  rw [lg_entry_eq]
  generalize (lg_sl [.ref (x 0), .int p2, .ref qo] ++ List.replicate (4 - (lg_sl [.ref (x 0), .int p2, .ref qo]).length) Slot.unset).toArray = ls at hl ⊢
  have hl : lv_has ls 4 [(0, .ref (x 0)), (1, .int p2), (2, .ref qo)] := hl
  unfold f_L_endsWith at hF
  refine lv_aload_n hx hb dL_endsWith_0 rfl (lv_at hl 2 rfl) ?_
  refine lv_iconst (v := 0) hx hb dL_endsWith_1 (by decide) ?_
  refine lv_aload_n hx hb dL_endsWith_2 rfl (lv_at hl 0 rfl) ?_
  refine lv_iload_n hx hb dL_endsWith_3 rfl (lv_at hl 1 rfl) ?_
  obtain ⟨o1, h2, hF⟩ := obd hF
  refine wxRVi (As := [.int p2]) (rest := [.int (0 : Int32), .ref qo]) (b := (x 0)) ⟨hx, hb, hml, hown, hts⟩ (met_X5_endsWith l z0 hst dC dI cyI cyO cyL x tr an fl fs N xv nv p2 o1 h2) (cwV 1 hts (gV w_methodLink_L_130 w_instanceMethod_X5_endsWith w_selects_X5_endsWith w_initialized_X5 w_code_X5_endsWith) rfl rfl rfl (by decide +kernel) ⟨Nat.le_of_ble_eq_true rfl, Nat.le_of_ble_eq_true rfl⟩) (va_recv hK.1 hP (ci := 5) (q0 := 1) rfl rfl) hP hK hZ hAz [1, 2, 3, 4, 5, 6, 7, 8, 9, 10, 11, 12, 13, 14, 15, 16, 17, 18, 19, 20, 21] rfl rfl hl.1 (Nat.le_of_ble_eq_true rfl) dL_endsWith_4 ⟨Nat.le_of_ble_eq_true rfl, Nat.le_of_ble_eq_true rfl⟩ hS (fun k ce q9 H locs hw hP hS h9 hv9 hc9 => ?_) (fun ro1 H locs hw hP hS => ?_)
  · have hw := hw.symm
    subst hw
    have hF := exc_l hF
    by_cases c3 : k = 0
    · subst c3
      have hF := itp rfl hF
      refine vx_catch (E := eIA) (name := eIA) hown [] ⟨0, 9, 12, 13⟩ [] hTab (fun z hz => nomatch hz) (by decide) (by decide) (hts _ w_classLink_L_13) (hZ.2.2.2.1.use _ (by decide)) h9 hv9 hc9 ?_
      refine lv_astore_n (lv' := [(3, .ref q9), (0, .ref (x 0)), (1, .int p2), (2, .ref qo)]) hx hb dL_endsWith_12 rfl hl (by decide) rfl (fun ls hl => ?_)
      refine lv_iconst (v := 1) hx hb dL_endsWith_13 (by decide) ?_
      refine W.widen (k := 1) (n := 6) (Nat.le_of_ble_eq_true rfl) (Nat.le_of_ble_eq_true rfl) ?_
      exact W.iret (v := (1 : Int32)) hx hb hr (fun t ht hW => ⟨⟨_, (fo, xv, nv), rfl, Option.some.inj hF, by rw [ht]; exact hP, hD⟩, hS.F ht⟩) hS.2.2 dL_endsWith_14
    · have hF := itn c3 hF
      cases hF
  · skip
    have hw := hw.symm
    subst hw
    have hF := exc_r hF
    refine lv_i2l (v := (ro1).toInt64) hx hb dL_endsWith_7 rfl ?_
    refine va_last hx hb hK.1 hP hD hS 0 2 rfl rfl (i := (0 : Int32)) (x := ((ro1).toInt64)) (show ixok (0 : Int32) 1 by decide) dL_endsWith_8 (fun H locs hP hD hS => ?_)
    have hP : va_P (dC, dI) vwCl (([[cLo cyL qo 1 (vp_updL fo (0 : Int32).toNatClampNeg ((ro1).toInt64))], (cXo x an tr xv), (cH cyO (x 1) (x 2) 2 fl), (cXk cyI x xv), (cH cyO (x 4) (x 5) 6 fs), (cT cyI x (X_text xv)), (cSo an nv), (cG cyI an (S_green nv)), (cV cyI an (S_score nv))] : List va_W).flatten) H := hP
    have hD : va_D A (([[cLo cyL qo 1 (vp_updL fo (0 : Int32).toNatClampNeg ((ro1).toInt64))], (cXo x an tr xv), (cH cyO (x 1) (x 2) 2 fl), (cXk cyI x xv), (cH cyO (x 4) (x 5) 6 fs), (cT cyI x (X_text xv)), (cSo an nv), (cG cyI an (S_green nv)), (cV cyI an (S_score nv))] : List va_W).flatten) := hD
    refine lv_goto (tgt := 15) hx hb dL_endsWith_9 (by decide) ?_
    refine lv_iconst (v := 0) hx hb dL_endsWith_15 (by decide) ?_
    refine W.widen (k := 1) (n := 6) (Nat.le_of_ble_eq_true rfl) (Nat.le_of_ble_eq_true rfl) ?_
    exact W.iret (v := (0 : Int32)) hx hb hr (fun t ht hW => ⟨⟨_, ((vp_updL fo (0 : Int32).toNatClampNeg ((ro1).toInt64)), xv, nv), rfl, Option.some.inj hF, by rw [ht]; exact hP, hD⟩, hS.F ht⟩) hS.2.2 dL_endsWith_16
