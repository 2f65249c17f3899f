/-! written by program from the bytecode: what each method computes, and its contract -/

theorem Met.ofWH {l : Launch} {y : MethodName} {ws ws' : List Cond} {rm : Room} {Pc : Array Value → State → Prop} {Qc : Array Value → State → Outcome → State → Prop} {mc ms : Nat} {free : Addr → Prop} {cc : ByteArray} {maxL : Nat} {ret : Option FieldType} {hh : List (Nat × Nat × Nat × Nat)}
    (hy : plainName y.cls = true) (hw : ws = Cond.codeWith y cc maxL ret hh :: ws')
    (body : ∀ p e s m args below meth c s₁, BodyLoose p l y (headSpec ws rm) cc maxL ret e s m args below meth c s₁ → c.maxLocals = maxL → Pc args s →
      W p l e (headSpec ws rm).room s m args below meth c s.heap [] 0 0 (MQ below Qc args s mc ms free) (entryFrame m args maxL)) : Met l y ws rm Pc Qc mc ms free := by
  refine MetFree.of_bodyS (code := cc) (maxLocals := maxL) (ret := ret) hy ?_ ?_
  · intro args s m h hn
    obtain ⟨m9, meth, c, hn9, h1, h2, h3, h4, -, h5, h6, -⟩ := Cond.codeWith_spec (atoms_spec (ws := ws) h _ (by rw [hw]; exact List.mem_cons_self))
    cases hn.symm.trans hn9
    exact ⟨meth, c, h1, h2, h3, h4, h5, h6⟩
  · intro p e s m args below meth c s₁ B hml hP _
    have hh0 : s₁.heap = s.heap := by rw [B.state]; rfl
    obtain ⟨t, a1, o, b1, b2, b3⟩ := body p e s m args below meth c s₁ B hml hP s₁ hh0 (Stand.of_body B)
    exact ⟨t, o, a1, b1, b2, ⟨b3.1, b3.2⟩⟩
theorem dL_roll_0 : decode cL_roll 0 = .ok (.aload_n 2, 1) := by decide +kernel
theorem dL_roll_1 : decode cL_roll 1 = .ok (.iconst 0, 1) := by decide +kernel
theorem dL_roll_2 : decode cL_roll 2 = .ok (.aload_n 0, 1) := by decide +kernel
theorem dL_roll_3 : decode cL_roll 3 = .ok (.iload_n 1, 1) := by decide +kernel
theorem dL_roll_4 : decode cL_roll 4 = .ok (.invokevirtual 7, 3) := by decide +kernel
theorem dL_roll_7 : decode cL_roll 7 = .ok (.i2l, 1) := by decide +kernel
theorem dL_roll_8 : decode cL_roll 8 = .ok (.lastore, 1) := by decide +kernel
theorem dL_roll_9 : decode cL_roll 9 = .ok (.goto 9, 3) := by decide +kernel
theorem dL_roll_12 : decode cL_roll 12 = .ok (.astore_n 3, 1) := by decide +kernel
theorem dL_roll_13 : decode cL_roll 13 = .ok (.iconst 1, 1) := by decide +kernel
theorem dL_roll_14 : decode cL_roll 14 = .ok (.ireturn, 1) := by decide +kernel
theorem dL_roll_15 : decode cL_roll 15 = .ok (.astore_n 3, 1) := by decide +kernel
theorem dL_roll_16 : decode cL_roll 16 = .ok (.iconst 2, 1) := by decide +kernel
theorem dL_roll_17 : decode cL_roll 17 = .ok (.ireturn, 1) := by decide +kernel
theorem dL_roll_18 : decode cL_roll 18 = .ok (.iconst 0, 1) := by decide +kernel
theorem dL_roll_19 : decode cL_roll 19 = .ok (.ireturn, 1) := by decide +kernel
def f_L_roll (N : Nat) (fo : (Nat → Int64)) (xv : XV) (nv : SV) (v0 : SV) (v1 : SV) (v2 : SV) (v3 : SV) (v4 : SV) (v5 : SV) (p2 : Int32) : Option (Int32 × ((Nat → Int64) × XV × SV × SV × SV × SV × SV × SV × SV)) :=
  (f_X5_roll N xv nv v0 v1 v2 v3 v4 v5 p2).bind (fun o1 => exc o1.1 (fun k => (if k = 0 then some ((1 : Int32), (fo, o1.2.1, o1.2.2.1, o1.2.2.2.1, o1.2.2.2.2.1, o1.2.2.2.2.2.1, o1.2.2.2.2.2.2.1, o1.2.2.2.2.2.2.2.1, o1.2.2.2.2.2.2.2.2)) else if k = 1 then some ((2 : Int32), (fo, o1.2.1, o1.2.2.1, o1.2.2.2.1, o1.2.2.2.2.1, o1.2.2.2.2.2.1, o1.2.2.2.2.2.2.1, o1.2.2.2.2.2.2.2.1, o1.2.2.2.2.2.2.2.2)) else none)) (fun (ro1 : Int32) => some ((0 : Int32), ((vp_updL fo (0 : Int32).toNatClampNeg ((ro1).toInt64)), o1.2.1, o1.2.2.1, o1.2.2.2.1, o1.2.2.2.2.1, o1.2.2.2.2.2.1, o1.2.2.2.2.2.2.1, o1.2.2.2.2.2.2.2.1, o1.2.2.2.2.2.2.2.2))))
set_option maxHeartbeats 4000000 in
set_option maxRecDepth 100000 in
theorem met_L_roll (l : Launch) (z0 : Nat) (hst : l.stackTraces = false) (dC : Nat → ClassId) (dI : Nat → Nat → Nat) (cyI cyO cyL : ClassId) (qo : Nat) (x : Nat → Nat) (tr : Nat → Nat) (an : Nat → Nat) (b0 : Nat → Nat) (b1 : Nat → Nat) (b2 : Nat → Nat) (b3 : Nat → Nat) (b4 : Nat → Nat) (b5 : Nat → Nat) (fl fs : Nat → Option Nat) (sz : Nat) (N : Nat) (fo : (Nat → Int64)) (xv : XV) (nv : SV) (v0 : SV) (v1 : SV) (v2 : SV) (v3 : SV) (v4 : SV) (v5 : SV) (p2 : Int32) (hs0 : fs 0 = some (b0 0)) (hs1 : fs 1 = some (b1 0)) (hs2 : fs 2 = some (b2 0)) (hs3 : fs 3 = some (b3 0)) (hs4 : fs 4 = some (b4 0)) (hs5 : fs 5 = some (b5 0)) (out : Int32 × ((Nat → Int64) × XV × SV × SV × SV × SV × SV × SV × SV)) (hF : f_L_roll N fo xv nv v0 v1 v2 v3 v4 v5 p2 = some out) : Met l yL_roll (Cond.codeWith yL_roll cL_roll 4 (some .int) [(0, 9, 12, 13), (0, 9, 15, 15)] :: wT) ({ frames := 7, cells := 1, slots := 6, locals := 128 } : Room) (wWrX z0 dC dI cyI cyO cyL [.ref (x 0), .int p2, .ref qo] (([[cLo cyL qo 1 fo], (cXo x an tr xv), (cH cyO (x 1) (x 2) 2 fl), (cXk cyI x xv), (cH cyO (x 4) (x 5) 6 fs), (cT cyI x (X_text xv)), (cSo an nv), (cG cyI an (S_green nv)), (cV cyI an (S_score nv)), (cS cyI b0 v0), (cS cyI b1 v1), (cS cyI b2 v2), (cS cyI b3 v3), (cS cyI b4 v4), (cS cyI b5 v5)] : List va_W).flatten) sz) (va_Qi (fun (r : Int32) (u : (Nat → Int64) × XV × SV × SV × SV × SV × SV × SV × SV) => (r, u) = out) (fun u t => va_P (dC, dI) vwCl (([[cLo cyL qo 1 u.1], (cXo x an tr u.2.1), (cH cyO (x 1) (x 2) 2 fl), (cXk cyI x u.2.1), (cH cyO (x 4) (x 5) 6 fs), (cT cyI x (X_text u.2.1)), (cSo an u.2.2.1), (cG cyI an (S_green u.2.2.1)), (cV cyI an (S_score u.2.2.1)), (cS cyI b0 u.2.2.2.1), (cS cyI b1 u.2.2.2.2.1), (cS cyI b2 u.2.2.2.2.2.1), (cS cyI b3 u.2.2.2.2.2.2.1), (cS cyI b4 u.2.2.2.2.2.2.2.1), (cS cyI b5 u.2.2.2.2.2.2.2.2)] : List va_W).flatten) t.heap ∧ va_D (va_A (([[cLo cyL qo 1 fo], (cXo x an tr xv), (cH cyO (x 1) (x 2) 2 fl), (cXk cyI x xv), (cH cyO (x 4) (x 5) 6 fs), (cT cyI x (X_text xv)), (cSo an nv), (cG cyI an (S_green nv)), (cV cyI an (S_score nv)), (cS cyI b0 v0), (cS cyI b1 v1), (cS cyI b2 v2), (cS cyI b3 v3), (cS cyI b4 v4), (cS cyI b5 v5)] : List va_W).flatten) sz) (([[cLo cyL qo 1 u.1], (cXo x an tr u.2.1), (cH cyO (x 1) (x 2) 2 fl), (cXk cyI x u.2.1), (cH cyO (x 4) (x 5) 6 fs), (cT cyI x (X_text u.2.1)), (cSo an u.2.2.1), (cG cyI an (S_green u.2.2.1)), (cV cyI an (S_score u.2.2.1)), (cS cyI b0 u.2.2.2.1), (cS cyI b1 u.2.2.2.2.1), (cS cyI b2 u.2.2.2.2.2.1), (cS cyI b3 u.2.2.2.2.2.2.1), (cS cyI b4 u.2.2.2.2.2.2.2.1), (cS cyI b5 u.2.2.2.2.2.2.2.2)] : List va_W).flatten)) (va_A (([[cLo cyL qo 1 fo], (cXo x an tr xv), (cH cyO (x 1) (x 2) 2 fl), (cXk cyI x xv), (cH cyO (x 4) (x 5) 6 fs), (cT cyI x (X_text xv)), (cSo an nv), (cG cyI an (S_green nv)), (cV cyI an (S_score nv)), (cS cyI b0 v0), (cS cyI b1 v1), (cS cyI b2 v2), (cS cyI b3 v3), (cS cyI b4 v4), (cS cyI b5 v5)] : List va_W).flatten) sz)) 1 6 (va_A (([[cLo cyL qo 1 fo], (cXo x an tr xv), (cH cyO (x 1) (x 2) 2 fl), (cXk cyI x xv), (cH cyO (x 4) (x 5) 6 fs), (cT cyI x (X_text xv)), (cSo an nv), (cG cyI an (S_green nv)), (cV cyI an (S_score nv)), (cS cyI b0 v0), (cS cyI b1 v1), (cS cyI b2 v2), (cS cyI b3 v3), (cS cyI b4 v4), (cS cyI b5 v5)] : List va_W).flatten) sz) := by
  refine Met.ofWH (cc := cL_roll) (maxL := 4) (ret := (some .int)) (by decide) rfl ?_
  intro p e s m args below meth c s₁ B hml hv
  obtain ⟨rfl, hsz, hP, hK, hD0, hz0, hZ⟩ := hv
  have hTab := vx_table (x := yL_roll) B (atoms_spec (ws := (Cond.codeWith yL_roll cL_roll 4 (some .int) [(0, 9, 12, 13), (0, 9, 15, 15)] :: wT)) B.pre _ List.mem_cons_self)
  have hx := B.exec
  have hb := B.bytes
  have hr := B.returns
  have hts0 := atoms_spec (ws := (Cond.codeWith yL_roll cL_roll 4 (some .int) [(0, 9, 12, 13), (0, 9, 15, 15)] :: wT)) B.pre
  have hts := fun w h => hts0 w (List.mem_cons_of_mem _ h)
  clear hts0
  have hown : s.vm.findClass RL = some m.cls := findClass_of_methodNamed B.named
  have hlocks := B.notSynchronized
  subst hsz
  have hD := hD0.self (sz := s.heap.size)
  have hAz := wA_ge hD0 hz0
  generalize hAe : va_A (([[cLo cyL qo 1 fo], (cXo x an tr xv), (cH cyO (x 1) (x 2) 2 fl), (cXk cyI x xv), (cH cyO (x 4) (x 5) 6 fs), (cT cyI x (X_text xv)), (cSo an nv), (cG cyI an (S_green nv)), (cV cyI an (S_score nv)), (cS cyI b0 v0), (cS cyI b1 v1), (cS cyI b2 v2), (cS cyI b3 v3), (cS cyI b4 v4), (cS cyI b5 v5)] : List va_W).flatten) s.heap.size = A at hD hAz ⊢
  have hA : ∀ q : Nat, s.heap.size ≤ q → A q := fun q h => by rw [← hAe]; exact Or.inr h
  clear hD0
  have hS : va_S A s.heap s.heap [] := va_S.rf
  have hl := lv_entry [.ref (x 0), .int p2, .ref qo] (n := 4) (Nat.le_of_ble_eq_true rfl)
  rw [lg_entry_eq]
  generalize (lg_sl [.ref (x 0), .int p2, .ref qo] ++ List.replicate (4 - (lg_sl [.ref (x 0), .int p2, .ref qo]).length) Slot.unset).toArray = ls at hl ⊢
  have hl : lv_has ls 4 [(0, .ref (x 0)), (1, .int p2), (2, .ref qo)] := hl
  unfold f_L_roll at hF
  refine lv_aload_n hx hb dL_roll_0 rfl (lv_at hl 2 rfl) ?_
  refine lv_iconst (v := 0) hx hb dL_roll_1 (by decide) ?_
  refine lv_aload_n hx hb dL_roll_2 rfl (lv_at hl 0 rfl) ?_
  refine lv_iload_n hx hb dL_roll_3 rfl (lv_at hl 1 rfl) ?_
  obtain ⟨o1, h2, hF⟩ := obd hF
  refine wxPVi (As := [.int p2]) (rest := [.int (0 : Int32), .ref qo]) (wr := ([[cLo cyL qo 1 fo]] : List va_W).flatten) (b := (x 0)) ⟨hx, hb, hml, hown, hts⟩ (met_X5_roll l z0 hst dC dI cyI cyO cyL x tr an b0 b1 b2 b3 b4 b5 fl fs _ N xv nv v0 v1 v2 v3 v4 v5 p2 hs0 hs1 hs2 hs3 hs4 hs5 o1 h2) (cwV 1 hts (gV w_methodLink_L_7 w_instanceMethod_X5_roll w_selects_X5_roll w_initialized_X5 w_code_X5_roll) rfl rfl rfl (by decide +kernel) ⟨Nat.le_of_ble_eq_true rfl, Nat.le_of_ble_eq_true rfl⟩) (va_recv hK.1 hP (ci := 5) (q0 := 1) rfl rfl) hP hD hK hZ hAz hz0 (seg_perm (n := 15) (R := [[cLo cyL qo 1 fo]]) (C := [(cXo x an tr xv), (cH cyO (x 1) (x 2) 2 fl), (cXk cyI x xv), (cH cyO (x 4) (x 5) 6 fs), (cT cyI x (X_text xv)), (cSo an nv), (cG cyI an (S_green nv)), (cV cyI an (S_score nv)), (cS cyI b0 v0), (cS cyI b1 v1), (cS cyI b2 v2), (cS cyI b3 v3), (cS cyI b4 v4), (cS cyI b5 v5)]) [0] [1, 2, 3, 4, 5, 6, 7, 8, 9, 10, 11, 12, 13, 14] rfl rfl rfl (by decide) rfl) rfl hl.1 (Nat.le_of_ble_eq_true rfl) dL_roll_4 ⟨Nat.le_of_ble_eq_true rfl, Nat.le_of_ble_eq_true rfl⟩ hS hA (fun k u ce q9 H locs hw hP hD hS h9 hv9 hc9 => ?_) (fun ro1 u H locs hw hP hD hS => ?_)
  · obtain rfl : u = o1.2 := congrArg Prod.snd hw
    have hw1 : Sum.inl k = o1.1 := congrArg Prod.fst hw
    rw [← hw1] at hF
    have hF := exc_l hF
    have hq := seg_permS (segs := [[cLo cyL qo 1 fo], (cXo x an tr o1.2.1), (cH cyO (x 1) (x 2) 2 fl), (cXk cyI x o1.2.1), (cH cyO (x 4) (x 5) 6 fs), (cT cyI x (X_text o1.2.1)), (cSo an o1.2.2.1), (cG cyI an (S_green o1.2.2.1)), (cV cyI an (S_score o1.2.2.1)), (cS cyI b0 o1.2.2.2.1), (cS cyI b1 o1.2.2.2.2.1), (cS cyI b2 o1.2.2.2.2.2.1), (cS cyI b3 o1.2.2.2.2.2.2.1), (cS cyI b4 o1.2.2.2.2.2.2.2.1), (cS cyI b5 o1.2.2.2.2.2.2.2.2)]) (R := [[cLo cyL qo 1 fo]]) (C := [(cXo x an tr o1.2.1), (cH cyO (x 1) (x 2) 2 fl), (cXk cyI x o1.2.1), (cH cyO (x 4) (x 5) 6 fs), (cT cyI x (X_text o1.2.1)), (cSo an o1.2.2.1), (cG cyI an (S_green o1.2.2.1)), (cV cyI an (S_score o1.2.2.1)), (cS cyI b0 o1.2.2.2.1), (cS cyI b1 o1.2.2.2.2.1), (cS cyI b2 o1.2.2.2.2.2.1), (cS cyI b3 o1.2.2.2.2.2.2.1), (cS cyI b4 o1.2.2.2.2.2.2.2.1), (cS cyI b5 o1.2.2.2.2.2.2.2.2)]) (n := 15) [0] [1, 2, 3, 4, 5, 6, 7, 8, 9, 10, 11, 12, 13, 14] rfl rfl rfl (by decide)
    have hP : va_P (dC, dI) vwCl (([[cLo cyL qo 1 fo], (cXo x an tr o1.2.1), (cH cyO (x 1) (x 2) 2 fl), (cXk cyI x o1.2.1), (cH cyO (x 4) (x 5) 6 fs), (cT cyI x (X_text o1.2.1)), (cSo an o1.2.2.1), (cG cyI an (S_green o1.2.2.1)), (cV cyI an (S_score o1.2.2.1)), (cS cyI b0 o1.2.2.2.1), (cS cyI b1 o1.2.2.2.2.1), (cS cyI b2 o1.2.2.2.2.2.1), (cS cyI b3 o1.2.2.2.2.2.2.1), (cS cyI b4 o1.2.2.2.2.2.2.2.1), (cS cyI b5 o1.2.2.2.2.2.2.2.2)] : List va_W).flatten) H := hP.perm hq
    have hD : va_D A (([[cLo cyL qo 1 fo], (cXo x an tr o1.2.1), (cH cyO (x 1) (x 2) 2 fl), (cXk cyI x o1.2.1), (cH cyO (x 4) (x 5) 6 fs), (cT cyI x (X_text o1.2.1)), (cSo an o1.2.2.1), (cG cyI an (S_green o1.2.2.1)), (cV cyI an (S_score o1.2.2.1)), (cS cyI b0 o1.2.2.2.1), (cS cyI b1 o1.2.2.2.2.1), (cS cyI b2 o1.2.2.2.2.2.1), (cS cyI b3 o1.2.2.2.2.2.2.1), (cS cyI b4 o1.2.2.2.2.2.2.2.1), (cS cyI b5 o1.2.2.2.2.2.2.2.2)] : List va_W).flatten) := hD.perm hq
    clear hq
    by_cases c3 : k = 0
    · subst c3
      have hF := itp rfl hF
      refine vx_catch (E := eIA) (name := eIA) hown [] ⟨0, 9, 12, 13⟩ [⟨0, 9, 15, 15⟩] hTab (fun z hz => nomatch hz) (by decide) (by decide) (hts _ w_classLink_L_13) (hZ.2.2.2.1.use _ (by decide)) h9 hv9 hc9 ?_
      refine lv_astore_n (lv' := [(3, .ref q9), (0, .ref (x 0)), (1, .int p2), (2, .ref qo)]) hx hb dL_roll_12 rfl hl (by decide) rfl (fun ls hl => ?_)
      refine lv_iconst (v := 1) hx hb dL_roll_13 (by decide) ?_
      refine W.widen (k := 1) (n := 6) (Nat.le_of_ble_eq_true rfl) (Nat.le_of_ble_eq_true rfl) ?_
      exact W.iret (v := (1 : Int32)) hx hb hr (fun t ht hW => ⟨⟨_, (fo, o1.2.1, o1.2.2.1, o1.2.2.2.1, o1.2.2.2.2.1, o1.2.2.2.2.2.1, o1.2.2.2.2.2.2.1, o1.2.2.2.2.2.2.2.1, o1.2.2.2.2.2.2.2.2), rfl, Option.some.inj hF, by rw [ht]; exact hP, hD⟩, hS.F ht⟩) hS.2.2 dL_roll_14
    · have hF := itn c3 hF
      by_cases c4 : k = 1
      · subst c4
        have hF := itp rfl hF
        refine vx_catch (E := eIS) (name := eIS) hown [⟨0, 9, 12, 13⟩] ⟨0, 9, 15, 15⟩ [] hTab (fun z hz => by obtain rfl := List.mem_singleton.mp hz; exact Or.inr ⟨by decide, _, hts _ w_classLink_L_13, hZ.2.2.2.2 (eIS, eIA) (by decide)⟩) (by decide) (by decide) (hts _ w_classLink_L_15) (hZ.2.2.2.1.use _ (by decide)) h9 hv9 hc9 ?_
        refine lv_astore_n (lv' := [(3, .ref q9), (0, .ref (x 0)), (1, .int p2), (2, .ref qo)]) hx hb dL_roll_15 rfl hl (by decide) rfl (fun ls hl => ?_)
        refine lv_iconst (v := 2) hx hb dL_roll_16 (by decide) ?_
        refine W.widen (k := 1) (n := 6) (Nat.le_of_ble_eq_true rfl) (Nat.le_of_ble_eq_true rfl) ?_
        exact W.iret (v := (2 : Int32)) hx hb hr (fun t ht hW => ⟨⟨_, (fo, o1.2.1, o1.2.2.1, o1.2.2.2.1, o1.2.2.2.2.1, o1.2.2.2.2.2.1, o1.2.2.2.2.2.2.1, o1.2.2.2.2.2.2.2.1, o1.2.2.2.2.2.2.2.2), rfl, Option.some.inj hF, by rw [ht]; exact hP, hD⟩, hS.F ht⟩) hS.2.2 dL_roll_17
      · have hF := itn c4 hF
        cases hF
  · skip
    obtain rfl : u = o1.2 := congrArg Prod.snd hw
    have hw1 : Sum.inr ro1 = o1.1 := congrArg Prod.fst hw
    rw [← hw1] at hF
    have hF := exc_r hF
    have hq := seg_permS (segs := [[cLo cyL qo 1 fo], (cXo x an tr o1.2.1), (cH cyO (x 1) (x 2) 2 fl), (cXk cyI x o1.2.1), (cH cyO (x 4) (x 5) 6 fs), (cT cyI x (X_text o1.2.1)), (cSo an o1.2.2.1), (cG cyI an (S_green o1.2.2.1)), (cV cyI an (S_score o1.2.2.1)), (cS cyI b0 o1.2.2.2.1), (cS cyI b1 o1.2.2.2.2.1), (cS cyI b2 o1.2.2.2.2.2.1), (cS cyI b3 o1.2.2.2.2.2.2.1), (cS cyI b4 o1.2.2.2.2.2.2.2.1), (cS cyI b5 o1.2.2.2.2.2.2.2.2)]) (R := [[cLo cyL qo 1 fo]]) (C := [(cXo x an tr o1.2.1), (cH cyO (x 1) (x 2) 2 fl), (cXk cyI x o1.2.1), (cH cyO (x 4) (x 5) 6 fs), (cT cyI x (X_text o1.2.1)), (cSo an o1.2.2.1), (cG cyI an (S_green o1.2.2.1)), (cV cyI an (S_score o1.2.2.1)), (cS cyI b0 o1.2.2.2.1), (cS cyI b1 o1.2.2.2.2.1), (cS cyI b2 o1.2.2.2.2.2.1), (cS cyI b3 o1.2.2.2.2.2.2.1), (cS cyI b4 o1.2.2.2.2.2.2.2.1), (cS cyI b5 o1.2.2.2.2.2.2.2.2)]) (n := 15) [0] [1, 2, 3, 4, 5, 6, 7, 8, 9, 10, 11, 12, 13, 14] rfl rfl rfl (by decide)
    have hP : va_P (dC, dI) vwCl (([[cLo cyL qo 1 fo], (cXo x an tr o1.2.1), (cH cyO (x 1) (x 2) 2 fl), (cXk cyI x o1.2.1), (cH cyO (x 4) (x 5) 6 fs), (cT cyI x (X_text o1.2.1)), (cSo an o1.2.2.1), (cG cyI an (S_green o1.2.2.1)), (cV cyI an (S_score o1.2.2.1)), (cS cyI b0 o1.2.2.2.1), (cS cyI b1 o1.2.2.2.2.1), (cS cyI b2 o1.2.2.2.2.2.1), (cS cyI b3 o1.2.2.2.2.2.2.1), (cS cyI b4 o1.2.2.2.2.2.2.2.1), (cS cyI b5 o1.2.2.2.2.2.2.2.2)] : List va_W).flatten) H := hP.perm hq
    have hD : va_D A (([[cLo cyL qo 1 fo], (cXo x an tr o1.2.1), (cH cyO (x 1) (x 2) 2 fl), (cXk cyI x o1.2.1), (cH cyO (x 4) (x 5) 6 fs), (cT cyI x (X_text o1.2.1)), (cSo an o1.2.2.1), (cG cyI an (S_green o1.2.2.1)), (cV cyI an (S_score o1.2.2.1)), (cS cyI b0 o1.2.2.2.1), (cS cyI b1 o1.2.2.2.2.1), (cS cyI b2 o1.2.2.2.2.2.1), (cS cyI b3 o1.2.2.2.2.2.2.1), (cS cyI b4 o1.2.2.2.2.2.2.2.1), (cS cyI b5 o1.2.2.2.2.2.2.2.2)] : List va_W).flatten) := hD.perm hq
    clear hq
    refine lv_i2l (v := (ro1).toInt64) hx hb dL_roll_7 rfl ?_
    refine va_last hx hb hK.1 hP hD hS 0 2 rfl rfl (i := (0 : Int32)) (x := ((ro1).toInt64)) (show ixok (0 : Int32) 1 by decide) dL_roll_8 (fun H locs hP hD hS => ?_)
    have hP : va_P (dC, dI) vwCl (([[cLo cyL qo 1 (vp_updL fo (0 : Int32).toNatClampNeg ((ro1).toInt64))], (cXo x an tr o1.2.1), (cH cyO (x 1) (x 2) 2 fl), (cXk cyI x o1.2.1), (cH cyO (x 4) (x 5) 6 fs), (cT cyI x (X_text o1.2.1)), (cSo an o1.2.2.1), (cG cyI an (S_green o1.2.2.1)), (cV cyI an (S_score o1.2.2.1)), (cS cyI b0 o1.2.2.2.1), (cS cyI b1 o1.2.2.2.2.1), (cS cyI b2 o1.2.2.2.2.2.1), (cS cyI b3 o1.2.2.2.2.2.2.1), (cS cyI b4 o1.2.2.2.2.2.2.2.1), (cS cyI b5 o1.2.2.2.2.2.2.2.2)] : List va_W).flatten) H := hP
    have hD : va_D A (([[cLo cyL qo 1 (vp_updL fo (0 : Int32).toNatClampNeg ((ro1).toInt64))], (cXo x an tr o1.2.1), (cH cyO (x 1) (x 2) 2 fl), (cXk cyI x o1.2.1), (cH cyO (x 4) (x 5) 6 fs), (cT cyI x (X_text o1.2.1)), (cSo an o1.2.2.1), (cG cyI an (S_green o1.2.2.1)), (cV cyI an (S_score o1.2.2.1)), (cS cyI b0 o1.2.2.2.1), (cS cyI b1 o1.2.2.2.2.1), (cS cyI b2 o1.2.2.2.2.2.1), (cS cyI b3 o1.2.2.2.2.2.2.1), (cS cyI b4 o1.2.2.2.2.2.2.2.1), (cS cyI b5 o1.2.2.2.2.2.2.2.2)] : List va_W).flatten) := hD
    refine lv_goto (tgt := 18) hx hb dL_roll_9 (by decide) ?_
    refine lv_iconst (v := 0) hx hb dL_roll_18 (by decide) ?_
    refine W.widen (k := 1) (n := 6) (Nat.le_of_ble_eq_true rfl) (Nat.le_of_ble_eq_true rfl) ?_
    exact W.iret (v := (0 : Int32)) hx hb hr (fun t ht hW => ⟨⟨_, ((vp_updL fo (0 : Int32).toNatClampNeg ((ro1).toInt64)), o1.2.1, o1.2.2.1, o1.2.2.2.1, o1.2.2.2.2.1, o1.2.2.2.2.2.1, o1.2.2.2.2.2.2.1, o1.2.2.2.2.2.2.2.1, o1.2.2.2.2.2.2.2.2), rfl, Option.some.inj hF, by rw [ht]; exact hP, hD⟩, hS.F ht⟩) hS.2.2 dL_roll_19
theorem dL_play_0 : decode cL_play 0 = .ok (.aload 4, 2) := by decide +kernel
theorem dL_play_2 : decode cL_play 2 = .ok (.iconst 0, 1) := by decide +kernel
theorem dL_play_3 : decode cL_play 3 = .ok (.aload_n 0, 1) := by decide +kernel
theorem dL_play_4 : decode cL_play 4 = .ok (.iload_n 1, 1) := by decide +kernel
theorem dL_play_5 : decode cL_play 5 = .ok (.iload_n 2, 1) := by decide +kernel
theorem dL_play_6 : decode cL_play 6 = .ok (.iload_n 3, 1) := by decide +kernel
theorem dL_play_7 : decode cL_play 7 = .ok (.invokevirtual 17, 3) := by decide +kernel
theorem dL_play_10 : decode cL_play 10 = .ok (.i2l, 1) := by decide +kernel
theorem dL_play_11 : decode cL_play 11 = .ok (.lastore, 1) := by decide +kernel
theorem dL_play_12 : decode cL_play 12 = .ok (.goto 11, 3) := by decide +kernel
theorem dL_play_15 : decode cL_play 15 = .ok (.astore 5, 2) := by decide +kernel
theorem dL_play_17 : decode cL_play 17 = .ok (.iconst 1, 1) := by decide +kernel
theorem dL_play_18 : decode cL_play 18 = .ok (.ireturn, 1) := by decide +kernel
theorem dL_play_19 : decode cL_play 19 = .ok (.astore 5, 2) := by decide +kernel
theorem dL_play_21 : decode cL_play 21 = .ok (.iconst 2, 1) := by decide +kernel
theorem dL_play_22 : decode cL_play 22 = .ok (.ireturn, 1) := by decide +kernel
theorem dL_play_23 : decode cL_play 23 = .ok (.iconst 0, 1) := by decide +kernel
theorem dL_play_24 : decode cL_play 24 = .ok (.ireturn, 1) := by decide +kernel
def f_L_play (N : Nat) (fo : (Nat → Int64)) (xv : XV) (nv : SV) (v0 : SV) (v1 : SV) (v2 : SV) (v3 : SV) (v4 : SV) (v5 : SV) (p2 : Int32) (p3 : Int32) (p4 : Int32) : Option (Int32 × ((Nat → Int64) × XV × SV × SV × SV × SV × SV × SV × SV)) :=
  (f_X5_play N xv nv v0 v1 v2 v3 v4 v5 p2 p3 p4).bind (fun o1 => exc o1.1 (fun k => (if k = 0 then some ((1 : Int32), (fo, o1.2.1, o1.2.2.1, o1.2.2.2.1, o1.2.2.2.2.1, o1.2.2.2.2.2.1, o1.2.2.2.2.2.2.1, o1.2.2.2.2.2.2.2.1, o1.2.2.2.2.2.2.2.2)) else if k = 1 then some ((2 : Int32), (fo, o1.2.1, o1.2.2.1, o1.2.2.2.1, o1.2.2.2.2.1, o1.2.2.2.2.2.1, o1.2.2.2.2.2.2.1, o1.2.2.2.2.2.2.2.1, o1.2.2.2.2.2.2.2.2)) else none)) (fun (ro1 : Int32) => some ((0 : Int32), ((vp_updL fo (0 : Int32).toNatClampNeg ((ro1).toInt64)), o1.2.1, o1.2.2.1, o1.2.2.2.1, o1.2.2.2.2.1, o1.2.2.2.2.2.1, o1.2.2.2.2.2.2.1, o1.2.2.2.2.2.2.2.1, o1.2.2.2.2.2.2.2.2))))
set_option maxHeartbeats 4000000 in
set_option maxRecDepth 100000 in
theorem met_L_play (l : Launch) (z0 : Nat) (hst : l.stackTraces = false) (dC : Nat → ClassId) (dI : Nat → Nat → Nat) (cyI cyO cyL : ClassId) (qo : Nat) (x : Nat → Nat) (tr : Nat → Nat) (an : Nat → Nat) (b0 : Nat → Nat) (b1 : Nat → Nat) (b2 : Nat → Nat) (b3 : Nat → Nat) (b4 : Nat → Nat) (b5 : Nat → Nat) (fl fs : Nat → Option Nat) (sz : Nat) (N : Nat) (fo : (Nat → Int64)) (xv : XV) (nv : SV) (v0 : SV) (v1 : SV) (v2 : SV) (v3 : SV) (v4 : SV) (v5 : SV) (p2 : Int32) (p3 : Int32) (p4 : Int32) (hs0 : fs 0 = some (b0 0)) (hs1 : fs 1 = some (b1 0)) (hs2 : fs 2 = some (b2 0)) (hs3 : fs 3 = some (b3 0)) (hs4 : fs 4 = some (b4 0)) (hs5 : fs 5 = some (b5 0)) (out : Int32 × ((Nat → Int64) × XV × SV × SV × SV × SV × SV × SV × SV)) (hF : f_L_play N fo xv nv v0 v1 v2 v3 v4 v5 p2 p3 p4 = some out) : Met l yL_play (Cond.codeWith yL_play cL_play 6 (some .int) [(0, 12, 15, 13), (0, 12, 19, 15)] :: wT) ({ frames := 7, cells := 1, slots := 6, locals := 131 } : Room) (wWrX z0 dC dI cyI cyO cyL [.ref (x 0), .int p2, .int p3, .int p4, .ref qo] (([[cLo cyL qo 1 fo], (cXo x an tr xv), (cH cyO (x 1) (x 2) 2 fl), (cXk cyI x xv), (cH cyO (x 4) (x 5) 6 fs), (cT cyI x (X_text xv)), (cSo an nv), (cG cyI an (S_green nv)), (cV cyI an (S_score nv)), (cS cyI b0 v0), (cS cyI b1 v1), (cS cyI b2 v2), (cS cyI b3 v3), (cS cyI b4 v4), (cS cyI b5 v5)] : List va_W).flatten) sz) (va_Qi (fun (r : Int32) (u : (Nat → Int64) × XV × SV × SV × SV × SV × SV × SV × SV) => (r, u) = out) (fun u t => va_P (dC, dI) vwCl (([[cLo cyL qo 1 u.1], (cXo x an tr u.2.1), (cH cyO (x 1) (x 2) 2 fl), (cXk cyI x u.2.1), (cH cyO (x 4) (x 5) 6 fs), (cT cyI x (X_text u.2.1)), (cSo an u.2.2.1), (cG cyI an (S_green u.2.2.1)), (cV cyI an (S_score u.2.2.1)), (cS cyI b0 u.2.2.2.1), (cS cyI b1 u.2.2.2.2.1), (cS cyI b2 u.2.2.2.2.2.1), (cS cyI b3 u.2.2.2.2.2.2.1), (cS cyI b4 u.2.2.2.2.2.2.2.1), (cS cyI b5 u.2.2.2.2.2.2.2.2)] : List va_W).flatten) t.heap ∧ va_D (va_A (([[cLo cyL qo 1 fo], (cXo x an tr xv), (cH cyO (x 1) (x 2) 2 fl), (cXk cyI x xv), (cH cyO (x 4) (x 5) 6 fs), (cT cyI x (X_text xv)), (cSo an nv), (cG cyI an (S_green nv)), (cV cyI an (S_score nv)), (cS cyI b0 v0), (cS cyI b1 v1), (cS cyI b2 v2), (cS cyI b3 v3), (cS cyI b4 v4), (cS cyI b5 v5)] : List va_W).flatten) sz) (([[cLo cyL qo 1 u.1], (cXo x an tr u.2.1), (cH cyO (x 1) (x 2) 2 fl), (cXk cyI x u.2.1), (cH cyO (x 4) (x 5) 6 fs), (cT cyI x (X_text u.2.1)), (cSo an u.2.2.1), (cG cyI an (S_green u.2.2.1)), (cV cyI an (S_score u.2.2.1)), (cS cyI b0 u.2.2.2.1), (cS cyI b1 u.2.2.2.2.1), (cS cyI b2 u.2.2.2.2.2.1), (cS cyI b3 u.2.2.2.2.2.2.1), (cS cyI b4 u.2.2.2.2.2.2.2.1), (cS cyI b5 u.2.2.2.2.2.2.2.2)] : List va_W).flatten)) (va_A (([[cLo cyL qo 1 fo], (cXo x an tr xv), (cH cyO (x 1) (x 2) 2 fl), (cXk cyI x xv), (cH cyO (x 4) (x 5) 6 fs), (cT cyI x (X_text xv)), (cSo an nv), (cG cyI an (S_green nv)), (cV cyI an (S_score nv)), (cS cyI b0 v0), (cS cyI b1 v1), (cS cyI b2 v2), (cS cyI b3 v3), (cS cyI b4 v4), (cS cyI b5 v5)] : List va_W).flatten) sz)) 1 6 (va_A (([[cLo cyL qo 1 fo], (cXo x an tr xv), (cH cyO (x 1) (x 2) 2 fl), (cXk cyI x xv), (cH cyO (x 4) (x 5) 6 fs), (cT cyI x (X_text xv)), (cSo an nv), (cG cyI an (S_green nv)), (cV cyI an (S_score nv)), (cS cyI b0 v0), (cS cyI b1 v1), (cS cyI b2 v2), (cS cyI b3 v3), (cS cyI b4 v4), (cS cyI b5 v5)] : List va_W).flatten) sz) := by
  refine Met.ofWH (cc := cL_play) (maxL := 6) (ret := (some .int)) (by decide) rfl ?_
  intro p e s m args below meth c s₁ B hml hv
  obtain ⟨rfl, hsz, hP, hK, hD0, hz0, hZ⟩ := hv
  have hTab := vx_table (x := yL_play) B (atoms_spec (ws := (Cond.codeWith yL_play cL_play 6 (some .int) [(0, 12, 15, 13), (0, 12, 19, 15)] :: wT)) B.pre _ List.mem_cons_self)
  have hx := B.exec
  have hb := B.bytes
  have hr := B.returns
  have hts0 := atoms_spec (ws := (Cond.codeWith yL_play cL_play 6 (some .int) [(0, 12, 15, 13), (0, 12, 19, 15)] :: wT)) B.pre
  have hts := fun w h => hts0 w (List.mem_cons_of_mem _ h)
  clear hts0
  have hown : s.vm.findClass RL = some m.cls := findClass_of_methodNamed B.named
  have hlocks := B.notSynchronized
  subst hsz
  have hD := hD0.self (sz := s.heap.size)
  have hAz := wA_ge hD0 hz0
  generalize hAe : va_A (([[cLo cyL qo 1 fo], (cXo x an tr xv), (cH cyO (x 1) (x 2) 2 fl), (cXk cyI x xv), (cH cyO (x 4) (x 5) 6 fs), (cT cyI x (X_text xv)), (cSo an nv), (cG cyI an (S_green nv)), (cV cyI an (S_score nv)), (cS cyI b0 v0), (cS cyI b1 v1), (cS cyI b2 v2), (cS cyI b3 v3), (cS cyI b4 v4), (cS cyI b5 v5)] : List va_W).flatten) s.heap.size = A at hD hAz ⊢
  have hA : ∀ q : Nat, s.heap.size ≤ q → A q := fun q h => by rw [← hAe]; exact Or.inr h
  clear hD0
  have hS : va_S A s.heap s.heap [] := va_S.rf
  have hl := lv_entry [.ref (x 0), .int p2, .int p3, .int p4, .ref qo] (n := 6) (Nat.le_of_ble_eq_true rfl)
  rw [lg_entry_eq]
  generalize (lg_sl [.ref (x 0), .int p2, .int p3, .int p4, .ref qo] ++ List.replicate (6 - (lg_sl [.ref (x 0), .int p2, .int p3, .int p4, .ref qo]).length) Slot.unset).toArray = ls at hl ⊢
  have hl : lv_has ls 6 [(0, .ref (x 0)), (1, .int p2), (2, .int p3), (3, .int p4), (4, .ref qo)] := hl
  unfold f_L_play at hF
  refine lv_aload hx hb dL_play_0 (lv_at hl 4 rfl) ?_
  refine lv_iconst (v := 0) hx hb dL_play_2 (by decide) ?_
  refine lv_aload_n hx hb dL_play_3 rfl (lv_at hl 0 rfl) ?_
  refine lv_iload_n hx hb dL_play_4 rfl (lv_at hl 1 rfl) ?_
  refine lv_iload_n hx hb dL_play_5 rfl (lv_at hl 2 rfl) ?_
  refine lv_iload_n hx hb dL_play_6 rfl (lv_at hl 3 rfl) ?_
  obtain ⟨o1, h2, hF⟩ := obd hF
  refine wxPVi (As := [.int p2, .int p3, .int p4]) (rest := [.int (0 : Int32), .ref qo]) (wr := ([[cLo cyL qo 1 fo]] : List va_W).flatten) (b := (x 0)) ⟨hx, hb, hml, hown, hts⟩ (met_X5_play l z0 hst dC dI cyI cyO cyL x tr an b0 b1 b2 b3 b4 b5 fl fs _ N xv nv v0 v1 v2 v3 v4 v5 p2 p3 p4 hs0 hs1 hs2 hs3 hs4 hs5 o1 h2) (cwV 3 hts (gV w_methodLink_L_17 w_instanceMethod_X5_play w_selects_X5_play w_initialized_X5 w_code_X5_play) rfl rfl rfl (by decide +kernel) ⟨Nat.le_of_ble_eq_true rfl, Nat.le_of_ble_eq_true rfl⟩) (va_recv hK.1 hP (ci := 5) (q0 := 1) rfl rfl) hP hD hK hZ hAz hz0 (seg_perm (n := 15) (R := [[cLo cyL qo 1 fo]]) (C := [(cXo x an tr xv), (cH cyO (x 1) (x 2) 2 fl), (cXk cyI x xv), (cH cyO (x 4) (x 5) 6 fs), (cT cyI x (X_text xv)), (cSo an nv), (cG cyI an (S_green nv)), (cV cyI an (S_score nv)), (cS cyI b0 v0), (cS cyI b1 v1), (cS cyI b2 v2), (cS cyI b3 v3), (cS cyI b4 v4), (cS cyI b5 v5)]) [0] [1, 2, 3, 4, 5, 6, 7, 8, 9, 10, 11, 12, 13, 14] rfl rfl rfl (by decide) rfl) rfl hl.1 (Nat.le_of_ble_eq_true rfl) dL_play_7 ⟨Nat.le_of_ble_eq_true rfl, Nat.le_of_ble_eq_true rfl⟩ hS hA (fun k u ce q9 H locs hw hP hD hS h9 hv9 hc9 => ?_) (fun ro1 u H locs hw hP hD hS => ?_)
  · obtain rfl : u = o1.2 := congrArg Prod.snd hw
    have hw1 : Sum.inl k = o1.1 := congrArg Prod.fst hw
    rw [← hw1] at hF
    have hF := exc_l hF
    have hq := seg_permS (segs := [[cLo cyL qo 1 fo], (cXo x an tr o1.2.1), (cH cyO (x 1) (x 2) 2 fl), (cXk cyI x o1.2.1), (cH cyO (x 4) (x 5) 6 fs), (cT cyI x (X_text o1.2.1)), (cSo an o1.2.2.1), (cG cyI an (S_green o1.2.2.1)), (cV cyI an (S_score o1.2.2.1)), (cS cyI b0 o1.2.2.2.1), (cS cyI b1 o1.2.2.2.2.1), (cS cyI b2 o1.2.2.2.2.2.1), (cS cyI b3 o1.2.2.2.2.2.2.1), (cS cyI b4 o1.2.2.2.2.2.2.2.1), (cS cyI b5 o1.2.2.2.2.2.2.2.2)]) (R := [[cLo cyL qo 1 fo]]) (C := [(cXo x an tr o1.2.1), (cH cyO (x 1) (x 2) 2 fl), (cXk cyI x o1.2.1), (cH cyO (x 4) (x 5) 6 fs), (cT cyI x (X_text o1.2.1)), (cSo an o1.2.2.1), (cG cyI an (S_green o1.2.2.1)), (cV cyI an (S_score o1.2.2.1)), (cS cyI b0 o1.2.2.2.1), (cS cyI b1 o1.2.2.2.2.1), (cS cyI b2 o1.2.2.2.2.2.1), (cS cyI b3 o1.2.2.2.2.2.2.1), (cS cyI b4 o1.2.2.2.2.2.2.2.1), (cS cyI b5 o1.2.2.2.2.2.2.2.2)]) (n := 15) [0] [1, 2, 3, 4, 5, 6, 7, 8, 9, 10, 11, 12, 13, 14] rfl rfl rfl (by decide)
    have hP : va_P (dC, dI) vwCl (([[cLo cyL qo 1 fo], (cXo x an tr o1.2.1), (cH cyO (x 1) (x 2) 2 fl), (cXk cyI x o1.2.1), (cH cyO (x 4) (x 5) 6 fs), (cT cyI x (X_text o1.2.1)), (cSo an o1.2.2.1), (cG cyI an (S_green o1.2.2.1)), (cV cyI an (S_score o1.2.2.1)), (cS cyI b0 o1.2.2.2.1), (cS cyI b1 o1.2.2.2.2.1), (cS cyI b2 o1.2.2.2.2.2.1), (cS cyI b3 o1.2.2.2.2.2.2.1), (cS cyI b4 o1.2.2.2.2.2.2.2.1), (cS cyI b5 o1.2.2.2.2.2.2.2.2)] : List va_W).flatten) H := hP.perm hq
    have hD : va_D A (([[cLo cyL qo 1 fo], (cXo x an tr o1.2.1), (cH cyO (x 1) (x 2) 2 fl), (cXk cyI x o1.2.1), (cH cyO (x 4) (x 5) 6 fs), (cT cyI x (X_text o1.2.1)), (cSo an o1.2.2.1), (cG cyI an (S_green o1.2.2.1)), (cV cyI an (S_score o1.2.2.1)), (cS cyI b0 o1.2.2.2.1), (cS cyI b1 o1.2.2.2.2.1), (cS cyI b2 o1.2.2.2.2.2.1), (cS cyI b3 o1.2.2.2.2.2.2.1), (cS cyI b4 o1.2.2.2.2.2.2.2.1), (cS cyI b5 o1.2.2.2.2.2.2.2.2)] : List va_W).flatten) := hD.perm hq
    clear hq
    by_cases c3 : k = 0
    · subst c3
      have hF := itp rfl hF
      refine vx_catch (E := eIA) (name := eIA) hown [] ⟨0, 12, 15, 13⟩ [⟨0, 12, 19, 15⟩] hTab (fun z hz => nomatch hz) (by decide) (by decide) (hts _ w_classLink_L_13) (hZ.2.2.2.1.use _ (by decide)) h9 hv9 hc9 ?_
      refine lv_astore (lv' := [(5, .ref q9), (0, .ref (x 0)), (1, .int p2), (2, .int p3), (3, .int p4), (4, .ref qo)]) hx hb dL_play_15 hl (by decide) rfl (fun ls hl => ?_)
      refine lv_iconst (v := 1) hx hb dL_play_17 (by decide) ?_
      refine W.widen (k := 1) (n := 6) (Nat.le_of_ble_eq_true rfl) (Nat.le_of_ble_eq_true rfl) ?_
      exact W.iret (v := (1 : Int32)) hx hb hr (fun t ht hW => ⟨⟨_, (fo, o1.2.1, o1.2.2.1, o1.2.2.2.1, o1.2.2.2.2.1, o1.2.2.2.2.2.1, o1.2.2.2.2.2.2.1, o1.2.2.2.2.2.2.2.1, o1.2.2.2.2.2.2.2.2), rfl, Option.some.inj hF, by rw [ht]; exact hP, hD⟩, hS.F ht⟩) hS.2.2 dL_play_18
    · have hF := itn c3 hF
      by_cases c4 : k = 1
      · subst c4
        have hF := itp rfl hF
        refine vx_catch (E := eIS) (name := eIS) hown [⟨0, 12, 15, 13⟩] ⟨0, 12, 19, 15⟩ [] hTab (fun z hz => by obtain rfl := List.mem_singleton.mp hz; exact Or.inr ⟨by decide, _, hts _ w_classLink_L_13, hZ.2.2.2.2 (eIS, eIA) (by decide)⟩) (by decide) (by decide) (hts _ w_classLink_L_15) (hZ.2.2.2.1.use _ (by decide)) h9 hv9 hc9 ?_
        refine lv_astore (lv' := [(5, .ref q9), (0, .ref (x 0)), (1, .int p2), (2, .int p3), (3, .int p4), (4, .ref qo)]) hx hb dL_play_19 hl (by decide) rfl (fun ls hl => ?_)
        refine lv_iconst (v := 2) hx hb dL_play_21 (by decide) ?_
        refine W.widen (k := 1) (n := 6) (Nat.le_of_ble_eq_true rfl) (Nat.le_of_ble_eq_true rfl) ?_
        exact W.iret (v := (2 : Int32)) hx hb hr (fun t ht hW => ⟨⟨_, (fo, o1.2.1, o1.2.2.1, o1.2.2.2.1, o1.2.2.2.2.1, o1.2.2.2.2.2.1, o1.2.2.2.2.2.2.1, o1.2.2.2.2.2.2.2.1, o1.2.2.2.2.2.2.2.2), rfl, Option.some.inj hF, by rw [ht]; exact hP, hD⟩, hS.F ht⟩) hS.2.2 dL_play_22
      · have hF := itn c4 hF
        cases hF
  · skip
    obtain rfl : u = o1.2 := congrArg Prod.snd hw
    have hw1 : Sum.inr ro1 = o1.1 := congrArg Prod.fst hw
    rw [← hw1] at hF
    have hF := exc_r hF
    have hq := seg_permS (segs := [[cLo cyL qo 1 fo], (cXo x an tr o1.2.1), (cH cyO (x 1) (x 2) 2 fl), (cXk cyI x o1.2.1), (cH cyO (x 4) (x 5) 6 fs), (cT cyI x (X_text o1.2.1)), (cSo an o1.2.2.1), (cG cyI an (S_green o1.2.2.1)), (cV cyI an (S_score o1.2.2.1)), (cS cyI b0 o1.2.2.2.1), (cS cyI b1 o1.2.2.2.2.1), (cS cyI b2 o1.2.2.2.2.2.1), (cS cyI b3 o1.2.2.2.2.2.2.1), (cS cyI b4 o1.2.2.2.2.2.2.2.1), (cS cyI b5 o1.2.2.2.2.2.2.2.2)]) (R := [[cLo cyL qo 1 fo]]) (C := [(cXo x an tr o1.2.1), (cH cyO (x 1) (x 2) 2 fl), (cXk cyI x o1.2.1), (cH cyO (x 4) (x 5) 6 fs), (cT cyI x (X_text o1.2.1)), (cSo an o1.2.2.1), (cG cyI an (S_green o1.2.2.1)), (cV cyI an (S_score o1.2.2.1)), (cS cyI b0 o1.2.2.2.1), (cS cyI b1 o1.2.2.2.2.1), (cS cyI b2 o1.2.2.2.2.2.1), (cS cyI b3 o1.2.2.2.2.2.2.1), (cS cyI b4 o1.2.2.2.2.2.2.2.1), (cS cyI b5 o1.2.2.2.2.2.2.2.2)]) (n := 15) [0] [1, 2, 3, 4, 5, 6, 7, 8, 9, 10, 11, 12, 13, 14] rfl rfl rfl (by decide)
    have hP : va_P (dC, dI) vwCl (([[cLo cyL qo 1 fo], (cXo x an tr o1.2.1), (cH cyO (x 1) (x 2) 2 fl), (cXk cyI x o1.2.1), (cH cyO (x 4) (x 5) 6 fs), (cT cyI x (X_text o1.2.1)), (cSo an o1.2.2.1), (cG cyI an (S_green o1.2.2.1)), (cV cyI an (S_score o1.2.2.1)), (cS cyI b0 o1.2.2.2.1), (cS cyI b1 o1.2.2.2.2.1), (cS cyI b2 o1.2.2.2.2.2.1), (cS cyI b3 o1.2.2.2.2.2.2.1), (cS cyI b4 o1.2.2.2.2.2.2.2.1), (cS cyI b5 o1.2.2.2.2.2.2.2.2)] : List va_W).flatten) H := hP.perm hq
    have hD : va_D A (([[cLo cyL qo 1 fo], (cXo x an tr o1.2.1), (cH cyO (x 1) (x 2) 2 fl), (cXk cyI x o1.2.1), (cH cyO (x 4) (x 5) 6 fs), (cT cyI x (X_text o1.2.1)), (cSo an o1.2.2.1), (cG cyI an (S_green o1.2.2.1)), (cV cyI an (S_score o1.2.2.1)), (cS cyI b0 o1.2.2.2.1), (cS cyI b1 o1.2.2.2.2.1), (cS cyI b2 o1.2.2.2.2.2.1), (cS cyI b3 o1.2.2.2.2.2.2.1), (cS cyI b4 o1.2.2.2.2.2.2.2.1), (cS cyI b5 o1.2.2.2.2.2.2.2.2)] : List va_W).flatten) := hD.perm hq
    clear hq
    refine lv_i2l (v := (ro1).toInt64) hx hb dL_play_10 rfl ?_
    refine va_last hx hb hK.1 hP hD hS 0 2 rfl rfl (i := (0 : Int32)) (x := ((ro1).toInt64)) (show ixok (0 : Int32) 1 by decide) dL_play_11 (fun H locs hP hD hS => ?_)
    have hP : va_P (dC, dI) vwCl (([[cLo cyL qo 1 (vp_updL fo (0 : Int32).toNatClampNeg ((ro1).toInt64))], (cXo x an tr o1.2.1), (cH cyO (x 1) (x 2) 2 fl), (cXk cyI x o1.2.1), (cH cyO (x 4) (x 5) 6 fs), (cT cyI x (X_text o1.2.1)), (cSo an o1.2.2.1), (cG cyI an (S_green o1.2.2.1)), (cV cyI an (S_score o1.2.2.1)), (cS cyI b0 o1.2.2.2.1), (cS cyI b1 o1.2.2.2.2.1), (cS cyI b2 o1.2.2.2.2.2.1), (cS cyI b3 o1.2.2.2.2.2.2.1), (cS cyI b4 o1.2.2.2.2.2.2.2.1), (cS cyI b5 o1.2.2.2.2.2.2.2.2)] : List va_W).flatten) H := hP
    have hD : va_D A (([[cLo cyL qo 1 (vp_updL fo (0 : Int32).toNatClampNeg ((ro1).toInt64))], (cXo x an tr o1.2.1), (cH cyO (x 1) (x 2) 2 fl), (cXk cyI x o1.2.1), (cH cyO (x 4) (x 5) 6 fs), (cT cyI x (X_text o1.2.1)), (cSo an o1.2.2.1), (cG cyI an (S_green o1.2.2.1)), (cV cyI an (S_score o1.2.2.1)), (cS cyI b0 o1.2.2.2.1), (cS cyI b1 o1.2.2.2.2.1), (cS cyI b2 o1.2.2.2.2.2.1), (cS cyI b3 o1.2.2.2.2.2.2.1), (cS cyI b4 o1.2.2.2.2.2.2.2.1), (cS cyI b5 o1.2.2.2.2.2.2.2.2)] : List va_W).flatten) := hD
    refine lv_goto (tgt := 23) hx hb dL_play_12 (by decide) ?_
    refine lv_iconst (v := 0) hx hb dL_play_23 (by decide) ?_
    refine W.widen (k := 1) (n := 6) (Nat.le_of_ble_eq_true rfl) (Nat.le_of_ble_eq_true rfl) ?_
    exact W.iret (v := (0 : Int32)) hx hb hr (fun t ht hW => ⟨⟨_, ((vp_updL fo (0 : Int32).toNatClampNeg ((ro1).toInt64)), o1.2.1, o1.2.2.1, o1.2.2.2.1, o1.2.2.2.2.1, o1.2.2.2.2.2.1, o1.2.2.2.2.2.2.1, o1.2.2.2.2.2.2.2.1, o1.2.2.2.2.2.2.2.2), rfl, Option.some.inj hF, by rw [ht]; exact hP, hD⟩, hS.F ht⟩) hS.2.2 dL_play_24
theorem dL_count_0 : decode cL_count 0 = .ok (.aload_n 1, 1) := by decide +kernel
theorem dL_count_1 : decode cL_count 1 = .ok (.iconst 0, 1) := by decide +kernel
theorem dL_count_2 : decode cL_count 2 = .ok (.aload_n 0, 1) := by decide +kernel
theorem dL_count_3 : decode cL_count 3 = .ok (.invokevirtual 21, 3) := by decide +kernel
theorem dL_count_6 : decode cL_count 6 = .ok (.i2l, 1) := by decide +kernel
theorem dL_count_7 : decode cL_count 7 = .ok (.lastore, 1) := by decide +kernel
theorem dL_count_8 : decode cL_count 8 = .ok (.goto 6, 3) := by decide +kernel
theorem dL_count_11 : decode cL_count 11 = .ok (.astore_n 2, 1) := by decide +kernel
theorem dL_count_12 : decode cL_count 12 = .ok (.iconst 1, 1) := by decide +kernel
theorem dL_count_13 : decode cL_count 13 = .ok (.ireturn, 1) := by decide +kernel
theorem dL_count_14 : decode cL_count 14 = .ok (.iconst 0, 1) := by decide +kernel
theorem dL_count_15 : decode cL_count 15 = .ok (.ireturn, 1) := by decide +kernel
def f_L_count (N : Nat) (fo : (Nat → Int64)) (xv : XV) (nv : SV) (v0 : SV) (v1 : SV) (v2 : SV) (v3 : SV) (v4 : SV) (v5 : SV) : Option (Int32 × ((Nat → Int64) × XV × SV × SV × SV × SV × SV × SV × SV)) :=
  (f_X5_count N xv nv v0 v1 v2 v3 v4 v5).bind (fun o1 => exc o1.1 (fun k => (if k = 1 then some ((1 : Int32), (fo, o1.2.1, o1.2.2.1, o1.2.2.2.1, o1.2.2.2.2.1, o1.2.2.2.2.2.1, o1.2.2.2.2.2.2.1, o1.2.2.2.2.2.2.2.1, o1.2.2.2.2.2.2.2.2)) else none)) (fun (ro1 : Int32) => some ((0 : Int32), ((vp_updL fo (0 : Int32).toNatClampNeg ((ro1).toInt64)), o1.2.1, o1.2.2.1, o1.2.2.2.1, o1.2.2.2.2.1, o1.2.2.2.2.2.1, o1.2.2.2.2.2.2.1, o1.2.2.2.2.2.2.2.1, o1.2.2.2.2.2.2.2.2))))
set_option maxHeartbeats 4000000 in
set_option maxRecDepth 100000 in
theorem met_L_count (l : Launch) (z0 : Nat) (hst : l.stackTraces = false) (dC : Nat → ClassId) (dI : Nat → Nat → Nat) (cyI cyO cyL : ClassId) (qo : Nat) (x : Nat → Nat) (tr : Nat → Nat) (an : Nat → Nat) (b0 : Nat → Nat) (b1 : Nat → Nat) (b2 : Nat → Nat) (b3 : Nat → Nat) (b4 : Nat → Nat) (b5 : Nat → Nat) (fl fs : Nat → Option Nat) (sz : Nat) (N : Nat) (fo : (Nat → Int64)) (xv : XV) (nv : SV) (v0 : SV) (v1 : SV) (v2 : SV) (v3 : SV) (v4 : SV) (v5 : SV) (hs0 : fs 0 = some (b0 0)) (hs1 : fs 1 = some (b1 0)) (hs2 : fs 2 = some (b2 0)) (hs3 : fs 3 = some (b3 0)) (hs4 : fs 4 = some (b4 0)) (hs5 : fs 5 = some (b5 0)) (out : Int32 × ((Nat → Int64) × XV × SV × SV × SV × SV × SV × SV × SV)) (hF : f_L_count N fo xv nv v0 v1 v2 v3 v4 v5 = some out) : Met l yL_count (Cond.codeWith yL_count cL_count 3 (some .int) [(0, 8, 11, 15)] :: wT) ({ frames := 7, cells := 1, slots := 6, locals := 132 } : Room) (wWrX z0 dC dI cyI cyO cyL [.ref (x 0), .ref qo] (([[cLo cyL qo 1 fo], (cXo x an tr xv), (cH cyO (x 1) (x 2) 2 fl), (cXk cyI x xv), (cH cyO (x 4) (x 5) 6 fs), (cT cyI x (X_text xv)), (cSo an nv), (cG cyI an (S_green nv)), (cV cyI an (S_score nv)), (cS cyI b0 v0), (cS cyI b1 v1), (cS cyI b2 v2), (cS cyI b3 v3), (cS cyI b4 v4), (cS cyI b5 v5)] : List va_W).flatten) sz) (va_Qi (fun (r : Int32) (u : (Nat → Int64) × XV × SV × SV × SV × SV × SV × SV × SV) => (r, u) = out) (fun u t => va_P (dC, dI) vwCl (([[cLo cyL qo 1 u.1], (cXo x an tr u.2.1), (cH cyO (x 1) (x 2) 2 fl), (cXk cyI x u.2.1), (cH cyO (x 4) (x 5) 6 fs), (cT cyI x (X_text u.2.1)), (cSo an u.2.2.1), (cG cyI an (S_green u.2.2.1)), (cV cyI an (S_score u.2.2.1)), (cS cyI b0 u.2.2.2.1), (cS cyI b1 u.2.2.2.2.1), (cS cyI b2 u.2.2.2.2.2.1), (cS cyI b3 u.2.2.2.2.2.2.1), (cS cyI b4 u.2.2.2.2.2.2.2.1), (cS cyI b5 u.2.2.2.2.2.2.2.2)] : List va_W).flatten) t.heap ∧ va_D (va_A (([[cLo cyL qo 1 fo], (cXo x an tr xv), (cH cyO (x 1) (x 2) 2 fl), (cXk cyI x xv), (cH cyO (x 4) (x 5) 6 fs), (cT cyI x (X_text xv)), (cSo an nv), (cG cyI an (S_green nv)), (cV cyI an (S_score nv)), (cS cyI b0 v0), (cS cyI b1 v1), (cS cyI b2 v2), (cS cyI b3 v3), (cS cyI b4 v4), (cS cyI b5 v5)] : List va_W).flatten) sz) (([[cLo cyL qo 1 u.1], (cXo x an tr u.2.1), (cH cyO (x 1) (x 2) 2 fl), (cXk cyI x u.2.1), (cH cyO (x 4) (x 5) 6 fs), (cT cyI x (X_text u.2.1)), (cSo an u.2.2.1), (cG cyI an (S_green u.2.2.1)), (cV cyI an (S_score u.2.2.1)), (cS cyI b0 u.2.2.2.1), (cS cyI b1 u.2.2.2.2.1), (cS cyI b2 u.2.2.2.2.2.1), (cS cyI b3 u.2.2.2.2.2.2.1), (cS cyI b4 u.2.2.2.2.2.2.2.1), (cS cyI b5 u.2.2.2.2.2.2.2.2)] : List va_W).flatten)) (va_A (([[cLo cyL qo 1 fo], (cXo x an tr xv), (cH cyO (x 1) (x 2) 2 fl), (cXk cyI x xv), (cH cyO (x 4) (x 5) 6 fs), (cT cyI x (X_text xv)), (cSo an nv), (cG cyI an (S_green nv)), (cV cyI an (S_score nv)), (cS cyI b0 v0), (cS cyI b1 v1), (cS cyI b2 v2), (cS cyI b3 v3), (cS cyI b4 v4), (cS cyI b5 v5)] : List va_W).flatten) sz)) 1 6 (va_A (([[cLo cyL qo 1 fo], (cXo x an tr xv), (cH cyO (x 1) (x 2) 2 fl), (cXk cyI x xv), (cH cyO (x 4) (x 5) 6 fs), (cT cyI x (X_text xv)), (cSo an nv), (cG cyI an (S_green nv)), (cV cyI an (S_score nv)), (cS cyI b0 v0), (cS cyI b1 v1), (cS cyI b2 v2), (cS cyI b3 v3), (cS cyI b4 v4), (cS cyI b5 v5)] : List va_W).flatten) sz) := by
  refine Met.ofWH (cc := cL_count) (maxL := 3) (ret := (some .int)) (by decide) rfl ?_
  intro p e s m args below meth c s₁ B hml hv
  obtain ⟨rfl, hsz, hP, hK, hD0, hz0, hZ⟩ := hv
  have hTab := vx_table (x := yL_count) B (atoms_spec (ws := (Cond.codeWith yL_count cL_count 3 (some .int) [(0, 8, 11, 15)] :: wT)) B.pre _ List.mem_cons_self)
  have hx := B.exec
  have hb := B.bytes
  have hr := B.returns
  have hts0 := atoms_spec (ws := (Cond.codeWith yL_count cL_count 3 (some .int) [(0, 8, 11, 15)] :: wT)) B.pre
  have hts := fun w h => hts0 w (List.mem_cons_of_mem _ h)
  clear hts0
  have hown : s.vm.findClass RL = some m.cls := findClass_of_methodNamed B.named
  have hlocks := B.notSynchronized
  subst hsz
  have hD := hD0.self (sz := s.heap.size)
  have hAz := wA_ge hD0 hz0
  generalize hAe : va_A (([[cLo cyL qo 1 fo], (cXo x an tr xv), (cH cyO (x 1) (x 2) 2 fl), (cXk cyI x xv), (cH cyO (x 4) (x 5) 6 fs), (cT cyI x (X_text xv)), (cSo an nv), (cG cyI an (S_green nv)), (cV cyI an (S_score nv)), (cS cyI b0 v0), (cS cyI b1 v1), (cS cyI b2 v2), (cS cyI b3 v3), (cS cyI b4 v4), (cS cyI b5 v5)] : List va_W).flatten) s.heap.size = A at hD hAz ⊢
  have hA : ∀ q : Nat, s.heap.size ≤ q → A q := fun q h => by rw [← hAe]; exact Or.inr h
  clear hD0
  have hS : va_S A s.heap s.heap [] := va_S.rf
  have hl := lv_entry [.ref (x 0), .ref qo] (n := 3) (Nat.le_of_ble_eq_true rfl)
  rw [lg_entry_eq]
  generalize (lg_sl [.ref (x 0), .ref qo] ++ List.replicate (3 - (lg_sl [.ref (x 0), .ref qo]).length) Slot.unset).toArray = ls at hl ⊢
  have hl : lv_has ls 3 [(0, .ref (x 0)), (1, .ref qo)] := hl
  unfold f_L_count at hF
  refine lv_aload_n hx hb dL_count_0 rfl (lv_at hl 1 rfl) ?_
  refine lv_iconst (v := 0) hx hb dL_count_1 (by decide) ?_
  refine lv_aload_n hx hb dL_count_2 rfl (lv_at hl 0 rfl) ?_
  obtain ⟨o1, h2, hF⟩ := obd hF
  refine wxPVi (As := []) (rest := [.int (0 : Int32), .ref qo]) (wr := ([[cLo cyL qo 1 fo]] : List va_W).flatten) (b := (x 0)) ⟨hx, hb, hml, hown, hts⟩ (met_X5_count l z0 hst dC dI cyI cyO cyL x tr an b0 b1 b2 b3 b4 b5 fl fs _ N xv nv v0 v1 v2 v3 v4 v5 hs0 hs1 hs2 hs3 hs4 hs5 o1 h2) (cwV 0 hts (gV w_methodLink_L_21 w_instanceMethod_X5_count w_selects_X5_count w_initialized_X5 w_code_X5_count) rfl rfl rfl (by decide +kernel) ⟨Nat.le_of_ble_eq_true rfl, Nat.le_of_ble_eq_true rfl⟩) (va_recv hK.1 hP (ci := 5) (q0 := 1) rfl rfl) hP hD hK hZ hAz hz0 (seg_perm (n := 15) (R := [[cLo cyL qo 1 fo]]) (C := [(cXo x an tr xv), (cH cyO (x 1) (x 2) 2 fl), (cXk cyI x xv), (cH cyO (x 4) (x 5) 6 fs), (cT cyI x (X_text xv)), (cSo an nv), (cG cyI an (S_green nv)), (cV cyI an (S_score nv)), (cS cyI b0 v0), (cS cyI b1 v1), (cS cyI b2 v2), (cS cyI b3 v3), (cS cyI b4 v4), (cS cyI b5 v5)]) [0] [1, 2, 3, 4, 5, 6, 7, 8, 9, 10, 11, 12, 13, 14] rfl rfl rfl (by decide) rfl) rfl hl.1 (Nat.le_of_ble_eq_true rfl) dL_count_3 ⟨Nat.le_of_ble_eq_true rfl, Nat.le_of_ble_eq_true rfl⟩ hS hA (fun k u ce q9 H locs hw hP hD hS h9 hv9 hc9 => ?_) (fun ro1 u H locs hw hP hD hS => ?_)
  · obtain rfl : u = o1.2 := congrArg Prod.snd hw
    have hw1 : Sum.inl k = o1.1 := congrArg Prod.fst hw
    rw [← hw1] at hF
    have hF := exc_l hF
    have hq := seg_permS (segs := [[cLo cyL qo 1 fo], (cXo x an tr o1.2.1), (cH cyO (x 1) (x 2) 2 fl), (cXk cyI x o1.2.1), (cH cyO (x 4) (x 5) 6 fs), (cT cyI x (X_text o1.2.1)), (cSo an o1.2.2.1), (cG cyI an (S_green o1.2.2.1)), (cV cyI an (S_score o1.2.2.1)), (cS cyI b0 o1.2.2.2.1), (cS cyI b1 o1.2.2.2.2.1), (cS cyI b2 o1.2.2.2.2.2.1), (cS cyI b3 o1.2.2.2.2.2.2.1), (cS cyI b4 o1.2.2.2.2.2.2.2.1), (cS cyI b5 o1.2.2.2.2.2.2.2.2)]) (R := [[cLo cyL qo 1 fo]]) (C := [(cXo x an tr o1.2.1), (cH cyO (x 1) (x 2) 2 fl), (cXk cyI x o1.2.1), (cH cyO (x 4) (x 5) 6 fs), (cT cyI x (X_text o1.2.1)), (cSo an o1.2.2.1), (cG cyI an (S_green o1.2.2.1)), (cV cyI an (S_score o1.2.2.1)), (cS cyI b0 o1.2.2.2.1), (cS cyI b1 o1.2.2.2.2.1), (cS cyI b2 o1.2.2.2.2.2.1), (cS cyI b3 o1.2.2.2.2.2.2.1), (cS cyI b4 o1.2.2.2.2.2.2.2.1), (cS cyI b5 o1.2.2.2.2.2.2.2.2)]) (n := 15) [0] [1, 2, 3, 4, 5, 6, 7, 8, 9, 10, 11, 12, 13, 14] rfl rfl rfl (by decide)
    have hP : va_P (dC, dI) vwCl (([[cLo cyL qo 1 fo], (cXo x an tr o1.2.1), (cH cyO (x 1) (x 2) 2 fl), (cXk cyI x o1.2.1), (cH cyO (x 4) (x 5) 6 fs), (cT cyI x (X_text o1.2.1)), (cSo an o1.2.2.1), (cG cyI an (S_green o1.2.2.1)), (cV cyI an (S_score o1.2.2.1)), (cS cyI b0 o1.2.2.2.1), (cS cyI b1 o1.2.2.2.2.1), (cS cyI b2 o1.2.2.2.2.2.1), (cS cyI b3 o1.2.2.2.2.2.2.1), (cS cyI b4 o1.2.2.2.2.2.2.2.1), (cS cyI b5 o1.2.2.2.2.2.2.2.2)] : List va_W).flatten) H := hP.perm hq
    have hD : va_D A (([[cLo cyL qo 1 fo], (cXo x an tr o1.2.1), (cH cyO (x 1) (x 2) 2 fl), (cXk cyI x o1.2.1), (cH cyO (x 4) (x 5) 6 fs), (cT cyI x (X_text o1.2.1)), (cSo an o1.2.2.1), (cG cyI an (S_green o1.2.2.1)), (cV cyI an (S_score o1.2.2.1)), (cS cyI b0 o1.2.2.2.1), (cS cyI b1 o1.2.2.2.2.1), (cS cyI b2 o1.2.2.2.2.2.1), (cS cyI b3 o1.2.2.2.2.2.2.1), (cS cyI b4 o1.2.2.2.2.2.2.2.1), (cS cyI b5 o1.2.2.2.2.2.2.2.2)] : List va_W).flatten) := hD.perm hq
    clear hq
    by_cases c3 : k = 1
    · subst c3
      have hF := itp rfl hF
      refine vx_catch (E := eIS) (name := eIS) hown [] ⟨0, 8, 11, 15⟩ [] hTab (fun z hz => nomatch hz) (by decide) (by decide) (hts _ w_classLink_L_15) (hZ.2.2.2.1.use _ (by decide)) h9 hv9 hc9 ?_
      refine lv_astore_n (lv' := [(2, .ref q9), (0, .ref (x 0)), (1, .ref qo)]) hx hb dL_count_11 rfl hl (by decide) rfl (fun ls hl => ?_)
      refine lv_iconst (v := 1) hx hb dL_count_12 (by decide) ?_
      refine W.widen (k := 1) (n := 6) (Nat.le_of_ble_eq_true rfl) (Nat.le_of_ble_eq_true rfl) ?_
      exact W.iret (v := (1 : Int32)) hx hb hr (fun t ht hW => ⟨⟨_, (fo, o1.2.1, o1.2.2.1, o1.2.2.2.1, o1.2.2.2.2.1, o1.2.2.2.2.2.1, o1.2.2.2.2.2.2.1, o1.2.2.2.2.2.2.2.1, o1.2.2.2.2.2.2.2.2), rfl, Option.some.inj hF, by rw [ht]; exact hP, hD⟩, hS.F ht⟩) hS.2.2 dL_count_13
    · have hF := itn c3 hF
      cases hF
  · skip
    obtain rfl : u = o1.2 := congrArg Prod.snd hw
    have hw1 : Sum.inr ro1 = o1.1 := congrArg Prod.fst hw
    rw [← hw1] at hF
    have hF := exc_r hF
    have hq := seg_permS (segs := [[cLo cyL qo 1 fo], (cXo x an tr o1.2.1), (cH cyO (x 1) (x 2) 2 fl), (cXk cyI x o1.2.1), (cH cyO (x 4) (x 5) 6 fs), (cT cyI x (X_text o1.2.1)), (cSo an o1.2.2.1), (cG cyI an (S_green o1.2.2.1)), (cV cyI an (S_score o1.2.2.1)), (cS cyI b0 o1.2.2.2.1), (cS cyI b1 o1.2.2.2.2.1), (cS cyI b2 o1.2.2.2.2.2.1), (cS cyI b3 o1.2.2.2.2.2.2.1), (cS cyI b4 o1.2.2.2.2.2.2.2.1), (cS cyI b5 o1.2.2.2.2.2.2.2.2)]) (R := [[cLo cyL qo 1 fo]]) (C := [(cXo x an tr o1.2.1), (cH cyO (x 1) (x 2) 2 fl), (cXk cyI x o1.2.1), (cH cyO (x 4) (x 5) 6 fs), (cT cyI x (X_text o1.2.1)), (cSo an o1.2.2.1), (cG cyI an (S_green o1.2.2.1)), (cV cyI an (S_score o1.2.2.1)), (cS cyI b0 o1.2.2.2.1), (cS cyI b1 o1.2.2.2.2.1), (cS cyI b2 o1.2.2.2.2.2.1), (cS cyI b3 o1.2.2.2.2.2.2.1), (cS cyI b4 o1.2.2.2.2.2.2.2.1), (cS cyI b5 o1.2.2.2.2.2.2.2.2)]) (n := 15) [0] [1, 2, 3, 4, 5, 6, 7, 8, 9, 10, 11, 12, 13, 14] rfl rfl rfl (by decide)
    have hP : va_P (dC, dI) vwCl (([[cLo cyL qo 1 fo], (cXo x an tr o1.2.1), (cH cyO (x 1) (x 2) 2 fl), (cXk cyI x o1.2.1), (cH cyO (x 4) (x 5) 6 fs), (cT cyI x (X_text o1.2.1)), (cSo an o1.2.2.1), (cG cyI an (S_green o1.2.2.1)), (cV cyI an (S_score o1.2.2.1)), (cS cyI b0 o1.2.2.2.1), (cS cyI b1 o1.2.2.2.2.1), (cS cyI b2 o1.2.2.2.2.2.1), (cS cyI b3 o1.2.2.2.2.2.2.1), (cS cyI b4 o1.2.2.2.2.2.2.2.1), (cS cyI b5 o1.2.2.2.2.2.2.2.2)] : List va_W).flatten) H := hP.perm hq
    have hD : va_D A (([[cLo cyL qo 1 fo], (cXo x an tr o1.2.1), (cH cyO (x 1) (x 2) 2 fl), (cXk cyI x o1.2.1), (cH cyO (x 4) (x 5) 6 fs), (cT cyI x (X_text o1.2.1)), (cSo an o1.2.2.1), (cG cyI an (S_green o1.2.2.1)), (cV cyI an (S_score o1.2.2.1)), (cS cyI b0 o1.2.2.2.1), (cS cyI b1 o1.2.2.2.2.1), (cS cyI b2 o1.2.2.2.2.2.1), (cS cyI b3 o1.2.2.2.2.2.2.1), (cS cyI b4 o1.2.2.2.2.2.2.2.1), (cS cyI b5 o1.2.2.2.2.2.2.2.2)] : List va_W).flatten) := hD.perm hq
    clear hq
    refine lv_i2l (v := (ro1).toInt64) hx hb dL_count_6 rfl ?_
    refine va_last hx hb hK.1 hP hD hS 0 2 rfl rfl (i := (0 : Int32)) (x := ((ro1).toInt64)) (show ixok (0 : Int32) 1 by decide) dL_count_7 (fun H locs hP hD hS => ?_)
    have hP : va_P (dC, dI) vwCl (([[cLo cyL qo 1 (vp_updL fo (0 : Int32).toNatClampNeg ((ro1).toInt64))], (cXo x an tr o1.2.1), (cH cyO (x 1) (x 2) 2 fl), (cXk cyI x o1.2.1), (cH cyO (x 4) (x 5) 6 fs), (cT cyI x (X_text o1.2.1)), (cSo an o1.2.2.1), (cG cyI an (S_green o1.2.2.1)), (cV cyI an (S_score o1.2.2.1)), (cS cyI b0 o1.2.2.2.1), (cS cyI b1 o1.2.2.2.2.1), (cS cyI b2 o1.2.2.2.2.2.1), (cS cyI b3 o1.2.2.2.2.2.2.1), (cS cyI b4 o1.2.2.2.2.2.2.2.1), (cS cyI b5 o1.2.2.2.2.2.2.2.2)] : List va_W).flatten) H := hP
    have hD : va_D A (([[cLo cyL qo 1 (vp_updL fo (0 : Int32).toNatClampNeg ((ro1).toInt64))], (cXo x an tr o1.2.1), (cH cyO (x 1) (x 2) 2 fl), (cXk cyI x o1.2.1), (cH cyO (x 4) (x 5) 6 fs), (cT cyI x (X_text o1.2.1)), (cSo an o1.2.2.1), (cG cyI an (S_green o1.2.2.1)), (cV cyI an (S_score o1.2.2.1)), (cS cyI b0 o1.2.2.2.1), (cS cyI b1 o1.2.2.2.2.1), (cS cyI b2 o1.2.2.2.2.2.1), (cS cyI b3 o1.2.2.2.2.2.2.1), (cS cyI b4 o1.2.2.2.2.2.2.2.1), (cS cyI b5 o1.2.2.2.2.2.2.2.2)] : List va_W).flatten) := hD
    refine lv_goto (tgt := 14) hx hb dL_count_8 (by decide) ?_
    refine lv_iconst (v := 0) hx hb dL_count_14 (by decide) ?_
    refine W.widen (k := 1) (n := 6) (Nat.le_of_ble_eq_true rfl) (Nat.le_of_ble_eq_true rfl) ?_
    exact W.iret (v := (0 : Int32)) hx hb hr (fun t ht hW => ⟨⟨_, ((vp_updL fo (0 : Int32).toNatClampNeg ((ro1).toInt64)), o1.2.1, o1.2.2.1, o1.2.2.2.1, o1.2.2.2.2.1, o1.2.2.2.2.2.1, o1.2.2.2.2.2.2.1, o1.2.2.2.2.2.2.2.1, o1.2.2.2.2.2.2.2.2), rfl, Option.some.inj hF, by rw [ht]; exact hP, hD⟩, hS.F ht⟩) hS.2.2 dL_count_15
theorem dL_begin_0 : decode cL_begin 0 = .ok (.aload_n 2, 1) := by decide +kernel
theorem dL_begin_1 : decode cL_begin 1 = .ok (.iconst 0, 1) := by decide +kernel
theorem dL_begin_2 : decode cL_begin 2 = .ok (.aload_n 0, 1) := by decide +kernel
theorem dL_begin_3 : decode cL_begin 3 = .ok (.iload_n 1, 1) := by decide +kernel
theorem dL_begin_4 : decode cL_begin 4 = .ok (.invokevirtual 25, 3) := by decide +kernel
theorem dL_begin_7 : decode cL_begin 7 = .ok (.i2l, 1) := by decide +kernel
theorem dL_begin_8 : decode cL_begin 8 = .ok (.lastore, 1) := by decide +kernel
theorem dL_begin_9 : decode cL_begin 9 = .ok (.goto 6, 3) := by decide +kernel
theorem dL_begin_12 : decode cL_begin 12 = .ok (.astore_n 3, 1) := by decide +kernel
theorem dL_begin_13 : decode cL_begin 13 = .ok (.iconst 1, 1) := by decide +kernel
theorem dL_begin_14 : decode cL_begin 14 = .ok (.ireturn, 1) := by decide +kernel
theorem dL_begin_15 : decode cL_begin 15 = .ok (.iconst 0, 1) := by decide +kernel
theorem dL_begin_16 : decode cL_begin 16 = .ok (.ireturn, 1) := by decide +kernel
def f_L_begin (N : Nat) (fo : (Nat → Int64)) (xv : XV) (nv : SV) (v0 : SV) (v1 : SV) (v2 : SV) (v3 : SV) (v4 : SV) (v5 : SV) (p2 : Int32) : Option (Int32 × ((Nat → Int64) × XV × SV × SV × SV × SV × SV × SV × SV)) :=
  (f_X5_begin N xv nv v0 v1 v2 v3 v4 v5 p2).bind (fun o1 => exc o1.1 (fun k => (if k = 0 then some ((1 : Int32), (fo, o1.2.1, o1.2.2.1, o1.2.2.2.1, o1.2.2.2.2.1, o1.2.2.2.2.2.1, o1.2.2.2.2.2.2.1, o1.2.2.2.2.2.2.2.1, o1.2.2.2.2.2.2.2.2)) else none)) (fun (ro1 : Int32) => some ((0 : Int32), ((vp_updL fo (0 : Int32).toNatClampNeg ((ro1).toInt64)), o1.2.1, o1.2.2.1, o1.2.2.2.1, o1.2.2.2.2.1, o1.2.2.2.2.2.1, o1.2.2.2.2.2.2.1, o1.2.2.2.2.2.2.2.1, o1.2.2.2.2.2.2.2.2))))
set_option maxHeartbeats 4000000 in
set_option maxRecDepth 100000 in
theorem met_L_begin (l : Launch) (z0 : Nat) (hst : l.stackTraces = false) (dC : Nat → ClassId) (dI : Nat → Nat → Nat) (cyI cyO cyL : ClassId) (qo : Nat) (x : Nat → Nat) (tr : Nat → Nat) (an : Nat → Nat) (b0 : Nat → Nat) (b1 : Nat → Nat) (b2 : Nat → Nat) (b3 : Nat → Nat) (b4 : Nat → Nat) (b5 : Nat → Nat) (fl fs : Nat → Option Nat) (sz : Nat) (N : Nat) (fo : (Nat → Int64)) (xv : XV) (nv : SV) (v0 : SV) (v1 : SV) (v2 : SV) (v3 : SV) (v4 : SV) (v5 : SV) (p2 : Int32) (hs0 : fs 0 = some (b0 0)) (hs1 : fs 1 = some (b1 0)) (hs2 : fs 2 = some (b2 0)) (hs3 : fs 3 = some (b3 0)) (hs4 : fs 4 = some (b4 0)) (hs5 : fs 5 = some (b5 0)) (out : Int32 × ((Nat → Int64) × XV × SV × SV × SV × SV × SV × SV × SV)) (hF : f_L_begin N fo xv nv v0 v1 v2 v3 v4 v5 p2 = some out) : Met l yL_begin (Cond.codeWith yL_begin cL_begin 4 (some .int) [(0, 9, 12, 13)] :: wT) ({ frames := 7, cells := 1, slots := 6, locals := 129 } : Room) (wWrX z0 dC dI cyI cyO cyL [.ref (x 0), .int p2, .ref qo] (([[cLo cyL qo 1 fo], (cXo x an tr xv), (cH cyO (x 1) (x 2) 2 fl), (cXk cyI x xv), (cH cyO (x 4) (x 5) 6 fs), (cT cyI x (X_text xv)), (cSo an nv), (cG cyI an (S_green nv)), (cV cyI an (S_score nv)), (cS cyI b0 v0), (cS cyI b1 v1), (cS cyI b2 v2), (cS cyI b3 v3), (cS cyI b4 v4), (cS cyI b5 v5)] : List va_W).flatten) sz) (va_Qi (fun (r : Int32) (u : (Nat → Int64) × XV × SV × SV × SV × SV × SV × SV × SV) => (r, u) = out) (fun u t => va_P (dC, dI) vwCl (([[cLo cyL qo 1 u.1], (cXo x an tr u.2.1), (cH cyO (x 1) (x 2) 2 fl), (cXk cyI x u.2.1), (cH cyO (x 4) (x 5) 6 fs), (cT cyI x (X_text u.2.1)), (cSo an u.2.2.1), (cG cyI an (S_green u.2.2.1)), (cV cyI an (S_score u.2.2.1)), (cS cyI b0 u.2.2.2.1), (cS cyI b1 u.2.2.2.2.1), (cS cyI b2 u.2.2.2.2.2.1), (cS cyI b3 u.2.2.2.2.2.2.1), (cS cyI b4 u.2.2.2.2.2.2.2.1), (cS cyI b5 u.2.2.2.2.2.2.2.2)] : List va_W).flatten) t.heap ∧ va_D (va_A (([[cLo cyL qo 1 fo], (cXo x an tr xv), (cH cyO (x 1) (x 2) 2 fl), (cXk cyI x xv), (cH cyO (x 4) (x 5) 6 fs), (cT cyI x (X_text xv)), (cSo an nv), (cG cyI an (S_green nv)), (cV cyI an (S_score nv)), (cS cyI b0 v0), (cS cyI b1 v1), (cS cyI b2 v2), (cS cyI b3 v3), (cS cyI b4 v4), (cS cyI b5 v5)] : List va_W).flatten) sz) (([[cLo cyL qo 1 u.1], (cXo x an tr u.2.1), (cH cyO (x 1) (x 2) 2 fl), (cXk cyI x u.2.1), (cH cyO (x 4) (x 5) 6 fs), (cT cyI x (X_text u.2.1)), (cSo an u.2.2.1), (cG cyI an (S_green u.2.2.1)), (cV cyI an (S_score u.2.2.1)), (cS cyI b0 u.2.2.2.1), (cS cyI b1 u.2.2.2.2.1), (cS cyI b2 u.2.2.2.2.2.1), (cS cyI b3 u.2.2.2.2.2.2.1), (cS cyI b4 u.2.2.2.2.2.2.2.1), (cS cyI b5 u.2.2.2.2.2.2.2.2)] : List va_W).flatten)) (va_A (([[cLo cyL qo 1 fo], (cXo x an tr xv), (cH cyO (x 1) (x 2) 2 fl), (cXk cyI x xv), (cH cyO (x 4) (x 5) 6 fs), (cT cyI x (X_text xv)), (cSo an nv), (cG cyI an (S_green nv)), (cV cyI an (S_score nv)), (cS cyI b0 v0), (cS cyI b1 v1), (cS cyI b2 v2), (cS cyI b3 v3), (cS cyI b4 v4), (cS cyI b5 v5)] : List va_W).flatten) sz)) 1 6 (va_A (([[cLo cyL qo 1 fo], (cXo x an tr xv), (cH cyO (x 1) (x 2) 2 fl), (cXk cyI x xv), (cH cyO (x 4) (x 5) 6 fs), (cT cyI x (X_text xv)), (cSo an nv), (cG cyI an (S_green nv)), (cV cyI an (S_score nv)), (cS cyI b0 v0), (cS cyI b1 v1), (cS cyI b2 v2), (cS cyI b3 v3), (cS cyI b4 v4), (cS cyI b5 v5)] : List va_W).flatten) sz) := by
  refine Met.ofWH (cc := cL_begin) (maxL := 4) (ret := (some .int)) (by decide) rfl ?_
  intro p e s m args below meth c s₁ B hml hv
  obtain ⟨rfl, hsz, hP, hK, hD0, hz0, hZ⟩ := hv
  have hTab := vx_table (x := yL_begin) B (atoms_spec (ws := (Cond.codeWith yL_begin cL_begin 4 (some .int) [(0, 9, 12, 13)] :: wT)) B.pre _ List.mem_cons_self)
  have hx := B.exec
  have hb := B.bytes
  have hr := B.returns
  have hts0 := atoms_spec (ws := (Cond.codeWith yL_begin cL_begin 4 (some .int) [(0, 9, 12, 13)] :: wT)) B.pre
  have hts := fun w h => hts0 w (List.mem_cons_of_mem _ h)
  clear hts0
  have hown : s.vm.findClass RL = some m.cls := findClass_of_methodNamed B.named
  have hlocks := B.notSynchronized
  subst hsz
  have hD := hD0.self (sz := s.heap.size)
  have hAz := wA_ge hD0 hz0
  generalize hAe : va_A (([[cLo cyL qo 1 fo], (cXo x an tr xv), (cH cyO (x 1) (x 2) 2 fl), (cXk cyI x xv), (cH cyO (x 4) (x 5) 6 fs), (cT cyI x (X_text xv)), (cSo an nv), (cG cyI an (S_green nv)), (cV cyI an (S_score nv)), (cS cyI b0 v0), (cS cyI b1 v1), (cS cyI b2 v2), (cS cyI b3 v3), (cS cyI b4 v4), (cS cyI b5 v5)] : List va_W).flatten) s.heap.size = A at hD hAz ⊢
  have hA : ∀ q : Nat, s.heap.size ≤ q → A q := fun q h => by rw [← hAe]; exact Or.inr h
  clear hD0
  have hS : va_S A s.heap s.heap [] := va_S.rf
  have hl := lv_entry [.ref (x 0), .int p2, .ref qo] (n := 4) (Nat.le_of_ble_eq_true rfl)
  rw [lg_entry_eq]
  generalize (lg_sl [.ref (x 0), .int p2, .ref qo] ++ List.replicate (4 - (lg_sl [.ref (x 0), .int p2, .ref qo]).length) Slot.unset).toArray = ls at hl ⊢
  have hl : lv_has ls 4 [(0, .ref (x 0)), (1, .int p2), (2, .ref qo)] := hl
  unfold f_L_begin at hF
  refine lv_aload_n hx hb dL_begin_0 rfl (lv_at hl 2 rfl) ?_
  refine lv_iconst (v := 0) hx hb dL_begin_1 (by decide) ?_
  refine lv_aload_n hx hb dL_begin_2 rfl (lv_at hl 0 rfl) ?_
  refine lv_iload_n hx hb dL_begin_3 rfl (lv_at hl 1 rfl) ?_
  obtain ⟨o1, h2, hF⟩ := obd hF
  refine wxPVi (As := [.int p2]) (rest := [.int (0 : Int32), .ref qo]) (wr := ([[cLo cyL qo 1 fo]] : List va_W).flatten) (b := (x 0)) ⟨hx, hb, hml, hown, hts⟩ (met_X5_begin l z0 hst dC dI cyI cyO cyL x tr an b0 b1 b2 b3 b4 b5 fl fs _ N xv nv v0 v1 v2 v3 v4 v5 p2 hs0 hs1 hs2 hs3 hs4 hs5 o1 h2) (cwV 1 hts (gV w_methodLink_L_25 w_instanceMethod_X5_begin w_selects_X5_begin w_initialized_X5 w_code_X5_begin) rfl rfl rfl (by decide +kernel) ⟨Nat.le_of_ble_eq_true rfl, Nat.le_of_ble_eq_true rfl⟩) (va_recv hK.1 hP (ci := 5) (q0 := 1) rfl rfl) hP hD hK hZ hAz hz0 (seg_perm (n := 15) (R := [[cLo cyL qo 1 fo]]) (C := [(cXo x an tr xv), (cH cyO (x 1) (x 2) 2 fl), (cXk cyI x xv), (cH cyO (x 4) (x 5) 6 fs), (cT cyI x (X_text xv)), (cSo an nv), (cG cyI an (S_green nv)), (cV cyI an (S_score nv)), (cS cyI b0 v0), (cS cyI b1 v1), (cS cyI b2 v2), (cS cyI b3 v3), (cS cyI b4 v4), (cS cyI b5 v5)]) [0] [1, 2, 3, 4, 5, 6, 7, 8, 9, 10, 11, 12, 13, 14] rfl rfl rfl (by decide) rfl) rfl hl.1 (Nat.le_of_ble_eq_true rfl) dL_begin_4 ⟨Nat.le_of_ble_eq_true rfl, Nat.le_of_ble_eq_true rfl⟩ hS hA (fun k u ce q9 H locs hw hP hD hS h9 hv9 hc9 => ?_) (fun ro1 u H locs hw hP hD hS => ?_)
  · obtain rfl : u = o1.2 := congrArg Prod.snd hw
    have hw1 : Sum.inl k = o1.1 := congrArg Prod.fst hw
    rw [← hw1] at hF
    have hF := exc_l hF
    have hq := seg_permS (segs := [[cLo cyL qo 1 fo], (cXo x an tr o1.2.1), (cH cyO (x 1) (x 2) 2 fl), (cXk cyI x o1.2.1), (cH cyO (x 4) (x 5) 6 fs), (cT cyI x (X_text o1.2.1)), (cSo an o1.2.2.1), (cG cyI an (S_green o1.2.2.1)), (cV cyI an (S_score o1.2.2.1)), (cS cyI b0 o1.2.2.2.1), (cS cyI b1 o1.2.2.2.2.1), (cS cyI b2 o1.2.2.2.2.2.1), (cS cyI b3 o1.2.2.2.2.2.2.1), (cS cyI b4 o1.2.2.2.2.2.2.2.1), (cS cyI b5 o1.2.2.2.2.2.2.2.2)]) (R := [[cLo cyL qo 1 fo]]) (C := [(cXo x an tr o1.2.1), (cH cyO (x 1) (x 2) 2 fl), (cXk cyI x o1.2.1), (cH cyO (x 4) (x 5) 6 fs), (cT cyI x (X_text o1.2.1)), (cSo an o1.2.2.1), (cG cyI an (S_green o1.2.2.1)), (cV cyI an (S_score o1.2.2.1)), (cS cyI b0 o1.2.2.2.1), (cS cyI b1 o1.2.2.2.2.1), (cS cyI b2 o1.2.2.2.2.2.1), (cS cyI b3 o1.2.2.2.2.2.2.1), (cS cyI b4 o1.2.2.2.2.2.2.2.1), (cS cyI b5 o1.2.2.2.2.2.2.2.2)]) (n := 15) [0] [1, 2, 3, 4, 5, 6, 7, 8, 9, 10, 11, 12, 13, 14] rfl rfl rfl (by decide)
    have hP : va_P (dC, dI) vwCl (([[cLo cyL qo 1 fo], (cXo x an tr o1.2.1), (cH cyO (x 1) (x 2) 2 fl), (cXk cyI x o1.2.1), (cH cyO (x 4) (x 5) 6 fs), (cT cyI x (X_text o1.2.1)), (cSo an o1.2.2.1), (cG cyI an (S_green o1.2.2.1)), (cV cyI an (S_score o1.2.2.1)), (cS cyI b0 o1.2.2.2.1), (cS cyI b1 o1.2.2.2.2.1), (cS cyI b2 o1.2.2.2.2.2.1), (cS cyI b3 o1.2.2.2.2.2.2.1), (cS cyI b4 o1.2.2.2.2.2.2.2.1), (cS cyI b5 o1.2.2.2.2.2.2.2.2)] : List va_W).flatten) H := hP.perm hq
    have hD : va_D A (([[cLo cyL qo 1 fo], (cXo x an tr o1.2.1), (cH cyO (x 1) (x 2) 2 fl), (cXk cyI x o1.2.1), (cH cyO (x 4) (x 5) 6 fs), (cT cyI x (X_text o1.2.1)), (cSo an o1.2.2.1), (cG cyI an (S_green o1.2.2.1)), (cV cyI an (S_score o1.2.2.1)), (cS cyI b0 o1.2.2.2.1), (cS cyI b1 o1.2.2.2.2.1), (cS cyI b2 o1.2.2.2.2.2.1), (cS cyI b3 o1.2.2.2.2.2.2.1), (cS cyI b4 o1.2.2.2.2.2.2.2.1), (cS cyI b5 o1.2.2.2.2.2.2.2.2)] : List va_W).flatten) := hD.perm hq
    clear hq
    by_cases c3 : k = 0
    · subst c3
      have hF := itp rfl hF
      refine vx_catch (E := eIA) (name := eIA) hown [] ⟨0, 9, 12, 13⟩ [] hTab (fun z hz => nomatch hz) (by decide) (by decide) (hts _ w_classLink_L_13) (hZ.2.2.2.1.use _ (by decide)) h9 hv9 hc9 ?_
      refine lv_astore_n (lv' := [(3, .ref q9), (0, .ref (x 0)), (1, .int p2), (2, .ref qo)]) hx hb dL_begin_12 rfl hl (by decide) rfl (fun ls hl => ?_)
      refine lv_iconst (v := 1) hx hb dL_begin_13 (by decide) ?_
      refine W.widen (k := 1) (n := 6) (Nat.le_of_ble_eq_true rfl) (Nat.le_of_ble_eq_true rfl) ?_
      exact W.iret (v := (1 : Int32)) hx hb hr (fun t ht hW => ⟨⟨_, (fo, o1.2.1, o1.2.2.1, o1.2.2.2.1, o1.2.2.2.2.1, o1.2.2.2.2.2.1, o1.2.2.2.2.2.2.1, o1.2.2.2.2.2.2.2.1, o1.2.2.2.2.2.2.2.2), rfl, Option.some.inj hF, by rw [ht]; exact hP, hD⟩, hS.F ht⟩) hS.2.2 dL_begin_14
    · have hF := itn c3 hF
      cases hF
  · skip
    obtain rfl : u = o1.2 := congrArg Prod.snd hw
    have hw1 : Sum.inr ro1 = o1.1 := congrArg Prod.fst hw
    rw [← hw1] at hF
    have hF := exc_r hF
    have hq := seg_permS (segs := [[cLo cyL qo 1 fo], (cXo x an tr o1.2.1), (cH cyO (x 1) (x 2) 2 fl), (cXk cyI x o1.2.1), (cH cyO (x 4) (x 5) 6 fs), (cT cyI x (X_text o1.2.1)), (cSo an o1.2.2.1), (cG cyI an (S_green o1.2.2.1)), (cV cyI an (S_score o1.2.2.1)), (cS cyI b0 o1.2.2.2.1), (cS cyI b1 o1.2.2.2.2.1), (cS cyI b2 o1.2.2.2.2.2.1), (cS cyI b3 o1.2.2.2.2.2.2.1), (cS cyI b4 o1.2.2.2.2.2.2.2.1), (cS cyI b5 o1.2.2.2.2.2.2.2.2)]) (R := [[cLo cyL qo 1 fo]]) (C := [(cXo x an tr o1.2.1), (cH cyO (x 1) (x 2) 2 fl), (cXk cyI x o1.2.1), (cH cyO (x 4) (x 5) 6 fs), (cT cyI x (X_text o1.2.1)), (cSo an o1.2.2.1), (cG cyI an (S_green o1.2.2.1)), (cV cyI an (S_score o1.2.2.1)), (cS cyI b0 o1.2.2.2.1), (cS cyI b1 o1.2.2.2.2.1), (cS cyI b2 o1.2.2.2.2.2.1), (cS cyI b3 o1.2.2.2.2.2.2.1), (cS cyI b4 o1.2.2.2.2.2.2.2.1), (cS cyI b5 o1.2.2.2.2.2.2.2.2)]) (n := 15) [0] [1, 2, 3, 4, 5, 6, 7, 8, 9, 10, 11, 12, 13, 14] rfl rfl rfl (by decide)
    have hP : va_P (dC, dI) vwCl (([[cLo cyL qo 1 fo], (cXo x an tr o1.2.1), (cH cyO (x 1) (x 2) 2 fl), (cXk cyI x o1.2.1), (cH cyO (x 4) (x 5) 6 fs), (cT cyI x (X_text o1.2.1)), (cSo an o1.2.2.1), (cG cyI an (S_green o1.2.2.1)), (cV cyI an (S_score o1.2.2.1)), (cS cyI b0 o1.2.2.2.1), (cS cyI b1 o1.2.2.2.2.1), (cS cyI b2 o1.2.2.2.2.2.1), (cS cyI b3 o1.2.2.2.2.2.2.1), (cS cyI b4 o1.2.2.2.2.2.2.2.1), (cS cyI b5 o1.2.2.2.2.2.2.2.2)] : List va_W).flatten) H := hP.perm hq
    have hD : va_D A (([[cLo cyL qo 1 fo], (cXo x an tr o1.2.1), (cH cyO (x 1) (x 2) 2 fl), (cXk cyI x o1.2.1), (cH cyO (x 4) (x 5) 6 fs), (cT cyI x (X_text o1.2.1)), (cSo an o1.2.2.1), (cG cyI an (S_green o1.2.2.1)), (cV cyI an (S_score o1.2.2.1)), (cS cyI b0 o1.2.2.2.1), (cS cyI b1 o1.2.2.2.2.1), (cS cyI b2 o1.2.2.2.2.2.1), (cS cyI b3 o1.2.2.2.2.2.2.1), (cS cyI b4 o1.2.2.2.2.2.2.2.1), (cS cyI b5 o1.2.2.2.2.2.2.2.2)] : List va_W).flatten) := hD.perm hq
    clear hq
    refine lv_i2l (v := (ro1).toInt64) hx hb dL_begin_7 rfl ?_
    refine va_last hx hb hK.1 hP hD hS 0 2 rfl rfl (i := (0 : Int32)) (x := ((ro1).toInt64)) (show ixok (0 : Int32) 1 by decide) dL_begin_8 (fun H locs hP hD hS => ?_)
    have hP : va_P (dC, dI) vwCl (([[cLo cyL qo 1 (vp_updL fo (0 : Int32).toNatClampNeg ((ro1).toInt64))], (cXo x an tr o1.2.1), (cH cyO (x 1) (x 2) 2 fl), (cXk cyI x o1.2.1), (cH cyO (x 4) (x 5) 6 fs), (cT cyI x (X_text o1.2.1)), (cSo an o1.2.2.1), (cG cyI an (S_green o1.2.2.1)), (cV cyI an (S_score o1.2.2.1)), (cS cyI b0 o1.2.2.2.1), (cS cyI b1 o1.2.2.2.2.1), (cS cyI b2 o1.2.2.2.2.2.1), (cS cyI b3 o1.2.2.2.2.2.2.1), (cS cyI b4 o1.2.2.2.2.2.2.2.1), (cS cyI b5 o1.2.2.2.2.2.2.2.2)] : List va_W).flatten) H := hP
    have hD : va_D A (([[cLo cyL qo 1 (vp_updL fo (0 : Int32).toNatClampNeg ((ro1).toInt64))], (cXo x an tr o1.2.1), (cH cyO (x 1) (x 2) 2 fl), (cXk cyI x o1.2.1), (cH cyO (x 4) (x 5) 6 fs), (cT cyI x (X_text o1.2.1)), (cSo an o1.2.2.1), (cG cyI an (S_green o1.2.2.1)), (cV cyI an (S_score o1.2.2.1)), (cS cyI b0 o1.2.2.2.1), (cS cyI b1 o1.2.2.2.2.1), (cS cyI b2 o1.2.2.2.2.2.1), (cS cyI b3 o1.2.2.2.2.2.2.1), (cS cyI b4 o1.2.2.2.2.2.2.2.1), (cS cyI b5 o1.2.2.2.2.2.2.2.2)] : List va_W).flatten) := hD
    refine lv_goto (tgt := 15) hx hb dL_begin_9 (by decide) ?_
    refine lv_iconst (v := 0) hx hb dL_begin_15 (by decide) ?_
    refine W.widen (k := 1) (n := 6) (Nat.le_of_ble_eq_true rfl) (Nat.le_of_ble_eq_true rfl) ?_
    exact W.iret (v := (0 : Int32)) hx hb hr (fun t ht hW => ⟨⟨_, ((vp_updL fo (0 : Int32).toNatClampNeg ((ro1).toInt64)), o1.2.1, o1.2.2.1, o1.2.2.2.1, o1.2.2.2.2.1, o1.2.2.2.2.2.1, o1.2.2.2.2.2.2.1, o1.2.2.2.2.2.2.2.1, o1.2.2.2.2.2.2.2.2), rfl, Option.some.inj hF, by rw [ht]; exact hP, hD⟩, hS.F ht⟩) hS.2.2 dL_begin_16
theorem dL_changeBowls_0 : decode cL_changeBowls 0 = .ok (.aload_n 2, 1) := by decide +kernel
theorem dL_changeBowls_1 : decode cL_changeBowls 1 = .ok (.iconst 0, 1) := by decide +kernel
theorem dL_changeBowls_2 : decode cL_changeBowls 2 = .ok (.aload_n 0, 1) := by decide +kernel
theorem dL_changeBowls_3 : decode cL_changeBowls 3 = .ok (.iload_n 1, 1) := by decide +kernel
theorem dL_changeBowls_4 : decode cL_changeBowls 4 = .ok (.invokevirtual 28, 3) := by decide +kernel
theorem dL_changeBowls_7 : decode cL_changeBowls 7 = .ok (.i2l, 1) := by decide +kernel
theorem dL_changeBowls_8 : decode cL_changeBowls 8 = .ok (.lastore, 1) := by decide +kernel
theorem dL_changeBowls_9 : decode cL_changeBowls 9 = .ok (.goto 9, 3) := by decide +kernel
theorem dL_changeBowls_12 : decode cL_changeBowls 12 = .ok (.astore_n 3, 1) := by decide +kernel
theorem dL_changeBowls_13 : decode cL_changeBowls 13 = .ok (.iconst 1, 1) := by decide +kernel
theorem dL_changeBowls_14 : decode cL_changeBowls 14 = .ok (.ireturn, 1) := by decide +kernel
theorem dL_changeBowls_15 : decode cL_changeBowls 15 = .ok (.astore_n 3, 1) := by decide +kernel
theorem dL_changeBowls_16 : decode cL_changeBowls 16 = .ok (.iconst 2, 1) := by decide +kernel
theorem dL_changeBowls_17 : decode cL_changeBowls 17 = .ok (.ireturn, 1) := by decide +kernel
theorem dL_changeBowls_18 : decode cL_changeBowls 18 = .ok (.iconst 0, 1) := by decide +kernel
theorem dL_changeBowls_19 : decode cL_changeBowls 19 = .ok (.ireturn, 1) := by decide +kernel
def f_L_changeBowls (N : Nat) (fo : (Nat → Int64)) (xv : XV) (nv : SV) (v0 : SV) (v1 : SV) (v2 : SV) (v3 : SV) (v4 : SV) (v5 : SV) (p2 : Int32) : Option (Int32 × ((Nat → Int64) × XV × SV × SV × SV × SV × SV × SV × SV)) :=
  (f_X5_changeBowls N xv nv v0 v1 v2 v3 v4 v5 p2).bind (fun o1 => exc o1.1 (fun k => (if k = 0 then some ((1 : Int32), (fo, o1.2.1, o1.2.2.1, o1.2.2.2.1, o1.2.2.2.2.1, o1.2.2.2.2.2.1, o1.2.2.2.2.2.2.1, o1.2.2.2.2.2.2.2.1, o1.2.2.2.2.2.2.2.2)) else if k = 1 then some ((2 : Int32), (fo, o1.2.1, o1.2.2.1, o1.2.2.2.1, o1.2.2.2.2.1, o1.2.2.2.2.2.1, o1.2.2.2.2.2.2.1, o1.2.2.2.2.2.2.2.1, o1.2.2.2.2.2.2.2.2)) else none)) (fun (ro1 : Int32) => some ((0 : Int32), ((vp_updL fo (0 : Int32).toNatClampNeg ((ro1).toInt64)), o1.2.1, o1.2.2.1, o1.2.2.2.1, o1.2.2.2.2.1, o1.2.2.2.2.2.1, o1.2.2.2.2.2.2.1, o1.2.2.2.2.2.2.2.1, o1.2.2.2.2.2.2.2.2))))
set_option maxHeartbeats 4000000 in
set_option maxRecDepth 100000 in
theorem met_L_changeBowls (l : Launch) (z0 : Nat) (hst : l.stackTraces = false) (dC : Nat → ClassId) (dI : Nat → Nat → Nat) (cyI cyO cyL : ClassId) (qo : Nat) (x : Nat → Nat) (tr : Nat → Nat) (an : Nat → Nat) (b0 : Nat → Nat) (b1 : Nat → Nat) (b2 : Nat → Nat) (b3 : Nat → Nat) (b4 : Nat → Nat) (b5 : Nat → Nat) (fl fs : Nat → Option Nat) (sz : Nat) (N : Nat) (fo : (Nat → Int64)) (xv : XV) (nv : SV) (v0 : SV) (v1 : SV) (v2 : SV) (v3 : SV) (v4 : SV) (v5 : SV) (p2 : Int32) (hs0 : fs 0 = some (b0 0)) (hs1 : fs 1 = some (b1 0)) (hs2 : fs 2 = some (b2 0)) (hs3 : fs 3 = some (b3 0)) (hs4 : fs 4 = some (b4 0)) (hs5 : fs 5 = some (b5 0)) (out : Int32 × ((Nat → Int64) × XV × SV × SV × SV × SV × SV × SV × SV)) (hF : f_L_changeBowls N fo xv nv v0 v1 v2 v3 v4 v5 p2 = some out) : Met l yL_changeBowls (Cond.codeWith yL_changeBowls cL_changeBowls 4 (some .int) [(0, 9, 12, 13), (0, 9, 15, 15)] :: wT) ({ frames := 7, cells := 1, slots := 6, locals := 129 } : Room) (wWrX z0 dC dI cyI cyO cyL [.ref (x 0), .int p2, .ref qo] (([[cLo cyL qo 1 fo], (cXo x an tr xv), (cH cyO (x 1) (x 2) 2 fl), (cXk cyI x xv), (cH cyO (x 4) (x 5) 6 fs), (cT cyI x (X_text xv)), (cSo an nv), (cG cyI an (S_green nv)), (cV cyI an (S_score nv)), (cS cyI b0 v0), (cS cyI b1 v1), (cS cyI b2 v2), (cS cyI b3 v3), (cS cyI b4 v4), (cS cyI b5 v5)] : List va_W).flatten) sz) (va_Qi (fun (r : Int32) (u : (Nat → Int64) × XV × SV × SV × SV × SV × SV × SV × SV) => (r, u) = out) (fun u t => va_P (dC, dI) vwCl (([[cLo cyL qo 1 u.1], (cXo x an tr u.2.1), (cH cyO (x 1) (x 2) 2 fl), (cXk cyI x u.2.1), (cH cyO (x 4) (x 5) 6 fs), (cT cyI x (X_text u.2.1)), (cSo an u.2.2.1), (cG cyI an (S_green u.2.2.1)), (cV cyI an (S_score u.2.2.1)), (cS cyI b0 u.2.2.2.1), (cS cyI b1 u.2.2.2.2.1), (cS cyI b2 u.2.2.2.2.2.1), (cS cyI b3 u.2.2.2.2.2.2.1), (cS cyI b4 u.2.2.2.2.2.2.2.1), (cS cyI b5 u.2.2.2.2.2.2.2.2)] : List va_W).flatten) t.heap ∧ va_D (va_A (([[cLo cyL qo 1 fo], (cXo x an tr xv), (cH cyO (x 1) (x 2) 2 fl), (cXk cyI x xv), (cH cyO (x 4) (x 5) 6 fs), (cT cyI x (X_text xv)), (cSo an nv), (cG cyI an (S_green nv)), (cV cyI an (S_score nv)), (cS cyI b0 v0), (cS cyI b1 v1), (cS cyI b2 v2), (cS cyI b3 v3), (cS cyI b4 v4), (cS cyI b5 v5)] : List va_W).flatten) sz) (([[cLo cyL qo 1 u.1], (cXo x an tr u.2.1), (cH cyO (x 1) (x 2) 2 fl), (cXk cyI x u.2.1), (cH cyO (x 4) (x 5) 6 fs), (cT cyI x (X_text u.2.1)), (cSo an u.2.2.1), (cG cyI an (S_green u.2.2.1)), (cV cyI an (S_score u.2.2.1)), (cS cyI b0 u.2.2.2.1), (cS cyI b1 u.2.2.2.2.1), (cS cyI b2 u.2.2.2.2.2.1), (cS cyI b3 u.2.2.2.2.2.2.1), (cS cyI b4 u.2.2.2.2.2.2.2.1), (cS cyI b5 u.2.2.2.2.2.2.2.2)] : List va_W).flatten)) (va_A (([[cLo cyL qo 1 fo], (cXo x an tr xv), (cH cyO (x 1) (x 2) 2 fl), (cXk cyI x xv), (cH cyO (x 4) (x 5) 6 fs), (cT cyI x (X_text xv)), (cSo an nv), (cG cyI an (S_green nv)), (cV cyI an (S_score nv)), (cS cyI b0 v0), (cS cyI b1 v1), (cS cyI b2 v2), (cS cyI b3 v3), (cS cyI b4 v4), (cS cyI b5 v5)] : List va_W).flatten) sz)) 1 6 (va_A (([[cLo cyL qo 1 fo], (cXo x an tr xv), (cH cyO (x 1) (x 2) 2 fl), (cXk cyI x xv), (cH cyO (x 4) (x 5) 6 fs), (cT cyI x (X_text xv)), (cSo an nv), (cG cyI an (S_green nv)), (cV cyI an (S_score nv)), (cS cyI b0 v0), (cS cyI b1 v1), (cS cyI b2 v2), (cS cyI b3 v3), (cS cyI b4 v4), (cS cyI b5 v5)] : List va_W).flatten) sz) := by
  refine Met.ofWH (cc := cL_changeBowls) (maxL := 4) (ret := (some .int)) (by decide) rfl ?_
  intro p e s m args below meth c s₁ B hml hv
  obtain ⟨rfl, hsz, hP, hK, hD0, hz0, hZ⟩ := hv
  have hTab := vx_table (x := yL_changeBowls) B (atoms_spec (ws := (Cond.codeWith yL_changeBowls cL_changeBowls 4 (some .int) [(0, 9, 12, 13), (0, 9, 15, 15)] :: wT)) B.pre _ List.mem_cons_self)
  have hx := B.exec
  have hb := B.bytes
  have hr := B.returns
  have hts0 := atoms_spec (ws := (Cond.codeWith yL_changeBowls cL_changeBowls 4 (some .int) [(0, 9, 12, 13), (0, 9, 15, 15)] :: wT)) B.pre
  have hts := fun w h => hts0 w (List.mem_cons_of_mem _ h)
  clear hts0
  have hown : s.vm.findClass RL = some m.cls := findClass_of_methodNamed B.named
  have hlocks := B.notSynchronized
  subst hsz
  have hD := hD0.self (sz := s.heap.size)
  have hAz := wA_ge hD0 hz0
  generalize hAe : va_A (([[cLo cyL qo 1 fo], (cXo x an tr xv), (cH cyO (x 1) (x 2) 2 fl), (cXk cyI x xv), (cH cyO (x 4) (x 5) 6 fs), (cT cyI x (X_text xv)), (cSo an nv), (cG cyI an (S_green nv)), (cV cyI an (S_score nv)), (cS cyI b0 v0), (cS cyI b1 v1), (cS cyI b2 v2), (cS cyI b3 v3), (cS cyI b4 v4), (cS cyI b5 v5)] : List va_W).flatten) s.heap.size = A at hD hAz ⊢
  have hA : ∀ q : Nat, s.heap.size ≤ q → A q := fun q h => by rw [← hAe]; exact Or.inr h
  clear hD0
  have hS : va_S A s.heap s.heap [] := va_S.rf
  have hl := lv_entry [.ref (x 0), .int p2, .ref qo] (n := 4) (Nat.le_of_ble_eq_true rfl)
  rw [lg_entry_eq]
  generalize (lg_sl [.ref (x 0), .int p2, .ref qo] ++ List.replicate (4 - (lg_sl [.ref (x 0), .int p2, .ref qo]).length) Slot.unset).toArray = ls at hl ⊢
  have hl : lv_has ls 4 [(0, .ref (x 0)), (1, .int p2), (2, .ref qo)] := hl
  unfold f_L_changeBowls at hF
  refine lv_aload_n hx hb dL_changeBowls_0 rfl (lv_at hl 2 rfl) ?_
  refine lv_iconst (v := 0) hx hb dL_changeBowls_1 (by decide) ?_
  refine lv_aload_n hx hb dL_changeBowls_2 rfl (lv_at hl 0 rfl) ?_
  refine lv_iload_n hx hb dL_changeBowls_3 rfl (lv_at hl 1 rfl) ?_
  obtain ⟨o1, h2, hF⟩ := obd hF
  refine wxPVi (As := [.int p2]) (rest := [.int (0 : Int32), .ref qo]) (wr := ([[cLo cyL qo 1 fo]] : List va_W).flatten) (b := (x 0)) ⟨hx, hb, hml, hown, hts⟩ (met_X5_changeBowls l z0 hst dC dI cyI cyO cyL x tr an b0 b1 b2 b3 b4 b5 fl fs _ N xv nv v0 v1 v2 v3 v4 v5 p2 hs0 hs1 hs2 hs3 hs4 hs5 o1 h2) (cwV 1 hts (gV w_methodLink_L_28 w_instanceMethod_X5_changeBowls w_selects_X5_changeBowls w_initialized_X5 w_code_X5_changeBowls) rfl rfl rfl (by decide +kernel) ⟨Nat.le_of_ble_eq_true rfl, Nat.le_of_ble_eq_true rfl⟩) (va_recv hK.1 hP (ci := 5) (q0 := 1) rfl rfl) hP hD hK hZ hAz hz0 (seg_perm (n := 15) (R := [[cLo cyL qo 1 fo]]) (C := [(cXo x an tr xv), (cH cyO (x 1) (x 2) 2 fl), (cXk cyI x xv), (cH cyO (x 4) (x 5) 6 fs), (cT cyI x (X_text xv)), (cSo an nv), (cG cyI an (S_green nv)), (cV cyI an (S_score nv)), (cS cyI b0 v0), (cS cyI b1 v1), (cS cyI b2 v2), (cS cyI b3 v3), (cS cyI b4 v4), (cS cyI b5 v5)]) [0] [1, 2, 3, 4, 5, 6, 7, 8, 9, 10, 11, 12, 13, 14] rfl rfl rfl (by decide) rfl) rfl hl.1 (Nat.le_of_ble_eq_true rfl) dL_changeBowls_4 ⟨Nat.le_of_ble_eq_true rfl, Nat.le_of_ble_eq_true rfl⟩ hS hA (fun k u ce q9 H locs hw hP hD hS h9 hv9 hc9 => ?_) (fun ro1 u H locs hw hP hD hS => ?_)
  · obtain rfl : u = o1.2 := congrArg Prod.snd hw
    have hw1 : Sum.inl k = o1.1 := congrArg Prod.fst hw
    rw [← hw1] at hF
    have hF := exc_l hF
    have hq := seg_permS (segs := [[cLo cyL qo 1 fo], (cXo x an tr o1.2.1), (cH cyO (x 1) (x 2) 2 fl), (cXk cyI x o1.2.1), (cH cyO (x 4) (x 5) 6 fs), (cT cyI x (X_text o1.2.1)), (cSo an o1.2.2.1), (cG cyI an (S_green o1.2.2.1)), (cV cyI an (S_score o1.2.2.1)), (cS cyI b0 o1.2.2.2.1), (cS cyI b1 o1.2.2.2.2.1), (cS cyI b2 o1.2.2.2.2.2.1), (cS cyI b3 o1.2.2.2.2.2.2.1), (cS cyI b4 o1.2.2.2.2.2.2.2.1), (cS cyI b5 o1.2.2.2.2.2.2.2.2)]) (R := [[cLo cyL qo 1 fo]]) (C := [(cXo x an tr o1.2.1), (cH cyO (x 1) (x 2) 2 fl), (cXk cyI x o1.2.1), (cH cyO (x 4) (x 5) 6 fs), (cT cyI x (X_text o1.2.1)), (cSo an o1.2.2.1), (cG cyI an (S_green o1.2.2.1)), (cV cyI an (S_score o1.2.2.1)), (cS cyI b0 o1.2.2.2.1), (cS cyI b1 o1.2.2.2.2.1), (cS cyI b2 o1.2.2.2.2.2.1), (cS cyI b3 o1.2.2.2.2.2.2.1), (cS cyI b4 o1.2.2.2.2.2.2.2.1), (cS cyI b5 o1.2.2.2.2.2.2.2.2)]) (n := 15) [0] [1, 2, 3, 4, 5, 6, 7, 8, 9, 10, 11, 12, 13, 14] rfl rfl rfl (by decide)
    have hP : va_P (dC, dI) vwCl (([[cLo cyL qo 1 fo], (cXo x an tr o1.2.1), (cH cyO (x 1) (x 2) 2 fl), (cXk cyI x o1.2.1), (cH cyO (x 4) (x 5) 6 fs), (cT cyI x (X_text o1.2.1)), (cSo an o1.2.2.1), (cG cyI an (S_green o1.2.2.1)), (cV cyI an (S_score o1.2.2.1)), (cS cyI b0 o1.2.2.2.1), (cS cyI b1 o1.2.2.2.2.1), (cS cyI b2 o1.2.2.2.2.2.1), (cS cyI b3 o1.2.2.2.2.2.2.1), (cS cyI b4 o1.2.2.2.2.2.2.2.1), (cS cyI b5 o1.2.2.2.2.2.2.2.2)] : List va_W).flatten) H := hP.perm hq
    have hD : va_D A (([[cLo cyL qo 1 fo], (cXo x an tr o1.2.1), (cH cyO (x 1) (x 2) 2 fl), (cXk cyI x o1.2.1), (cH cyO (x 4) (x 5) 6 fs), (cT cyI x (X_text o1.2.1)), (cSo an o1.2.2.1), (cG cyI an (S_green o1.2.2.1)), (cV cyI an (S_score o1.2.2.1)), (cS cyI b0 o1.2.2.2.1), (cS cyI b1 o1.2.2.2.2.1), (cS cyI b2 o1.2.2.2.2.2.1), (cS cyI b3 o1.2.2.2.2.2.2.1), (cS cyI b4 o1.2.2.2.2.2.2.2.1), (cS cyI b5 o1.2.2.2.2.2.2.2.2)] : List va_W).flatten) := hD.perm hq
    clear hq
    by_cases c3 : k = 0
    · subst c3
      have hF := itp rfl hF
      refine vx_catch (E := eIA) (name := eIA) hown [] ⟨0, 9, 12, 13⟩ [⟨0, 9, 15, 15⟩] hTab (fun z hz => nomatch hz) (by decide) (by decide) (hts _ w_classLink_L_13) (hZ.2.2.2.1.use _ (by decide)) h9 hv9 hc9 ?_
      refine lv_astore_n (lv' := [(3, .ref q9), (0, .ref (x 0)), (1, .int p2), (2, .ref qo)]) hx hb dL_changeBowls_12 rfl hl (by decide) rfl (fun ls hl => ?_)
      refine lv_iconst (v := 1) hx hb dL_changeBowls_13 (by decide) ?_
      refine W.widen (k := 1) (n := 6) (Nat.le_of_ble_eq_true rfl) (Nat.le_of_ble_eq_true rfl) ?_
      exact W.iret (v := (1 : Int32)) hx hb hr (fun t ht hW => ⟨⟨_, (fo, o1.2.1, o1.2.2.1, o1.2.2.2.1, o1.2.2.2.2.1, o1.2.2.2.2.2.1, o1.2.2.2.2.2.2.1, o1.2.2.2.2.2.2.2.1, o1.2.2.2.2.2.2.2.2), rfl, Option.some.inj hF, by rw [ht]; exact hP, hD⟩, hS.F ht⟩) hS.2.2 dL_changeBowls_14
    · have hF := itn c3 hF
      by_cases c4 : k = 1
      · subst c4
        have hF := itp rfl hF
        refine vx_catch (E := eIS) (name := eIS) hown [⟨0, 9, 12, 13⟩] ⟨0, 9, 15, 15⟩ [] hTab (fun z hz => by obtain rfl := List.mem_singleton.mp hz; exact Or.inr ⟨by decide, _, hts _ w_classLink_L_13, hZ.2.2.2.2 (eIS, eIA) (by decide)⟩) (by decide) (by decide) (hts _ w_classLink_L_15) (hZ.2.2.2.1.use _ (by decide)) h9 hv9 hc9 ?_
        refine lv_astore_n (lv' := [(3, .ref q9), (0, .ref (x 0)), (1, .int p2), (2, .ref qo)]) hx hb dL_changeBowls_15 rfl hl (by decide) rfl (fun ls hl => ?_)
        refine lv_iconst (v := 2) hx hb dL_changeBowls_16 (by decide) ?_
        refine W.widen (k := 1) (n := 6) (Nat.le_of_ble_eq_true rfl) (Nat.le_of_ble_eq_true rfl) ?_
        exact W.iret (v := (2 : Int32)) hx hb hr (fun t ht hW => ⟨⟨_, (fo, o1.2.1, o1.2.2.1, o1.2.2.2.1, o1.2.2.2.2.1, o1.2.2.2.2.2.1, o1.2.2.2.2.2.2.1, o1.2.2.2.2.2.2.2.1, o1.2.2.2.2.2.2.2.2), rfl, Option.some.inj hF, by rw [ht]; exact hP, hD⟩, hS.F ht⟩) hS.2.2 dL_changeBowls_17
      · have hF := itn c4 hF
        cases hF
  · skip
    obtain rfl : u = o1.2 := congrArg Prod.snd hw
    have hw1 : Sum.inr ro1 = o1.1 := congrArg Prod.fst hw
    rw [← hw1] at hF
    have hF := exc_r hF
    have hq := seg_permS (segs := [[cLo cyL qo 1 fo], (cXo x an tr o1.2.1), (cH cyO (x 1) (x 2) 2 fl), (cXk cyI x o1.2.1), (cH cyO (x 4) (x 5) 6 fs), (cT cyI x (X_text o1.2.1)), (cSo an o1.2.2.1), (cG cyI an (S_green o1.2.2.1)), (cV cyI an (S_score o1.2.2.1)), (cS cyI b0 o1.2.2.2.1), (cS cyI b1 o1.2.2.2.2.1), (cS cyI b2 o1.2.2.2.2.2.1), (cS cyI b3 o1.2.2.2.2.2.2.1), (cS cyI b4 o1.2.2.2.2.2.2.2.1), (cS cyI b5 o1.2.2.2.2.2.2.2.2)]) (R := [[cLo cyL qo 1 fo]]) (C := [(cXo x an tr o1.2.1), (cH cyO (x 1) (x 2) 2 fl), (cXk cyI x o1.2.1), (cH cyO (x 4) (x 5) 6 fs), (cT cyI x (X_text o1.2.1)), (cSo an o1.2.2.1), (cG cyI an (S_green o1.2.2.1)), (cV cyI an (S_score o1.2.2.1)), (cS cyI b0 o1.2.2.2.1), (cS cyI b1 o1.2.2.2.2.1), (cS cyI b2 o1.2.2.2.2.2.1), (cS cyI b3 o1.2.2.2.2.2.2.1), (cS cyI b4 o1.2.2.2.2.2.2.2.1), (cS cyI b5 o1.2.2.2.2.2.2.2.2)]) (n := 15) [0] [1, 2, 3, 4, 5, 6, 7, 8, 9, 10, 11, 12, 13, 14] rfl rfl rfl (by decide)
    have hP : va_P (dC, dI) vwCl (([[cLo cyL qo 1 fo], (cXo x an tr o1.2.1), (cH cyO (x 1) (x 2) 2 fl), (cXk cyI x o1.2.1), (cH cyO (x 4) (x 5) 6 fs), (cT cyI x (X_text o1.2.1)), (cSo an o1.2.2.1), (cG cyI an (S_green o1.2.2.1)), (cV cyI an (S_score o1.2.2.1)), (cS cyI b0 o1.2.2.2.1), (cS cyI b1 o1.2.2.2.2.1), (cS cyI b2 o1.2.2.2.2.2.1), (cS cyI b3 o1.2.2.2.2.2.2.1), (cS cyI b4 o1.2.2.2.2.2.2.2.1), (cS cyI b5 o1.2.2.2.2.2.2.2.2)] : List va_W).flatten) H := hP.perm hq
    have hD : va_D A (([[cLo cyL qo 1 fo], (cXo x an tr o1.2.1), (cH cyO (x 1) (x 2) 2 fl), (cXk cyI x o1.2.1), (cH cyO (x 4) (x 5) 6 fs), (cT cyI x (X_text o1.2.1)), (cSo an o1.2.2.1), (cG cyI an (S_green o1.2.2.1)), (cV cyI an (S_score o1.2.2.1)), (cS cyI b0 o1.2.2.2.1), (cS cyI b1 o1.2.2.2.2.1), (cS cyI b2 o1.2.2.2.2.2.1), (cS cyI b3 o1.2.2.2.2.2.2.1), (cS cyI b4 o1.2.2.2.2.2.2.2.1), (cS cyI b5 o1.2.2.2.2.2.2.2.2)] : List va_W).flatten) := hD.perm hq
    clear hq
    refine lv_i2l (v := (ro1).toInt64) hx hb dL_changeBowls_7 rfl ?_
    refine va_last hx hb hK.1 hP hD hS 0 2 rfl rfl (i := (0 : Int32)) (x := ((ro1).toInt64)) (show ixok (0 : Int32) 1 by decide) dL_changeBowls_8 (fun H locs hP hD hS => ?_)
    have hP : va_P (dC, dI) vwCl (([[cLo cyL qo 1 (vp_updL fo (0 : Int32).toNatClampNeg ((ro1).toInt64))], (cXo x an tr o1.2.1), (cH cyO (x 1) (x 2) 2 fl), (cXk cyI x o1.2.1), (cH cyO (x 4) (x 5) 6 fs), (cT cyI x (X_text o1.2.1)), (cSo an o1.2.2.1), (cG cyI an (S_green o1.2.2.1)), (cV cyI an (S_score o1.2.2.1)), (cS cyI b0 o1.2.2.2.1), (cS cyI b1 o1.2.2.2.2.1), (cS cyI b2 o1.2.2.2.2.2.1), (cS cyI b3 o1.2.2.2.2.2.2.1), (cS cyI b4 o1.2.2.2.2.2.2.2.1), (cS cyI b5 o1.2.2.2.2.2.2.2.2)] : List va_W).flatten) H := hP
    have hD : va_D A (([[cLo cyL qo 1 (vp_updL fo (0 : Int32).toNatClampNeg ((ro1).toInt64))], (cXo x an tr o1.2.1), (cH cyO (x 1) (x 2) 2 fl), (cXk cyI x o1.2.1), (cH cyO (x 4) (x 5) 6 fs), (cT cyI x (X_text o1.2.1)), (cSo an o1.2.2.1), (cG cyI an (S_green o1.2.2.1)), (cV cyI an (S_score o1.2.2.1)), (cS cyI b0 o1.2.2.2.1), (cS cyI b1 o1.2.2.2.2.1), (cS cyI b2 o1.2.2.2.2.2.1), (cS cyI b3 o1.2.2.2.2.2.2.1), (cS cyI b4 o1.2.2.2.2.2.2.2.1), (cS cyI b5 o1.2.2.2.2.2.2.2.2)] : List va_W).flatten) := hD
    refine lv_goto (tgt := 18) hx hb dL_changeBowls_9 (by decide) ?_
    refine lv_iconst (v := 0) hx hb dL_changeBowls_18 (by decide) ?_
    refine W.widen (k := 1) (n := 6) (Nat.le_of_ble_eq_true rfl) (Nat.le_of_ble_eq_true rfl) ?_
    exact W.iret (v := (0 : Int32)) hx hb hr (fun t ht hW => ⟨⟨_, ((vp_updL fo (0 : Int32).toNatClampNeg ((ro1).toInt64)), o1.2.1, o1.2.2.1, o1.2.2.2.1, o1.2.2.2.2.1, o1.2.2.2.2.2.1, o1.2.2.2.2.2.2.1, o1.2.2.2.2.2.2.2.1, o1.2.2.2.2.2.2.2.2), rfl, Option.some.inj hF, by rw [ht]; exact hP, hD⟩, hS.F ht⟩) hS.2.2 dL_changeBowls_19
theorem dL_changeWind_0 : decode cL_changeWind 0 = .ok (.aload_n 2, 1) := by decide +kernel
theorem dL_changeWind_1 : decode cL_changeWind 1 = .ok (.iconst 0, 1) := by decide +kernel
theorem dL_changeWind_2 : decode cL_changeWind 2 = .ok (.aload_n 0, 1) := by decide +kernel
theorem dL_changeWind_3 : decode cL_changeWind 3 = .ok (.iload_n 1, 1) := by decide +kernel
theorem dL_changeWind_4 : decode cL_changeWind 4 = .ok (.invokevirtual 31, 3) := by decide +kernel
theorem dL_changeWind_7 : decode cL_changeWind 7 = .ok (.i2l, 1) := by decide +kernel
theorem dL_changeWind_8 : decode cL_changeWind 8 = .ok (.lastore, 1) := by decide +kernel
theorem dL_changeWind_9 : decode cL_changeWind 9 = .ok (.goto 6, 3) := by decide +kernel
theorem dL_changeWind_12 : decode cL_changeWind 12 = .ok (.astore_n 3, 1) := by decide +kernel
theorem dL_changeWind_13 : decode cL_changeWind 13 = .ok (.iconst 1, 1) := by decide +kernel
theorem dL_changeWind_14 : decode cL_changeWind 14 = .ok (.ireturn, 1) := by decide +kernel
theorem dL_changeWind_15 : decode cL_changeWind 15 = .ok (.iconst 0, 1) := by decide +kernel
theorem dL_changeWind_16 : decode cL_changeWind 16 = .ok (.ireturn, 1) := by decide +kernel
def f_L_changeWind (N : Nat) (fo : (Nat → Int64)) (xv : XV) (nv : SV) (v0 : SV) (v1 : SV) (v2 : SV) (v3 : SV) (v4 : SV) (v5 : SV) (p2 : Int32) : Option (Int32 × ((Nat → Int64) × XV × SV × SV × SV × SV × SV × SV × SV)) :=
  (f_X5_changeWind N xv nv v0 v1 v2 v3 v4 v5 p2).bind (fun o1 => exc o1.1 (fun k => (if k = 0 then some ((1 : Int32), (fo, o1.2.1, o1.2.2.1, o1.2.2.2.1, o1.2.2.2.2.1, o1.2.2.2.2.2.1, o1.2.2.2.2.2.2.1, o1.2.2.2.2.2.2.2.1, o1.2.2.2.2.2.2.2.2)) else none)) (fun (ro1 : Int32) => some ((0 : Int32), ((vp_updL fo (0 : Int32).toNatClampNeg ((ro1).toInt64)), o1.2.1, o1.2.2.1, o1.2.2.2.1, o1.2.2.2.2.1, o1.2.2.2.2.2.1, o1.2.2.2.2.2.2.1, o1.2.2.2.2.2.2.2.1, o1.2.2.2.2.2.2.2.2))))
set_option maxHeartbeats 4000000 in
set_option maxRecDepth 100000 in
theorem met_L_changeWind (l : Launch) (z0 : Nat) (hst : l.stackTraces = false) (dC : Nat → ClassId) (dI : Nat → Nat → Nat) (cyI cyO cyL : ClassId) (qo : Nat) (x : Nat → Nat) (tr : Nat → Nat) (an : Nat → Nat) (b0 : Nat → Nat) (b1 : Nat → Nat) (b2 : Nat → Nat) (b3 : Nat → Nat) (b4 : Nat → Nat) (b5 : Nat → Nat) (fl fs : Nat → Option Nat) (sz : Nat) (N : Nat) (fo : (Nat → Int64)) (xv : XV) (nv : SV) (v0 : SV) (v1 : SV) (v2 : SV) (v3 : SV) (v4 : SV) (v5 : SV) (p2 : Int32) (hs0 : fs 0 = some (b0 0)) (hs1 : fs 1 = some (b1 0)) (hs2 : fs 2 = some (b2 0)) (hs3 : fs 3 = some (b3 0)) (hs4 : fs 4 = some (b4 0)) (hs5 : fs 5 = some (b5 0)) (out : Int32 × ((Nat → Int64) × XV × SV × SV × SV × SV × SV × SV × SV)) (hF : f_L_changeWind N fo xv nv v0 v1 v2 v3 v4 v5 p2 = some out) : Met l yL_changeWind (Cond.codeWith yL_changeWind cL_changeWind 4 (some .int) [(0, 9, 12, 13)] :: wT) ({ frames := 7, cells := 1, slots := 6, locals := 129 } : Room) (wWrX z0 dC dI cyI cyO cyL [.ref (x 0), .int p2, .ref qo] (([[cLo cyL qo 1 fo], (cXo x an tr xv), (cH cyO (x 1) (x 2) 2 fl), (cXk cyI x xv), (cH cyO (x 4) (x 5) 6 fs), (cT cyI x (X_text xv)), (cSo an nv), (cG cyI an (S_green nv)), (cV cyI an (S_score nv)), (cS cyI b0 v0), (cS cyI b1 v1), (cS cyI b2 v2), (cS cyI b3 v3), (cS cyI b4 v4), (cS cyI b5 v5)] : List va_W).flatten) sz) (va_Qi (fun (r : Int32) (u : (Nat → Int64) × XV × SV × SV × SV × SV × SV × SV × SV) => (r, u) = out) (fun u t => va_P (dC, dI) vwCl (([[cLo cyL qo 1 u.1], (cXo x an tr u.2.1), (cH cyO (x 1) (x 2) 2 fl), (cXk cyI x u.2.1), (cH cyO (x 4) (x 5) 6 fs), (cT cyI x (X_text u.2.1)), (cSo an u.2.2.1), (cG cyI an (S_green u.2.2.1)), (cV cyI an (S_score u.2.2.1)), (cS cyI b0 u.2.2.2.1), (cS cyI b1 u.2.2.2.2.1), (cS cyI b2 u.2.2.2.2.2.1), (cS cyI b3 u.2.2.2.2.2.2.1), (cS cyI b4 u.2.2.2.2.2.2.2.1), (cS cyI b5 u.2.2.2.2.2.2.2.2)] : List va_W).flatten) t.heap ∧ va_D (va_A (([[cLo cyL qo 1 fo], (cXo x an tr xv), (cH cyO (x 1) (x 2) 2 fl), (cXk cyI x xv), (cH cyO (x 4) (x 5) 6 fs), (cT cyI x (X_text xv)), (cSo an nv), (cG cyI an (S_green nv)), (cV cyI an (S_score nv)), (cS cyI b0 v0), (cS cyI b1 v1), (cS cyI b2 v2), (cS cyI b3 v3), (cS cyI b4 v4), (cS cyI b5 v5)] : List va_W).flatten) sz) (([[cLo cyL qo 1 u.1], (cXo x an tr u.2.1), (cH cyO (x 1) (x 2) 2 fl), (cXk cyI x u.2.1), (cH cyO (x 4) (x 5) 6 fs), (cT cyI x (X_text u.2.1)), (cSo an u.2.2.1), (cG cyI an (S_green u.2.2.1)), (cV cyI an (S_score u.2.2.1)), (cS cyI b0 u.2.2.2.1), (cS cyI b1 u.2.2.2.2.1), (cS cyI b2 u.2.2.2.2.2.1), (cS cyI b3 u.2.2.2.2.2.2.1), (cS cyI b4 u.2.2.2.2.2.2.2.1), (cS cyI b5 u.2.2.2.2.2.2.2.2)] : List va_W).flatten)) (va_A (([[cLo cyL qo 1 fo], (cXo x an tr xv), (cH cyO (x 1) (x 2) 2 fl), (cXk cyI x xv), (cH cyO (x 4) (x 5) 6 fs), (cT cyI x (X_text xv)), (cSo an nv), (cG cyI an (S_green nv)), (cV cyI an (S_score nv)), (cS cyI b0 v0), (cS cyI b1 v1), (cS cyI b2 v2), (cS cyI b3 v3), (cS cyI b4 v4), (cS cyI b5 v5)] : List va_W).flatten) sz)) 1 6 (va_A (([[cLo cyL qo 1 fo], (cXo x an tr xv), (cH cyO (x 1) (x 2) 2 fl), (cXk cyI x xv), (cH cyO (x 4) (x 5) 6 fs), (cT cyI x (X_text xv)), (cSo an nv), (cG cyI an (S_green nv)), (cV cyI an (S_score nv)), (cS cyI b0 v0), (cS cyI b1 v1), (cS cyI b2 v2), (cS cyI b3 v3), (cS cyI b4 v4), (cS cyI b5 v5)] : List va_W).flatten) sz) := by
  refine Met.ofWH (cc := cL_changeWind) (maxL := 4) (ret := (some .int)) (by decide) rfl ?_
  intro p e s m args below meth c s₁ B hml hv
  obtain ⟨rfl, hsz, hP, hK, hD0, hz0, hZ⟩ := hv
  have hTab := vx_table (x := yL_changeWind) B (atoms_spec (ws := (Cond.codeWith yL_changeWind cL_changeWind 4 (some .int) [(0, 9, 12, 13)] :: wT)) B.pre _ List.mem_cons_self)
  have hx := B.exec
  have hb := B.bytes
  have hr := B.returns
  have hts0 := atoms_spec (ws := (Cond.codeWith yL_changeWind cL_changeWind 4 (some .int) [(0, 9, 12, 13)] :: wT)) B.pre
  have hts := fun w h => hts0 w (List.mem_cons_of_mem _ h)
  clear hts0
  have hown : s.vm.findClass RL = some m.cls := findClass_of_methodNamed B.named
  have hlocks := B.notSynchronized
  subst hsz
  have hD := hD0.self (sz := s.heap.size)
  have hAz := wA_ge hD0 hz0
  generalize hAe : va_A (([[cLo cyL qo 1 fo], (cXo x an tr xv), (cH cyO (x 1) (x 2) 2 fl), (cXk cyI x xv), (cH cyO (x 4) (x 5) 6 fs), (cT cyI x (X_text xv)), (cSo an nv), (cG cyI an (S_green nv)), (cV cyI an (S_score nv)), (cS cyI b0 v0), (cS cyI b1 v1), (cS cyI b2 v2), (cS cyI b3 v3), (cS cyI b4 v4), (cS cyI b5 v5)] : List va_W).flatten) s.heap.size = A at hD hAz ⊢
  have hA : ∀ q : Nat, s.heap.size ≤ q → A q := fun q h => by rw [← hAe]; exact Or.inr h
  clear hD0
  have hS : va_S A s.heap s.heap [] := va_S.rf
  have hl := lv_entry [.ref (x 0), .int p2, .ref qo] (n := 4) (Nat.le_of_ble_eq_true rfl)
  rw [lg_entry_eq]
  generalize (lg_sl [.ref (x 0), .int p2, .ref qo] ++ List.replicate (4 - (lg_sl [.ref (x 0), .int p2, .ref qo]).length) Slot.unset).toArray = ls at hl ⊢
  have hl : lv_has ls 4 [(0, .ref (x 0)), (1, .int p2), (2, .ref qo)] := hl
  unfold f_L_changeWind at hF
  refine lv_aload_n hx hb dL_changeWind_0 rfl (lv_at hl 2 rfl) ?_
  refine lv_iconst (v := 0) hx hb dL_changeWind_1 (by decide) ?_
  refine lv_aload_n hx hb dL_changeWind_2 rfl (lv_at hl 0 rfl) ?_
  refine lv_iload_n hx hb dL_changeWind_3 rfl (lv_at hl 1 rfl) ?_
  obtain ⟨o1, h2, hF⟩ := obd hF
  refine wxPVi (As := [.int p2]) (rest := [.int (0 : Int32), .ref qo]) (wr := ([[cLo cyL qo 1 fo]] : List va_W).flatten) (b := (x 0)) ⟨hx, hb, hml, hown, hts⟩ (met_X5_changeWind l z0 hst dC dI cyI cyO cyL x tr an b0 b1 b2 b3 b4 b5 fl fs _ N xv nv v0 v1 v2 v3 v4 v5 p2 hs0 hs1 hs2 hs3 hs4 hs5 o1 h2) (cwV 1 hts (gV w_methodLink_L_31 w_instanceMethod_X5_changeWind w_selects_X5_changeWind w_initialized_X5 w_code_X5_changeWind) rfl rfl rfl (by decide +kernel) ⟨Nat.le_of_ble_eq_true rfl, Nat.le_of_ble_eq_true rfl⟩) (va_recv hK.1 hP (ci := 5) (q0 := 1) rfl rfl) hP hD hK hZ hAz hz0 (seg_perm (n := 15) (R := [[cLo cyL qo 1 fo]]) (C := [(cXo x an tr xv), (cH cyO (x 1) (x 2) 2 fl), (cXk cyI x xv), (cH cyO (x 4) (x 5) 6 fs), (cT cyI x (X_text xv)), (cSo an nv), (cG cyI an (S_green nv)), (cV cyI an (S_score nv)), (cS cyI b0 v0), (cS cyI b1 v1), (cS cyI b2 v2), (cS cyI b3 v3), (cS cyI b4 v4), (cS cyI b5 v5)]) [0] [1, 2, 3, 4, 5, 6, 7, 8, 9, 10, 11, 12, 13, 14] rfl rfl rfl (by decide) rfl) rfl hl.1 (Nat.le_of_ble_eq_true rfl) dL_changeWind_4 ⟨Nat.le_of_ble_eq_true rfl, Nat.le_of_ble_eq_true rfl⟩ hS hA (fun k u ce q9 H locs hw hP hD hS h9 hv9 hc9 => ?_) (fun ro1 u H locs hw hP hD hS => ?_)
  · obtain rfl : u = o1.2 := congrArg Prod.snd hw
    have hw1 : Sum.inl k = o1.1 := congrArg Prod.fst hw
    rw [← hw1] at hF
    have hF := exc_l hF
    have hq := seg_permS (segs := [[cLo cyL qo 1 fo], (cXo x an tr o1.2.1), (cH cyO (x 1) (x 2) 2 fl), (cXk cyI x o1.2.1), (cH cyO (x 4) (x 5) 6 fs), (cT cyI x (X_text o1.2.1)), (cSo an o1.2.2.1), (cG cyI an (S_green o1.2.2.1)), (cV cyI an (S_score o1.2.2.1)), (cS cyI b0 o1.2.2.2.1), (cS cyI b1 o1.2.2.2.2.1), (cS cyI b2 o1.2.2.2.2.2.1), (cS cyI b3 o1.2.2.2.2.2.2.1), (cS cyI b4 o1.2.2.2.2.2.2.2.1), (cS cyI b5 o1.2.2.2.2.2.2.2.2)]) (R := [[cLo cyL qo 1 fo]]) (C := [(cXo x an tr o1.2.1), (cH cyO (x 1) (x 2) 2 fl), (cXk cyI x o1.2.1), (cH cyO (x 4) (x 5) 6 fs), (cT cyI x (X_text o1.2.1)), (cSo an o1.2.2.1), (cG cyI an (S_green o1.2.2.1)), (cV cyI an (S_score o1.2.2.1)), (cS cyI b0 o1.2.2.2.1), (cS cyI b1 o1.2.2.2.2.1), (cS cyI b2 o1.2.2.2.2.2.1), (cS cyI b3 o1.2.2.2.2.2.2.1), (cS cyI b4 o1.2.2.2.2.2.2.2.1), (cS cyI b5 o1.2.2.2.2.2.2.2.2)]) (n := 15) [0] [1, 2, 3, 4, 5, 6, 7, 8, 9, 10, 11, 12, 13, 14] rfl rfl rfl (by decide)
    have hP : va_P (dC, dI) vwCl (([[cLo cyL qo 1 fo], (cXo x an tr o1.2.1), (cH cyO (x 1) (x 2) 2 fl), (cXk cyI x o1.2.1), (cH cyO (x 4) (x 5) 6 fs), (cT cyI x (X_text o1.2.1)), (cSo an o1.2.2.1), (cG cyI an (S_green o1.2.2.1)), (cV cyI an (S_score o1.2.2.1)), (cS cyI b0 o1.2.2.2.1), (cS cyI b1 o1.2.2.2.2.1), (cS cyI b2 o1.2.2.2.2.2.1), (cS cyI b3 o1.2.2.2.2.2.2.1), (cS cyI b4 o1.2.2.2.2.2.2.2.1), (cS cyI b5 o1.2.2.2.2.2.2.2.2)] : List va_W).flatten) H := hP.perm hq
    have hD : va_D A (([[cLo cyL qo 1 fo], (cXo x an tr o1.2.1), (cH cyO (x 1) (x 2) 2 fl), (cXk cyI x o1.2.1), (cH cyO (x 4) (x 5) 6 fs), (cT cyI x (X_text o1.2.1)), (cSo an o1.2.2.1), (cG cyI an (S_green o1.2.2.1)), (cV cyI an (S_score o1.2.2.1)), (cS cyI b0 o1.2.2.2.1), (cS cyI b1 o1.2.2.2.2.1), (cS cyI b2 o1.2.2.2.2.2.1), (cS cyI b3 o1.2.2.2.2.2.2.1), (cS cyI b4 o1.2.2.2.2.2.2.2.1), (cS cyI b5 o1.2.2.2.2.2.2.2.2)] : List va_W).flatten) := hD.perm hq
    clear hq
    by_cases c3 : k = 0
    · subst c3
      have hF := itp rfl hF
      refine vx_catch (E := eIA) (name := eIA) hown [] ⟨0, 9, 12, 13⟩ [] hTab (fun z hz => nomatch hz) (by decide) (by decide) (hts _ w_classLink_L_13) (hZ.2.2.2.1.use _ (by decide)) h9 hv9 hc9 ?_
      refine lv_astore_n (lv' := [(3, .ref q9), (0, .ref (x 0)), (1, .int p2), (2, .ref qo)]) hx hb dL_changeWind_12 rfl hl (by decide) rfl (fun ls hl => ?_)
      refine lv_iconst (v := 1) hx hb dL_changeWind_13 (by decide) ?_
      refine W.widen (k := 1) (n := 6) (Nat.le_of_ble_eq_true rfl) (Nat.le_of_ble_eq_true rfl) ?_
      exact W.iret (v := (1 : Int32)) hx hb hr (fun t ht hW => ⟨⟨_, (fo, o1.2.1, o1.2.2.1, o1.2.2.2.1, o1.2.2.2.2.1, o1.2.2.2.2.2.1, o1.2.2.2.2.2.2.1, o1.2.2.2.2.2.2.2.1, o1.2.2.2.2.2.2.2.2), rfl, Option.some.inj hF, by rw [ht]; exact hP, hD⟩, hS.F ht⟩) hS.2.2 dL_changeWind_14
    · have hF := itn c3 hF
      cases hF
  · skip
    obtain rfl : u = o1.2 := congrArg Prod.snd hw
    have hw1 : Sum.inr ro1 = o1.1 := congrArg Prod.fst hw
    rw [← hw1] at hF
    have hF := exc_r hF
    have hq := seg_permS (segs := [[cLo cyL qo 1 fo], (cXo x an tr o1.2.1), (cH cyO (x 1) (x 2) 2 fl), (cXk cyI x o1.2.1), (cH cyO (x 4) (x 5) 6 fs), (cT cyI x (X_text o1.2.1)), (cSo an o1.2.2.1), (cG cyI an (S_green o1.2.2.1)), (cV cyI an (S_score o1.2.2.1)), (cS cyI b0 o1.2.2.2.1), (cS cyI b1 o1.2.2.2.2.1), (cS cyI b2 o1.2.2.2.2.2.1), (cS cyI b3 o1.2.2.2.2.2.2.1), (cS cyI b4 o1.2.2.2.2.2.2.2.1), (cS cyI b5 o1.2.2.2.2.2.2.2.2)]) (R := [[cLo cyL qo 1 fo]]) (C := [(cXo x an tr o1.2.1), (cH cyO (x 1) (x 2) 2 fl), (cXk cyI x o1.2.1), (cH cyO (x 4) (x 5) 6 fs), (cT cyI x (X_text o1.2.1)), (cSo an o1.2.2.1), (cG cyI an (S_green o1.2.2.1)), (cV cyI an (S_score o1.2.2.1)), (cS cyI b0 o1.2.2.2.1), (cS cyI b1 o1.2.2.2.2.1), (cS cyI b2 o1.2.2.2.2.2.1), (cS cyI b3 o1.2.2.2.2.2.2.1), (cS cyI b4 o1.2.2.2.2.2.2.2.1), (cS cyI b5 o1.2.2.2.2.2.2.2.2)]) (n := 15) [0] [1, 2, 3, 4, 5, 6, 7, 8, 9, 10, 11, 12, 13, 14] rfl rfl rfl (by decide)
    have hP : va_P (dC, dI) vwCl (([[cLo cyL qo 1 fo], (cXo x an tr o1.2.1), (cH cyO (x 1) (x 2) 2 fl), (cXk cyI x o1.2.1), (cH cyO (x 4) (x 5) 6 fs), (cT cyI x (X_text o1.2.1)), (cSo an o1.2.2.1), (cG cyI an (S_green o1.2.2.1)), (cV cyI an (S_score o1.2.2.1)), (cS cyI b0 o1.2.2.2.1), (cS cyI b1 o1.2.2.2.2.1), (cS cyI b2 o1.2.2.2.2.2.1), (cS cyI b3 o1.2.2.2.2.2.2.1), (cS cyI b4 o1.2.2.2.2.2.2.2.1), (cS cyI b5 o1.2.2.2.2.2.2.2.2)] : List va_W).flatten) H := hP.perm hq
    have hD : va_D A (([[cLo cyL qo 1 fo], (cXo x an tr o1.2.1), (cH cyO (x 1) (x 2) 2 fl), (cXk cyI x o1.2.1), (cH cyO (x 4) (x 5) 6 fs), (cT cyI x (X_text o1.2.1)), (cSo an o1.2.2.1), (cG cyI an (S_green o1.2.2.1)), (cV cyI an (S_score o1.2.2.1)), (cS cyI b0 o1.2.2.2.1), (cS cyI b1 o1.2.2.2.2.1), (cS cyI b2 o1.2.2.2.2.2.1), (cS cyI b3 o1.2.2.2.2.2.2.1), (cS cyI b4 o1.2.2.2.2.2.2.2.1), (cS cyI b5 o1.2.2.2.2.2.2.2.2)] : List va_W).flatten) := hD.perm hq
    clear hq
    refine lv_i2l (v := (ro1).toInt64) hx hb dL_changeWind_7 rfl ?_
    refine va_last hx hb hK.1 hP hD hS 0 2 rfl rfl (i := (0 : Int32)) (x := ((ro1).toInt64)) (show ixok (0 : Int32) 1 by decide) dL_changeWind_8 (fun H locs hP hD hS => ?_)
    have hP : va_P (dC, dI) vwCl (([[cLo cyL qo 1 (vp_updL fo (0 : Int32).toNatClampNeg ((ro1).toInt64))], (cXo x an tr o1.2.1), (cH cyO (x 1) (x 2) 2 fl), (cXk cyI x o1.2.1), (cH cyO (x 4) (x 5) 6 fs), (cT cyI x (X_text o1.2.1)), (cSo an o1.2.2.1), (cG cyI an (S_green o1.2.2.1)), (cV cyI an (S_score o1.2.2.1)), (cS cyI b0 o1.2.2.2.1), (cS cyI b1 o1.2.2.2.2.1), (cS cyI b2 o1.2.2.2.2.2.1), (cS cyI b3 o1.2.2.2.2.2.2.1), (cS cyI b4 o1.2.2.2.2.2.2.2.1), (cS cyI b5 o1.2.2.2.2.2.2.2.2)] : List va_W).flatten) H := hP
    have hD : va_D A (([[cLo cyL qo 1 (vp_updL fo (0 : Int32).toNatClampNeg ((ro1).toInt64))], (cXo x an tr o1.2.1), (cH cyO (x 1) (x 2) 2 fl), (cXk cyI x o1.2.1), (cH cyO (x 4) (x 5) 6 fs), (cT cyI x (X_text o1.2.1)), (cSo an o1.2.2.1), (cG cyI an (S_green o1.2.2.1)), (cV cyI an (S_score o1.2.2.1)), (cS cyI b0 o1.2.2.2.1), (cS cyI b1 o1.2.2.2.2.1), (cS cyI b2 o1.2.2.2.2.2.1), (cS cyI b3 o1.2.2.2.2.2.2.1), (cS cyI b4 o1.2.2.2.2.2.2.2.1), (cS cyI b5 o1.2.2.2.2.2.2.2.2)] : List va_W).flatten) := hD
    refine lv_goto (tgt := 15) hx hb dL_changeWind_9 (by decide) ?_
    refine lv_iconst (v := 0) hx hb dL_changeWind_15 (by decide) ?_
    refine W.widen (k := 1) (n := 6) (Nat.le_of_ble_eq_true rfl) (Nat.le_of_ble_eq_true rfl) ?_
    exact W.iret (v := (0 : Int32)) hx hb hr (fun t ht hW => ⟨⟨_, ((vp_updL fo (0 : Int32).toNatClampNeg ((ro1).toInt64)), o1.2.1, o1.2.2.1, o1.2.2.2.1, o1.2.2.2.2.1, o1.2.2.2.2.2.1, o1.2.2.2.2.2.2.1, o1.2.2.2.2.2.2.2.1, o1.2.2.2.2.2.2.2.2), rfl, Option.some.inj hF, by rw [ht]; exact hP, hD⟩, hS.F ht⟩) hS.2.2 dL_changeWind_16
theorem dL_append_0 : decode cL_append 0 = .ok (.aload_n 2, 1) := by decide +kernel
theorem dL_append_1 : decode cL_append 1 = .ok (.iconst 0, 1) := by decide +kernel
theorem dL_append_2 : decode cL_append 2 = .ok (.aload_n 0, 1) := by decide +kernel
theorem dL_append_3 : decode cL_append 3 = .ok (.iload_n 1, 1) := by decide +kernel
theorem dL_append_4 : decode cL_append 4 = .ok (.invokevirtual 34, 3) := by decide +kernel
theorem dL_append_7 : decode cL_append 7 = .ok (.i2l, 1) := by decide +kernel
theorem dL_append_8 : decode cL_append 8 = .ok (.lastore, 1) := by decide +kernel
theorem dL_append_9 : decode cL_append 9 = .ok (.goto 9, 3) := by decide +kernel
theorem dL_append_12 : decode cL_append 12 = .ok (.astore_n 3, 1) := by decide +kernel
theorem dL_append_13 : decode cL_append 13 = .ok (.iconst 1, 1) := by decide +kernel
theorem dL_append_14 : decode cL_append 14 = .ok (.ireturn, 1) := by decide +kernel
theorem dL_append_15 : decode cL_append 15 = .ok (.astore_n 3, 1) := by decide +kernel
theorem dL_append_16 : decode cL_append 16 = .ok (.iconst 2, 1) := by decide +kernel
theorem dL_append_17 : decode cL_append 17 = .ok (.ireturn, 1) := by decide +kernel
theorem dL_append_18 : decode cL_append 18 = .ok (.iconst 0, 1) := by decide +kernel
theorem dL_append_19 : decode cL_append 19 = .ok (.ireturn, 1) := by decide +kernel
def f_L_append (N : Nat) (fo : (Nat → Int64)) (xv : XV) (p2 : Int32) : Option (Int32 × ((Nat → Int64) × XV)) :=
  (f_X5_append N xv p2).bind (fun o1 => exc o1.1 (fun k => (if k = 0 then some ((1 : Int32), (fo, o1.2)) else if k = 1 then some ((2 : Int32), (fo, o1.2)) else none)) (fun (ro1 : Int32) => some ((0 : Int32), ((vp_updL fo (0 : Int32).toNatClampNeg ((ro1).toInt64)), o1.2))))
set_option maxHeartbeats 4000000 in
set_option maxRecDepth 100000 in
theorem met_L_append (l : Launch) (z0 : Nat) (hst : l.stackTraces = false) (dC : Nat → ClassId) (dI : Nat → Nat → Nat) (cyI cyO cyL : ClassId) (qo : Nat) (x : Nat → Nat) (an : Nat → Nat) (tr : Nat → Nat) (fl fs : Nat → Option Nat) (sz : Nat) (N : Nat) (fo : (Nat → Int64)) (xv : XV) (p2 : Int32) (out : Int32 × ((Nat → Int64) × XV)) (hF : f_L_append N fo xv p2 = some out) : Met l yL_append (Cond.codeWith yL_append cL_append 4 (some .int) [(0, 9, 12, 13), (0, 9, 15, 15)] :: wT) ({ frames := 7, cells := 1, slots := 6, locals := 103 } : Room) (wWrX z0 dC dI cyI cyO cyL [.ref (x 0), .int p2, .ref qo] (([[cLo cyL qo 1 fo], (cXo x an tr xv), (cH cyO (x 1) (x 2) 2 fl), (cXk cyI x xv), (cH cyO (x 4) (x 5) 6 fs), (cT cyI x (X_text xv))] : List va_W).flatten) sz) (va_Qi (fun (r : Int32) (u : (Nat → Int64) × XV) => (r, u) = out) (fun u t => va_P (dC, dI) vwCl (([[cLo cyL qo 1 u.1], (cXo x an tr u.2), (cH cyO (x 1) (x 2) 2 fl), (cXk cyI x u.2), (cH cyO (x 4) (x 5) 6 fs), (cT cyI x (X_text u.2))] : List va_W).flatten) t.heap ∧ va_D (va_A (([[cLo cyL qo 1 fo], (cXo x an tr xv), (cH cyO (x 1) (x 2) 2 fl), (cXk cyI x xv), (cH cyO (x 4) (x 5) 6 fs), (cT cyI x (X_text xv))] : List va_W).flatten) sz) (([[cLo cyL qo 1 u.1], (cXo x an tr u.2), (cH cyO (x 1) (x 2) 2 fl), (cXk cyI x u.2), (cH cyO (x 4) (x 5) 6 fs), (cT cyI x (X_text u.2))] : List va_W).flatten)) (va_A (([[cLo cyL qo 1 fo], (cXo x an tr xv), (cH cyO (x 1) (x 2) 2 fl), (cXk cyI x xv), (cH cyO (x 4) (x 5) 6 fs), (cT cyI x (X_text xv))] : List va_W).flatten) sz)) 1 6 (va_A (([[cLo cyL qo 1 fo], (cXo x an tr xv), (cH cyO (x 1) (x 2) 2 fl), (cXk cyI x xv), (cH cyO (x 4) (x 5) 6 fs), (cT cyI x (X_text xv))] : List va_W).flatten) sz) := by
  refine Met.ofWH (cc := cL_append) (maxL := 4) (ret := (some .int)) (by decide) rfl ?_
  intro p e s m args below meth c s₁ B hml hv
  obtain ⟨rfl, hsz, hP, hK, hD0, hz0, hZ⟩ := hv
  have hTab := vx_table (x := yL_append) B (atoms_spec (ws := (Cond.codeWith yL_append cL_append 4 (some .int) [(0, 9, 12, 13), (0, 9, 15, 15)] :: wT)) B.pre _ List.mem_cons_self)
  have hx := B.exec
  have hb := B.bytes
  have hr := B.returns
  have hts0 := atoms_spec (ws := (Cond.codeWith yL_append cL_append 4 (some .int) [(0, 9, 12, 13), (0, 9, 15, 15)] :: wT)) B.pre
  have hts := fun w h => hts0 w (List.mem_cons_of_mem _ h)
  clear hts0
  have hown : s.vm.findClass RL = some m.cls := findClass_of_methodNamed B.named
  have hlocks := B.notSynchronized
  subst hsz
  have hD := hD0.self (sz := s.heap.size)
  have hAz := wA_ge hD0 hz0
  generalize hAe : va_A (([[cLo cyL qo 1 fo], (cXo x an tr xv), (cH cyO (x 1) (x 2) 2 fl), (cXk cyI x xv), (cH cyO (x 4) (x 5) 6 fs), (cT cyI x (X_text xv))] : List va_W).flatten) s.heap.size = A at hD hAz ⊢
  have hA : ∀ q : Nat, s.heap.size ≤ q → A q := fun q h => by rw [← hAe]; exact Or.inr h
  clear hD0
  have hS : va_S A s.heap s.heap [] := va_S.rf
  have hl := lv_entry [.ref (x 0), .int p2, .ref qo] (n := 4) (Nat.le_of_ble_eq_true rfl)
  rw [lg_entry_eq]
  generalize (lg_sl [.ref (x 0), .int p2, .ref qo] ++ List.replicate (4 - (lg_sl [.ref (x 0), .int p2, .ref qo]).length) Slot.unset).toArray = ls at hl ⊢
  have hl : lv_has ls 4 [(0, .ref (x 0)), (1, .int p2), (2, .ref qo)] := hl
  unfold f_L_append at hF
  refine lv_aload_n hx hb dL_append_0 rfl (lv_at hl 2 rfl) ?_
  refine lv_iconst (v := 0) hx hb dL_append_1 (by decide) ?_
  refine lv_aload_n hx hb dL_append_2 rfl (lv_at hl 0 rfl) ?_
  refine lv_iload_n hx hb dL_append_3 rfl (lv_at hl 1 rfl) ?_
  obtain ⟨o1, h2, hF⟩ := obd hF
  refine wxPVi (As := [.int p2]) (rest := [.int (0 : Int32), .ref qo]) (wr := ([[cLo cyL qo 1 fo]] : List va_W).flatten) (b := (x 0)) ⟨hx, hb, hml, hown, hts⟩ (met_X5_append l z0 hst dC dI cyI cyO cyL x an tr fl fs _ N xv p2 o1 h2) (cwV 1 hts (gV w_methodLink_L_34 w_instanceMethod_X5_append w_selects_X5_append w_initialized_X5 w_code_X5_append) rfl rfl rfl (by decide +kernel) ⟨Nat.le_of_ble_eq_true rfl, Nat.le_of_ble_eq_true rfl⟩) (va_recv hK.1 hP (ci := 5) (q0 := 1) rfl rfl) hP hD hK hZ hAz hz0 (seg_perm (n := 6) (R := [[cLo cyL qo 1 fo]]) (C := [(cXo x an tr xv), (cH cyO (x 1) (x 2) 2 fl), (cXk cyI x xv), (cH cyO (x 4) (x 5) 6 fs), (cT cyI x (X_text xv))]) [0] [1, 2, 3, 4, 5] rfl rfl rfl (by decide) rfl) rfl hl.1 (Nat.le_of_ble_eq_true rfl) dL_append_4 ⟨Nat.le_of_ble_eq_true rfl, Nat.le_of_ble_eq_true rfl⟩ hS hA (fun k u ce q9 H locs hw hP hD hS h9 hv9 hc9 => ?_) (fun ro1 u H locs hw hP hD hS => ?_)
  · obtain rfl : u = o1.2 := congrArg Prod.snd hw
    have hw1 : Sum.inl k = o1.1 := congrArg Prod.fst hw
    rw [← hw1] at hF
    have hF := exc_l hF
    have hq := seg_permS (segs := [[cLo cyL qo 1 fo], (cXo x an tr o1.2), (cH cyO (x 1) (x 2) 2 fl), (cXk cyI x o1.2), (cH cyO (x 4) (x 5) 6 fs), (cT cyI x (X_text o1.2))]) (R := [[cLo cyL qo 1 fo]]) (C := [(cXo x an tr o1.2), (cH cyO (x 1) (x 2) 2 fl), (cXk cyI x o1.2), (cH cyO (x 4) (x 5) 6 fs), (cT cyI x (X_text o1.2))]) (n := 6) [0] [1, 2, 3, 4, 5] rfl rfl rfl (by decide)
    have hP : va_P (dC, dI) vwCl (([[cLo cyL qo 1 fo], (cXo x an tr o1.2), (cH cyO (x 1) (x 2) 2 fl), (cXk cyI x o1.2), (cH cyO (x 4) (x 5) 6 fs), (cT cyI x (X_text o1.2))] : List va_W).flatten) H := hP.perm hq
    have hD : va_D A (([[cLo cyL qo 1 fo], (cXo x an tr o1.2), (cH cyO (x 1) (x 2) 2 fl), (cXk cyI x o1.2), (cH cyO (x 4) (x 5) 6 fs), (cT cyI x (X_text o1.2))] : List va_W).flatten) := hD.perm hq
    clear hq
    by_cases c3 : k = 0
    · subst c3
      have hF := itp rfl hF
      refine vx_catch (E := eIA) (name := eIA) hown [] ⟨0, 9, 12, 13⟩ [⟨0, 9, 15, 15⟩] hTab (fun z hz => nomatch hz) (by decide) (by decide) (hts _ w_classLink_L_13) (hZ.2.2.2.1.use _ (by decide)) h9 hv9 hc9 ?_
      refine lv_astore_n (lv' := [(3, .ref q9), (0, .ref (x 0)), (1, .int p2), (2, .ref qo)]) hx hb dL_append_12 rfl hl (by decide) rfl (fun ls hl => ?_)
      refine lv_iconst (v := 1) hx hb dL_append_13 (by decide) ?_
      refine W.widen (k := 1) (n := 6) (Nat.le_of_ble_eq_true rfl) (Nat.le_of_ble_eq_true rfl) ?_
      exact W.iret (v := (1 : Int32)) hx hb hr (fun t ht hW => ⟨⟨_, (fo, o1.2), rfl, Option.some.inj hF, by rw [ht]; exact hP, hD⟩, hS.F ht⟩) hS.2.2 dL_append_14
    · have hF := itn c3 hF
      by_cases c4 : k = 1
      · subst c4
        have hF := itp rfl hF
        refine vx_catch (E := eIS) (name := eIS) hown [⟨0, 9, 12, 13⟩] ⟨0, 9, 15, 15⟩ [] hTab (fun z hz => by obtain rfl := List.mem_singleton.mp hz; exact Or.inr ⟨by decide, _, hts _ w_classLink_L_13, hZ.2.2.2.2 (eIS, eIA) (by decide)⟩) (by decide) (by decide) (hts _ w_classLink_L_15) (hZ.2.2.2.1.use _ (by decide)) h9 hv9 hc9 ?_
        refine lv_astore_n (lv' := [(3, .ref q9), (0, .ref (x 0)), (1, .int p2), (2, .ref qo)]) hx hb dL_append_15 rfl hl (by decide) rfl (fun ls hl => ?_)
        refine lv_iconst (v := 2) hx hb dL_append_16 (by decide) ?_
        refine W.widen (k := 1) (n := 6) (Nat.le_of_ble_eq_true rfl) (Nat.le_of_ble_eq_true rfl) ?_
        exact W.iret (v := (2 : Int32)) hx hb hr (fun t ht hW => ⟨⟨_, (fo, o1.2), rfl, Option.some.inj hF, by rw [ht]; exact hP, hD⟩, hS.F ht⟩) hS.2.2 dL_append_17
      · have hF := itn c4 hF
        cases hF
  · skip
    obtain rfl : u = o1.2 := congrArg Prod.snd hw
    have hw1 : Sum.inr ro1 = o1.1 := congrArg Prod.fst hw
    rw [← hw1] at hF
    have hF := exc_r hF
    have hq := seg_permS (segs := [[cLo cyL qo 1 fo], (cXo x an tr o1.2), (cH cyO (x 1) (x 2) 2 fl), (cXk cyI x o1.2), (cH cyO (x 4) (x 5) 6 fs), (cT cyI x (X_text o1.2))]) (R := [[cLo cyL qo 1 fo]]) (C := [(cXo x an tr o1.2), (cH cyO (x 1) (x 2) 2 fl), (cXk cyI x o1.2), (cH cyO (x 4) (x 5) 6 fs), (cT cyI x (X_text o1.2))]) (n := 6) [0] [1, 2, 3, 4, 5] rfl rfl rfl (by decide)
    have hP : va_P (dC, dI) vwCl (([[cLo cyL qo 1 fo], (cXo x an tr o1.2), (cH cyO (x 1) (x 2) 2 fl), (cXk cyI x o1.2), (cH cyO (x 4) (x 5) 6 fs), (cT cyI x (X_text o1.2))] : List va_W).flatten) H := hP.perm hq
    have hD : va_D A (([[cLo cyL qo 1 fo], (cXo x an tr o1.2), (cH cyO (x 1) (x 2) 2 fl), (cXk cyI x o1.2), (cH cyO (x 4) (x 5) 6 fs), (cT cyI x (X_text o1.2))] : List va_W).flatten) := hD.perm hq
    clear hq
    refine lv_i2l (v := (ro1).toInt64) hx hb dL_append_7 rfl ?_
    refine va_last hx hb hK.1 hP hD hS 0 2 rfl rfl (i := (0 : Int32)) (x := ((ro1).toInt64)) (show ixok (0 : Int32) 1 by decide) dL_append_8 (fun H locs hP hD hS => ?_)
    have hP : va_P (dC, dI) vwCl (([[cLo cyL qo 1 (vp_updL fo (0 : Int32).toNatClampNeg ((ro1).toInt64))], (cXo x an tr o1.2), (cH cyO (x 1) (x 2) 2 fl), (cXk cyI x o1.2), (cH cyO (x 4) (x 5) 6 fs), (cT cyI x (X_text o1.2))] : List va_W).flatten) H := hP
    have hD : va_D A (([[cLo cyL qo 1 (vp_updL fo (0 : Int32).toNatClampNeg ((ro1).toInt64))], (cXo x an tr o1.2), (cH cyO (x 1) (x 2) 2 fl), (cXk cyI x o1.2), (cH cyO (x 4) (x 5) 6 fs), (cT cyI x (X_text o1.2))] : List va_W).flatten) := hD
    refine lv_goto (tgt := 18) hx hb dL_append_9 (by decide) ?_
    refine lv_iconst (v := 0) hx hb dL_append_18 (by decide) ?_
    refine W.widen (k := 1) (n := 6) (Nat.le_of_ble_eq_true rfl) (Nat.le_of_ble_eq_true rfl) ?_
    exact W.iret (v := (0 : Int32)) hx hb hr (fun t ht hW => ⟨⟨_, ((vp_updL fo (0 : Int32).toNatClampNeg ((ro1).toInt64)), o1.2), rfl, Option.some.inj hF, by rw [ht]; exact hP, hD⟩, hS.F ht⟩) hS.2.2 dL_append_19
theorem dL_playAll_0 : decode cL_playAll 0 = .ok (.aload_n 1, 1) := by decide +kernel
theorem dL_playAll_1 : decode cL_playAll 1 = .ok (.iconst 0, 1) := by decide +kernel
theorem dL_playAll_2 : decode cL_playAll 2 = .ok (.aload_n 0, 1) := by decide +kernel
theorem dL_playAll_3 : decode cL_playAll 3 = .ok (.invokevirtual 37, 3) := by decide +kernel
theorem dL_playAll_6 : decode cL_playAll 6 = .ok (.i2l, 1) := by decide +kernel
theorem dL_playAll_7 : decode cL_playAll 7 = .ok (.lastore, 1) := by decide +kernel
theorem dL_playAll_8 : decode cL_playAll 8 = .ok (.goto 9, 3) := by decide +kernel
theorem dL_playAll_11 : decode cL_playAll 11 = .ok (.astore_n 2, 1) := by decide +kernel
theorem dL_playAll_12 : decode cL_playAll 12 = .ok (.iconst 1, 1) := by decide +kernel
theorem dL_playAll_13 : decode cL_playAll 13 = .ok (.ireturn, 1) := by decide +kernel
theorem dL_playAll_14 : decode cL_playAll 14 = .ok (.astore_n 2, 1) := by decide +kernel
theorem dL_playAll_15 : decode cL_playAll 15 = .ok (.iconst 2, 1) := by decide +kernel
theorem dL_playAll_16 : decode cL_playAll 16 = .ok (.ireturn, 1) := by decide +kernel
theorem dL_playAll_17 : decode cL_playAll 17 = .ok (.iconst 0, 1) := by decide +kernel
theorem dL_playAll_18 : decode cL_playAll 18 = .ok (.ireturn, 1) := by decide +kernel
def f_L_playAll (N : Nat) (fo : (Nat → Int64)) (xv : XV) (nv : SV) (tv : SV) (v0 : SV) (v1 : SV) (v2 : SV) (v3 : SV) (v4 : SV) (v5 : SV) : Option (Int32 × ((Nat → Int64) × XV × SV × SV × SV × SV × SV × SV × SV × SV)) :=
  (f_X5_playAll N xv nv tv v0 v1 v2 v3 v4 v5).bind (fun o1 => exc o1.1 (fun k => (if k = 0 then some ((1 : Int32), (fo, o1.2.1, o1.2.2.1, o1.2.2.2.1, o1.2.2.2.2.1, o1.2.2.2.2.2.1, o1.2.2.2.2.2.2.1, o1.2.2.2.2.2.2.2.1, o1.2.2.2.2.2.2.2.2.1, o1.2.2.2.2.2.2.2.2.2)) else if k = 1 then some ((2 : Int32), (fo, o1.2.1, o1.2.2.1, o1.2.2.2.1, o1.2.2.2.2.1, o1.2.2.2.2.2.1, o1.2.2.2.2.2.2.1, o1.2.2.2.2.2.2.2.1, o1.2.2.2.2.2.2.2.2.1, o1.2.2.2.2.2.2.2.2.2)) else none)) (fun (ro1 : Int32) => some ((0 : Int32), ((vp_updL fo (0 : Int32).toNatClampNeg ((ro1).toInt64)), o1.2.1, o1.2.2.1, o1.2.2.2.1, o1.2.2.2.2.1, o1.2.2.2.2.2.1, o1.2.2.2.2.2.2.1, o1.2.2.2.2.2.2.2.1, o1.2.2.2.2.2.2.2.2.1, o1.2.2.2.2.2.2.2.2.2))))
set_option maxHeartbeats 4000000 in
set_option maxRecDepth 100000 in
theorem met_L_playAll (l : Launch) (z0 : Nat) (hst : l.stackTraces = false) (dC : Nat → ClassId) (dI : Nat → Nat → Nat) (cyI cyO cyL : ClassId) (qo : Nat) (x : Nat → Nat) (an : Nat → Nat) (tr : Nat → Nat) (b0 : Nat → Nat) (b1 : Nat → Nat) (b2 : Nat → Nat) (b3 : Nat → Nat) (b4 : Nat → Nat) (b5 : Nat → Nat) (fl fs : Nat → Option Nat) (sz : Nat) (N : Nat) (fo : (Nat → Int64)) (xv : XV) (nv : SV) (tv : SV) (v0 : SV) (v1 : SV) (v2 : SV) (v3 : SV) (v4 : SV) (v5 : SV) (hs0 : fs 0 = some (b0 0)) (hs1 : fs 1 = some (b1 0)) (hs2 : fs 2 = some (b2 0)) (hs3 : fs 3 = some (b3 0)) (hs4 : fs 4 = some (b4 0)) (hs5 : fs 5 = some (b5 0)) (out : Int32 × ((Nat → Int64) × XV × SV × SV × SV × SV × SV × SV × SV × SV)) (hF : f_L_playAll N fo xv nv tv v0 v1 v2 v3 v4 v5 = some out) : Met l yL_playAll (Cond.codeWith yL_playAll cL_playAll 3 (some .int) [(0, 8, 11, 13), (0, 8, 14, 15)] :: wT) ({ frames := 7, cells := 1, slots := 6, locals := 158 } : Room) (wWrX z0 dC dI cyI cyO cyL [.ref (x 0), .ref qo] (([[cLo cyL qo 1 fo], (cXo x an tr xv), (cH cyO (x 1) (x 2) 2 fl), (cXk cyI x xv), (cH cyO (x 4) (x 5) 6 fs), (cT cyI x (X_text xv)), (cSo an nv), (cG cyI an (S_green nv)), (cV cyI an (S_score nv)), (cSo tr tv), (cG cyI tr (S_green tv)), (cV cyI tr (S_score tv)), (cS cyI b0 v0), (cS cyI b1 v1), (cS cyI b2 v2), (cS cyI b3 v3), (cS cyI b4 v4), (cS cyI b5 v5)] : List va_W).flatten) sz) (va_Qi (fun (r : Int32) (u : (Nat → Int64) × XV × SV × SV × SV × SV × SV × SV × SV × SV) => (r, u) = out) (fun u t => va_P (dC, dI) vwCl (([[cLo cyL qo 1 u.1], (cXo x an tr u.2.1), (cH cyO (x 1) (x 2) 2 fl), (cXk cyI x u.2.1), (cH cyO (x 4) (x 5) 6 fs), (cT cyI x (X_text u.2.1)), (cSo an u.2.2.1), (cG cyI an (S_green u.2.2.1)), (cV cyI an (S_score u.2.2.1)), (cSo tr u.2.2.2.1), (cG cyI tr (S_green u.2.2.2.1)), (cV cyI tr (S_score u.2.2.2.1)), (cS cyI b0 u.2.2.2.2.1), (cS cyI b1 u.2.2.2.2.2.1), (cS cyI b2 u.2.2.2.2.2.2.1), (cS cyI b3 u.2.2.2.2.2.2.2.1), (cS cyI b4 u.2.2.2.2.2.2.2.2.1), (cS cyI b5 u.2.2.2.2.2.2.2.2.2)] : List va_W).flatten) t.heap ∧ va_D (va_A (([[cLo cyL qo 1 fo], (cXo x an tr xv), (cH cyO (x 1) (x 2) 2 fl), (cXk cyI x xv), (cH cyO (x 4) (x 5) 6 fs), (cT cyI x (X_text xv)), (cSo an nv), (cG cyI an (S_green nv)), (cV cyI an (S_score nv)), (cSo tr tv), (cG cyI tr (S_green tv)), (cV cyI tr (S_score tv)), (cS cyI b0 v0), (cS cyI b1 v1), (cS cyI b2 v2), (cS cyI b3 v3), (cS cyI b4 v4), (cS cyI b5 v5)] : List va_W).flatten) sz) (([[cLo cyL qo 1 u.1], (cXo x an tr u.2.1), (cH cyO (x 1) (x 2) 2 fl), (cXk cyI x u.2.1), (cH cyO (x 4) (x 5) 6 fs), (cT cyI x (X_text u.2.1)), (cSo an u.2.2.1), (cG cyI an (S_green u.2.2.1)), (cV cyI an (S_score u.2.2.1)), (cSo tr u.2.2.2.1), (cG cyI tr (S_green u.2.2.2.1)), (cV cyI tr (S_score u.2.2.2.1)), (cS cyI b0 u.2.2.2.2.1), (cS cyI b1 u.2.2.2.2.2.1), (cS cyI b2 u.2.2.2.2.2.2.1), (cS cyI b3 u.2.2.2.2.2.2.2.1), (cS cyI b4 u.2.2.2.2.2.2.2.2.1), (cS cyI b5 u.2.2.2.2.2.2.2.2.2)] : List va_W).flatten)) (va_A (([[cLo cyL qo 1 fo], (cXo x an tr xv), (cH cyO (x 1) (x 2) 2 fl), (cXk cyI x xv), (cH cyO (x 4) (x 5) 6 fs), (cT cyI x (X_text xv)), (cSo an nv), (cG cyI an (S_green nv)), (cV cyI an (S_score nv)), (cSo tr tv), (cG cyI tr (S_green tv)), (cV cyI tr (S_score tv)), (cS cyI b0 v0), (cS cyI b1 v1), (cS cyI b2 v2), (cS cyI b3 v3), (cS cyI b4 v4), (cS cyI b5 v5)] : List va_W).flatten) sz)) 1 6 (va_A (([[cLo cyL qo 1 fo], (cXo x an tr xv), (cH cyO (x 1) (x 2) 2 fl), (cXk cyI x xv), (cH cyO (x 4) (x 5) 6 fs), (cT cyI x (X_text xv)), (cSo an nv), (cG cyI an (S_green nv)), (cV cyI an (S_score nv)), (cSo tr tv), (cG cyI tr (S_green tv)), (cV cyI tr (S_score tv)), (cS cyI b0 v0), (cS cyI b1 v1), (cS cyI b2 v2), (cS cyI b3 v3), (cS cyI b4 v4), (cS cyI b5 v5)] : List va_W).flatten) sz) := by
  refine Met.ofWH (cc := cL_playAll) (maxL := 3) (ret := (some .int)) (by decide) rfl ?_
  intro p e s m args below meth c s₁ B hml hv
  obtain ⟨rfl, hsz, hP, hK, hD0, hz0, hZ⟩ := hv
  have hTab := vx_table (x := yL_playAll) B (atoms_spec (ws := (Cond.codeWith yL_playAll cL_playAll 3 (some .int) [(0, 8, 11, 13), (0, 8, 14, 15)] :: wT)) B.pre _ List.mem_cons_self)
  have hx := B.exec
  have hb := B.bytes
  have hr := B.returns
  have hts0 := atoms_spec (ws := (Cond.codeWith yL_playAll cL_playAll 3 (some .int) [(0, 8, 11, 13), (0, 8, 14, 15)] :: wT)) B.pre
  have hts := fun w h => hts0 w (List.mem_cons_of_mem _ h)
  clear hts0
  have hown : s.vm.findClass RL = some m.cls := findClass_of_methodNamed B.named
  have hlocks := B.notSynchronized
  subst hsz
  have hD := hD0.self (sz := s.heap.size)
  have hAz := wA_ge hD0 hz0
  generalize hAe : va_A (([[cLo cyL qo 1 fo], (cXo x an tr xv), (cH cyO (x 1) (x 2) 2 fl), (cXk cyI x xv), (cH cyO (x 4) (x 5) 6 fs), (cT cyI x (X_text xv)), (cSo an nv), (cG cyI an (S_green nv)), (cV cyI an (S_score nv)), (cSo tr tv), (cG cyI tr (S_green tv)), (cV cyI tr (S_score tv)), (cS cyI b0 v0), (cS cyI b1 v1), (cS cyI b2 v2), (cS cyI b3 v3), (cS cyI b4 v4), (cS cyI b5 v5)] : List va_W).flatten) s.heap.size = A at hD hAz ⊢
  have hA : ∀ q : Nat, s.heap.size ≤ q → A q := fun q h => by rw [← hAe]; exact Or.inr h
  clear hD0
  have hS : va_S A s.heap s.heap [] := va_S.rf
  have hl := lv_entry [.ref (x 0), .ref qo] (n := 3) (Nat.le_of_ble_eq_true rfl)
  rw [lg_entry_eq]
  generalize (lg_sl [.ref (x 0), .ref qo] ++ List.replicate (3 - (lg_sl [.ref (x 0), .ref qo]).length) Slot.unset).toArray = ls at hl ⊢
  have hl : lv_has ls 3 [(0, .ref (x 0)), (1, .ref qo)] := hl
  unfold f_L_playAll at hF
  refine lv_aload_n hx hb dL_playAll_0 rfl (lv_at hl 1 rfl) ?_
  refine lv_iconst (v := 0) hx hb dL_playAll_1 (by decide) ?_
  refine lv_aload_n hx hb dL_playAll_2 rfl (lv_at hl 0 rfl) ?_
  obtain ⟨o1, h2, hF⟩ := obd hF
  refine wxPVi (As := []) (rest := [.int (0 : Int32), .ref qo]) (wr := ([[cLo cyL qo 1 fo]] : List va_W).flatten) (b := (x 0)) ⟨hx, hb, hml, hown, hts⟩ (met_X5_playAll l z0 hst dC dI cyI cyO cyL x an tr b0 b1 b2 b3 b4 b5 fl fs _ N xv nv tv v0 v1 v2 v3 v4 v5 hs0 hs1 hs2 hs3 hs4 hs5 o1 h2) (cwV 0 hts (gV w_methodLink_L_37 w_instanceMethod_X5_playAll w_selects_X5_playAll w_initialized_X5 w_code_X5_playAll) rfl rfl rfl (by decide +kernel) ⟨Nat.le_of_ble_eq_true rfl, Nat.le_of_ble_eq_true rfl⟩) (va_recv hK.1 hP (ci := 5) (q0 := 1) rfl rfl) hP hD hK hZ hAz hz0 (seg_perm (n := 18) (R := [[cLo cyL qo 1 fo]]) (C := [(cXo x an tr xv), (cH cyO (x 1) (x 2) 2 fl), (cXk cyI x xv), (cH cyO (x 4) (x 5) 6 fs), (cT cyI x (X_text xv)), (cSo an nv), (cG cyI an (S_green nv)), (cV cyI an (S_score nv)), (cSo tr tv), (cG cyI tr (S_green tv)), (cV cyI tr (S_score tv)), (cS cyI b0 v0), (cS cyI b1 v1), (cS cyI b2 v2), (cS cyI b3 v3), (cS cyI b4 v4), (cS cyI b5 v5)]) [0] [1, 2, 3, 4, 5, 6, 7, 8, 9, 10, 11, 12, 13, 14, 15, 16, 17] rfl rfl rfl (by decide) rfl) rfl hl.1 (Nat.le_of_ble_eq_true rfl) dL_playAll_3 ⟨Nat.le_of_ble_eq_true rfl, Nat.le_of_ble_eq_true rfl⟩ hS hA (fun k u ce q9 H locs hw hP hD hS h9 hv9 hc9 => ?_) (fun ro1 u H locs hw hP hD hS => ?_)
  · obtain rfl : u = o1.2 := congrArg Prod.snd hw
    have hw1 : Sum.inl k = o1.1 := congrArg Prod.fst hw
    rw [← hw1] at hF
    have hF := exc_l hF
    have hq := seg_permS (segs := [[cLo cyL qo 1 fo], (cXo x an tr o1.2.1), (cH cyO (x 1) (x 2) 2 fl), (cXk cyI x o1.2.1), (cH cyO (x 4) (x 5) 6 fs), (cT cyI x (X_text o1.2.1)), (cSo an o1.2.2.1), (cG cyI an (S_green o1.2.2.1)), (cV cyI an (S_score o1.2.2.1)), (cSo tr o1.2.2.2.1), (cG cyI tr (S_green o1.2.2.2.1)), (cV cyI tr (S_score o1.2.2.2.1)), (cS cyI b0 o1.2.2.2.2.1), (cS cyI b1 o1.2.2.2.2.2.1), (cS cyI b2 o1.2.2.2.2.2.2.1), (cS cyI b3 o1.2.2.2.2.2.2.2.1), (cS cyI b4 o1.2.2.2.2.2.2.2.2.1), (cS cyI b5 o1.2.2.2.2.2.2.2.2.2)]) (R := [[cLo cyL qo 1 fo]]) (C := [(cXo x an tr o1.2.1), (cH cyO (x 1) (x 2) 2 fl), (cXk cyI x o1.2.1), (cH cyO (x 4) (x 5) 6 fs), (cT cyI x (X_text o1.2.1)), (cSo an o1.2.2.1), (cG cyI an (S_green o1.2.2.1)), (cV cyI an (S_score o1.2.2.1)), (cSo tr o1.2.2.2.1), (cG cyI tr (S_green o1.2.2.2.1)), (cV cyI tr (S_score o1.2.2.2.1)), (cS cyI b0 o1.2.2.2.2.1), (cS cyI b1 o1.2.2.2.2.2.1), (cS cyI b2 o1.2.2.2.2.2.2.1), (cS cyI b3 o1.2.2.2.2.2.2.2.1), (cS cyI b4 o1.2.2.2.2.2.2.2.2.1), (cS cyI b5 o1.2.2.2.2.2.2.2.2.2)]) (n := 18) [0] [1, 2, 3, 4, 5, 6, 7, 8, 9, 10, 11, 12, 13, 14, 15, 16, 17] rfl rfl rfl (by decide)
    have hP : va_P (dC, dI) vwCl (([[cLo cyL qo 1 fo], (cXo x an tr o1.2.1), (cH cyO (x 1) (x 2) 2 fl), (cXk cyI x o1.2.1), (cH cyO (x 4) (x 5) 6 fs), (cT cyI x (X_text o1.2.1)), (cSo an o1.2.2.1), (cG cyI an (S_green o1.2.2.1)), (cV cyI an (S_score o1.2.2.1)), (cSo tr o1.2.2.2.1), (cG cyI tr (S_green o1.2.2.2.1)), (cV cyI tr (S_score o1.2.2.2.1)), (cS cyI b0 o1.2.2.2.2.1), (cS cyI b1 o1.2.2.2.2.2.1), (cS cyI b2 o1.2.2.2.2.2.2.1), (cS cyI b3 o1.2.2.2.2.2.2.2.1), (cS cyI b4 o1.2.2.2.2.2.2.2.2.1), (cS cyI b5 o1.2.2.2.2.2.2.2.2.2)] : List va_W).flatten) H := hP.perm hq
    have hD : va_D A (([[cLo cyL qo 1 fo], (cXo x an tr o1.2.1), (cH cyO (x 1) (x 2) 2 fl), (cXk cyI x o1.2.1), (cH cyO (x 4) (x 5) 6 fs), (cT cyI x (X_text o1.2.1)), (cSo an o1.2.2.1), (cG cyI an (S_green o1.2.2.1)), (cV cyI an (S_score o1.2.2.1)), (cSo tr o1.2.2.2.1), (cG cyI tr (S_green o1.2.2.2.1)), (cV cyI tr (S_score o1.2.2.2.1)), (cS cyI b0 o1.2.2.2.2.1), (cS cyI b1 o1.2.2.2.2.2.1), (cS cyI b2 o1.2.2.2.2.2.2.1), (cS cyI b3 o1.2.2.2.2.2.2.2.1), (cS cyI b4 o1.2.2.2.2.2.2.2.2.1), (cS cyI b5 o1.2.2.2.2.2.2.2.2.2)] : List va_W).flatten) := hD.perm hq
    clear hq
    by_cases c3 : k = 0
    · subst c3
      have hF := itp rfl hF
      refine vx_catch (E := eIA) (name := eIA) hown [] ⟨0, 8, 11, 13⟩ [⟨0, 8, 14, 15⟩] hTab (fun z hz => nomatch hz) (by decide) (by decide) (hts _ w_classLink_L_13) (hZ.2.2.2.1.use _ (by decide)) h9 hv9 hc9 ?_
      refine lv_astore_n (lv' := [(2, .ref q9), (0, .ref (x 0)), (1, .ref qo)]) hx hb dL_playAll_11 rfl hl (by decide) rfl (fun ls hl => ?_)
      refine lv_iconst (v := 1) hx hb dL_playAll_12 (by decide) ?_
      refine W.widen (k := 1) (n := 6) (Nat.le_of_ble_eq_true rfl) (Nat.le_of_ble_eq_true rfl) ?_
      exact W.iret (v := (1 : Int32)) hx hb hr (fun t ht hW => ⟨⟨_, (fo, o1.2.1, o1.2.2.1, o1.2.2.2.1, o1.2.2.2.2.1, o1.2.2.2.2.2.1, o1.2.2.2.2.2.2.1, o1.2.2.2.2.2.2.2.1, o1.2.2.2.2.2.2.2.2.1, o1.2.2.2.2.2.2.2.2.2), rfl, Option.some.inj hF, by rw [ht]; exact hP, hD⟩, hS.F ht⟩) hS.2.2 dL_playAll_13
    · have hF := itn c3 hF
      by_cases c4 : k = 1
      · subst c4
        have hF := itp rfl hF
        refine vx_catch (E := eIS) (name := eIS) hown [⟨0, 8, 11, 13⟩] ⟨0, 8, 14, 15⟩ [] hTab (fun z hz => by obtain rfl := List.mem_singleton.mp hz; exact Or.inr ⟨by decide, _, hts _ w_classLink_L_13, hZ.2.2.2.2 (eIS, eIA) (by decide)⟩) (by decide) (by decide) (hts _ w_classLink_L_15) (hZ.2.2.2.1.use _ (by decide)) h9 hv9 hc9 ?_
        refine lv_astore_n (lv' := [(2, .ref q9), (0, .ref (x 0)), (1, .ref qo)]) hx hb dL_playAll_14 rfl hl (by decide) rfl (fun ls hl => ?_)
        refine lv_iconst (v := 2) hx hb dL_playAll_15 (by decide) ?_
        refine W.widen (k := 1) (n := 6) (Nat.le_of_ble_eq_true rfl) (Nat.le_of_ble_eq_true rfl) ?_
        exact W.iret (v := (2 : Int32)) hx hb hr (fun t ht hW => ⟨⟨_, (fo, o1.2.1, o1.2.2.1, o1.2.2.2.1, o1.2.2.2.2.1, o1.2.2.2.2.2.1, o1.2.2.2.2.2.2.1, o1.2.2.2.2.2.2.2.1, o1.2.2.2.2.2.2.2.2.1, o1.2.2.2.2.2.2.2.2.2), rfl, Option.some.inj hF, by rw [ht]; exact hP, hD⟩, hS.F ht⟩) hS.2.2 dL_playAll_16
      · have hF := itn c4 hF
        cases hF
  · skip
    obtain rfl : u = o1.2 := congrArg Prod.snd hw
    have hw1 : Sum.inr ro1 = o1.1 := congrArg Prod.fst hw
    rw [← hw1] at hF
    have hF := exc_r hF
    have hq := seg_permS (segs := [[cLo cyL qo 1 fo], (cXo x an tr o1.2.1), (cH cyO (x 1) (x 2) 2 fl), (cXk cyI x o1.2.1), (cH cyO (x 4) (x 5) 6 fs), (cT cyI x (X_text o1.2.1)), (cSo an o1.2.2.1), (cG cyI an (S_green o1.2.2.1)), (cV cyI an (S_score o1.2.2.1)), (cSo tr o1.2.2.2.1), (cG cyI tr (S_green o1.2.2.2.1)), (cV cyI tr (S_score o1.2.2.2.1)), (cS cyI b0 o1.2.2.2.2.1), (cS cyI b1 o1.2.2.2.2.2.1), (cS cyI b2 o1.2.2.2.2.2.2.1), (cS cyI b3 o1.2.2.2.2.2.2.2.1), (cS cyI b4 o1.2.2.2.2.2.2.2.2.1), (cS cyI b5 o1.2.2.2.2.2.2.2.2.2)]) (R := [[cLo cyL qo 1 fo]]) (C := [(cXo x an tr o1.2.1), (cH cyO (x 1) (x 2) 2 fl), (cXk cyI x o1.2.1), (cH cyO (x 4) (x 5) 6 fs), (cT cyI x (X_text o1.2.1)), (cSo an o1.2.2.1), (cG cyI an (S_green o1.2.2.1)), (cV cyI an (S_score o1.2.2.1)), (cSo tr o1.2.2.2.1), (cG cyI tr (S_green o1.2.2.2.1)), (cV cyI tr (S_score o1.2.2.2.1)), (cS cyI b0 o1.2.2.2.2.1), (cS cyI b1 o1.2.2.2.2.2.1), (cS cyI b2 o1.2.2.2.2.2.2.1), (cS cyI b3 o1.2.2.2.2.2.2.2.1), (cS cyI b4 o1.2.2.2.2.2.2.2.2.1), (cS cyI b5 o1.2.2.2.2.2.2.2.2.2)]) (n := 18) [0] [1, 2, 3, 4, 5, 6, 7, 8, 9, 10, 11, 12, 13, 14, 15, 16, 17] rfl rfl rfl (by decide)
    have hP : va_P (dC, dI) vwCl (([[cLo cyL qo 1 fo], (cXo x an tr o1.2.1), (cH cyO (x 1) (x 2) 2 fl), (cXk cyI x o1.2.1), (cH cyO (x 4) (x 5) 6 fs), (cT cyI x (X_text o1.2.1)), (cSo an o1.2.2.1), (cG cyI an (S_green o1.2.2.1)), (cV cyI an (S_score o1.2.2.1)), (cSo tr o1.2.2.2.1), (cG cyI tr (S_green o1.2.2.2.1)), (cV cyI tr (S_score o1.2.2.2.1)), (cS cyI b0 o1.2.2.2.2.1), (cS cyI b1 o1.2.2.2.2.2.1), (cS cyI b2 o1.2.2.2.2.2.2.1), (cS cyI b3 o1.2.2.2.2.2.2.2.1), (cS cyI b4 o1.2.2.2.2.2.2.2.2.1), (cS cyI b5 o1.2.2.2.2.2.2.2.2.2)] : List va_W).flatten) H := hP.perm hq
    have hD : va_D A (([[cLo cyL qo 1 fo], (cXo x an tr o1.2.1), (cH cyO (x 1) (x 2) 2 fl), (cXk cyI x o1.2.1), (cH cyO (x 4) (x 5) 6 fs), (cT cyI x (X_text o1.2.1)), (cSo an o1.2.2.1), (cG cyI an (S_green o1.2.2.1)), (cV cyI an (S_score o1.2.2.1)), (cSo tr o1.2.2.2.1), (cG cyI tr (S_green o1.2.2.2.1)), (cV cyI tr (S_score o1.2.2.2.1)), (cS cyI b0 o1.2.2.2.2.1), (cS cyI b1 o1.2.2.2.2.2.1), (cS cyI b2 o1.2.2.2.2.2.2.1), (cS cyI b3 o1.2.2.2.2.2.2.2.1), (cS cyI b4 o1.2.2.2.2.2.2.2.2.1), (cS cyI b5 o1.2.2.2.2.2.2.2.2.2)] : List va_W).flatten) := hD.perm hq
    clear hq
    refine lv_i2l (v := (ro1).toInt64) hx hb dL_playAll_6 rfl ?_
    refine va_last hx hb hK.1 hP hD hS 0 2 rfl rfl (i := (0 : Int32)) (x := ((ro1).toInt64)) (show ixok (0 : Int32) 1 by decide) dL_playAll_7 (fun H locs hP hD hS => ?_)
    have hP : va_P (dC, dI) vwCl (([[cLo cyL qo 1 (vp_updL fo (0 : Int32).toNatClampNeg ((ro1).toInt64))], (cXo x an tr o1.2.1), (cH cyO (x 1) (x 2) 2 fl), (cXk cyI x o1.2.1), (cH cyO (x 4) (x 5) 6 fs), (cT cyI x (X_text o1.2.1)), (cSo an o1.2.2.1), (cG cyI an (S_green o1.2.2.1)), (cV cyI an (S_score o1.2.2.1)), (cSo tr o1.2.2.2.1), (cG cyI tr (S_green o1.2.2.2.1)), (cV cyI tr (S_score o1.2.2.2.1)), (cS cyI b0 o1.2.2.2.2.1), (cS cyI b1 o1.2.2.2.2.2.1), (cS cyI b2 o1.2.2.2.2.2.2.1), (cS cyI b3 o1.2.2.2.2.2.2.2.1), (cS cyI b4 o1.2.2.2.2.2.2.2.2.1), (cS cyI b5 o1.2.2.2.2.2.2.2.2.2)] : List va_W).flatten) H := hP
    have hD : va_D A (([[cLo cyL qo 1 (vp_updL fo (0 : Int32).toNatClampNeg ((ro1).toInt64))], (cXo x an tr o1.2.1), (cH cyO (x 1) (x 2) 2 fl), (cXk cyI x o1.2.1), (cH cyO (x 4) (x 5) 6 fs), (cT cyI x (X_text o1.2.1)), (cSo an o1.2.2.1), (cG cyI an (S_green o1.2.2.1)), (cV cyI an (S_score o1.2.2.1)), (cSo tr o1.2.2.2.1), (cG cyI tr (S_green o1.2.2.2.1)), (cV cyI tr (S_score o1.2.2.2.1)), (cS cyI b0 o1.2.2.2.2.1), (cS cyI b1 o1.2.2.2.2.2.1), (cS cyI b2 o1.2.2.2.2.2.2.1), (cS cyI b3 o1.2.2.2.2.2.2.2.1), (cS cyI b4 o1.2.2.2.2.2.2.2.2.1), (cS cyI b5 o1.2.2.2.2.2.2.2.2.2)] : List va_W).flatten) := hD
    refine lv_goto (tgt := 17) hx hb dL_playAll_8 (by decide) ?_
    refine lv_iconst (v := 0) hx hb dL_playAll_17 (by decide) ?_
    refine W.widen (k := 1) (n := 6) (Nat.le_of_ble_eq_true rfl) (Nat.le_of_ble_eq_true rfl) ?_
    exact W.iret (v := (0 : Int32)) hx hb hr (fun t ht hW => ⟨⟨_, ((vp_updL fo (0 : Int32).toNatClampNeg ((ro1).toInt64)), o1.2.1, o1.2.2.1, o1.2.2.2.1, o1.2.2.2.2.1, o1.2.2.2.2.2.1, o1.2.2.2.2.2.2.1, o1.2.2.2.2.2.2.2.1, o1.2.2.2.2.2.2.2.2.1, o1.2.2.2.2.2.2.2.2.2), rfl, Option.some.inj hF, by rw [ht]; exact hP, hD⟩, hS.F ht⟩) hS.2.2 dL_playAll_18
theorem dL_keep_0 : decode cL_keep 0 = .ok (.aload_n 0, 1) := by decide +kernel
theorem dL_keep_1 : decode cL_keep 1 = .ok (.iload_n 1, 1) := by decide +kernel
theorem dL_keep_2 : decode cL_keep 2 = .ok (.invokevirtual 40, 3) := by decide +kernel
theorem dL_keep_5 : decode cL_keep 5 = .ok (.goto 6, 3) := by decide +kernel
theorem dL_keep_8 : decode cL_keep 8 = .ok (.astore_n 2, 1) := by decide +kernel
theorem dL_keep_9 : decode cL_keep 9 = .ok (.iconst 1, 1) := by decide +kernel
theorem dL_keep_10 : decode cL_keep 10 = .ok (.ireturn, 1) := by decide +kernel
theorem dL_keep_11 : decode cL_keep 11 = .ok (.iconst 0, 1) := by decide +kernel
theorem dL_keep_12 : decode cL_keep 12 = .ok (.ireturn, 1) := by decide +kernel
def f_L_keep (N : Nat) (xv : XV) (nv : SV) (w0 : SV) (w1 : SV) (p2 : Int32) : Option (Int32 × (XV × SV × SV × SV)) :=
  (f_X5_keep N xv nv w0 w1 p2).bind (fun o1 => exc o1.1 (fun k => (if k = 0 then some ((1 : Int32), (o1.2.1, o1.2.2.1, o1.2.2.2.1, o1.2.2.2.2)) else none)) (fun (_ : Unit) => some ((0 : Int32), (o1.2.1, o1.2.2.1, o1.2.2.2.1, o1.2.2.2.2))))
set_option maxHeartbeats 4000000 in
set_option maxRecDepth 100000 in
theorem met_L_keep (l : Launch) (z0 : Nat) (hst : l.stackTraces = false) (dC : Nat → ClassId) (dI : Nat → Nat → Nat) (cyI cyO cyL : ClassId) (x : Nat → Nat) (tr : Nat → Nat) (an : Nat → Nat) (k0 : Nat → Nat) (k1 : Nat → Nat) (fl fs : Nat → Option Nat) (sz : Nat) (N : Nat) (xv : XV) (nv : SV) (w0 : SV) (w1 : SV) (p2 : Int32) (hl0 : fl 0 = some (k0 0)) (hl1 : fl 1 = some (k1 0)) (out : Int32 × (XV × SV × SV × SV)) (hF : f_L_keep N xv nv w0 w1 p2 = some out) : Met l yL_keep (Cond.codeWith yL_keep cL_keep 3 (some .int) [(0, 5, 8, 13)] :: wT) ({ frames := 7, cells := 1, slots := 6, locals := 108 } : Room) (wWrX z0 dC dI cyI cyO cyL [.ref (x 0), .int p2] (([(cXo x an tr xv), (cH cyO (x 1) (x 2) 2 fl), (cXk cyI x xv), (cH cyO (x 4) (x 5) 6 fs), (cT cyI x (X_text xv)), (cSo an nv), (cG cyI an (S_green nv)), (cV cyI an (S_score nv)), (cS cyI k0 w0), (cS cyI k1 w1)] : List va_W).flatten) sz) (va_Qi (fun (r : Int32) (u : XV × SV × SV × SV) => (r, u) = out) (fun u t => va_P (dC, dI) vwCl (([(cXo x an tr u.1), (cH cyO (x 1) (x 2) 2 fl), (cXk cyI x u.1), (cH cyO (x 4) (x 5) 6 fs), (cT cyI x (X_text u.1)), (cSo an u.2.1), (cG cyI an (S_green u.2.1)), (cV cyI an (S_score u.2.1)), (cS cyI k0 u.2.2.1), (cS cyI k1 u.2.2.2)] : List va_W).flatten) t.heap ∧ va_D (va_A (([(cXo x an tr xv), (cH cyO (x 1) (x 2) 2 fl), (cXk cyI x xv), (cH cyO (x 4) (x 5) 6 fs), (cT cyI x (X_text xv)), (cSo an nv), (cG cyI an (S_green nv)), (cV cyI an (S_score nv)), (cS cyI k0 w0), (cS cyI k1 w1)] : List va_W).flatten) sz) (([(cXo x an tr u.1), (cH cyO (x 1) (x 2) 2 fl), (cXk cyI x u.1), (cH cyO (x 4) (x 5) 6 fs), (cT cyI x (X_text u.1)), (cSo an u.2.1), (cG cyI an (S_green u.2.1)), (cV cyI an (S_score u.2.1)), (cS cyI k0 u.2.2.1), (cS cyI k1 u.2.2.2)] : List va_W).flatten)) (va_A (([(cXo x an tr xv), (cH cyO (x 1) (x 2) 2 fl), (cXk cyI x xv), (cH cyO (x 4) (x 5) 6 fs), (cT cyI x (X_text xv)), (cSo an nv), (cG cyI an (S_green nv)), (cV cyI an (S_score nv)), (cS cyI k0 w0), (cS cyI k1 w1)] : List va_W).flatten) sz)) 1 6 (va_A (([(cXo x an tr xv), (cH cyO (x 1) (x 2) 2 fl), (cXk cyI x xv), (cH cyO (x 4) (x 5) 6 fs), (cT cyI x (X_text xv)), (cSo an nv), (cG cyI an (S_green nv)), (cV cyI an (S_score nv)), (cS cyI k0 w0), (cS cyI k1 w1)] : List va_W).flatten) sz) := by
  refine Met.ofWH (cc := cL_keep) (maxL := 3) (ret := (some .int)) (by decide) rfl ?_
  intro p e s m args below meth c s₁ B hml hv
  obtain ⟨rfl, hsz, hP, hK, hD0, hz0, hZ⟩ := hv
  have hTab := vx_table (x := yL_keep) B (atoms_spec (ws := (Cond.codeWith yL_keep cL_keep 3 (some .int) [(0, 5, 8, 13)] :: wT)) B.pre _ List.mem_cons_self)
  have hx := B.exec
  have hb := B.bytes
  have hr := B.returns
  have hts0 := atoms_spec (ws := (Cond.codeWith yL_keep cL_keep 3 (some .int) [(0, 5, 8, 13)] :: wT)) B.pre
  have hts := fun w h => hts0 w (List.mem_cons_of_mem _ h)
  clear hts0
  have hown : s.vm.findClass RL = some m.cls := findClass_of_methodNamed B.named
  have hlocks := B.notSynchronized
  subst hsz
  have hD := hD0.self (sz := s.heap.size)
  have hAz := wA_ge hD0 hz0
  generalize hAe : va_A (([(cXo x an tr xv), (cH cyO (x 1) (x 2) 2 fl), (cXk cyI x xv), (cH cyO (x 4) (x 5) 6 fs), (cT cyI x (X_text xv)), (cSo an nv), (cG cyI an (S_green nv)), (cV cyI an (S_score nv)), (cS cyI k0 w0), (cS cyI k1 w1)] : List va_W).flatten) s.heap.size = A at hD hAz ⊢
  have hA : ∀ q : Nat, s.heap.size ≤ q → A q := fun q h => by rw [← hAe]; exact Or.inr h
  clear hD0
  have hS : va_S A s.heap s.heap [] := va_S.rf
  have hl := lv_entry [.ref (x 0), .int p2] (n := 3) (Nat.le_of_ble_eq_true rfl)
  rw [lg_entry_eq]
  generalize (lg_sl [.ref (x 0), .int p2] ++ List.replicate (3 - (lg_sl [.ref (x 0), .int p2]).length) Slot.unset).toArray = ls at hl ⊢
  have hl : lv_has ls 3 [(0, .ref (x 0)), (1, .int p2)] := hl
  unfold f_L_keep at hF
  refine lv_aload_n hx hb dL_keep_0 rfl (lv_at hl 0 rfl) ?_
  refine lv_iload_n hx hb dL_keep_1 rfl (lv_at hl 1 rfl) ?_
  obtain ⟨o1, h2, hF⟩ := obd hF
  refine wxPVv (As := [.int p2]) (rest := []) (wr := ([] : List va_W).flatten) (b := (x 0)) ⟨hx, hb, hml, hown, hts⟩ (met_X5_keep l z0 hst dC dI cyI cyO cyL x tr an k0 k1 fl fs _ N xv nv w0 w1 p2 hl0 hl1 o1 h2) (cwV 1 hts (gV w_methodLink_L_40 w_instanceMethod_X5_keep w_selects_X5_keep w_initialized_X5 w_code_X5_keep) rfl rfl rfl (by decide +kernel) ⟨Nat.le_of_ble_eq_true rfl, Nat.le_of_ble_eq_true rfl⟩) (va_recv hK.1 hP (ci := 5) (q0 := 0) rfl rfl) hP hD hK hZ hAz hz0 (seg_perm (n := 10) (R := []) (C := [(cXo x an tr xv), (cH cyO (x 1) (x 2) 2 fl), (cXk cyI x xv), (cH cyO (x 4) (x 5) 6 fs), (cT cyI x (X_text xv)), (cSo an nv), (cG cyI an (S_green nv)), (cV cyI an (S_score nv)), (cS cyI k0 w0), (cS cyI k1 w1)]) [] [0, 1, 2, 3, 4, 5, 6, 7, 8, 9] rfl rfl rfl (by decide) rfl) rfl hl.1 (Nat.le_of_ble_eq_true rfl) dL_keep_2 ⟨Nat.le_of_ble_eq_true rfl, Nat.le_of_ble_eq_true rfl⟩ hS hA (fun k u ce q9 H locs hw hP hD hS h9 hv9 hc9 => ?_) (fun u H locs hw hP hD hS => ?_)
  · obtain rfl : u = o1.2 := congrArg Prod.snd hw
    have hw1 : Sum.inl k = o1.1 := congrArg Prod.fst hw
    rw [← hw1] at hF
    have hF := exc_l hF
    have hq := seg_permS (segs := [(cXo x an tr o1.2.1), (cH cyO (x 1) (x 2) 2 fl), (cXk cyI x o1.2.1), (cH cyO (x 4) (x 5) 6 fs), (cT cyI x (X_text o1.2.1)), (cSo an o1.2.2.1), (cG cyI an (S_green o1.2.2.1)), (cV cyI an (S_score o1.2.2.1)), (cS cyI k0 o1.2.2.2.1), (cS cyI k1 o1.2.2.2.2)]) (R := []) (C := [(cXo x an tr o1.2.1), (cH cyO (x 1) (x 2) 2 fl), (cXk cyI x o1.2.1), (cH cyO (x 4) (x 5) 6 fs), (cT cyI x (X_text o1.2.1)), (cSo an o1.2.2.1), (cG cyI an (S_green o1.2.2.1)), (cV cyI an (S_score o1.2.2.1)), (cS cyI k0 o1.2.2.2.1), (cS cyI k1 o1.2.2.2.2)]) (n := 10) [] [0, 1, 2, 3, 4, 5, 6, 7, 8, 9] rfl rfl rfl (by decide)
    have hP : va_P (dC, dI) vwCl (([(cXo x an tr o1.2.1), (cH cyO (x 1) (x 2) 2 fl), (cXk cyI x o1.2.1), (cH cyO (x 4) (x 5) 6 fs), (cT cyI x (X_text o1.2.1)), (cSo an o1.2.2.1), (cG cyI an (S_green o1.2.2.1)), (cV cyI an (S_score o1.2.2.1)), (cS cyI k0 o1.2.2.2.1), (cS cyI k1 o1.2.2.2.2)] : List va_W).flatten) H := hP.perm hq
    have hD : va_D A (([(cXo x an tr o1.2.1), (cH cyO (x 1) (x 2) 2 fl), (cXk cyI x o1.2.1), (cH cyO (x 4) (x 5) 6 fs), (cT cyI x (X_text o1.2.1)), (cSo an o1.2.2.1), (cG cyI an (S_green o1.2.2.1)), (cV cyI an (S_score o1.2.2.1)), (cS cyI k0 o1.2.2.2.1), (cS cyI k1 o1.2.2.2.2)] : List va_W).flatten) := hD.perm hq
    clear hq
    by_cases c3 : k = 0
    · subst c3
      have hF := itp rfl hF
      refine vx_catch (E := eIA) (name := eIA) hown [] ⟨0, 5, 8, 13⟩ [] hTab (fun z hz => nomatch hz) (by decide) (by decide) (hts _ w_classLink_L_13) (hZ.2.2.2.1.use _ (by decide)) h9 hv9 hc9 ?_
      refine lv_astore_n (lv' := [(2, .ref q9), (0, .ref (x 0)), (1, .int p2)]) hx hb dL_keep_8 rfl hl (by decide) rfl (fun ls hl => ?_)
      refine lv_iconst (v := 1) hx hb dL_keep_9 (by decide) ?_
      refine W.widen (k := 1) (n := 6) (Nat.le_of_ble_eq_true rfl) (Nat.le_of_ble_eq_true rfl) ?_
      exact W.iret (v := (1 : Int32)) hx hb hr (fun t ht hW => ⟨⟨_, (o1.2.1, o1.2.2.1, o1.2.2.2.1, o1.2.2.2.2), rfl, Option.some.inj hF, by rw [ht]; exact hP, hD⟩, hS.F ht⟩) hS.2.2 dL_keep_10
    · have hF := itn c3 hF
      cases hF
  · skip
    obtain rfl : u = o1.2 := congrArg Prod.snd hw
    have hw1 : Sum.inr () = o1.1 := congrArg Prod.fst hw
    rw [← hw1] at hF
    have hF := exc_r hF
    have hq := seg_permS (segs := [(cXo x an tr o1.2.1), (cH cyO (x 1) (x 2) 2 fl), (cXk cyI x o1.2.1), (cH cyO (x 4) (x 5) 6 fs), (cT cyI x (X_text o1.2.1)), (cSo an o1.2.2.1), (cG cyI an (S_green o1.2.2.1)), (cV cyI an (S_score o1.2.2.1)), (cS cyI k0 o1.2.2.2.1), (cS cyI k1 o1.2.2.2.2)]) (R := []) (C := [(cXo x an tr o1.2.1), (cH cyO (x 1) (x 2) 2 fl), (cXk cyI x o1.2.1), (cH cyO (x 4) (x 5) 6 fs), (cT cyI x (X_text o1.2.1)), (cSo an o1.2.2.1), (cG cyI an (S_green o1.2.2.1)), (cV cyI an (S_score o1.2.2.1)), (cS cyI k0 o1.2.2.2.1), (cS cyI k1 o1.2.2.2.2)]) (n := 10) [] [0, 1, 2, 3, 4, 5, 6, 7, 8, 9] rfl rfl rfl (by decide)
    have hP : va_P (dC, dI) vwCl (([(cXo x an tr o1.2.1), (cH cyO (x 1) (x 2) 2 fl), (cXk cyI x o1.2.1), (cH cyO (x 4) (x 5) 6 fs), (cT cyI x (X_text o1.2.1)), (cSo an o1.2.2.1), (cG cyI an (S_green o1.2.2.1)), (cV cyI an (S_score o1.2.2.1)), (cS cyI k0 o1.2.2.2.1), (cS cyI k1 o1.2.2.2.2)] : List va_W).flatten) H := hP.perm hq
    have hD : va_D A (([(cXo x an tr o1.2.1), (cH cyO (x 1) (x 2) 2 fl), (cXk cyI x o1.2.1), (cH cyO (x 4) (x 5) 6 fs), (cT cyI x (X_text o1.2.1)), (cSo an o1.2.2.1), (cG cyI an (S_green o1.2.2.1)), (cV cyI an (S_score o1.2.2.1)), (cS cyI k0 o1.2.2.2.1), (cS cyI k1 o1.2.2.2.2)] : List va_W).flatten) := hD.perm hq
    clear hq
    refine lv_goto (tgt := 11) hx hb dL_keep_5 (by decide) ?_
    refine lv_iconst (v := 0) hx hb dL_keep_11 (by decide) ?_
    refine W.widen (k := 1) (n := 6) (Nat.le_of_ble_eq_true rfl) (Nat.le_of_ble_eq_true rfl) ?_
    exact W.iret (v := (0 : Int32)) hx hb hr (fun t ht hW => ⟨⟨_, (o1.2.1, o1.2.2.1, o1.2.2.2.1, o1.2.2.2.2), rfl, Option.some.inj hF, by rw [ht]; exact hP, hD⟩, hS.F ht⟩) hS.2.2 dL_keep_12
theorem dL_goBack_0 : decode cL_goBack 0 = .ok (.aload_n 0, 1) := by decide +kernel
theorem dL_goBack_1 : decode cL_goBack 1 = .ok (.iload_n 1, 1) := by decide +kernel
theorem dL_goBack_2 : decode cL_goBack 2 = .ok (.invokevirtual 44, 3) := by decide +kernel
theorem dL_goBack_5 : decode cL_goBack 5 = .ok (.goto 9, 3) := by decide +kernel
theorem dL_goBack_8 : decode cL_goBack 8 = .ok (.astore_n 2, 1) := by decide +kernel
theorem dL_goBack_9 : decode cL_goBack 9 = .ok (.iconst 1, 1) := by decide +kernel
theorem dL_goBack_10 : decode cL_goBack 10 = .ok (.ireturn, 1) := by decide +kernel
theorem dL_goBack_11 : decode cL_goBack 11 = .ok (.astore_n 2, 1) := by decide +kernel
theorem dL_goBack_12 : decode cL_goBack 12 = .ok (.iconst 2, 1) := by decide +kernel
theorem dL_goBack_13 : decode cL_goBack 13 = .ok (.ireturn, 1) := by decide +kernel
theorem dL_goBack_14 : decode cL_goBack 14 = .ok (.iconst 0, 1) := by decide +kernel
theorem dL_goBack_15 : decode cL_goBack 15 = .ok (.ireturn, 1) := by decide +kernel
def f_L_goBack (N : Nat) (xv : XV) (nv : SV) (w0 : SV) (w1 : SV) (v0 : SV) (v1 : SV) (v2 : SV) (v3 : SV) (v4 : SV) (v5 : SV) (p2 : Int32) : Option (Int32 × (XV × SV × SV × SV × SV × SV × SV × SV × SV × SV)) :=
  (f_X5_goBack N xv nv w0 w1 v0 v1 v2 v3 v4 v5 p2).bind (fun o1 => exc o1.1 (fun k => (if k = 0 then some ((1 : Int32), (o1.2.1, o1.2.2.1, o1.2.2.2.1, o1.2.2.2.2.1, o1.2.2.2.2.2.1, o1.2.2.2.2.2.2.1, o1.2.2.2.2.2.2.2.1, o1.2.2.2.2.2.2.2.2.1, o1.2.2.2.2.2.2.2.2.2.1, o1.2.2.2.2.2.2.2.2.2.2)) else if k = 1 then some ((2 : Int32), (o1.2.1, o1.2.2.1, o1.2.2.2.1, o1.2.2.2.2.1, o1.2.2.2.2.2.1, o1.2.2.2.2.2.2.1, o1.2.2.2.2.2.2.2.1, o1.2.2.2.2.2.2.2.2.1, o1.2.2.2.2.2.2.2.2.2.1, o1.2.2.2.2.2.2.2.2.2.2)) else none)) (fun (_ : Unit) => some ((0 : Int32), (o1.2.1, o1.2.2.1, o1.2.2.2.1, o1.2.2.2.2.1, o1.2.2.2.2.2.1, o1.2.2.2.2.2.2.1, o1.2.2.2.2.2.2.2.1, o1.2.2.2.2.2.2.2.2.1, o1.2.2.2.2.2.2.2.2.2.1, o1.2.2.2.2.2.2.2.2.2.2))))
set_option maxHeartbeats 4000000 in
set_option maxRecDepth 100000 in
theorem met_L_goBack (l : Launch) (z0 : Nat) (hst : l.stackTraces = false) (dC : Nat → ClassId) (dI : Nat → Nat → Nat) (cyI cyO cyL : ClassId) (x : Nat → Nat) (tr : Nat → Nat) (an : Nat → Nat) (k0 : Nat → Nat) (k1 : Nat → Nat) (b0 : Nat → Nat) (b1 : Nat → Nat) (b2 : Nat → Nat) (b3 : Nat → Nat) (b4 : Nat → Nat) (b5 : Nat → Nat) (fl fs : Nat → Option Nat) (sz : Nat) (N : Nat) (xv : XV) (nv : SV) (w0 : SV) (w1 : SV) (v0 : SV) (v1 : SV) (v2 : SV) (v3 : SV) (v4 : SV) (v5 : SV) (p2 : Int32) (hl0 : fl 0 = some (k0 0)) (hl1 : fl 1 = some (k1 0)) (hs0 : fs 0 = some (b0 0)) (hs1 : fs 1 = some (b1 0)) (hs2 : fs 2 = some (b2 0)) (hs3 : fs 3 = some (b3 0)) (hs4 : fs 4 = some (b4 0)) (hs5 : fs 5 = some (b5 0)) (out : Int32 × (XV × SV × SV × SV × SV × SV × SV × SV × SV × SV)) (hF : f_L_goBack N xv nv w0 w1 v0 v1 v2 v3 v4 v5 p2 = some out) : Met l yL_goBack (Cond.codeWith yL_goBack cL_goBack 3 (some .int) [(0, 5, 8, 13), (0, 5, 11, 15)] :: wT) ({ frames := 7, cells := 1, slots := 6, locals := 128 } : Room) (wWrX z0 dC dI cyI cyO cyL [.ref (x 0), .int p2] (([(cXo x an tr xv), (cH cyO (x 1) (x 2) 2 fl), (cXk cyI x xv), (cH cyO (x 4) (x 5) 6 fs), (cT cyI x (X_text xv)), (cSo an nv), (cG cyI an (S_green nv)), (cV cyI an (S_score nv)), (cS cyI k0 w0), (cS cyI k1 w1), (cS cyI b0 v0), (cS cyI b1 v1), (cS cyI b2 v2), (cS cyI b3 v3), (cS cyI b4 v4), (cS cyI b5 v5)] : List va_W).flatten) sz) (va_Qi (fun (r : Int32) (u : XV × SV × SV × SV × SV × SV × SV × SV × SV × SV) => (r, u) = out) (fun u t => va_P (dC, dI) vwCl (([(cXo x an tr u.1), (cH cyO (x 1) (x 2) 2 fl), (cXk cyI x u.1), (cH cyO (x 4) (x 5) 6 fs), (cT cyI x (X_text u.1)), (cSo an u.2.1), (cG cyI an (S_green u.2.1)), (cV cyI an (S_score u.2.1)), (cS cyI k0 u.2.2.1), (cS cyI k1 u.2.2.2.1), (cS cyI b0 u.2.2.2.2.1), (cS cyI b1 u.2.2.2.2.2.1), (cS cyI b2 u.2.2.2.2.2.2.1), (cS cyI b3 u.2.2.2.2.2.2.2.1), (cS cyI b4 u.2.2.2.2.2.2.2.2.1), (cS cyI b5 u.2.2.2.2.2.2.2.2.2)] : List va_W).flatten) t.heap ∧ va_D (va_A (([(cXo x an tr xv), (cH cyO (x 1) (x 2) 2 fl), (cXk cyI x xv), (cH cyO (x 4) (x 5) 6 fs), (cT cyI x (X_text xv)), (cSo an nv), (cG cyI an (S_green nv)), (cV cyI an (S_score nv)), (cS cyI k0 w0), (cS cyI k1 w1), (cS cyI b0 v0), (cS cyI b1 v1), (cS cyI b2 v2), (cS cyI b3 v3), (cS cyI b4 v4), (cS cyI b5 v5)] : List va_W).flatten) sz) (([(cXo x an tr u.1), (cH cyO (x 1) (x 2) 2 fl), (cXk cyI x u.1), (cH cyO (x 4) (x 5) 6 fs), (cT cyI x (X_text u.1)), (cSo an u.2.1), (cG cyI an (S_green u.2.1)), (cV cyI an (S_score u.2.1)), (cS cyI k0 u.2.2.1), (cS cyI k1 u.2.2.2.1), (cS cyI b0 u.2.2.2.2.1), (cS cyI b1 u.2.2.2.2.2.1), (cS cyI b2 u.2.2.2.2.2.2.1), (cS cyI b3 u.2.2.2.2.2.2.2.1), (cS cyI b4 u.2.2.2.2.2.2.2.2.1), (cS cyI b5 u.2.2.2.2.2.2.2.2.2)] : List va_W).flatten)) (va_A (([(cXo x an tr xv), (cH cyO (x 1) (x 2) 2 fl), (cXk cyI x xv), (cH cyO (x 4) (x 5) 6 fs), (cT cyI x (X_text xv)), (cSo an nv), (cG cyI an (S_green nv)), (cV cyI an (S_score nv)), (cS cyI k0 w0), (cS cyI k1 w1), (cS cyI b0 v0), (cS cyI b1 v1), (cS cyI b2 v2), (cS cyI b3 v3), (cS cyI b4 v4), (cS cyI b5 v5)] : List va_W).flatten) sz)) 1 6 (va_A (([(cXo x an tr xv), (cH cyO (x 1) (x 2) 2 fl), (cXk cyI x xv), (cH cyO (x 4) (x 5) 6 fs), (cT cyI x (X_text xv)), (cSo an nv), (cG cyI an (S_green nv)), (cV cyI an (S_score nv)), (cS cyI k0 w0), (cS cyI k1 w1), (cS cyI b0 v0), (cS cyI b1 v1), (cS cyI b2 v2), (cS cyI b3 v3), (cS cyI b4 v4), (cS cyI b5 v5)] : List va_W).flatten) sz) := by
  refine Met.ofWH (cc := cL_goBack) (maxL := 3) (ret := (some .int)) (by decide) rfl ?_
  intro p e s m args below meth c s₁ B hml hv
  obtain ⟨rfl, hsz, hP, hK, hD0, hz0, hZ⟩ := hv
  have hTab := vx_table (x := yL_goBack) B (atoms_spec (ws := (Cond.codeWith yL_goBack cL_goBack 3 (some .int) [(0, 5, 8, 13), (0, 5, 11, 15)] :: wT)) B.pre _ List.mem_cons_self)
  have hx := B.exec
  have hb := B.bytes
  have hr := B.returns
  have hts0 := atoms_spec (ws := (Cond.codeWith yL_goBack cL_goBack 3 (some .int) [(0, 5, 8, 13), (0, 5, 11, 15)] :: wT)) B.pre
  have hts := fun w h => hts0 w (List.mem_cons_of_mem _ h)
  clear hts0
  have hown : s.vm.findClass RL = some m.cls := findClass_of_methodNamed B.named
  have hlocks := B.notSynchronized
  subst hsz
  have hD := hD0.self (sz := s.heap.size)
  have hAz := wA_ge hD0 hz0
  generalize hAe : va_A (([(cXo x an tr xv), (cH cyO (x 1) (x 2) 2 fl), (cXk cyI x xv), (cH cyO (x 4) (x 5) 6 fs), (cT cyI x (X_text xv)), (cSo an nv), (cG cyI an (S_green nv)), (cV cyI an (S_score nv)), (cS cyI k0 w0), (cS cyI k1 w1), (cS cyI b0 v0), (cS cyI b1 v1), (cS cyI b2 v2), (cS cyI b3 v3), (cS cyI b4 v4), (cS cyI b5 v5)] : List va_W).flatten) s.heap.size = A at hD hAz ⊢
  have hA : ∀ q : Nat, s.heap.size ≤ q → A q := fun q h => by rw [← hAe]; exact Or.inr h
  clear hD0
  have hS : va_S A s.heap s.heap [] := va_S.rf
  have hl := lv_entry [.ref (x 0), .int p2] (n := 3) (Nat.le_of_ble_eq_true rfl)
  rw [lg_entry_eq]
  generalize (lg_sl [.ref (x 0), .int p2] ++ List.replicate (3 - (lg_sl [.ref (x 0), .int p2]).length) Slot.unset).toArray = ls at hl ⊢
  have hl : lv_has ls 3 [(0, .ref (x 0)), (1, .int p2)] := hl
  unfold f_L_goBack at hF
  refine lv_aload_n hx hb dL_goBack_0 rfl (lv_at hl 0 rfl) ?_
  refine lv_iload_n hx hb dL_goBack_1 rfl (lv_at hl 1 rfl) ?_
  obtain ⟨o1, h2, hF⟩ := obd hF
  refine wxPVv (As := [.int p2]) (rest := []) (wr := ([] : List va_W).flatten) (b := (x 0)) ⟨hx, hb, hml, hown, hts⟩ (met_X5_goBack l z0 hst dC dI cyI cyO cyL x tr an k0 k1 b0 b1 b2 b3 b4 b5 fl fs _ N xv nv w0 w1 v0 v1 v2 v3 v4 v5 p2 hl0 hl1 hs0 hs1 hs2 hs3 hs4 hs5 o1 h2) (cwV 1 hts (gV w_methodLink_L_44 w_instanceMethod_X5_goBack w_selects_X5_goBack w_initialized_X5 w_code_X5_goBack) rfl rfl rfl (by decide +kernel) ⟨Nat.le_of_ble_eq_true rfl, Nat.le_of_ble_eq_true rfl⟩) (va_recv hK.1 hP (ci := 5) (q0 := 0) rfl rfl) hP hD hK hZ hAz hz0 (seg_perm (n := 16) (R := []) (C := [(cXo x an tr xv), (cH cyO (x 1) (x 2) 2 fl), (cXk cyI x xv), (cH cyO (x 4) (x 5) 6 fs), (cT cyI x (X_text xv)), (cSo an nv), (cG cyI an (S_green nv)), (cV cyI an (S_score nv)), (cS cyI k0 w0), (cS cyI k1 w1), (cS cyI b0 v0), (cS cyI b1 v1), (cS cyI b2 v2), (cS cyI b3 v3), (cS cyI b4 v4), (cS cyI b5 v5)]) [] [0, 1, 2, 3, 4, 5, 6, 7, 8, 9, 10, 11, 12, 13, 14, 15] rfl rfl rfl (by decide) rfl) rfl hl.1 (Nat.le_of_ble_eq_true rfl) dL_goBack_2 ⟨Nat.le_of_ble_eq_true rfl, Nat.le_of_ble_eq_true rfl⟩ hS hA (fun k u ce q9 H locs hw hP hD hS h9 hv9 hc9 => ?_) (fun u H locs hw hP hD hS => ?_)
  · obtain rfl : u = o1.2 := congrArg Prod.snd hw
    have hw1 : Sum.inl k = o1.1 := congrArg Prod.fst hw
    rw [← hw1] at hF
    have hF := exc_l hF
    have hq := seg_permS (segs := [(cXo x an tr o1.2.1), (cH cyO (x 1) (x 2) 2 fl), (cXk cyI x o1.2.1), (cH cyO (x 4) (x 5) 6 fs), (cT cyI x (X_text o1.2.1)), (cSo an o1.2.2.1), (cG cyI an (S_green o1.2.2.1)), (cV cyI an (S_score o1.2.2.1)), (cS cyI k0 o1.2.2.2.1), (cS cyI k1 o1.2.2.2.2.1), (cS cyI b0 o1.2.2.2.2.2.1), (cS cyI b1 o1.2.2.2.2.2.2.1), (cS cyI b2 o1.2.2.2.2.2.2.2.1), (cS cyI b3 o1.2.2.2.2.2.2.2.2.1), (cS cyI b4 o1.2.2.2.2.2.2.2.2.2.1), (cS cyI b5 o1.2.2.2.2.2.2.2.2.2.2)]) (R := []) (C := [(cXo x an tr o1.2.1), (cH cyO (x 1) (x 2) 2 fl), (cXk cyI x o1.2.1), (cH cyO (x 4) (x 5) 6 fs), (cT cyI x (X_text o1.2.1)), (cSo an o1.2.2.1), (cG cyI an (S_green o1.2.2.1)), (cV cyI an (S_score o1.2.2.1)), (cS cyI k0 o1.2.2.2.1), (cS cyI k1 o1.2.2.2.2.1), (cS cyI b0 o1.2.2.2.2.2.1), (cS cyI b1 o1.2.2.2.2.2.2.1), (cS cyI b2 o1.2.2.2.2.2.2.2.1), (cS cyI b3 o1.2.2.2.2.2.2.2.2.1), (cS cyI b4 o1.2.2.2.2.2.2.2.2.2.1), (cS cyI b5 o1.2.2.2.2.2.2.2.2.2.2)]) (n := 16) [] [0, 1, 2, 3, 4, 5, 6, 7, 8, 9, 10, 11, 12, 13, 14, 15] rfl rfl rfl (by decide)
    have hP : va_P (dC, dI) vwCl (([(cXo x an tr o1.2.1), (cH cyO (x 1) (x 2) 2 fl), (cXk cyI x o1.2.1), (cH cyO (x 4) (x 5) 6 fs), (cT cyI x (X_text o1.2.1)), (cSo an o1.2.2.1), (cG cyI an (S_green o1.2.2.1)), (cV cyI an (S_score o1.2.2.1)), (cS cyI k0 o1.2.2.2.1), (cS cyI k1 o1.2.2.2.2.1), (cS cyI b0 o1.2.2.2.2.2.1), (cS cyI b1 o1.2.2.2.2.2.2.1), (cS cyI b2 o1.2.2.2.2.2.2.2.1), (cS cyI b3 o1.2.2.2.2.2.2.2.2.1), (cS cyI b4 o1.2.2.2.2.2.2.2.2.2.1), (cS cyI b5 o1.2.2.2.2.2.2.2.2.2.2)] : List va_W).flatten) H := hP.perm hq
    have hD : va_D A (([(cXo x an tr o1.2.1), (cH cyO (x 1) (x 2) 2 fl), (cXk cyI x o1.2.1), (cH cyO (x 4) (x 5) 6 fs), (cT cyI x (X_text o1.2.1)), (cSo an o1.2.2.1), (cG cyI an (S_green o1.2.2.1)), (cV cyI an (S_score o1.2.2.1)), (cS cyI k0 o1.2.2.2.1), (cS cyI k1 o1.2.2.2.2.1), (cS cyI b0 o1.2.2.2.2.2.1), (cS cyI b1 o1.2.2.2.2.2.2.1), (cS cyI b2 o1.2.2.2.2.2.2.2.1), (cS cyI b3 o1.2.2.2.2.2.2.2.2.1), (cS cyI b4 o1.2.2.2.2.2.2.2.2.2.1), (cS cyI b5 o1.2.2.2.2.2.2.2.2.2.2)] : List va_W).flatten) := hD.perm hq
    clear hq
    by_cases c3 : k = 0
    · subst c3
      have hF := itp rfl hF
      refine vx_catch (E := eIA) (name := eIA) hown [] ⟨0, 5, 8, 13⟩ [⟨0, 5, 11, 15⟩] hTab (fun z hz => nomatch hz) (by decide) (by decide) (hts _ w_classLink_L_13) (hZ.2.2.2.1.use _ (by decide)) h9 hv9 hc9 ?_
      refine lv_astore_n (lv' := [(2, .ref q9), (0, .ref (x 0)), (1, .int p2)]) hx hb dL_goBack_8 rfl hl (by decide) rfl (fun ls hl => ?_)
      refine lv_iconst (v := 1) hx hb dL_goBack_9 (by decide) ?_
      refine W.widen (k := 1) (n := 6) (Nat.le_of_ble_eq_true rfl) (Nat.le_of_ble_eq_true rfl) ?_
      exact W.iret (v := (1 : Int32)) hx hb hr (fun t ht hW => ⟨⟨_, (o1.2.1, o1.2.2.1, o1.2.2.2.1, o1.2.2.2.2.1, o1.2.2.2.2.2.1, o1.2.2.2.2.2.2.1, o1.2.2.2.2.2.2.2.1, o1.2.2.2.2.2.2.2.2.1, o1.2.2.2.2.2.2.2.2.2.1, o1.2.2.2.2.2.2.2.2.2.2), rfl, Option.some.inj hF, by rw [ht]; exact hP, hD⟩, hS.F ht⟩) hS.2.2 dL_goBack_10
    · have hF := itn c3 hF
      by_cases c4 : k = 1
      · subst c4
        have hF := itp rfl hF
        refine vx_catch (E := eIS) (name := eIS) hown [⟨0, 5, 8, 13⟩] ⟨0, 5, 11, 15⟩ [] hTab (fun z hz => by obtain rfl := List.mem_singleton.mp hz; exact Or.inr ⟨by decide, _, hts _ w_classLink_L_13, hZ.2.2.2.2 (eIS, eIA) (by decide)⟩) (by decide) (by decide) (hts _ w_classLink_L_15) (hZ.2.2.2.1.use _ (by decide)) h9 hv9 hc9 ?_
        refine lv_astore_n (lv' := [(2, .ref q9), (0, .ref (x 0)), (1, .int p2)]) hx hb dL_goBack_11 rfl hl (by decide) rfl (fun ls hl => ?_)
        refine lv_iconst (v := 2) hx hb dL_goBack_12 (by decide) ?_
        refine W.widen (k := 1) (n := 6) (Nat.le_of_ble_eq_true rfl) (Nat.le_of_ble_eq_true rfl) ?_
        exact W.iret (v := (2 : Int32)) hx hb hr (fun t ht hW => ⟨⟨_, (o1.2.1, o1.2.2.1, o1.2.2.2.1, o1.2.2.2.2.1, o1.2.2.2.2.2.1, o1.2.2.2.2.2.2.1, o1.2.2.2.2.2.2.2.1, o1.2.2.2.2.2.2.2.2.1, o1.2.2.2.2.2.2.2.2.2.1, o1.2.2.2.2.2.2.2.2.2.2), rfl, Option.some.inj hF, by rw [ht]; exact hP, hD⟩, hS.F ht⟩) hS.2.2 dL_goBack_13
      · have hF := itn c4 hF
        cases hF
  · skip
    obtain rfl : u = o1.2 := congrArg Prod.snd hw
    have hw1 : Sum.inr () = o1.1 := congrArg Prod.fst hw
    rw [← hw1] at hF
    have hF := exc_r hF
    have hq := seg_permS (segs := [(cXo x an tr o1.2.1), (cH cyO (x 1) (x 2) 2 fl), (cXk cyI x o1.2.1), (cH cyO (x 4) (x 5) 6 fs), (cT cyI x (X_text o1.2.1)), (cSo an o1.2.2.1), (cG cyI an (S_green o1.2.2.1)), (cV cyI an (S_score o1.2.2.1)), (cS cyI k0 o1.2.2.2.1), (cS cyI k1 o1.2.2.2.2.1), (cS cyI b0 o1.2.2.2.2.2.1), (cS cyI b1 o1.2.2.2.2.2.2.1), (cS cyI b2 o1.2.2.2.2.2.2.2.1), (cS cyI b3 o1.2.2.2.2.2.2.2.2.1), (cS cyI b4 o1.2.2.2.2.2.2.2.2.2.1), (cS cyI b5 o1.2.2.2.2.2.2.2.2.2.2)]) (R := []) (C := [(cXo x an tr o1.2.1), (cH cyO (x 1) (x 2) 2 fl), (cXk cyI x o1.2.1), (cH cyO (x 4) (x 5) 6 fs), (cT cyI x (X_text o1.2.1)), (cSo an o1.2.2.1), (cG cyI an (S_green o1.2.2.1)), (cV cyI an (S_score o1.2.2.1)), (cS cyI k0 o1.2.2.2.1), (cS cyI k1 o1.2.2.2.2.1), (cS cyI b0 o1.2.2.2.2.2.1), (cS cyI b1 o1.2.2.2.2.2.2.1), (cS cyI b2 o1.2.2.2.2.2.2.2.1), (cS cyI b3 o1.2.2.2.2.2.2.2.2.1), (cS cyI b4 o1.2.2.2.2.2.2.2.2.2.1), (cS cyI b5 o1.2.2.2.2.2.2.2.2.2.2)]) (n := 16) [] [0, 1, 2, 3, 4, 5, 6, 7, 8, 9, 10, 11, 12, 13, 14, 15] rfl rfl rfl (by decide)
    have hP : va_P (dC, dI) vwCl (([(cXo x an tr o1.2.1), (cH cyO (x 1) (x 2) 2 fl), (cXk cyI x o1.2.1), (cH cyO (x 4) (x 5) 6 fs), (cT cyI x (X_text o1.2.1)), (cSo an o1.2.2.1), (cG cyI an (S_green o1.2.2.1)), (cV cyI an (S_score o1.2.2.1)), (cS cyI k0 o1.2.2.2.1), (cS cyI k1 o1.2.2.2.2.1), (cS cyI b0 o1.2.2.2.2.2.1), (cS cyI b1 o1.2.2.2.2.2.2.1), (cS cyI b2 o1.2.2.2.2.2.2.2.1), (cS cyI b3 o1.2.2.2.2.2.2.2.2.1), (cS cyI b4 o1.2.2.2.2.2.2.2.2.2.1), (cS cyI b5 o1.2.2.2.2.2.2.2.2.2.2)] : List va_W).flatten) H := hP.perm hq
    have hD : va_D A (([(cXo x an tr o1.2.1), (cH cyO (x 1) (x 2) 2 fl), (cXk cyI x o1.2.1), (cH cyO (x 4) (x 5) 6 fs), (cT cyI x (X_text o1.2.1)), (cSo an o1.2.2.1), (cG cyI an (S_green o1.2.2.1)), (cV cyI an (S_score o1.2.2.1)), (cS cyI k0 o1.2.2.2.1), (cS cyI k1 o1.2.2.2.2.1), (cS cyI b0 o1.2.2.2.2.2.1), (cS cyI b1 o1.2.2.2.2.2.2.1), (cS cyI b2 o1.2.2.2.2.2.2.2.1), (cS cyI b3 o1.2.2.2.2.2.2.2.2.1), (cS cyI b4 o1.2.2.2.2.2.2.2.2.2.1), (cS cyI b5 o1.2.2.2.2.2.2.2.2.2.2)] : List va_W).flatten) := hD.perm hq
    clear hq
    refine lv_goto (tgt := 14) hx hb dL_goBack_5 (by decide) ?_
    refine lv_iconst (v := 0) hx hb dL_goBack_14 (by decide) ?_
    refine W.widen (k := 1) (n := 6) (Nat.le_of_ble_eq_true rfl) (Nat.le_of_ble_eq_true rfl) ?_
    exact W.iret (v := (0 : Int32)) hx hb hr (fun t ht hW => ⟨⟨_, (o1.2.1, o1.2.2.1, o1.2.2.2.1, o1.2.2.2.2.1, o1.2.2.2.2.2.1, o1.2.2.2.2.2.2.1, o1.2.2.2.2.2.2.2.1, o1.2.2.2.2.2.2.2.2.1, o1.2.2.2.2.2.2.2.2.2.1, o1.2.2.2.2.2.2.2.2.2.2), rfl, Option.some.inj hF, by rw [ht]; exact hP, hD⟩, hS.F ht⟩) hS.2.2 dL_goBack_15
theorem dL_undo_0 : decode cL_undo 0 = .ok (.aload_n 0, 1) := by decide +kernel
theorem dL_undo_1 : decode cL_undo 1 = .ok (.invokevirtual 47, 3) := by decide +kernel
theorem dL_undo_4 : decode cL_undo 4 = .ok (.goto 6, 3) := by decide +kernel
theorem dL_undo_7 : decode cL_undo 7 = .ok (.astore_n 1, 1) := by decide +kernel
theorem dL_undo_8 : decode cL_undo 8 = .ok (.iconst 1, 1) := by decide +kernel
theorem dL_undo_9 : decode cL_undo 9 = .ok (.ireturn, 1) := by decide +kernel
theorem dL_undo_10 : decode cL_undo 10 = .ok (.iconst 0, 1) := by decide +kernel
theorem dL_undo_11 : decode cL_undo 11 = .ok (.ireturn, 1) := by decide +kernel
def f_L_undo (N : Nat) (xv : XV) (nv : SV) (v0 : SV) (v1 : SV) (v2 : SV) (v3 : SV) (v4 : SV) (v5 : SV) : Option (Int32 × (XV × SV × SV × SV × SV × SV × SV × SV)) :=
  (f_X5_undo N xv nv v0 v1 v2 v3 v4 v5).bind (fun o1 => exc o1.1 (fun k => (if k = 1 then some ((1 : Int32), (o1.2.1, o1.2.2.1, o1.2.2.2.1, o1.2.2.2.2.1, o1.2.2.2.2.2.1, o1.2.2.2.2.2.2.1, o1.2.2.2.2.2.2.2.1, o1.2.2.2.2.2.2.2.2)) else none)) (fun (_ : Unit) => some ((0 : Int32), (o1.2.1, o1.2.2.1, o1.2.2.2.1, o1.2.2.2.2.1, o1.2.2.2.2.2.1, o1.2.2.2.2.2.2.1, o1.2.2.2.2.2.2.2.1, o1.2.2.2.2.2.2.2.2))))
set_option maxHeartbeats 4000000 in
set_option maxRecDepth 100000 in
theorem met_L_undo (l : Launch) (z0 : Nat) (hst : l.stackTraces = false) (dC : Nat → ClassId) (dI : Nat → Nat → Nat) (cyI cyO cyL : ClassId) (x : Nat → Nat) (tr : Nat → Nat) (an : Nat → Nat) (b0 : Nat → Nat) (b1 : Nat → Nat) (b2 : Nat → Nat) (b3 : Nat → Nat) (b4 : Nat → Nat) (b5 : Nat → Nat) (fl fs : Nat → Option Nat) (sz : Nat) (N : Nat) (xv : XV) (nv : SV) (v0 : SV) (v1 : SV) (v2 : SV) (v3 : SV) (v4 : SV) (v5 : SV) (hs0 : fs 0 = some (b0 0)) (hs1 : fs 1 = some (b1 0)) (hs2 : fs 2 = some (b2 0)) (hs3 : fs 3 = some (b3 0)) (hs4 : fs 4 = some (b4 0)) (hs5 : fs 5 = some (b5 0)) (out : Int32 × (XV × SV × SV × SV × SV × SV × SV × SV)) (hF : f_L_undo N xv nv v0 v1 v2 v3 v4 v5 = some out) : Met l yL_undo (Cond.codeWith yL_undo cL_undo 2 (some .int) [(0, 4, 7, 15)] :: wT) ({ frames := 7, cells := 1, slots := 6, locals := 107 } : Room) (wWrX z0 dC dI cyI cyO cyL [.ref (x 0)] (([(cXo x an tr xv), (cH cyO (x 1) (x 2) 2 fl), (cXk cyI x xv), (cH cyO (x 4) (x 5) 6 fs), (cT cyI x (X_text xv)), (cSo an nv), (cG cyI an (S_green nv)), (cV cyI an (S_score nv)), (cS cyI b0 v0), (cS cyI b1 v1), (cS cyI b2 v2), (cS cyI b3 v3), (cS cyI b4 v4), (cS cyI b5 v5)] : List va_W).flatten) sz) (va_Qi (fun (r : Int32) (u : XV × SV × SV × SV × SV × SV × SV × SV) => (r, u) = out) (fun u t => va_P (dC, dI) vwCl (([(cXo x an tr u.1), (cH cyO (x 1) (x 2) 2 fl), (cXk cyI x u.1), (cH cyO (x 4) (x 5) 6 fs), (cT cyI x (X_text u.1)), (cSo an u.2.1), (cG cyI an (S_green u.2.1)), (cV cyI an (S_score u.2.1)), (cS cyI b0 u.2.2.1), (cS cyI b1 u.2.2.2.1), (cS cyI b2 u.2.2.2.2.1), (cS cyI b3 u.2.2.2.2.2.1), (cS cyI b4 u.2.2.2.2.2.2.1), (cS cyI b5 u.2.2.2.2.2.2.2)] : List va_W).flatten) t.heap ∧ va_D (va_A (([(cXo x an tr xv), (cH cyO (x 1) (x 2) 2 fl), (cXk cyI x xv), (cH cyO (x 4) (x 5) 6 fs), (cT cyI x (X_text xv)), (cSo an nv), (cG cyI an (S_green nv)), (cV cyI an (S_score nv)), (cS cyI b0 v0), (cS cyI b1 v1), (cS cyI b2 v2), (cS cyI b3 v3), (cS cyI b4 v4), (cS cyI b5 v5)] : List va_W).flatten) sz) (([(cXo x an tr u.1), (cH cyO (x 1) (x 2) 2 fl), (cXk cyI x u.1), (cH cyO (x 4) (x 5) 6 fs), (cT cyI x (X_text u.1)), (cSo an u.2.1), (cG cyI an (S_green u.2.1)), (cV cyI an (S_score u.2.1)), (cS cyI b0 u.2.2.1), (cS cyI b1 u.2.2.2.1), (cS cyI b2 u.2.2.2.2.1), (cS cyI b3 u.2.2.2.2.2.1), (cS cyI b4 u.2.2.2.2.2.2.1), (cS cyI b5 u.2.2.2.2.2.2.2)] : List va_W).flatten)) (va_A (([(cXo x an tr xv), (cH cyO (x 1) (x 2) 2 fl), (cXk cyI x xv), (cH cyO (x 4) (x 5) 6 fs), (cT cyI x (X_text xv)), (cSo an nv), (cG cyI an (S_green nv)), (cV cyI an (S_score nv)), (cS cyI b0 v0), (cS cyI b1 v1), (cS cyI b2 v2), (cS cyI b3 v3), (cS cyI b4 v4), (cS cyI b5 v5)] : List va_W).flatten) sz)) 1 6 (va_A (([(cXo x an tr xv), (cH cyO (x 1) (x 2) 2 fl), (cXk cyI x xv), (cH cyO (x 4) (x 5) 6 fs), (cT cyI x (X_text xv)), (cSo an nv), (cG cyI an (S_green nv)), (cV cyI an (S_score nv)), (cS cyI b0 v0), (cS cyI b1 v1), (cS cyI b2 v2), (cS cyI b3 v3), (cS cyI b4 v4), (cS cyI b5 v5)] : List va_W).flatten) sz) := by
  refine Met.ofWH (cc := cL_undo) (maxL := 2) (ret := (some .int)) (by decide) rfl ?_
  intro p e s m args below meth c s₁ B hml hv
  obtain ⟨rfl, hsz, hP, hK, hD0, hz0, hZ⟩ := hv
  have hTab := vx_table (x := yL_undo) B (atoms_spec (ws := (Cond.codeWith yL_undo cL_undo 2 (some .int) [(0, 4, 7, 15)] :: wT)) B.pre _ List.mem_cons_self)
  have hx := B.exec
  have hb := B.bytes
  have hr := B.returns
  have hts0 := atoms_spec (ws := (Cond.codeWith yL_undo cL_undo 2 (some .int) [(0, 4, 7, 15)] :: wT)) B.pre
  have hts := fun w h => hts0 w (List.mem_cons_of_mem _ h)
  clear hts0
  have hown : s.vm.findClass RL = some m.cls := findClass_of_methodNamed B.named
  have hlocks := B.notSynchronized
  subst hsz
  have hD := hD0.self (sz := s.heap.size)
  have hAz := wA_ge hD0 hz0
  generalize hAe : va_A (([(cXo x an tr xv), (cH cyO (x 1) (x 2) 2 fl), (cXk cyI x xv), (cH cyO (x 4) (x 5) 6 fs), (cT cyI x (X_text xv)), (cSo an nv), (cG cyI an (S_green nv)), (cV cyI an (S_score nv)), (cS cyI b0 v0), (cS cyI b1 v1), (cS cyI b2 v2), (cS cyI b3 v3), (cS cyI b4 v4), (cS cyI b5 v5)] : List va_W).flatten) s.heap.size = A at hD hAz ⊢
  have hA : ∀ q : Nat, s.heap.size ≤ q → A q := fun q h => by rw [← hAe]; exact Or.inr h
  clear hD0
  have hS : va_S A s.heap s.heap [] := va_S.rf
  have hl := lv_entry [.ref (x 0)] (n := 2) (Nat.le_of_ble_eq_true rfl)
  rw [lg_entry_eq]
  generalize (lg_sl [.ref (x 0)] ++ List.replicate (2 - (lg_sl [.ref (x 0)]).length) Slot.unset).toArray = ls at hl ⊢
  have hl : lv_has ls 2 [(0, .ref (x 0))] := hl
  unfold f_L_undo at hF
  refine lv_aload_n hx hb dL_undo_0 rfl (lv_at hl 0 rfl) ?_
  obtain ⟨o1, h2, hF⟩ := obd hF
  refine wxPVv (As := []) (rest := []) (wr := ([] : List va_W).flatten) (b := (x 0)) ⟨hx, hb, hml, hown, hts⟩ (met_X5_undo l z0 hst dC dI cyI cyO cyL x tr an b0 b1 b2 b3 b4 b5 fl fs _ N xv nv v0 v1 v2 v3 v4 v5 hs0 hs1 hs2 hs3 hs4 hs5 o1 h2) (cwV 0 hts (gV w_methodLink_L_47 w_instanceMethod_X5_undo w_selects_X5_undo w_initialized_X5 w_code_X5_undo) rfl rfl rfl (by decide +kernel) ⟨Nat.le_of_ble_eq_true rfl, Nat.le_of_ble_eq_true rfl⟩) (va_recv hK.1 hP (ci := 5) (q0 := 0) rfl rfl) hP hD hK hZ hAz hz0 (seg_perm (n := 14) (R := []) (C := [(cXo x an tr xv), (cH cyO (x 1) (x 2) 2 fl), (cXk cyI x xv), (cH cyO (x 4) (x 5) 6 fs), (cT cyI x (X_text xv)), (cSo an nv), (cG cyI an (S_green nv)), (cV cyI an (S_score nv)), (cS cyI b0 v0), (cS cyI b1 v1), (cS cyI b2 v2), (cS cyI b3 v3), (cS cyI b4 v4), (cS cyI b5 v5)]) [] [0, 1, 2, 3, 4, 5, 6, 7, 8, 9, 10, 11, 12, 13] rfl rfl rfl (by decide) rfl) rfl hl.1 (Nat.le_of_ble_eq_true rfl) dL_undo_1 ⟨Nat.le_of_ble_eq_true rfl, Nat.le_of_ble_eq_true rfl⟩ hS hA (fun k u ce q9 H locs hw hP hD hS h9 hv9 hc9 => ?_) (fun u H locs hw hP hD hS => ?_)
  · obtain rfl : u = o1.2 := congrArg Prod.snd hw
    have hw1 : Sum.inl k = o1.1 := congrArg Prod.fst hw
    rw [← hw1] at hF
    have hF := exc_l hF
    have hq := seg_permS (segs := [(cXo x an tr o1.2.1), (cH cyO (x 1) (x 2) 2 fl), (cXk cyI x o1.2.1), (cH cyO (x 4) (x 5) 6 fs), (cT cyI x (X_text o1.2.1)), (cSo an o1.2.2.1), (cG cyI an (S_green o1.2.2.1)), (cV cyI an (S_score o1.2.2.1)), (cS cyI b0 o1.2.2.2.1), (cS cyI b1 o1.2.2.2.2.1), (cS cyI b2 o1.2.2.2.2.2.1), (cS cyI b3 o1.2.2.2.2.2.2.1), (cS cyI b4 o1.2.2.2.2.2.2.2.1), (cS cyI b5 o1.2.2.2.2.2.2.2.2)]) (R := []) (C := [(cXo x an tr o1.2.1), (cH cyO (x 1) (x 2) 2 fl), (cXk cyI x o1.2.1), (cH cyO (x 4) (x 5) 6 fs), (cT cyI x (X_text o1.2.1)), (cSo an o1.2.2.1), (cG cyI an (S_green o1.2.2.1)), (cV cyI an (S_score o1.2.2.1)), (cS cyI b0 o1.2.2.2.1), (cS cyI b1 o1.2.2.2.2.1), (cS cyI b2 o1.2.2.2.2.2.1), (cS cyI b3 o1.2.2.2.2.2.2.1), (cS cyI b4 o1.2.2.2.2.2.2.2.1), (cS cyI b5 o1.2.2.2.2.2.2.2.2)]) (n := 14) [] [0, 1, 2, 3, 4, 5, 6, 7, 8, 9, 10, 11, 12, 13] rfl rfl rfl (by decide)
    have hP : va_P (dC, dI) vwCl (([(cXo x an tr o1.2.1), (cH cyO (x 1) (x 2) 2 fl), (cXk cyI x o1.2.1), (cH cyO (x 4) (x 5) 6 fs), (cT cyI x (X_text o1.2.1)), (cSo an o1.2.2.1), (cG cyI an (S_green o1.2.2.1)), (cV cyI an (S_score o1.2.2.1)), (cS cyI b0 o1.2.2.2.1), (cS cyI b1 o1.2.2.2.2.1), (cS cyI b2 o1.2.2.2.2.2.1), (cS cyI b3 o1.2.2.2.2.2.2.1), (cS cyI b4 o1.2.2.2.2.2.2.2.1), (cS cyI b5 o1.2.2.2.2.2.2.2.2)] : List va_W).flatten) H := hP.perm hq
    have hD : va_D A (([(cXo x an tr o1.2.1), (cH cyO (x 1) (x 2) 2 fl), (cXk cyI x o1.2.1), (cH cyO (x 4) (x 5) 6 fs), (cT cyI x (X_text o1.2.1)), (cSo an o1.2.2.1), (cG cyI an (S_green o1.2.2.1)), (cV cyI an (S_score o1.2.2.1)), (cS cyI b0 o1.2.2.2.1), (cS cyI b1 o1.2.2.2.2.1), (cS cyI b2 o1.2.2.2.2.2.1), (cS cyI b3 o1.2.2.2.2.2.2.1), (cS cyI b4 o1.2.2.2.2.2.2.2.1), (cS cyI b5 o1.2.2.2.2.2.2.2.2)] : List va_W).flatten) := hD.perm hq
    clear hq
    by_cases c3 : k = 1
    · subst c3
      have hF := itp rfl hF
      refine vx_catch (E := eIS) (name := eIS) hown [] ⟨0, 4, 7, 15⟩ [] hTab (fun z hz => nomatch hz) (by decide) (by decide) (hts _ w_classLink_L_15) (hZ.2.2.2.1.use _ (by decide)) h9 hv9 hc9 ?_
      refine lv_astore_n (lv' := [(1, .ref q9), (0, .ref (x 0))]) hx hb dL_undo_7 rfl hl (by decide) rfl (fun ls hl => ?_)
      refine lv_iconst (v := 1) hx hb dL_undo_8 (by decide) ?_
      refine W.widen (k := 1) (n := 6) (Nat.le_of_ble_eq_true rfl) (Nat.le_of_ble_eq_true rfl) ?_
      exact W.iret (v := (1 : Int32)) hx hb hr (fun t ht hW => ⟨⟨_, (o1.2.1, o1.2.2.1, o1.2.2.2.1, o1.2.2.2.2.1, o1.2.2.2.2.2.1, o1.2.2.2.2.2.2.1, o1.2.2.2.2.2.2.2.1, o1.2.2.2.2.2.2.2.2), rfl, Option.some.inj hF, by rw [ht]; exact hP, hD⟩, hS.F ht⟩) hS.2.2 dL_undo_9
    · have hF := itn c3 hF
      cases hF
  · skip
    obtain rfl : u = o1.2 := congrArg Prod.snd hw
    have hw1 : Sum.inr () = o1.1 := congrArg Prod.fst hw
    rw [← hw1] at hF
    have hF := exc_r hF
    have hq := seg_permS (segs := [(cXo x an tr o1.2.1), (cH cyO (x 1) (x 2) 2 fl), (cXk cyI x o1.2.1), (cH cyO (x 4) (x 5) 6 fs), (cT cyI x (X_text o1.2.1)), (cSo an o1.2.2.1), (cG cyI an (S_green o1.2.2.1)), (cV cyI an (S_score o1.2.2.1)), (cS cyI b0 o1.2.2.2.1), (cS cyI b1 o1.2.2.2.2.1), (cS cyI b2 o1.2.2.2.2.2.1), (cS cyI b3 o1.2.2.2.2.2.2.1), (cS cyI b4 o1.2.2.2.2.2.2.2.1), (cS cyI b5 o1.2.2.2.2.2.2.2.2)]) (R := []) (C := [(cXo x an tr o1.2.1), (cH cyO (x 1) (x 2) 2 fl), (cXk cyI x o1.2.1), (cH cyO (x 4) (x 5) 6 fs), (cT cyI x (X_text o1.2.1)), (cSo an o1.2.2.1), (cG cyI an (S_green o1.2.2.1)), (cV cyI an (S_score o1.2.2.1)), (cS cyI b0 o1.2.2.2.1), (cS cyI b1 o1.2.2.2.2.1), (cS cyI b2 o1.2.2.2.2.2.1), (cS cyI b3 o1.2.2.2.2.2.2.1), (cS cyI b4 o1.2.2.2.2.2.2.2.1), (cS cyI b5 o1.2.2.2.2.2.2.2.2)]) (n := 14) [] [0, 1, 2, 3, 4, 5, 6, 7, 8, 9, 10, 11, 12, 13] rfl rfl rfl (by decide)
    have hP : va_P (dC, dI) vwCl (([(cXo x an tr o1.2.1), (cH cyO (x 1) (x 2) 2 fl), (cXk cyI x o1.2.1), (cH cyO (x 4) (x 5) 6 fs), (cT cyI x (X_text o1.2.1)), (cSo an o1.2.2.1), (cG cyI an (S_green o1.2.2.1)), (cV cyI an (S_score o1.2.2.1)), (cS cyI b0 o1.2.2.2.1), (cS cyI b1 o1.2.2.2.2.1), (cS cyI b2 o1.2.2.2.2.2.1), (cS cyI b3 o1.2.2.2.2.2.2.1), (cS cyI b4 o1.2.2.2.2.2.2.2.1), (cS cyI b5 o1.2.2.2.2.2.2.2.2)] : List va_W).flatten) H := hP.perm hq
    have hD : va_D A (([(cXo x an tr o1.2.1), (cH cyO (x 1) (x 2) 2 fl), (cXk cyI x o1.2.1), (cH cyO (x 4) (x 5) 6 fs), (cT cyI x (X_text o1.2.1)), (cSo an o1.2.2.1), (cG cyI an (S_green o1.2.2.1)), (cV cyI an (S_score o1.2.2.1)), (cS cyI b0 o1.2.2.2.1), (cS cyI b1 o1.2.2.2.2.1), (cS cyI b2 o1.2.2.2.2.2.1), (cS cyI b3 o1.2.2.2.2.2.2.1), (cS cyI b4 o1.2.2.2.2.2.2.2.1), (cS cyI b5 o1.2.2.2.2.2.2.2.2)] : List va_W).flatten) := hD.perm hq
    clear hq
    refine lv_goto (tgt := 10) hx hb dL_undo_4 (by decide) ?_
    refine lv_iconst (v := 0) hx hb dL_undo_10 (by decide) ?_
    refine W.widen (k := 1) (n := 6) (Nat.le_of_ble_eq_true rfl) (Nat.le_of_ble_eq_true rfl) ?_
    exact W.iret (v := (0 : Int32)) hx hb hr (fun t ht hW => ⟨⟨_, (o1.2.1, o1.2.2.1, o1.2.2.2.1, o1.2.2.2.2.1, o1.2.2.2.2.2.1, o1.2.2.2.2.2.2.1, o1.2.2.2.2.2.2.2.1, o1.2.2.2.2.2.2.2.2), rfl, Option.some.inj hF, by rw [ht]; exact hP, hD⟩, hS.F ht⟩) hS.2.2 dL_undo_11
